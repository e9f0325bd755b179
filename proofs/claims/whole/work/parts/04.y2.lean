theorem eY_changed_24 : decode mY_changed.2.1 24 = .ok (.iconst 0, 1) := by decide +kernel
theorem eY_changed_25 : decode mY_changed.2.1 25 = .ok (.istore_n 2, 1) := by decide +kernel
theorem eY_changed_26 : decode mY_changed.2.1 26 = .ok (.iconst 0, 1) := by decide +kernel
theorem eY_changed_27 : decode mY_changed.2.1 27 = .ok (.istore_n 3, 1) := by decide +kernel
theorem eY_changed_28 : decode mY_changed.2.1 28 = .ok (.iload_n 3, 1) := by decide +kernel
theorem eY_changed_29 : decode mY_changed.2.1 29 = .ok (.bipush 48, 2) := by decide +kernel
theorem eY_changed_31 : decode mY_changed.2.1 31 = .ok (.if_icmp .ge 39, 3) := by decide +kernel
theorem eY_changed_34 : decode mY_changed.2.1 34 = .ok (.aload_n 0, 1) := by decide +kernel
theorem eY_changed_35 : decode mY_changed.2.1 35 = .ok (.getfield 16, 3) := by decide +kernel
theorem eY_changed_38 : decode mY_changed.2.1 38 = .ok (.iload_n 3, 1) := by decide +kernel
theorem eY_changed_39 : decode mY_changed.2.1 39 = .ok (.iaload, 1) := by decide +kernel
theorem eY_changed_40 : decode mY_changed.2.1 40 = .ok (.aload_n 0, 1) := by decide +kernel
theorem eY_changed_41 : decode mY_changed.2.1 41 = .ok (.getfield 16, 3) := by decide +kernel
theorem eY_changed_44 : decode mY_changed.2.1 44 = .ok (.bipush 48, 2) := by decide +kernel
theorem eY_changed_46 : decode mY_changed.2.1 46 = .ok (.iconst 1, 1) := by decide +kernel
theorem eY_changed_47 : decode mY_changed.2.1 47 = .ok (.iload_n 1, 1) := by decide +kernel
theorem eY_changed_48 : decode mY_changed.2.1 48 = .ok (.iadd, 1) := by decide +kernel
theorem eY_changed_49 : decode mY_changed.2.1 49 = .ok (.imul, 1) := by decide +kernel
theorem eY_changed_50 : decode mY_changed.2.1 50 = .ok (.iload_n 3, 1) := by decide +kernel
theorem eY_changed_51 : decode mY_changed.2.1 51 = .ok (.iadd, 1) := by decide +kernel
theorem eY_changed_52 : decode mY_changed.2.1 52 = .ok (.iaload, 1) := by decide +kernel
theorem eY_changed_53 : decode mY_changed.2.1 53 = .ok (.if_icmp .ne 7, 3) := by decide +kernel
theorem eY_changed_56 : decode mY_changed.2.1 56 = .ok (.iload_n 2, 1) := by decide +kernel
theorem eY_changed_57 : decode mY_changed.2.1 57 = .ok (.goto 6, 3) := by decide +kernel
theorem eY_changed_60 : decode mY_changed.2.1 60 = .ok (.iload_n 2, 1) := by decide +kernel
theorem eY_changed_61 : decode mY_changed.2.1 61 = .ok (.iconst 1, 1) := by decide +kernel
theorem eY_changed_62 : decode mY_changed.2.1 62 = .ok (.iadd, 1) := by decide +kernel
theorem eY_changed_63 : decode mY_changed.2.1 63 = .ok (.istore_n 2, 1) := by decide +kernel
theorem eY_changed_64 : decode mY_changed.2.1 64 = .ok (.iinc 3 1, 3) := by decide +kernel
theorem eY_changed_67 : decode mY_changed.2.1 67 = .ok (.goto (-39), 3) := by decide +kernel
theorem eY_changed_70 : decode mY_changed.2.1 70 = .ok (.iload_n 2, 1) := by decide +kernel
theorem eY_changed_71 : decode mY_changed.2.1 71 = .ok (.ireturn, 1) := by decide +kernel
theorem eY_count_0 : decode mY_count.2.1 0 = .ok (.aload_n 0, 1) := by decide +kernel
theorem eY_count_1 : decode mY_count.2.1 1 = .ok (.iconst 0, 1) := by decide +kernel
theorem eY_count_2 : decode mY_count.2.1 2 = .ok (.putfield 27, 3) := by decide +kernel
theorem eY_count_5 : decode mY_count.2.1 5 = .ok (.iconst 0, 1) := by decide +kernel
theorem eY_count_6 : decode mY_count.2.1 6 = .ok (.istore_n 2, 1) := by decide +kernel
theorem eY_count_7 : decode mY_count.2.1 7 = .ok (.iconst 1, 1) := by decide +kernel
theorem eY_count_8 : decode mY_count.2.1 8 = .ok (.istore_n 3, 1) := by decide +kernel
theorem eY_count_9 : decode mY_count.2.1 9 = .ok (.iload_n 3, 1) := by decide +kernel
theorem eY_count_10 : decode mY_count.2.1 10 = .ok (.bipush 8, 2) := by decide +kernel
theorem eY_count_12 : decode mY_count.2.1 12 = .ok (.if_icmp .gt 31, 3) := by decide +kernel
theorem eY_count_15 : decode mY_count.2.1 15 = .ok (.iload_n 1, 1) := by decide +kernel
theorem eY_count_16 : decode mY_count.2.1 16 = .ok (.iconst 3, 1) := by decide +kernel
theorem eY_count_17 : decode mY_count.2.1 17 = .ok (.if_icmp .ne 26, 3) := by decide +kernel
theorem eY_count_20 : decode mY_count.2.1 20 = .ok (.aload_n 0, 1) := by decide +kernel
theorem eY_count_21 : decode mY_count.2.1 21 = .ok (.getfield 7, 3) := by decide +kernel
theorem eY_count_24 : decode mY_count.2.1 24 = .ok (.iload_n 3, 1) := by decide +kernel
theorem eY_count_25 : decode mY_count.2.1 25 = .ok (.baload, 1) := by decide +kernel
theorem eY_count_26 : decode mY_count.2.1 26 = .ok (.ifCond .eq 9, 3) := by decide +kernel
theorem eY_count_29 : decode mY_count.2.1 29 = .ok (.iload_n 2, 1) := by decide +kernel
theorem eY_count_30 : decode mY_count.2.1 30 = .ok (.iconst 1, 1) := by decide +kernel
theorem eY_count_31 : decode mY_count.2.1 31 = .ok (.iadd, 1) := by decide +kernel
theorem eY_count_32 : decode mY_count.2.1 32 = .ok (.goto 4, 3) := by decide +kernel
theorem eY_count_35 : decode mY_count.2.1 35 = .ok (.iload_n 2, 1) := by decide +kernel
theorem eY_count_36 : decode mY_count.2.1 36 = .ok (.istore_n 2, 1) := by decide +kernel
theorem eY_count_37 : decode mY_count.2.1 37 = .ok (.iinc 3 1, 3) := by decide +kernel
theorem eY_count_40 : decode mY_count.2.1 40 = .ok (.goto (-31), 3) := by decide +kernel
theorem eY_count_43 : decode mY_count.2.1 43 = .ok (.iconst 0, 1) := by decide +kernel
theorem eY_count_44 : decode mY_count.2.1 44 = .ok (.istore_n 3, 1) := by decide +kernel
theorem eY_count_45 : decode mY_count.2.1 45 = .ok (.iload_n 3, 1) := by decide +kernel
theorem eY_count_46 : decode mY_count.2.1 46 = .ok (.bipush 6, 2) := by decide +kernel
theorem eY_count_48 : decode mY_count.2.1 48 = .ok (.if_icmp .ge 22, 3) := by decide +kernel
theorem eY_count_51 : decode mY_count.2.1 51 = .ok (.iload_n 1, 1) := by decide +kernel
theorem eY_count_52 : decode mY_count.2.1 52 = .ok (.iconst 4, 1) := by decide +kernel
theorem eY_count_53 : decode mY_count.2.1 53 = .ok (.if_icmp .ne 17, 3) := by decide +kernel
theorem eY_count_56 : decode mY_count.2.1 56 = .ok (.iload_n 2, 1) := by decide +kernel
theorem eY_count_57 : decode mY_count.2.1 57 = .ok (.aload_n 0, 1) := by decide +kernel
theorem eY_count_58 : decode mY_count.2.1 58 = .ok (.iload_n 3, 1) := by decide +kernel
theorem eY_count_59 : decode mY_count.2.1 59 = .ok (.invokevirtual 50, 3) := by decide +kernel
theorem eY_count_62 : decode mY_count.2.1 62 = .ok (.iadd, 1) := by decide +kernel
theorem eY_count_63 : decode mY_count.2.1 63 = .ok (.istore_n 2, 1) := by decide +kernel
theorem eY_count_64 : decode mY_count.2.1 64 = .ok (.iinc 3 1, 3) := by decide +kernel
theorem eY_count_67 : decode mY_count.2.1 67 = .ok (.goto (-22), 3) := by decide +kernel
theorem eY_count_70 : decode mY_count.2.1 70 = .ok (.iload_n 1, 1) := by decide +kernel
theorem eY_count_71 : decode mY_count.2.1 71 = .ok (.tableswitch 50 0 4 #[33, 38, 43, 48, 48], 33) := by decide +kernel
theorem eY_count_104 : decode mY_count.2.1 104 = .ok (.aload_n 0, 1) := by decide +kernel
theorem eY_count_105 : decode mY_count.2.1 105 = .ok (.invokevirtual 60, 3) := by decide +kernel
theorem eY_count_108 : decode mY_count.2.1 108 = .ok (.ireturn, 1) := by decide +kernel
theorem eY_count_109 : decode mY_count.2.1 109 = .ok (.aload_n 0, 1) := by decide +kernel
theorem eY_count_110 : decode mY_count.2.1 110 = .ok (.getfield 23, 3) := by decide +kernel
theorem eY_count_113 : decode mY_count.2.1 113 = .ok (.ireturn, 1) := by decide +kernel
theorem eY_count_114 : decode mY_count.2.1 114 = .ok (.aload_n 0, 1) := by decide +kernel
theorem eY_count_115 : decode mY_count.2.1 115 = .ok (.invokevirtual 83, 3) := by decide +kernel
theorem eY_count_118 : decode mY_count.2.1 118 = .ok (.ireturn, 1) := by decide +kernel
theorem eY_count_119 : decode mY_count.2.1 119 = .ok (.iload_n 2, 1) := by decide +kernel
theorem eY_count_120 : decode mY_count.2.1 120 = .ok (.ireturn, 1) := by decide +kernel
theorem eY_count_121 : decode mY_count.2.1 121 = .ok (.iconst (-1), 1) := by decide +kernel
theorem eY_count_122 : decode mY_count.2.1 122 = .ok (.ireturn, 1) := by decide +kernel
theorem eY_isThere_0 : decode mY_isThere.2.1 0 = .ok (.aload_n 0, 1) := by decide +kernel
theorem eY_isThere_1 : decode mY_isThere.2.1 1 = .ok (.iconst 0, 1) := by decide +kernel
theorem eY_isThere_2 : decode mY_isThere.2.1 2 = .ok (.putfield 27, 3) := by decide +kernel
theorem eY_isThere_5 : decode mY_isThere.2.1 5 = .ok (.aload_n 0, 1) := by decide +kernel
theorem eY_isThere_6 : decode mY_isThere.2.1 6 = .ok (.iload_n 1, 1) := by decide +kernel
theorem eY_isThere_7 : decode mY_isThere.2.1 7 = .ok (.invokevirtual 42, 3) := by decide +kernel
theorem eY_isThere_10 : decode mY_isThere.2.1 10 = .ok (.ireturn, 1) := by decide +kernel
theorem eY_init_0 : decode mY_init.2.1 0 = .ok (.aload_n 0, 1) := by decide +kernel
theorem eY_init_1 : decode mY_init.2.1 1 = .ok (.invokespecial 1, 3) := by decide +kernel
theorem eY_init_4 : decode mY_init.2.1 4 = .ok (.aload_n 0, 1) := by decide +kernel
theorem eY_init_5 : decode mY_init.2.1 5 = .ok (.bipush 9, 2) := by decide +kernel
theorem eY_init_7 : decode mY_init.2.1 7 = .ok (.newarray .boolean, 2) := by decide +kernel
theorem eY_init_9 : decode mY_init.2.1 9 = .ok (.putfield 7, 3) := by decide +kernel
theorem eY_init_12 : decode mY_init.2.1 12 = .ok (.aload_n 0, 1) := by decide +kernel
theorem eY_init_13 : decode mY_init.2.1 13 = .ok (.bipush 54, 2) := by decide +kernel
theorem eY_init_15 : decode mY_init.2.1 15 = .ok (.newarray .boolean, 2) := by decide +kernel
theorem eY_init_17 : decode mY_init.2.1 17 = .ok (.putfield 13, 3) := by decide +kernel
theorem eY_init_20 : decode mY_init.2.1 20 = .ok (.aload_n 0, 1) := by decide +kernel
theorem eY_init_21 : decode mY_init.2.1 21 = .ok (.sipush 432, 3) := by decide +kernel
theorem eY_init_24 : decode mY_init.2.1 24 = .ok (.newarray .int, 2) := by decide +kernel
theorem eY_init_26 : decode mY_init.2.1 26 = .ok (.putfield 16, 3) := by decide +kernel
theorem eY_init_29 : decode mY_init.2.1 29 = .ok (.aload_n 0, 1) := by decide +kernel
theorem eY_init_30 : decode mY_init.2.1 30 = .ok (.sipush 6912, 3) := by decide +kernel
theorem eY_init_33 : decode mY_init.2.1 33 = .ok (.newarray .int, 2) := by decide +kernel
theorem eY_init_35 : decode mY_init.2.1 35 = .ok (.putfield 20, 3) := by decide +kernel
theorem eY_init_38 : decode mY_init.2.1 38 = .ok (.aload_n 0, 1) := by decide +kernel
theorem eY_init_39 : decode mY_init.2.1 39 = .ok (.iload_n 1, 1) := by decide +kernel
theorem eY_init_40 : decode mY_init.2.1 40 = .ok (.iconst 1, 1) := by decide +kernel
theorem eY_init_41 : decode mY_init.2.1 41 = .ok (.if_icmp .ge 7, 3) := by decide +kernel
theorem eY_init_44 : decode mY_init.2.1 44 = .ok (.iconst 1, 1) := by decide +kernel
theorem eY_init_45 : decode mY_init.2.1 45 = .ok (.goto 15, 3) := by decide +kernel
theorem eY_init_48 : decode mY_init.2.1 48 = .ok (.iload_n 1, 1) := by decide +kernel
theorem eY_init_49 : decode mY_init.2.1 49 = .ok (.bipush 60, 2) := by decide +kernel
theorem eY_init_51 : decode mY_init.2.1 51 = .ok (.if_icmp .le 8, 3) := by decide +kernel
theorem eY_init_54 : decode mY_init.2.1 54 = .ok (.bipush 60, 2) := by decide +kernel
theorem eY_init_56 : decode mY_init.2.1 56 = .ok (.goto 4, 3) := by decide +kernel
theorem eY_init_59 : decode mY_init.2.1 59 = .ok (.iload_n 1, 1) := by decide +kernel
theorem eY_init_60 : decode mY_init.2.1 60 = .ok (.putfield 23, 3) := by decide +kernel
theorem eY_init_63 : decode mY_init.2.1 63 = .ok (.aload_n 0, 1) := by decide +kernel
theorem eY_init_64 : decode mY_init.2.1 64 = .ok (.getfield 7, 3) := by decide +kernel
theorem eY_init_67 : decode mY_init.2.1 67 = .ok (.iconst 0, 1) := by decide +kernel
theorem eY_init_68 : decode mY_init.2.1 68 = .ok (.iconst 1, 1) := by decide +kernel
theorem eY_init_69 : decode mY_init.2.1 69 = .ok (.bastore, 1) := by decide +kernel
theorem eY_init_70 : decode mY_init.2.1 70 = .ok (.return_, 1) := by decide +kernel
