theorem eY_thrown_0 : decode mY_thrown.2.1 0 = .ok (.aload_n 0, 1) := by decide +kernel
theorem eY_thrown_1 : decode mY_thrown.2.1 1 = .ok (.getfield 27, 3) := by decide +kernel
theorem eY_thrown_4 : decode mY_thrown.2.1 4 = .ok (.ireturn, 1) := by decide +kernel
theorem eY_page_0 : decode mY_page.2.1 0 = .ok (.bipush 8, 2) := by decide +kernel
theorem eY_page_2 : decode mY_page.2.1 2 = .ok (.bipush 6, 2) := by decide +kernel
theorem eY_page_4 : decode mY_page.2.1 4 = .ok (.iload_n 0, 1) := by decide +kernel
theorem eY_page_5 : decode mY_page.2.1 5 = .ok (.imul, 1) := by decide +kernel
theorem eY_page_6 : decode mY_page.2.1 6 = .ok (.iload_n 1, 1) := by decide +kernel
theorem eY_page_7 : decode mY_page.2.1 7 = .ok (.iadd, 1) := by decide +kernel
theorem eY_page_8 : decode mY_page.2.1 8 = .ok (.imul, 1) := by decide +kernel
theorem eY_page_9 : decode mY_page.2.1 9 = .ok (.iload_n 2, 1) := by decide +kernel
theorem eY_page_10 : decode mY_page.2.1 10 = .ok (.iadd, 1) := by decide +kernel
theorem eY_page_11 : decode mY_page.2.1 11 = .ok (.ireturn, 1) := by decide +kernel
theorem eY_isSpace_0 : decode mY_isSpace.2.1 0 = .ok (.iload_n 1, 1) := by decide +kernel
theorem eY_isSpace_1 : decode mY_isSpace.2.1 1 = .ok (.ifCond .lt 22, 3) := by decide +kernel
theorem eY_isSpace_4 : decode mY_isSpace.2.1 4 = .ok (.iload_n 1, 1) := by decide +kernel
theorem eY_isSpace_5 : decode mY_isSpace.2.1 5 = .ok (.bipush 6, 2) := by decide +kernel
theorem eY_isSpace_7 : decode mY_isSpace.2.1 7 = .ok (.if_icmp .ge 16, 3) := by decide +kernel
theorem eY_isSpace_10 : decode mY_isSpace.2.1 10 = .ok (.aload_n 0, 1) := by decide +kernel
theorem eY_isSpace_11 : decode mY_isSpace.2.1 11 = .ok (.getfield 13, 3) := by decide +kernel
theorem eY_isSpace_14 : decode mY_isSpace.2.1 14 = .ok (.iload_n 1, 1) := by decide +kernel
theorem eY_isSpace_15 : decode mY_isSpace.2.1 15 = .ok (.baload, 1) := by decide +kernel
theorem eY_isSpace_16 : decode mY_isSpace.2.1 16 = .ok (.ifCond .eq 7, 3) := by decide +kernel
theorem eY_isSpace_19 : decode mY_isSpace.2.1 19 = .ok (.iconst 1, 1) := by decide +kernel
theorem eY_isSpace_20 : decode mY_isSpace.2.1 20 = .ok (.goto 4, 3) := by decide +kernel
theorem eY_isSpace_23 : decode mY_isSpace.2.1 23 = .ok (.iconst 0, 1) := by decide +kernel
theorem eY_isSpace_24 : decode mY_isSpace.2.1 24 = .ok (.ireturn, 1) := by decide +kernel
theorem eY_isPage_0 : decode mY_isPage.2.1 0 = .ok (.iload_n 0, 1) := by decide +kernel
theorem eY_isPage_1 : decode mY_isPage.2.1 1 = .ok (.ifCond .lt 13, 3) := by decide +kernel
theorem eY_isPage_4 : decode mY_isPage.2.1 4 = .ok (.iload_n 0, 1) := by decide +kernel
theorem eY_isPage_5 : decode mY_isPage.2.1 5 = .ok (.bipush 8, 2) := by decide +kernel
theorem eY_isPage_7 : decode mY_isPage.2.1 7 = .ok (.if_icmp .ge 7, 3) := by decide +kernel
theorem eY_isPage_10 : decode mY_isPage.2.1 10 = .ok (.iconst 1, 1) := by decide +kernel
theorem eY_isPage_11 : decode mY_isPage.2.1 11 = .ok (.goto 4, 3) := by decide +kernel
theorem eY_isPage_14 : decode mY_isPage.2.1 14 = .ok (.iconst 0, 1) := by decide +kernel
theorem eY_isPage_15 : decode mY_isPage.2.1 15 = .ok (.ireturn, 1) := by decide +kernel
theorem eY_fails_0 : decode mY_fails.2.1 0 = .ok (.aload_n 0, 1) := by decide +kernel
theorem eY_fails_1 : decode mY_fails.2.1 1 = .ok (.iload_n 1, 1) := by decide +kernel
theorem eY_fails_2 : decode mY_fails.2.1 2 = .ok (.ifCond .eq 7, 3) := by decide +kernel
theorem eY_fails_5 : decode mY_fails.2.1 5 = .ok (.iconst 1, 1) := by decide +kernel
theorem eY_fails_6 : decode mY_fails.2.1 6 = .ok (.goto 20, 3) := by decide +kernel
theorem eY_fails_9 : decode mY_fails.2.1 9 = .ok (.iload_n 2, 1) := by decide +kernel
theorem eY_fails_10 : decode mY_fails.2.1 10 = .ok (.ifCond .eq 7, 3) := by decide +kernel
theorem eY_fails_13 : decode mY_fails.2.1 13 = .ok (.iconst 2, 1) := by decide +kernel
theorem eY_fails_14 : decode mY_fails.2.1 14 = .ok (.goto 12, 3) := by decide +kernel
theorem eY_fails_17 : decode mY_fails.2.1 17 = .ok (.iload_n 3, 1) := by decide +kernel
theorem eY_fails_18 : decode mY_fails.2.1 18 = .ok (.ifCond .eq 7, 3) := by decide +kernel
theorem eY_fails_21 : decode mY_fails.2.1 21 = .ok (.iconst 3, 1) := by decide +kernel
theorem eY_fails_22 : decode mY_fails.2.1 22 = .ok (.goto 4, 3) := by decide +kernel
theorem eY_fails_25 : decode mY_fails.2.1 25 = .ok (.iconst 0, 1) := by decide +kernel
theorem eY_fails_26 : decode mY_fails.2.1 26 = .ok (.putfield 27, 3) := by decide +kernel
theorem eY_fails_29 : decode mY_fails.2.1 29 = .ok (.aload_n 0, 1) := by decide +kernel
theorem eY_fails_30 : decode mY_fails.2.1 30 = .ok (.getfield 27, 3) := by decide +kernel
theorem eY_fails_33 : decode mY_fails.2.1 33 = .ok (.ifCond .le 7, 3) := by decide +kernel
theorem eY_fails_36 : decode mY_fails.2.1 36 = .ok (.iconst 1, 1) := by decide +kernel
theorem eY_fails_37 : decode mY_fails.2.1 37 = .ok (.goto 4, 3) := by decide +kernel
theorem eY_fails_40 : decode mY_fails.2.1 40 = .ok (.iconst 0, 1) := by decide +kernel
theorem eY_fails_41 : decode mY_fails.2.1 41 = .ok (.ireturn, 1) := by decide +kernel
theorem eY_holdersOf_0 : decode mY_holdersOf.2.1 0 = .ok (.iconst 0, 1) := by decide +kernel
theorem eY_holdersOf_1 : decode mY_holdersOf.2.1 1 = .ok (.istore_n 2, 1) := by decide +kernel
theorem eY_holdersOf_2 : decode mY_holdersOf.2.1 2 = .ok (.iconst 0, 1) := by decide +kernel
theorem eY_holdersOf_3 : decode mY_holdersOf.2.1 3 = .ok (.istore_n 3, 1) := by decide +kernel
theorem eY_holdersOf_4 : decode mY_holdersOf.2.1 4 = .ok (.iload_n 3, 1) := by decide +kernel
theorem eY_holdersOf_5 : decode mY_holdersOf.2.1 5 = .ok (.sipush 432, 3) := by decide +kernel
theorem eY_holdersOf_8 : decode mY_holdersOf.2.1 8 = .ok (.if_icmp .ge 27, 3) := by decide +kernel
theorem eY_holdersOf_11 : decode mY_holdersOf.2.1 11 = .ok (.aload_n 0, 1) := by decide +kernel
theorem eY_holdersOf_12 : decode mY_holdersOf.2.1 12 = .ok (.getfield 16, 3) := by decide +kernel
theorem eY_holdersOf_15 : decode mY_holdersOf.2.1 15 = .ok (.iload_n 3, 1) := by decide +kernel
theorem eY_holdersOf_16 : decode mY_holdersOf.2.1 16 = .ok (.iaload, 1) := by decide +kernel
theorem eY_holdersOf_17 : decode mY_holdersOf.2.1 17 = .ok (.iload_n 1, 1) := by decide +kernel
theorem eY_holdersOf_18 : decode mY_holdersOf.2.1 18 = .ok (.if_icmp .ne 9, 3) := by decide +kernel
theorem eY_holdersOf_21 : decode mY_holdersOf.2.1 21 = .ok (.iload_n 2, 1) := by decide +kernel
theorem eY_holdersOf_22 : decode mY_holdersOf.2.1 22 = .ok (.iconst 1, 1) := by decide +kernel
theorem eY_holdersOf_23 : decode mY_holdersOf.2.1 23 = .ok (.iadd, 1) := by decide +kernel
theorem eY_holdersOf_24 : decode mY_holdersOf.2.1 24 = .ok (.goto 4, 3) := by decide +kernel
theorem eY_holdersOf_27 : decode mY_holdersOf.2.1 27 = .ok (.iload_n 2, 1) := by decide +kernel
theorem eY_holdersOf_28 : decode mY_holdersOf.2.1 28 = .ok (.istore_n 2, 1) := by decide +kernel
theorem eY_holdersOf_29 : decode mY_holdersOf.2.1 29 = .ok (.iinc 3 1, 3) := by decide +kernel
theorem eY_holdersOf_32 : decode mY_holdersOf.2.1 32 = .ok (.goto (-28), 3) := by decide +kernel
theorem eY_holdersOf_35 : decode mY_holdersOf.2.1 35 = .ok (.iload_n 1, 1) := by decide +kernel
theorem eY_holdersOf_36 : decode mY_holdersOf.2.1 36 = .ok (.ifCond .ne 7, 3) := by decide +kernel
theorem eY_holdersOf_39 : decode mY_holdersOf.2.1 39 = .ok (.iconst 0, 1) := by decide +kernel
theorem eY_holdersOf_40 : decode mY_holdersOf.2.1 40 = .ok (.goto 4, 3) := by decide +kernel
theorem eY_holdersOf_43 : decode mY_holdersOf.2.1 43 = .ok (.iload_n 2, 1) := by decide +kernel
theorem eY_holdersOf_44 : decode mY_holdersOf.2.1 44 = .ok (.ireturn, 1) := by decide +kernel
theorem eY_used_0 : decode mY_used.2.1 0 = .ok (.iconst 0, 1) := by decide +kernel
theorem eY_used_1 : decode mY_used.2.1 1 = .ok (.istore_n 1, 1) := by decide +kernel
theorem eY_used_2 : decode mY_used.2.1 2 = .ok (.iconst 0, 1) := by decide +kernel
theorem eY_used_3 : decode mY_used.2.1 3 = .ok (.istore_n 2, 1) := by decide +kernel
theorem eY_used_4 : decode mY_used.2.1 4 = .ok (.iload_n 2, 1) := by decide +kernel
theorem eY_used_5 : decode mY_used.2.1 5 = .ok (.sipush 432, 3) := by decide +kernel
theorem eY_used_8 : decode mY_used.2.1 8 = .ok (.if_icmp .ge 76, 3) := by decide +kernel
theorem eY_used_11 : decode mY_used.2.1 11 = .ok (.aload_n 0, 1) := by decide +kernel
theorem eY_used_12 : decode mY_used.2.1 12 = .ok (.getfield 16, 3) := by decide +kernel
theorem eY_used_15 : decode mY_used.2.1 15 = .ok (.iload_n 2, 1) := by decide +kernel
theorem eY_used_16 : decode mY_used.2.1 16 = .ok (.iaload, 1) := by decide +kernel
theorem eY_used_17 : decode mY_used.2.1 17 = .ok (.ifCond .ne 6, 3) := by decide +kernel
theorem eY_used_20 : decode mY_used.2.1 20 = .ok (.goto 58, 3) := by decide +kernel
theorem eY_used_23 : decode mY_used.2.1 23 = .ok (.iconst 1, 1) := by decide +kernel
theorem eY_used_24 : decode mY_used.2.1 24 = .ok (.istore_n 3, 1) := by decide +kernel
theorem eY_used_25 : decode mY_used.2.1 25 = .ok (.iconst 0, 1) := by decide +kernel
theorem eY_used_26 : decode mY_used.2.1 26 = .ok (.istore 4, 2) := by decide +kernel
theorem eY_used_28 : decode mY_used.2.1 28 = .ok (.iload 4, 2) := by decide +kernel
theorem eY_used_30 : decode mY_used.2.1 30 = .ok (.iload_n 2, 1) := by decide +kernel
theorem eY_used_31 : decode mY_used.2.1 31 = .ok (.if_icmp .ge 35, 3) := by decide +kernel
theorem eY_used_34 : decode mY_used.2.1 34 = .ok (.iload_n 3, 1) := by decide +kernel
theorem eY_used_35 : decode mY_used.2.1 35 = .ok (.ifCond .eq 31, 3) := by decide +kernel
theorem eY_used_38 : decode mY_used.2.1 38 = .ok (.aload_n 0, 1) := by decide +kernel
theorem eY_used_39 : decode mY_used.2.1 39 = .ok (.getfield 16, 3) := by decide +kernel
theorem eY_used_42 : decode mY_used.2.1 42 = .ok (.iload 4, 2) := by decide +kernel
theorem eY_used_44 : decode mY_used.2.1 44 = .ok (.iaload, 1) := by decide +kernel
theorem eY_used_45 : decode mY_used.2.1 45 = .ok (.aload_n 0, 1) := by decide +kernel
theorem eY_used_46 : decode mY_used.2.1 46 = .ok (.getfield 16, 3) := by decide +kernel
theorem eY_used_49 : decode mY_used.2.1 49 = .ok (.iload_n 2, 1) := by decide +kernel
theorem eY_used_50 : decode mY_used.2.1 50 = .ok (.iaload, 1) := by decide +kernel
theorem eY_used_51 : decode mY_used.2.1 51 = .ok (.if_icmp .eq 7, 3) := by decide +kernel
theorem eY_used_54 : decode mY_used.2.1 54 = .ok (.iconst 1, 1) := by decide +kernel
theorem eY_used_55 : decode mY_used.2.1 55 = .ok (.goto 4, 3) := by decide +kernel
theorem eY_used_58 : decode mY_used.2.1 58 = .ok (.iconst 0, 1) := by decide +kernel
theorem eY_used_59 : decode mY_used.2.1 59 = .ok (.istore_n 3, 1) := by decide +kernel
theorem eY_used_60 : decode mY_used.2.1 60 = .ok (.iinc 4 1, 3) := by decide +kernel
theorem eY_used_63 : decode mY_used.2.1 63 = .ok (.goto (-35), 3) := by decide +kernel
theorem eY_used_66 : decode mY_used.2.1 66 = .ok (.iload_n 3, 1) := by decide +kernel
theorem eY_used_67 : decode mY_used.2.1 67 = .ok (.ifCond .eq 9, 3) := by decide +kernel
theorem eY_used_70 : decode mY_used.2.1 70 = .ok (.iload_n 1, 1) := by decide +kernel
theorem eY_used_71 : decode mY_used.2.1 71 = .ok (.iconst 1, 1) := by decide +kernel
theorem eY_used_72 : decode mY_used.2.1 72 = .ok (.iadd, 1) := by decide +kernel
theorem eY_used_73 : decode mY_used.2.1 73 = .ok (.goto 4, 3) := by decide +kernel
theorem eY_used_76 : decode mY_used.2.1 76 = .ok (.iload_n 1, 1) := by decide +kernel
theorem eY_used_77 : decode mY_used.2.1 77 = .ok (.istore_n 1, 1) := by decide +kernel
theorem eY_used_78 : decode mY_used.2.1 78 = .ok (.iinc 2 1, 3) := by decide +kernel
theorem eY_used_81 : decode mY_used.2.1 81 = .ok (.goto (-77), 3) := by decide +kernel
theorem eY_used_84 : decode mY_used.2.1 84 = .ok (.iload_n 1, 1) := by decide +kernel
theorem eY_used_85 : decode mY_used.2.1 85 = .ok (.ireturn, 1) := by decide +kernel
theorem eY_copyPage_0 : decode mY_copyPage.2.1 0 = .ok (.aload_n 0, 1) := by decide +kernel
theorem eY_copyPage_1 : decode mY_copyPage.2.1 1 = .ok (.getfield 16, 3) := by decide +kernel
theorem eY_copyPage_4 : decode mY_copyPage.2.1 4 = .ok (.iload_n 2, 1) := by decide +kernel
theorem eY_copyPage_5 : decode mY_copyPage.2.1 5 = .ok (.aload_n 0, 1) := by decide +kernel
theorem eY_copyPage_6 : decode mY_copyPage.2.1 6 = .ok (.getfield 16, 3) := by decide +kernel
theorem eY_copyPage_9 : decode mY_copyPage.2.1 9 = .ok (.iload_n 1, 1) := by decide +kernel
theorem eY_copyPage_10 : decode mY_copyPage.2.1 10 = .ok (.iaload, 1) := by decide +kernel
theorem eY_copyPage_11 : decode mY_copyPage.2.1 11 = .ok (.iastore, 1) := by decide +kernel
theorem eY_copyPage_12 : decode mY_copyPage.2.1 12 = .ok (.iconst 0, 1) := by decide +kernel
theorem eY_copyPage_13 : decode mY_copyPage.2.1 13 = .ok (.istore_n 3, 1) := by decide +kernel
theorem eY_copyPage_14 : decode mY_copyPage.2.1 14 = .ok (.iload_n 3, 1) := by decide +kernel
theorem eY_copyPage_15 : decode mY_copyPage.2.1 15 = .ok (.bipush 16, 2) := by decide +kernel
theorem eY_copyPage_17 : decode mY_copyPage.2.1 17 = .ok (.if_icmp .ge 31, 3) := by decide +kernel
theorem eY_copyPage_20 : decode mY_copyPage.2.1 20 = .ok (.aload_n 0, 1) := by decide +kernel
theorem eY_copyPage_21 : decode mY_copyPage.2.1 21 = .ok (.getfield 20, 3) := by decide +kernel
theorem eY_copyPage_24 : decode mY_copyPage.2.1 24 = .ok (.bipush 16, 2) := by decide +kernel
theorem eY_copyPage_26 : decode mY_copyPage.2.1 26 = .ok (.iload_n 2, 1) := by decide +kernel
theorem eY_copyPage_27 : decode mY_copyPage.2.1 27 = .ok (.imul, 1) := by decide +kernel
theorem eY_copyPage_28 : decode mY_copyPage.2.1 28 = .ok (.iload_n 3, 1) := by decide +kernel
theorem eY_copyPage_29 : decode mY_copyPage.2.1 29 = .ok (.iadd, 1) := by decide +kernel
theorem eY_copyPage_30 : decode mY_copyPage.2.1 30 = .ok (.aload_n 0, 1) := by decide +kernel
theorem eY_copyPage_31 : decode mY_copyPage.2.1 31 = .ok (.getfield 20, 3) := by decide +kernel
theorem eY_copyPage_34 : decode mY_copyPage.2.1 34 = .ok (.bipush 16, 2) := by decide +kernel
theorem eY_copyPage_36 : decode mY_copyPage.2.1 36 = .ok (.iload_n 1, 1) := by decide +kernel
theorem eY_copyPage_37 : decode mY_copyPage.2.1 37 = .ok (.imul, 1) := by decide +kernel
theorem eY_copyPage_38 : decode mY_copyPage.2.1 38 = .ok (.iload_n 3, 1) := by decide +kernel
theorem eY_copyPage_39 : decode mY_copyPage.2.1 39 = .ok (.iadd, 1) := by decide +kernel
theorem eY_copyPage_40 : decode mY_copyPage.2.1 40 = .ok (.iaload, 1) := by decide +kernel
theorem eY_copyPage_41 : decode mY_copyPage.2.1 41 = .ok (.iastore, 1) := by decide +kernel
theorem eY_copyPage_42 : decode mY_copyPage.2.1 42 = .ok (.iinc 3 1, 3) := by decide +kernel
theorem eY_copyPage_45 : decode mY_copyPage.2.1 45 = .ok (.goto (-31), 3) := by decide +kernel
theorem eY_copyPage_48 : decode mY_copyPage.2.1 48 = .ok (.return_, 1) := by decide +kernel
theorem eY_copyRow_0 : decode mY_copyRow.2.1 0 = .ok (.iconst 0, 1) := by decide +kernel
theorem eY_copyRow_1 : decode mY_copyRow.2.1 1 = .ok (.istore_n 3, 1) := by decide +kernel
theorem eY_copyRow_2 : decode mY_copyRow.2.1 2 = .ok (.iload_n 3, 1) := by decide +kernel
theorem eY_copyRow_3 : decode mY_copyRow.2.1 3 = .ok (.bipush 6, 2) := by decide +kernel
theorem eY_copyRow_5 : decode mY_copyRow.2.1 5 = .ok (.if_icmp .ge 31, 3) := by decide +kernel
theorem eY_copyRow_8 : decode mY_copyRow.2.1 8 = .ok (.aload_n 0, 1) := by decide +kernel
theorem eY_copyRow_9 : decode mY_copyRow.2.1 9 = .ok (.getfield 13, 3) := by decide +kernel
theorem eY_copyRow_12 : decode mY_copyRow.2.1 12 = .ok (.bipush 6, 2) := by decide +kernel
theorem eY_copyRow_14 : decode mY_copyRow.2.1 14 = .ok (.iload_n 2, 1) := by decide +kernel
theorem eY_copyRow_15 : decode mY_copyRow.2.1 15 = .ok (.imul, 1) := by decide +kernel
theorem eY_copyRow_16 : decode mY_copyRow.2.1 16 = .ok (.iload_n 3, 1) := by decide +kernel
theorem eY_copyRow_17 : decode mY_copyRow.2.1 17 = .ok (.iadd, 1) := by decide +kernel
theorem eY_copyRow_18 : decode mY_copyRow.2.1 18 = .ok (.aload_n 0, 1) := by decide +kernel
theorem eY_copyRow_19 : decode mY_copyRow.2.1 19 = .ok (.getfield 13, 3) := by decide +kernel
theorem eY_copyRow_22 : decode mY_copyRow.2.1 22 = .ok (.bipush 6, 2) := by decide +kernel
theorem eY_copyRow_24 : decode mY_copyRow.2.1 24 = .ok (.iload_n 1, 1) := by decide +kernel
theorem eY_copyRow_25 : decode mY_copyRow.2.1 25 = .ok (.imul, 1) := by decide +kernel
theorem eY_copyRow_26 : decode mY_copyRow.2.1 26 = .ok (.iload_n 3, 1) := by decide +kernel
theorem eY_copyRow_27 : decode mY_copyRow.2.1 27 = .ok (.iadd, 1) := by decide +kernel
theorem eY_copyRow_28 : decode mY_copyRow.2.1 28 = .ok (.baload, 1) := by decide +kernel
theorem eY_copyRow_29 : decode mY_copyRow.2.1 29 = .ok (.bastore, 1) := by decide +kernel
theorem eY_copyRow_30 : decode mY_copyRow.2.1 30 = .ok (.iinc 3 1, 3) := by decide +kernel
theorem eY_copyRow_33 : decode mY_copyRow.2.1 33 = .ok (.goto (-31), 3) := by decide +kernel
theorem eY_copyRow_36 : decode mY_copyRow.2.1 36 = .ok (.iconst 0, 1) := by decide +kernel
theorem eY_copyRow_37 : decode mY_copyRow.2.1 37 = .ok (.istore_n 3, 1) := by decide +kernel
theorem eY_copyRow_38 : decode mY_copyRow.2.1 38 = .ok (.iload_n 3, 1) := by decide +kernel
theorem eY_copyRow_39 : decode mY_copyRow.2.1 39 = .ok (.bipush 48, 2) := by decide +kernel
theorem eY_copyRow_41 : decode mY_copyRow.2.1 41 = .ok (.if_icmp .ge 25, 3) := by decide +kernel
theorem eY_copyRow_44 : decode mY_copyRow.2.1 44 = .ok (.aload_n 0, 1) := by decide +kernel
theorem eY_copyRow_45 : decode mY_copyRow.2.1 45 = .ok (.bipush 48, 2) := by decide +kernel
theorem eY_copyRow_47 : decode mY_copyRow.2.1 47 = .ok (.iload_n 1, 1) := by decide +kernel
theorem eY_copyRow_48 : decode mY_copyRow.2.1 48 = .ok (.imul, 1) := by decide +kernel
theorem eY_copyRow_49 : decode mY_copyRow.2.1 49 = .ok (.iload_n 3, 1) := by decide +kernel
theorem eY_copyRow_50 : decode mY_copyRow.2.1 50 = .ok (.iadd, 1) := by decide +kernel
theorem eY_copyRow_51 : decode mY_copyRow.2.1 51 = .ok (.bipush 48, 2) := by decide +kernel
theorem eY_copyRow_53 : decode mY_copyRow.2.1 53 = .ok (.iload_n 2, 1) := by decide +kernel
theorem eY_copyRow_54 : decode mY_copyRow.2.1 54 = .ok (.imul, 1) := by decide +kernel
theorem eY_copyRow_55 : decode mY_copyRow.2.1 55 = .ok (.iload_n 3, 1) := by decide +kernel
theorem eY_copyRow_56 : decode mY_copyRow.2.1 56 = .ok (.iadd, 1) := by decide +kernel
theorem eY_copyRow_57 : decode mY_copyRow.2.1 57 = .ok (.invokevirtual 30, 3) := by decide +kernel
theorem eY_copyRow_60 : decode mY_copyRow.2.1 60 = .ok (.iinc 3 1, 3) := by decide +kernel
theorem eY_copyRow_63 : decode mY_copyRow.2.1 63 = .ok (.goto (-25), 3) := by decide +kernel
theorem eY_copyRow_66 : decode mY_copyRow.2.1 66 = .ok (.return_, 1) := by decide +kernel
theorem eY_empty_0 : decode mY_empty.2.1 0 = .ok (.aload_n 0, 1) := by decide +kernel
theorem eY_empty_1 : decode mY_empty.2.1 1 = .ok (.getfield 13, 3) := by decide +kernel
theorem eY_empty_4 : decode mY_empty.2.1 4 = .ok (.bipush 6, 2) := by decide +kernel
theorem eY_empty_6 : decode mY_empty.2.1 6 = .ok (.iload_n 1, 1) := by decide +kernel
theorem eY_empty_7 : decode mY_empty.2.1 7 = .ok (.imul, 1) := by decide +kernel
theorem eY_empty_8 : decode mY_empty.2.1 8 = .ok (.iload_n 2, 1) := by decide +kernel
theorem eY_empty_9 : decode mY_empty.2.1 9 = .ok (.iadd, 1) := by decide +kernel
theorem eY_empty_10 : decode mY_empty.2.1 10 = .ok (.iconst 0, 1) := by decide +kernel
theorem eY_empty_11 : decode mY_empty.2.1 11 = .ok (.bastore, 1) := by decide +kernel
theorem eY_empty_12 : decode mY_empty.2.1 12 = .ok (.iconst 0, 1) := by decide +kernel
theorem eY_empty_13 : decode mY_empty.2.1 13 = .ok (.istore_n 3, 1) := by decide +kernel
theorem eY_empty_14 : decode mY_empty.2.1 14 = .ok (.iload_n 3, 1) := by decide +kernel
theorem eY_empty_15 : decode mY_empty.2.1 15 = .ok (.bipush 8, 2) := by decide +kernel
theorem eY_empty_17 : decode mY_empty.2.1 17 = .ok (.if_icmp .ge 21, 3) := by decide +kernel
theorem eY_empty_20 : decode mY_empty.2.1 20 = .ok (.aload_n 0, 1) := by decide +kernel
theorem eY_empty_21 : decode mY_empty.2.1 21 = .ok (.getfield 16, 3) := by decide +kernel
theorem eY_empty_24 : decode mY_empty.2.1 24 = .ok (.iload_n 1, 1) := by decide +kernel
theorem eY_empty_25 : decode mY_empty.2.1 25 = .ok (.iload_n 2, 1) := by decide +kernel
theorem eY_empty_26 : decode mY_empty.2.1 26 = .ok (.iload_n 3, 1) := by decide +kernel
theorem eY_empty_27 : decode mY_empty.2.1 27 = .ok (.invokestatic 34, 3) := by decide +kernel
theorem eY_empty_30 : decode mY_empty.2.1 30 = .ok (.iconst 0, 1) := by decide +kernel
theorem eY_empty_31 : decode mY_empty.2.1 31 = .ok (.iastore, 1) := by decide +kernel
theorem eY_empty_32 : decode mY_empty.2.1 32 = .ok (.iinc 3 1, 3) := by decide +kernel
theorem eY_empty_35 : decode mY_empty.2.1 35 = .ok (.goto (-21), 3) := by decide +kernel
theorem eY_empty_38 : decode mY_empty.2.1 38 = .ok (.return_, 1) := by decide +kernel
theorem eY_free_0 : decode mY_free.2.1 0 = .ok (.iconst 0, 1) := by decide +kernel
theorem eY_free_1 : decode mY_free.2.1 1 = .ok (.istore_n 1, 1) := by decide +kernel
theorem eY_free_2 : decode mY_free.2.1 2 = .ok (.iload_n 1, 1) := by decide +kernel
theorem eY_free_3 : decode mY_free.2.1 3 = .ok (.bipush 6, 2) := by decide +kernel
theorem eY_free_5 : decode mY_free.2.1 5 = .ok (.if_icmp .ge 18, 3) := by decide +kernel
theorem eY_free_8 : decode mY_free.2.1 8 = .ok (.aload_n 0, 1) := by decide +kernel
theorem eY_free_9 : decode mY_free.2.1 9 = .ok (.getfield 13, 3) := by decide +kernel
theorem eY_free_12 : decode mY_free.2.1 12 = .ok (.iload_n 1, 1) := by decide +kernel
theorem eY_free_13 : decode mY_free.2.1 13 = .ok (.baload, 1) := by decide +kernel
theorem eY_free_14 : decode mY_free.2.1 14 = .ok (.ifCond .eq 9, 3) := by decide +kernel
theorem eY_free_17 : decode mY_free.2.1 17 = .ok (.iinc 1 1, 3) := by decide +kernel
theorem eY_free_20 : decode mY_free.2.1 20 = .ok (.goto (-18), 3) := by decide +kernel
theorem eY_free_23 : decode mY_free.2.1 23 = .ok (.iload_n 1, 1) := by decide +kernel
theorem eY_free_24 : decode mY_free.2.1 24 = .ok (.bipush 6, 2) := by decide +kernel
theorem eY_free_26 : decode mY_free.2.1 26 = .ok (.if_icmp .ge 7, 3) := by decide +kernel
theorem eY_free_29 : decode mY_free.2.1 29 = .ok (.iload_n 1, 1) := by decide +kernel
theorem eY_free_30 : decode mY_free.2.1 30 = .ok (.goto 4, 3) := by decide +kernel
theorem eY_free_33 : decode mY_free.2.1 33 = .ok (.iconst (-1), 1) := by decide +kernel
theorem eY_free_34 : decode mY_free.2.1 34 = .ok (.ireturn, 1) := by decide +kernel
theorem eY_pagesOf_0 : decode mY_pagesOf.2.1 0 = .ok (.iconst 0, 1) := by decide +kernel
theorem eY_pagesOf_1 : decode mY_pagesOf.2.1 1 = .ok (.istore_n 2, 1) := by decide +kernel
theorem eY_pagesOf_2 : decode mY_pagesOf.2.1 2 = .ok (.iconst 0, 1) := by decide +kernel
theorem eY_pagesOf_3 : decode mY_pagesOf.2.1 3 = .ok (.istore_n 3, 1) := by decide +kernel
theorem eY_pagesOf_4 : decode mY_pagesOf.2.1 4 = .ok (.iload_n 3, 1) := by decide +kernel
theorem eY_pagesOf_5 : decode mY_pagesOf.2.1 5 = .ok (.bipush 8, 2) := by decide +kernel
theorem eY_pagesOf_7 : decode mY_pagesOf.2.1 7 = .ok (.if_icmp .ge 31, 3) := by decide +kernel
theorem eY_pagesOf_10 : decode mY_pagesOf.2.1 10 = .ok (.aload_n 0, 1) := by decide +kernel
theorem eY_pagesOf_11 : decode mY_pagesOf.2.1 11 = .ok (.getfield 16, 3) := by decide +kernel
theorem eY_pagesOf_14 : decode mY_pagesOf.2.1 14 = .ok (.iconst 0, 1) := by decide +kernel
theorem eY_pagesOf_15 : decode mY_pagesOf.2.1 15 = .ok (.iload_n 1, 1) := by decide +kernel
theorem eY_pagesOf_16 : decode mY_pagesOf.2.1 16 = .ok (.iload_n 3, 1) := by decide +kernel
theorem eY_pagesOf_17 : decode mY_pagesOf.2.1 17 = .ok (.invokestatic 34, 3) := by decide +kernel
theorem eY_pagesOf_20 : decode mY_pagesOf.2.1 20 = .ok (.iaload, 1) := by decide +kernel
theorem eY_pagesOf_21 : decode mY_pagesOf.2.1 21 = .ok (.ifCond .le 9, 3) := by decide +kernel
theorem eY_pagesOf_24 : decode mY_pagesOf.2.1 24 = .ok (.iload_n 2, 1) := by decide +kernel
theorem eY_pagesOf_25 : decode mY_pagesOf.2.1 25 = .ok (.iconst 1, 1) := by decide +kernel
theorem eY_pagesOf_26 : decode mY_pagesOf.2.1 26 = .ok (.iadd, 1) := by decide +kernel
theorem eY_pagesOf_27 : decode mY_pagesOf.2.1 27 = .ok (.goto 4, 3) := by decide +kernel
theorem eY_pagesOf_30 : decode mY_pagesOf.2.1 30 = .ok (.iload_n 2, 1) := by decide +kernel
theorem eY_pagesOf_31 : decode mY_pagesOf.2.1 31 = .ok (.istore_n 2, 1) := by decide +kernel
theorem eY_pagesOf_32 : decode mY_pagesOf.2.1 32 = .ok (.iinc 3 1, 3) := by decide +kernel
theorem eY_pagesOf_35 : decode mY_pagesOf.2.1 35 = .ok (.goto (-31), 3) := by decide +kernel
theorem eY_pagesOf_38 : decode mY_pagesOf.2.1 38 = .ok (.iload_n 2, 1) := by decide +kernel
theorem eY_pagesOf_39 : decode mY_pagesOf.2.1 39 = .ok (.ireturn, 1) := by decide +kernel
theorem eY_open_0 : decode mY_open.2.1 0 = .ok (.aload_n 0, 1) := by decide +kernel
theorem eY_open_1 : decode mY_open.2.1 1 = .ok (.iconst 0, 1) := by decide +kernel
theorem eY_open_2 : decode mY_open.2.1 2 = .ok (.putfield 27, 3) := by decide +kernel
theorem eY_open_5 : decode mY_open.2.1 5 = .ok (.aload_n 0, 1) := by decide +kernel
theorem eY_open_6 : decode mY_open.2.1 6 = .ok (.invokevirtual 38, 3) := by decide +kernel
theorem eY_open_9 : decode mY_open.2.1 9 = .ok (.istore_n 1, 1) := by decide +kernel
theorem eY_open_10 : decode mY_open.2.1 10 = .ok (.iload_n 1, 1) := by decide +kernel
theorem eY_open_11 : decode mY_open.2.1 11 = .ok (.ifCond .lt 10, 3) := by decide +kernel
theorem eY_open_14 : decode mY_open.2.1 14 = .ok (.aload_n 0, 1) := by decide +kernel
theorem eY_open_15 : decode mY_open.2.1 15 = .ok (.getfield 13, 3) := by decide +kernel
theorem eY_open_18 : decode mY_open.2.1 18 = .ok (.iload_n 1, 1) := by decide +kernel
theorem eY_open_19 : decode mY_open.2.1 19 = .ok (.iconst 1, 1) := by decide +kernel
theorem eY_open_20 : decode mY_open.2.1 20 = .ok (.bastore, 1) := by decide +kernel
theorem eY_open_21 : decode mY_open.2.1 21 = .ok (.iload_n 1, 1) := by decide +kernel
theorem eY_open_22 : decode mY_open.2.1 22 = .ok (.ireturn, 1) := by decide +kernel
theorem eY_fork_0 : decode mY_fork.2.1 0 = .ok (.aload_n 0, 1) := by decide +kernel
theorem eY_fork_1 : decode mY_fork.2.1 1 = .ok (.aload_n 0, 1) := by decide +kernel
theorem eY_fork_2 : decode mY_fork.2.1 2 = .ok (.iload_n 1, 1) := by decide +kernel
theorem eY_fork_3 : decode mY_fork.2.1 3 = .ok (.invokevirtual 42, 3) := by decide +kernel
theorem eY_fork_6 : decode mY_fork.2.1 6 = .ok (.ifCond .ne 7, 3) := by decide +kernel
theorem eY_fork_9 : decode mY_fork.2.1 9 = .ok (.iconst 1, 1) := by decide +kernel
theorem eY_fork_10 : decode mY_fork.2.1 10 = .ok (.goto 4, 3) := by decide +kernel
theorem eY_fork_13 : decode mY_fork.2.1 13 = .ok (.iconst 0, 1) := by decide +kernel
theorem eY_fork_14 : decode mY_fork.2.1 14 = .ok (.iconst 0, 1) := by decide +kernel
theorem eY_fork_15 : decode mY_fork.2.1 15 = .ok (.iconst 0, 1) := by decide +kernel
theorem eY_fork_16 : decode mY_fork.2.1 16 = .ok (.invokevirtual 46, 3) := by decide +kernel
theorem eY_fork_19 : decode mY_fork.2.1 19 = .ok (.ifCond .eq 5, 3) := by decide +kernel
theorem eY_fork_22 : decode mY_fork.2.1 22 = .ok (.iconst 0, 1) := by decide +kernel
theorem eY_fork_23 : decode mY_fork.2.1 23 = .ok (.ireturn, 1) := by decide +kernel
theorem eY_fork_24 : decode mY_fork.2.1 24 = .ok (.aload_n 0, 1) := by decide +kernel
theorem eY_fork_25 : decode mY_fork.2.1 25 = .ok (.invokevirtual 38, 3) := by decide +kernel
theorem eY_fork_28 : decode mY_fork.2.1 28 = .ok (.istore_n 2, 1) := by decide +kernel
theorem eY_fork_29 : decode mY_fork.2.1 29 = .ok (.iload_n 2, 1) := by decide +kernel
theorem eY_fork_30 : decode mY_fork.2.1 30 = .ok (.ifCond .ge 5, 3) := by decide +kernel
theorem eY_fork_33 : decode mY_fork.2.1 33 = .ok (.iconst (-1), 1) := by decide +kernel
theorem eY_fork_34 : decode mY_fork.2.1 34 = .ok (.ireturn, 1) := by decide +kernel
theorem eY_fork_35 : decode mY_fork.2.1 35 = .ok (.aload_n 0, 1) := by decide +kernel
theorem eY_fork_36 : decode mY_fork.2.1 36 = .ok (.getfield 13, 3) := by decide +kernel
theorem eY_fork_39 : decode mY_fork.2.1 39 = .ok (.iload_n 2, 1) := by decide +kernel
theorem eY_fork_40 : decode mY_fork.2.1 40 = .ok (.iconst 1, 1) := by decide +kernel
theorem eY_fork_41 : decode mY_fork.2.1 41 = .ok (.bastore, 1) := by decide +kernel
theorem eY_fork_42 : decode mY_fork.2.1 42 = .ok (.iconst 0, 1) := by decide +kernel
theorem eY_fork_43 : decode mY_fork.2.1 43 = .ok (.istore_n 3, 1) := by decide +kernel
theorem eY_fork_44 : decode mY_fork.2.1 44 = .ok (.iload_n 3, 1) := by decide +kernel
theorem eY_fork_45 : decode mY_fork.2.1 45 = .ok (.bipush 8, 2) := by decide +kernel
theorem eY_fork_47 : decode mY_fork.2.1 47 = .ok (.if_icmp .ge 25, 3) := by decide +kernel
theorem eY_fork_50 : decode mY_fork.2.1 50 = .ok (.aload_n 0, 1) := by decide +kernel
theorem eY_fork_51 : decode mY_fork.2.1 51 = .ok (.iconst 0, 1) := by decide +kernel
theorem eY_fork_52 : decode mY_fork.2.1 52 = .ok (.iload_n 1, 1) := by decide +kernel
theorem eY_fork_53 : decode mY_fork.2.1 53 = .ok (.iload_n 3, 1) := by decide +kernel
theorem eY_fork_54 : decode mY_fork.2.1 54 = .ok (.invokestatic 34, 3) := by decide +kernel
theorem eY_fork_57 : decode mY_fork.2.1 57 = .ok (.iconst 0, 1) := by decide +kernel
theorem eY_fork_58 : decode mY_fork.2.1 58 = .ok (.iload_n 2, 1) := by decide +kernel
theorem eY_fork_59 : decode mY_fork.2.1 59 = .ok (.iload_n 3, 1) := by decide +kernel
theorem eY_fork_60 : decode mY_fork.2.1 60 = .ok (.invokestatic 34, 3) := by decide +kernel
theorem eY_fork_63 : decode mY_fork.2.1 63 = .ok (.invokevirtual 30, 3) := by decide +kernel
theorem eY_fork_66 : decode mY_fork.2.1 66 = .ok (.iinc 3 1, 3) := by decide +kernel
theorem eY_fork_69 : decode mY_fork.2.1 69 = .ok (.goto (-25), 3) := by decide +kernel
theorem eY_fork_72 : decode mY_fork.2.1 72 = .ok (.iload_n 2, 1) := by decide +kernel
theorem eY_fork_73 : decode mY_fork.2.1 73 = .ok (.ireturn, 1) := by decide +kernel
theorem eY_close_0 : decode mY_close.2.1 0 = .ok (.aload_n 0, 1) := by decide +kernel
theorem eY_close_1 : decode mY_close.2.1 1 = .ok (.aload_n 0, 1) := by decide +kernel
theorem eY_close_2 : decode mY_close.2.1 2 = .ok (.iload_n 1, 1) := by decide +kernel
theorem eY_close_3 : decode mY_close.2.1 3 = .ok (.invokevirtual 42, 3) := by decide +kernel
theorem eY_close_6 : decode mY_close.2.1 6 = .ok (.ifCond .ne 7, 3) := by decide +kernel
theorem eY_close_9 : decode mY_close.2.1 9 = .ok (.iconst 1, 1) := by decide +kernel
theorem eY_close_10 : decode mY_close.2.1 10 = .ok (.goto 4, 3) := by decide +kernel
theorem eY_close_13 : decode mY_close.2.1 13 = .ok (.iconst 0, 1) := by decide +kernel
theorem eY_close_14 : decode mY_close.2.1 14 = .ok (.iconst 0, 1) := by decide +kernel
theorem eY_close_15 : decode mY_close.2.1 15 = .ok (.iconst 0, 1) := by decide +kernel
theorem eY_close_16 : decode mY_close.2.1 16 = .ok (.invokevirtual 46, 3) := by decide +kernel
theorem eY_close_19 : decode mY_close.2.1 19 = .ok (.ifCond .eq 5, 3) := by decide +kernel
theorem eY_close_22 : decode mY_close.2.1 22 = .ok (.iconst 0, 1) := by decide +kernel
theorem eY_close_23 : decode mY_close.2.1 23 = .ok (.ireturn, 1) := by decide +kernel
theorem eY_close_24 : decode mY_close.2.1 24 = .ok (.aload_n 0, 1) := by decide +kernel
theorem eY_close_25 : decode mY_close.2.1 25 = .ok (.iload_n 1, 1) := by decide +kernel
theorem eY_close_26 : decode mY_close.2.1 26 = .ok (.invokevirtual 50, 3) := by decide +kernel
theorem eY_close_29 : decode mY_close.2.1 29 = .ok (.istore_n 2, 1) := by decide +kernel
theorem eY_close_30 : decode mY_close.2.1 30 = .ok (.aload_n 0, 1) := by decide +kernel
theorem eY_close_31 : decode mY_close.2.1 31 = .ok (.iconst 0, 1) := by decide +kernel
theorem eY_close_32 : decode mY_close.2.1 32 = .ok (.iload_n 1, 1) := by decide +kernel
theorem eY_close_33 : decode mY_close.2.1 33 = .ok (.invokevirtual 54, 3) := by decide +kernel
theorem eY_close_36 : decode mY_close.2.1 36 = .ok (.iload_n 2, 1) := by decide +kernel
theorem eY_close_37 : decode mY_close.2.1 37 = .ok (.ireturn, 1) := by decide +kernel
theorem eY_map_0 : decode mY_map.2.1 0 = .ok (.aload_n 0, 1) := by decide +kernel
theorem eY_map_1 : decode mY_map.2.1 1 = .ok (.iload_n 1, 1) := by decide +kernel
theorem eY_map_2 : decode mY_map.2.1 2 = .ok (.invokevirtual 42, 3) := by decide +kernel
theorem eY_map_5 : decode mY_map.2.1 5 = .ok (.ifCond .eq 14, 3) := by decide +kernel
theorem eY_map_8 : decode mY_map.2.1 8 = .ok (.iload_n 2, 1) := by decide +kernel
theorem eY_map_9 : decode mY_map.2.1 9 = .ok (.invokestatic 57, 3) := by decide +kernel
theorem eY_map_12 : decode mY_map.2.1 12 = .ok (.ifCond .eq 7, 3) := by decide +kernel
theorem eY_map_15 : decode mY_map.2.1 15 = .ok (.iconst 1, 1) := by decide +kernel
theorem eY_map_16 : decode mY_map.2.1 16 = .ok (.goto 4, 3) := by decide +kernel
theorem eY_map_19 : decode mY_map.2.1 19 = .ok (.iconst 0, 1) := by decide +kernel
theorem eY_map_20 : decode mY_map.2.1 20 = .ok (.istore 4, 2) := by decide +kernel
theorem eY_map_22 : decode mY_map.2.1 22 = .ok (.aload_n 0, 1) := by decide +kernel
theorem eY_map_23 : decode mY_map.2.1 23 = .ok (.aload_n 0, 1) := by decide +kernel
theorem eY_map_24 : decode mY_map.2.1 24 = .ok (.iload_n 1, 1) := by decide +kernel
theorem eY_map_25 : decode mY_map.2.1 25 = .ok (.invokevirtual 42, 3) := by decide +kernel
theorem eY_map_28 : decode mY_map.2.1 28 = .ok (.ifCond .ne 7, 3) := by decide +kernel
theorem eY_map_31 : decode mY_map.2.1 31 = .ok (.iconst 1, 1) := by decide +kernel
theorem eY_map_32 : decode mY_map.2.1 32 = .ok (.goto 4, 3) := by decide +kernel
theorem eY_map_35 : decode mY_map.2.1 35 = .ok (.iconst 0, 1) := by decide +kernel
theorem eY_map_36 : decode mY_map.2.1 36 = .ok (.iload_n 2, 1) := by decide +kernel
theorem eY_map_37 : decode mY_map.2.1 37 = .ok (.invokestatic 57, 3) := by decide +kernel
theorem eY_map_40 : decode mY_map.2.1 40 = .ok (.ifCond .ne 7, 3) := by decide +kernel
theorem eY_map_43 : decode mY_map.2.1 43 = .ok (.iconst 1, 1) := by decide +kernel
theorem eY_map_44 : decode mY_map.2.1 44 = .ok (.goto 4, 3) := by decide +kernel
theorem eY_map_47 : decode mY_map.2.1 47 = .ok (.iconst 0, 1) := by decide +kernel
theorem eY_map_48 : decode mY_map.2.1 48 = .ok (.iload 4, 2) := by decide +kernel
theorem eY_map_50 : decode mY_map.2.1 50 = .ok (.ifCond .eq 41, 3) := by decide +kernel
theorem eY_map_53 : decode mY_map.2.1 53 = .ok (.aload_n 0, 1) := by decide +kernel
theorem eY_map_54 : decode mY_map.2.1 54 = .ok (.getfield 16, 3) := by decide +kernel
theorem eY_map_57 : decode mY_map.2.1 57 = .ok (.iconst 0, 1) := by decide +kernel
theorem eY_map_58 : decode mY_map.2.1 58 = .ok (.iload_n 1, 1) := by decide +kernel
theorem eY_map_59 : decode mY_map.2.1 59 = .ok (.iload 4, 2) := by decide +kernel
theorem eY_map_61 : decode mY_map.2.1 61 = .ok (.ifCond .eq 7, 3) := by decide +kernel
theorem eY_map_64 : decode mY_map.2.1 64 = .ok (.iload_n 2, 1) := by decide +kernel
theorem eY_map_65 : decode mY_map.2.1 65 = .ok (.goto 4, 3) := by decide +kernel
theorem eY_map_68 : decode mY_map.2.1 68 = .ok (.iconst 0, 1) := by decide +kernel
theorem eY_map_69 : decode mY_map.2.1 69 = .ok (.invokestatic 34, 3) := by decide +kernel
theorem eY_map_72 : decode mY_map.2.1 72 = .ok (.iaload, 1) := by decide +kernel
theorem eY_map_73 : decode mY_map.2.1 73 = .ok (.ifCond .ne 18, 3) := by decide +kernel
theorem eY_map_76 : decode mY_map.2.1 76 = .ok (.aload_n 0, 1) := by decide +kernel
theorem eY_map_77 : decode mY_map.2.1 77 = .ok (.invokevirtual 60, 3) := by decide +kernel
theorem eY_map_80 : decode mY_map.2.1 80 = .ok (.aload_n 0, 1) := by decide +kernel
theorem eY_map_81 : decode mY_map.2.1 81 = .ok (.getfield 23, 3) := by decide +kernel
theorem eY_map_84 : decode mY_map.2.1 84 = .ok (.if_icmp .ne 7, 3) := by decide +kernel
theorem eY_map_87 : decode mY_map.2.1 87 = .ok (.iconst 1, 1) := by decide +kernel
theorem eY_map_88 : decode mY_map.2.1 88 = .ok (.goto 4, 3) := by decide +kernel
theorem eY_map_91 : decode mY_map.2.1 91 = .ok (.iconst 0, 1) := by decide +kernel
theorem eY_map_92 : decode mY_map.2.1 92 = .ok (.invokevirtual 46, 3) := by decide +kernel
theorem eY_map_95 : decode mY_map.2.1 95 = .ok (.ifCond .eq 5, 3) := by decide +kernel
theorem eY_map_98 : decode mY_map.2.1 98 = .ok (.iconst 0, 1) := by decide +kernel
theorem eY_map_99 : decode mY_map.2.1 99 = .ok (.ireturn, 1) := by decide +kernel
theorem eY_map_100 : decode mY_map.2.1 100 = .ok (.iconst 0, 1) := by decide +kernel
theorem eY_map_101 : decode mY_map.2.1 101 = .ok (.iload_n 1, 1) := by decide +kernel
theorem eY_map_102 : decode mY_map.2.1 102 = .ok (.iload_n 2, 1) := by decide +kernel
theorem eY_map_103 : decode mY_map.2.1 103 = .ok (.invokestatic 34, 3) := by decide +kernel
theorem eY_map_106 : decode mY_map.2.1 106 = .ok (.istore 5, 2) := by decide +kernel
theorem eY_map_108 : decode mY_map.2.1 108 = .ok (.aload_n 0, 1) := by decide +kernel
theorem eY_map_109 : decode mY_map.2.1 109 = .ok (.getfield 16, 3) := by decide +kernel
theorem eY_map_112 : decode mY_map.2.1 112 = .ok (.iload 5, 2) := by decide +kernel
theorem eY_map_114 : decode mY_map.2.1 114 = .ok (.iaload, 1) := by decide +kernel
theorem eY_map_115 : decode mY_map.2.1 115 = .ok (.ifCond .le 5, 3) := by decide +kernel
theorem eY_map_118 : decode mY_map.2.1 118 = .ok (.iconst 0, 1) := by decide +kernel
theorem eY_map_119 : decode mY_map.2.1 119 = .ok (.ireturn, 1) := by decide +kernel
theorem eY_map_120 : decode mY_map.2.1 120 = .ok (.aload_n 0, 1) := by decide +kernel
theorem eY_map_121 : decode mY_map.2.1 121 = .ok (.dup, 1) := by decide +kernel
theorem eY_map_122 : decode mY_map.2.1 122 = .ok (.getfield 63, 3) := by decide +kernel
theorem eY_map_125 : decode mY_map.2.1 125 = .ok (.iconst 1, 1) := by decide +kernel
theorem eY_map_126 : decode mY_map.2.1 126 = .ok (.iadd, 1) := by decide +kernel
theorem eY_map_127 : decode mY_map.2.1 127 = .ok (.putfield 63, 3) := by decide +kernel
theorem eY_map_130 : decode mY_map.2.1 130 = .ok (.aload_n 0, 1) := by decide +kernel
theorem eY_map_131 : decode mY_map.2.1 131 = .ok (.getfield 16, 3) := by decide +kernel
theorem eY_map_134 : decode mY_map.2.1 134 = .ok (.iload 5, 2) := by decide +kernel
theorem eY_map_136 : decode mY_map.2.1 136 = .ok (.aload_n 0, 1) := by decide +kernel
theorem eY_map_137 : decode mY_map.2.1 137 = .ok (.getfield 63, 3) := by decide +kernel
theorem eY_map_140 : decode mY_map.2.1 140 = .ok (.iastore, 1) := by decide +kernel
theorem eY_map_141 : decode mY_map.2.1 141 = .ok (.iconst 0, 1) := by decide +kernel
theorem eY_map_142 : decode mY_map.2.1 142 = .ok (.istore 6, 2) := by decide +kernel
theorem eY_map_144 : decode mY_map.2.1 144 = .ok (.iload 6, 2) := by decide +kernel
theorem eY_map_146 : decode mY_map.2.1 146 = .ok (.bipush 16, 2) := by decide +kernel
theorem eY_map_148 : decode mY_map.2.1 148 = .ok (.if_icmp .ge 23, 3) := by decide +kernel
theorem eY_map_151 : decode mY_map.2.1 151 = .ok (.aload_n 0, 1) := by decide +kernel
theorem eY_map_152 : decode mY_map.2.1 152 = .ok (.getfield 20, 3) := by decide +kernel
theorem eY_map_155 : decode mY_map.2.1 155 = .ok (.bipush 16, 2) := by decide +kernel
theorem eY_map_157 : decode mY_map.2.1 157 = .ok (.iload 5, 2) := by decide +kernel
theorem eY_map_159 : decode mY_map.2.1 159 = .ok (.imul, 1) := by decide +kernel
theorem eY_map_160 : decode mY_map.2.1 160 = .ok (.iload 6, 2) := by decide +kernel
theorem eY_map_162 : decode mY_map.2.1 162 = .ok (.iadd, 1) := by decide +kernel
theorem eY_map_163 : decode mY_map.2.1 163 = .ok (.iload_n 3, 1) := by decide +kernel
theorem eY_map_164 : decode mY_map.2.1 164 = .ok (.iastore, 1) := by decide +kernel
theorem eY_map_165 : decode mY_map.2.1 165 = .ok (.iinc 6 1, 3) := by decide +kernel
theorem eY_map_168 : decode mY_map.2.1 168 = .ok (.goto (-24), 3) := by decide +kernel
theorem eY_map_171 : decode mY_map.2.1 171 = .ok (.iconst 1, 1) := by decide +kernel
theorem eY_map_172 : decode mY_map.2.1 172 = .ok (.ireturn, 1) := by decide +kernel
theorem eY_unmap_0 : decode mY_unmap.2.1 0 = .ok (.aload_n 0, 1) := by decide +kernel
theorem eY_unmap_1 : decode mY_unmap.2.1 1 = .ok (.aload_n 0, 1) := by decide +kernel
theorem eY_unmap_2 : decode mY_unmap.2.1 2 = .ok (.iload_n 1, 1) := by decide +kernel
theorem eY_unmap_3 : decode mY_unmap.2.1 3 = .ok (.invokevirtual 42, 3) := by decide +kernel
theorem eY_unmap_6 : decode mY_unmap.2.1 6 = .ok (.ifCond .ne 7, 3) := by decide +kernel
theorem eY_unmap_9 : decode mY_unmap.2.1 9 = .ok (.iconst 1, 1) := by decide +kernel
theorem eY_unmap_10 : decode mY_unmap.2.1 10 = .ok (.goto 4, 3) := by decide +kernel
theorem eY_unmap_13 : decode mY_unmap.2.1 13 = .ok (.iconst 0, 1) := by decide +kernel
theorem eY_unmap_14 : decode mY_unmap.2.1 14 = .ok (.iload_n 2, 1) := by decide +kernel
theorem eY_unmap_15 : decode mY_unmap.2.1 15 = .ok (.invokestatic 57, 3) := by decide +kernel
theorem eY_unmap_18 : decode mY_unmap.2.1 18 = .ok (.ifCond .ne 7, 3) := by decide +kernel
theorem eY_unmap_21 : decode mY_unmap.2.1 21 = .ok (.iconst 1, 1) := by decide +kernel
theorem eY_unmap_22 : decode mY_unmap.2.1 22 = .ok (.goto 4, 3) := by decide +kernel
theorem eY_unmap_25 : decode mY_unmap.2.1 25 = .ok (.iconst 0, 1) := by decide +kernel
theorem eY_unmap_26 : decode mY_unmap.2.1 26 = .ok (.iconst 0, 1) := by decide +kernel
theorem eY_unmap_27 : decode mY_unmap.2.1 27 = .ok (.invokevirtual 46, 3) := by decide +kernel
theorem eY_unmap_30 : decode mY_unmap.2.1 30 = .ok (.ifCond .eq 5, 3) := by decide +kernel
theorem eY_unmap_33 : decode mY_unmap.2.1 33 = .ok (.iconst 0, 1) := by decide +kernel
theorem eY_unmap_34 : decode mY_unmap.2.1 34 = .ok (.ireturn, 1) := by decide +kernel
theorem eY_unmap_35 : decode mY_unmap.2.1 35 = .ok (.iconst 0, 1) := by decide +kernel
theorem eY_unmap_36 : decode mY_unmap.2.1 36 = .ok (.iload_n 1, 1) := by decide +kernel
theorem eY_unmap_37 : decode mY_unmap.2.1 37 = .ok (.iload_n 2, 1) := by decide +kernel
theorem eY_unmap_38 : decode mY_unmap.2.1 38 = .ok (.invokestatic 34, 3) := by decide +kernel
theorem eY_unmap_41 : decode mY_unmap.2.1 41 = .ok (.istore_n 3, 1) := by decide +kernel
theorem eY_unmap_42 : decode mY_unmap.2.1 42 = .ok (.aload_n 0, 1) := by decide +kernel
theorem eY_unmap_43 : decode mY_unmap.2.1 43 = .ok (.getfield 16, 3) := by decide +kernel
theorem eY_unmap_46 : decode mY_unmap.2.1 46 = .ok (.iload_n 3, 1) := by decide +kernel
theorem eY_unmap_47 : decode mY_unmap.2.1 47 = .ok (.iaload, 1) := by decide +kernel
theorem eY_unmap_48 : decode mY_unmap.2.1 48 = .ok (.ifCond .le 7, 3) := by decide +kernel
theorem eY_unmap_51 : decode mY_unmap.2.1 51 = .ok (.iconst 1, 1) := by decide +kernel
theorem eY_unmap_52 : decode mY_unmap.2.1 52 = .ok (.goto 4, 3) := by decide +kernel
theorem eY_unmap_55 : decode mY_unmap.2.1 55 = .ok (.iconst 0, 1) := by decide +kernel
theorem eY_unmap_56 : decode mY_unmap.2.1 56 = .ok (.istore 4, 2) := by decide +kernel
theorem eY_unmap_58 : decode mY_unmap.2.1 58 = .ok (.aload_n 0, 1) := by decide +kernel
theorem eY_unmap_59 : decode mY_unmap.2.1 59 = .ok (.getfield 16, 3) := by decide +kernel
theorem eY_unmap_62 : decode mY_unmap.2.1 62 = .ok (.iload_n 3, 1) := by decide +kernel
theorem eY_unmap_63 : decode mY_unmap.2.1 63 = .ok (.iconst 0, 1) := by decide +kernel
theorem eY_unmap_64 : decode mY_unmap.2.1 64 = .ok (.iastore, 1) := by decide +kernel
theorem eY_unmap_65 : decode mY_unmap.2.1 65 = .ok (.iload 4, 2) := by decide +kernel
theorem eY_unmap_67 : decode mY_unmap.2.1 67 = .ok (.ireturn, 1) := by decide +kernel
theorem eY_cell_0 : decode mY_cell.2.1 0 = .ok (.iload_n 2, 1) := by decide +kernel
theorem eY_cell_1 : decode mY_cell.2.1 1 = .ok (.ifCond .lt 14, 3) := by decide +kernel
theorem eY_cell_4 : decode mY_cell.2.1 4 = .ok (.iload_n 2, 1) := by decide +kernel
theorem eY_cell_5 : decode mY_cell.2.1 5 = .ok (.sipush 128, 3) := by decide +kernel
theorem eY_cell_8 : decode mY_cell.2.1 8 = .ok (.if_icmp .ge 7, 3) := by decide +kernel
