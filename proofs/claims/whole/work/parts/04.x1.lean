theorem eX_needOwnFrame_7 : decode mX_needOwnFrame.2.1 7 = .ok (.aload_n 0, 1) := by decide +kernel
theorem eX_needOwnFrame_8 : decode mX_needOwnFrame.2.1 8 = .ok (.getfield 26, 3) := by decide +kernel
theorem eX_needOwnFrame_11 : decode mX_needOwnFrame.2.1 11 = .ok (.iload_n 2, 1) := by decide +kernel
theorem eX_needOwnFrame_12 : decode mX_needOwnFrame.2.1 12 = .ok (.iaload, 1) := by decide +kernel
theorem eX_needOwnFrame_13 : decode mX_needOwnFrame.2.1 13 = .ok (.iconst 1, 1) := by decide +kernel
theorem eX_needOwnFrame_14 : decode mX_needOwnFrame.2.1 14 = .ok (.if_icmp .ne 5, 3) := by decide +kernel
theorem eX_needOwnFrame_17 : decode mX_needOwnFrame.2.1 17 = .ok (.iload_n 2, 1) := by decide +kernel
theorem eX_needOwnFrame_18 : decode mX_needOwnFrame.2.1 18 = .ok (.ireturn, 1) := by decide +kernel
theorem eX_needOwnFrame_19 : decode mX_needOwnFrame.2.1 19 = .ok (.aload_n 0, 1) := by decide +kernel
theorem eX_needOwnFrame_20 : decode mX_needOwnFrame.2.1 20 = .ok (.invokevirtual 74, 3) := by decide +kernel
theorem eX_needOwnFrame_23 : decode mX_needOwnFrame.2.1 23 = .ok (.istore_n 3, 1) := by decide +kernel
theorem eX_needOwnFrame_24 : decode mX_needOwnFrame.2.1 24 = .ok (.aload_n 0, 1) := by decide +kernel
theorem eX_needOwnFrame_25 : decode mX_needOwnFrame.2.1 25 = .ok (.getfield 22, 3) := by decide +kernel
theorem eX_needOwnFrame_28 : decode mX_needOwnFrame.2.1 28 = .ok (.iload_n 2, 1) := by decide +kernel
theorem eX_needOwnFrame_29 : decode mX_needOwnFrame.2.1 29 = .ok (.bipush 16, 2) := by decide +kernel
theorem eX_needOwnFrame_31 : decode mX_needOwnFrame.2.1 31 = .ok (.imul, 1) := by decide +kernel
theorem eX_needOwnFrame_32 : decode mX_needOwnFrame.2.1 32 = .ok (.aload_n 0, 1) := by decide +kernel
theorem eX_needOwnFrame_33 : decode mX_needOwnFrame.2.1 33 = .ok (.getfield 22, 3) := by decide +kernel
theorem eX_needOwnFrame_36 : decode mX_needOwnFrame.2.1 36 = .ok (.iload_n 3, 1) := by decide +kernel
theorem eX_needOwnFrame_37 : decode mX_needOwnFrame.2.1 37 = .ok (.bipush 16, 2) := by decide +kernel
theorem eX_needOwnFrame_39 : decode mX_needOwnFrame.2.1 39 = .ok (.imul, 1) := by decide +kernel
theorem eX_needOwnFrame_40 : decode mX_needOwnFrame.2.1 40 = .ok (.bipush 16, 2) := by decide +kernel
theorem eX_needOwnFrame_42 : decode mX_needOwnFrame.2.1 42 = .ok (.invokestatic 150, 3) := by decide +kernel
theorem eX_needOwnFrame_45 : decode mX_needOwnFrame.2.1 45 = .ok (.aload_n 0, 1) := by decide +kernel
theorem eX_needOwnFrame_46 : decode mX_needOwnFrame.2.1 46 = .ok (.iload_n 1, 1) := by decide +kernel
theorem eX_needOwnFrame_47 : decode mX_needOwnFrame.2.1 47 = .ok (.iload_n 3, 1) := by decide +kernel
theorem eX_needOwnFrame_48 : decode mX_needOwnFrame.2.1 48 = .ok (.invokevirtual 59, 3) := by decide +kernel
theorem eX_needOwnFrame_51 : decode mX_needOwnFrame.2.1 51 = .ok (.iload_n 3, 1) := by decide +kernel
theorem eX_needOwnFrame_52 : decode mX_needOwnFrame.2.1 52 = .ok (.ireturn, 1) := by decide +kernel
theorem eX_standIn_0 : decode mX_standIn.2.1 0 = .ok (.aload_n 0, 1) := by decide +kernel
theorem eX_standIn_1 : decode mX_standIn.2.1 1 = .ok (.getfield 29, 3) := by decide +kernel
theorem eX_standIn_4 : decode mX_standIn.2.1 4 = .ok (.iload_n 1, 1) := by decide +kernel
theorem eX_standIn_5 : decode mX_standIn.2.1 5 = .ok (.iaload, 1) := by decide +kernel
theorem eX_standIn_6 : decode mX_standIn.2.1 6 = .ok (.istore_n 3, 1) := by decide +kernel
theorem eX_standIn_7 : decode mX_standIn.2.1 7 = .ok (.aload_n 0, 1) := by decide +kernel
theorem eX_standIn_8 : decode mX_standIn.2.1 8 = .ok (.iload_n 3, 1) := by decide +kernel
theorem eX_standIn_9 : decode mX_standIn.2.1 9 = .ok (.invokevirtual 70, 3) := by decide +kernel
theorem eX_standIn_12 : decode mX_standIn.2.1 12 = .ok (.ifCond .eq 13, 3) := by decide +kernel
theorem eX_standIn_15 : decode mX_standIn.2.1 15 = .ok (.aload_n 0, 1) := by decide +kernel
theorem eX_standIn_16 : decode mX_standIn.2.1 16 = .ok (.getfield 26, 3) := by decide +kernel
theorem eX_standIn_19 : decode mX_standIn.2.1 19 = .ok (.iload_n 3, 1) := by decide +kernel
theorem eX_standIn_20 : decode mX_standIn.2.1 20 = .ok (.dup2, 1) := by decide +kernel
theorem eX_standIn_21 : decode mX_standIn.2.1 21 = .ok (.iaload, 1) := by decide +kernel
theorem eX_standIn_22 : decode mX_standIn.2.1 22 = .ok (.iconst 1, 1) := by decide +kernel
theorem eX_standIn_23 : decode mX_standIn.2.1 23 = .ok (.isub, 1) := by decide +kernel
theorem eX_standIn_24 : decode mX_standIn.2.1 24 = .ok (.iastore, 1) := by decide +kernel
theorem eX_standIn_25 : decode mX_standIn.2.1 25 = .ok (.aload_n 0, 1) := by decide +kernel
theorem eX_standIn_26 : decode mX_standIn.2.1 26 = .ok (.iload_n 2, 1) := by decide +kernel
theorem eX_standIn_27 : decode mX_standIn.2.1 27 = .ok (.invokevirtual 70, 3) := by decide +kernel
theorem eX_standIn_30 : decode mX_standIn.2.1 30 = .ok (.ifCond .eq 13, 3) := by decide +kernel
theorem eX_standIn_33 : decode mX_standIn.2.1 33 = .ok (.aload_n 0, 1) := by decide +kernel
theorem eX_standIn_34 : decode mX_standIn.2.1 34 = .ok (.getfield 26, 3) := by decide +kernel
theorem eX_standIn_37 : decode mX_standIn.2.1 37 = .ok (.iload_n 2, 1) := by decide +kernel
theorem eX_standIn_38 : decode mX_standIn.2.1 38 = .ok (.dup2, 1) := by decide +kernel
theorem eX_standIn_39 : decode mX_standIn.2.1 39 = .ok (.iaload, 1) := by decide +kernel
theorem eX_standIn_40 : decode mX_standIn.2.1 40 = .ok (.iconst 1, 1) := by decide +kernel
theorem eX_standIn_41 : decode mX_standIn.2.1 41 = .ok (.iadd, 1) := by decide +kernel
theorem eX_standIn_42 : decode mX_standIn.2.1 42 = .ok (.iastore, 1) := by decide +kernel
theorem eX_standIn_43 : decode mX_standIn.2.1 43 = .ok (.aload_n 0, 1) := by decide +kernel
theorem eX_standIn_44 : decode mX_standIn.2.1 44 = .ok (.getfield 29, 3) := by decide +kernel
theorem eX_standIn_47 : decode mX_standIn.2.1 47 = .ok (.iload_n 1, 1) := by decide +kernel
theorem eX_standIn_48 : decode mX_standIn.2.1 48 = .ok (.iload_n 2, 1) := by decide +kernel
theorem eX_standIn_49 : decode mX_standIn.2.1 49 = .ok (.iastore, 1) := by decide +kernel
theorem eX_standIn_50 : decode mX_standIn.2.1 50 = .ok (.return_, 1) := by decide +kernel
theorem eX_moveHolders_0 : decode mX_moveHolders.2.1 0 = .ok (.iconst 0, 1) := by decide +kernel
theorem eX_moveHolders_1 : decode mX_moveHolders.2.1 1 = .ok (.istore_n 3, 1) := by decide +kernel
theorem eX_moveHolders_2 : decode mX_moveHolders.2.1 2 = .ok (.iload_n 3, 1) := by decide +kernel
theorem eX_moveHolders_3 : decode mX_moveHolders.2.1 3 = .ok (.sipush 432, 3) := by decide +kernel
theorem eX_moveHolders_6 : decode mX_moveHolders.2.1 6 = .ok (.if_icmp .ge 25, 3) := by decide +kernel
theorem eX_moveHolders_9 : decode mX_moveHolders.2.1 9 = .ok (.aload_n 0, 1) := by decide +kernel
theorem eX_moveHolders_10 : decode mX_moveHolders.2.1 10 = .ok (.getfield 29, 3) := by decide +kernel
theorem eX_moveHolders_13 : decode mX_moveHolders.2.1 13 = .ok (.iload_n 3, 1) := by decide +kernel
theorem eX_moveHolders_14 : decode mX_moveHolders.2.1 14 = .ok (.iaload, 1) := by decide +kernel
theorem eX_moveHolders_15 : decode mX_moveHolders.2.1 15 = .ok (.iload_n 1, 1) := by decide +kernel
theorem eX_moveHolders_16 : decode mX_moveHolders.2.1 16 = .ok (.if_icmp .ne 9, 3) := by decide +kernel
theorem eX_moveHolders_19 : decode mX_moveHolders.2.1 19 = .ok (.aload_n 0, 1) := by decide +kernel
theorem eX_moveHolders_20 : decode mX_moveHolders.2.1 20 = .ok (.iload_n 3, 1) := by decide +kernel
theorem eX_moveHolders_21 : decode mX_moveHolders.2.1 21 = .ok (.iload_n 2, 1) := by decide +kernel
theorem eX_moveHolders_22 : decode mX_moveHolders.2.1 22 = .ok (.invokevirtual 59, 3) := by decide +kernel
theorem eX_moveHolders_25 : decode mX_moveHolders.2.1 25 = .ok (.iinc 3 1, 3) := by decide +kernel
theorem eX_moveHolders_28 : decode mX_moveHolders.2.1 28 = .ok (.goto (-26), 3) := by decide +kernel
theorem eX_moveHolders_31 : decode mX_moveHolders.2.1 31 = .ok (.return_, 1) := by decide +kernel
theorem eX_copyRow_0 : decode mX_copyRow.2.1 0 = .ok (.iconst 0, 1) := by decide +kernel
theorem eX_copyRow_1 : decode mX_copyRow.2.1 1 = .ok (.istore_n 3, 1) := by decide +kernel
theorem eX_copyRow_2 : decode mX_copyRow.2.1 2 = .ok (.iload_n 3, 1) := by decide +kernel
theorem eX_copyRow_3 : decode mX_copyRow.2.1 3 = .ok (.bipush 6, 2) := by decide +kernel
theorem eX_copyRow_5 : decode mX_copyRow.2.1 5 = .ok (.if_icmp .ge 29, 3) := by decide +kernel
theorem eX_copyRow_8 : decode mX_copyRow.2.1 8 = .ok (.aload_n 0, 1) := by decide +kernel
theorem eX_copyRow_9 : decode mX_copyRow.2.1 9 = .ok (.getfield 38, 3) := by decide +kernel
theorem eX_copyRow_12 : decode mX_copyRow.2.1 12 = .ok (.iload_n 2, 1) := by decide +kernel
theorem eX_copyRow_13 : decode mX_copyRow.2.1 13 = .ok (.iload_n 3, 1) := by decide +kernel
theorem eX_copyRow_14 : decode mX_copyRow.2.1 14 = .ok (.invokestatic 49, 3) := by decide +kernel
theorem eX_copyRow_17 : decode mX_copyRow.2.1 17 = .ok (.aload_n 0, 1) := by decide +kernel
theorem eX_copyRow_18 : decode mX_copyRow.2.1 18 = .ok (.getfield 38, 3) := by decide +kernel
theorem eX_copyRow_21 : decode mX_copyRow.2.1 21 = .ok (.iload_n 1, 1) := by decide +kernel
theorem eX_copyRow_22 : decode mX_copyRow.2.1 22 = .ok (.iload_n 3, 1) := by decide +kernel
theorem eX_copyRow_23 : decode mX_copyRow.2.1 23 = .ok (.invokestatic 49, 3) := by decide +kernel
theorem eX_copyRow_26 : decode mX_copyRow.2.1 26 = .ok (.baload, 1) := by decide +kernel
theorem eX_copyRow_27 : decode mX_copyRow.2.1 27 = .ok (.bastore, 1) := by decide +kernel
theorem eX_copyRow_28 : decode mX_copyRow.2.1 28 = .ok (.iinc 3 1, 3) := by decide +kernel
theorem eX_copyRow_31 : decode mX_copyRow.2.1 31 = .ok (.goto (-29), 3) := by decide +kernel
theorem eX_copyRow_34 : decode mX_copyRow.2.1 34 = .ok (.iconst 0, 1) := by decide +kernel
theorem eX_copyRow_35 : decode mX_copyRow.2.1 35 = .ok (.istore_n 3, 1) := by decide +kernel
theorem eX_copyRow_36 : decode mX_copyRow.2.1 36 = .ok (.iload_n 3, 1) := by decide +kernel
theorem eX_copyRow_37 : decode mX_copyRow.2.1 37 = .ok (.bipush 48, 2) := by decide +kernel
theorem eX_copyRow_39 : decode mX_copyRow.2.1 39 = .ok (.if_icmp .ge 30, 3) := by decide +kernel
theorem eX_copyRow_42 : decode mX_copyRow.2.1 42 = .ok (.aload_n 0, 1) := by decide +kernel
theorem eX_copyRow_43 : decode mX_copyRow.2.1 43 = .ok (.iload_n 2, 1) := by decide +kernel
theorem eX_copyRow_44 : decode mX_copyRow.2.1 44 = .ok (.bipush 48, 2) := by decide +kernel
theorem eX_copyRow_46 : decode mX_copyRow.2.1 46 = .ok (.imul, 1) := by decide +kernel
theorem eX_copyRow_47 : decode mX_copyRow.2.1 47 = .ok (.iload_n 3, 1) := by decide +kernel
theorem eX_copyRow_48 : decode mX_copyRow.2.1 48 = .ok (.iadd, 1) := by decide +kernel
theorem eX_copyRow_49 : decode mX_copyRow.2.1 49 = .ok (.aload_n 0, 1) := by decide +kernel
theorem eX_copyRow_50 : decode mX_copyRow.2.1 50 = .ok (.getfield 29, 3) := by decide +kernel
theorem eX_copyRow_53 : decode mX_copyRow.2.1 53 = .ok (.iload_n 1, 1) := by decide +kernel
theorem eX_copyRow_54 : decode mX_copyRow.2.1 54 = .ok (.bipush 48, 2) := by decide +kernel
theorem eX_copyRow_56 : decode mX_copyRow.2.1 56 = .ok (.imul, 1) := by decide +kernel
theorem eX_copyRow_57 : decode mX_copyRow.2.1 57 = .ok (.iload_n 3, 1) := by decide +kernel
theorem eX_copyRow_58 : decode mX_copyRow.2.1 58 = .ok (.iadd, 1) := by decide +kernel
theorem eX_copyRow_59 : decode mX_copyRow.2.1 59 = .ok (.iaload, 1) := by decide +kernel
theorem eX_copyRow_60 : decode mX_copyRow.2.1 60 = .ok (.invokevirtual 59, 3) := by decide +kernel
theorem eX_copyRow_63 : decode mX_copyRow.2.1 63 = .ok (.iinc 3 1, 3) := by decide +kernel
theorem eX_copyRow_66 : decode mX_copyRow.2.1 66 = .ok (.goto (-30), 3) := by decide +kernel
theorem eX_copyRow_69 : decode mX_copyRow.2.1 69 = .ok (.return_, 1) := by decide +kernel
theorem eX_clearRow_0 : decode mX_clearRow.2.1 0 = .ok (.iconst 0, 1) := by decide +kernel
theorem eX_clearRow_1 : decode mX_clearRow.2.1 1 = .ok (.istore_n 2, 1) := by decide +kernel
theorem eX_clearRow_2 : decode mX_clearRow.2.1 2 = .ok (.iload_n 2, 1) := by decide +kernel
theorem eX_clearRow_3 : decode mX_clearRow.2.1 3 = .ok (.bipush 48, 2) := by decide +kernel
theorem eX_clearRow_5 : decode mX_clearRow.2.1 5 = .ok (.if_icmp .ge 20, 3) := by decide +kernel
theorem eX_clearRow_8 : decode mX_clearRow.2.1 8 = .ok (.aload_n 0, 1) := by decide +kernel
theorem eX_clearRow_9 : decode mX_clearRow.2.1 9 = .ok (.iload_n 1, 1) := by decide +kernel
theorem eX_clearRow_10 : decode mX_clearRow.2.1 10 = .ok (.bipush 48, 2) := by decide +kernel
theorem eX_clearRow_12 : decode mX_clearRow.2.1 12 = .ok (.imul, 1) := by decide +kernel
theorem eX_clearRow_13 : decode mX_clearRow.2.1 13 = .ok (.iload_n 2, 1) := by decide +kernel
theorem eX_clearRow_14 : decode mX_clearRow.2.1 14 = .ok (.iadd, 1) := by decide +kernel
theorem eX_clearRow_15 : decode mX_clearRow.2.1 15 = .ok (.iconst (-1), 1) := by decide +kernel
theorem eX_clearRow_16 : decode mX_clearRow.2.1 16 = .ok (.invokevirtual 59, 3) := by decide +kernel
theorem eX_clearRow_19 : decode mX_clearRow.2.1 19 = .ok (.iinc 2 1, 3) := by decide +kernel
theorem eX_clearRow_22 : decode mX_clearRow.2.1 22 = .ok (.goto (-20), 3) := by decide +kernel
theorem eX_clearRow_25 : decode mX_clearRow.2.1 25 = .ok (.return_, 1) := by decide +kernel
theorem eX_fillFrame_0 : decode mX_fillFrame.2.1 0 = .ok (.iconst 0, 1) := by decide +kernel
theorem eX_fillFrame_1 : decode mX_fillFrame.2.1 1 = .ok (.istore_n 3, 1) := by decide +kernel
theorem eX_fillFrame_2 : decode mX_fillFrame.2.1 2 = .ok (.iload_n 3, 1) := by decide +kernel
theorem eX_fillFrame_3 : decode mX_fillFrame.2.1 3 = .ok (.bipush 16, 2) := by decide +kernel
theorem eX_fillFrame_5 : decode mX_fillFrame.2.1 5 = .ok (.if_icmp .ge 21, 3) := by decide +kernel
theorem eX_fillFrame_8 : decode mX_fillFrame.2.1 8 = .ok (.aload_n 0, 1) := by decide +kernel
theorem eX_fillFrame_9 : decode mX_fillFrame.2.1 9 = .ok (.getfield 22, 3) := by decide +kernel
theorem eX_fillFrame_12 : decode mX_fillFrame.2.1 12 = .ok (.iload_n 1, 1) := by decide +kernel
theorem eX_fillFrame_13 : decode mX_fillFrame.2.1 13 = .ok (.bipush 16, 2) := by decide +kernel
theorem eX_fillFrame_15 : decode mX_fillFrame.2.1 15 = .ok (.imul, 1) := by decide +kernel
theorem eX_fillFrame_16 : decode mX_fillFrame.2.1 16 = .ok (.iload_n 3, 1) := by decide +kernel
theorem eX_fillFrame_17 : decode mX_fillFrame.2.1 17 = .ok (.iadd, 1) := by decide +kernel
theorem eX_fillFrame_18 : decode mX_fillFrame.2.1 18 = .ok (.iload_n 2, 1) := by decide +kernel
theorem eX_fillFrame_19 : decode mX_fillFrame.2.1 19 = .ok (.iastore, 1) := by decide +kernel
theorem eX_fillFrame_20 : decode mX_fillFrame.2.1 20 = .ok (.iinc 3 1, 3) := by decide +kernel
theorem eX_fillFrame_23 : decode mX_fillFrame.2.1 23 = .ok (.goto (-21), 3) := by decide +kernel
theorem eX_fillFrame_26 : decode mX_fillFrame.2.1 26 = .ok (.return_, 1) := by decide +kernel
theorem eX_haveSameCells_0 : decode mX_haveSameCells.2.1 0 = .ok (.iconst 0, 1) := by decide +kernel
theorem eX_haveSameCells_1 : decode mX_haveSameCells.2.1 1 = .ok (.istore_n 3, 1) := by decide +kernel
theorem eX_haveSameCells_2 : decode mX_haveSameCells.2.1 2 = .ok (.iload_n 3, 1) := by decide +kernel
theorem eX_haveSameCells_3 : decode mX_haveSameCells.2.1 3 = .ok (.bipush 16, 2) := by decide +kernel
theorem eX_haveSameCells_5 : decode mX_haveSameCells.2.1 5 = .ok (.if_icmp .ge 36, 3) := by decide +kernel
theorem eX_haveSameCells_8 : decode mX_haveSameCells.2.1 8 = .ok (.aload_n 0, 1) := by decide +kernel
theorem eX_haveSameCells_9 : decode mX_haveSameCells.2.1 9 = .ok (.getfield 22, 3) := by decide +kernel
theorem eX_haveSameCells_12 : decode mX_haveSameCells.2.1 12 = .ok (.iload_n 1, 1) := by decide +kernel
theorem eX_haveSameCells_13 : decode mX_haveSameCells.2.1 13 = .ok (.bipush 16, 2) := by decide +kernel
theorem eX_haveSameCells_15 : decode mX_haveSameCells.2.1 15 = .ok (.imul, 1) := by decide +kernel
theorem eX_haveSameCells_16 : decode mX_haveSameCells.2.1 16 = .ok (.iload_n 3, 1) := by decide +kernel
theorem eX_haveSameCells_17 : decode mX_haveSameCells.2.1 17 = .ok (.iadd, 1) := by decide +kernel
theorem eX_haveSameCells_18 : decode mX_haveSameCells.2.1 18 = .ok (.iaload, 1) := by decide +kernel
theorem eX_haveSameCells_19 : decode mX_haveSameCells.2.1 19 = .ok (.aload_n 0, 1) := by decide +kernel
theorem eX_haveSameCells_20 : decode mX_haveSameCells.2.1 20 = .ok (.getfield 22, 3) := by decide +kernel
theorem eX_haveSameCells_23 : decode mX_haveSameCells.2.1 23 = .ok (.iload_n 2, 1) := by decide +kernel
theorem eX_haveSameCells_24 : decode mX_haveSameCells.2.1 24 = .ok (.bipush 16, 2) := by decide +kernel
theorem eX_haveSameCells_26 : decode mX_haveSameCells.2.1 26 = .ok (.imul, 1) := by decide +kernel
theorem eX_haveSameCells_27 : decode mX_haveSameCells.2.1 27 = .ok (.iload_n 3, 1) := by decide +kernel
theorem eX_haveSameCells_28 : decode mX_haveSameCells.2.1 28 = .ok (.iadd, 1) := by decide +kernel
theorem eX_haveSameCells_29 : decode mX_haveSameCells.2.1 29 = .ok (.iaload, 1) := by decide +kernel
theorem eX_haveSameCells_30 : decode mX_haveSameCells.2.1 30 = .ok (.if_icmp .eq 5, 3) := by decide +kernel
theorem eX_haveSameCells_33 : decode mX_haveSameCells.2.1 33 = .ok (.iconst 0, 1) := by decide +kernel
theorem eX_haveSameCells_34 : decode mX_haveSameCells.2.1 34 = .ok (.ireturn, 1) := by decide +kernel
theorem eX_haveSameCells_35 : decode mX_haveSameCells.2.1 35 = .ok (.iinc 3 1, 3) := by decide +kernel
theorem eX_haveSameCells_38 : decode mX_haveSameCells.2.1 38 = .ok (.goto (-36), 3) := by decide +kernel
theorem eX_haveSameCells_41 : decode mX_haveSameCells.2.1 41 = .ok (.iconst 1, 1) := by decide +kernel
theorem eX_haveSameCells_42 : decode mX_haveSameCells.2.1 42 = .ok (.ireturn, 1) := by decide +kernel
theorem eX_leastMissingSpace_0 : decode mX_leastMissingSpace.2.1 0 = .ok (.iconst 0, 1) := by decide +kernel
theorem eX_leastMissingSpace_1 : decode mX_leastMissingSpace.2.1 1 = .ok (.istore_n 1, 1) := by decide +kernel
theorem eX_leastMissingSpace_2 : decode mX_leastMissingSpace.2.1 2 = .ok (.iload_n 1, 1) := by decide +kernel
theorem eX_leastMissingSpace_3 : decode mX_leastMissingSpace.2.1 3 = .ok (.bipush 6, 2) := by decide +kernel
theorem eX_leastMissingSpace_5 : decode mX_leastMissingSpace.2.1 5 = .ok (.if_icmp .ge 25, 3) := by decide +kernel
theorem eX_leastMissingSpace_8 : decode mX_leastMissingSpace.2.1 8 = .ok (.aload_n 0, 1) := by decide +kernel
theorem eX_leastMissingSpace_9 : decode mX_leastMissingSpace.2.1 9 = .ok (.getfield 38, 3) := by decide +kernel
theorem eX_leastMissingSpace_12 : decode mX_leastMissingSpace.2.1 12 = .ok (.bipush 8, 2) := by decide +kernel
theorem eX_leastMissingSpace_14 : decode mX_leastMissingSpace.2.1 14 = .ok (.iload_n 1, 1) := by decide +kernel
theorem eX_leastMissingSpace_15 : decode mX_leastMissingSpace.2.1 15 = .ok (.invokestatic 49, 3) := by decide +kernel
theorem eX_leastMissingSpace_18 : decode mX_leastMissingSpace.2.1 18 = .ok (.baload, 1) := by decide +kernel
theorem eX_leastMissingSpace_19 : decode mX_leastMissingSpace.2.1 19 = .ok (.ifCond .ne 5, 3) := by decide +kernel
theorem eX_leastMissingSpace_22 : decode mX_leastMissingSpace.2.1 22 = .ok (.iload_n 1, 1) := by decide +kernel
theorem eX_leastMissingSpace_23 : decode mX_leastMissingSpace.2.1 23 = .ok (.ireturn, 1) := by decide +kernel
theorem eX_leastMissingSpace_24 : decode mX_leastMissingSpace.2.1 24 = .ok (.iinc 1 1, 3) := by decide +kernel
theorem eX_leastMissingSpace_27 : decode mX_leastMissingSpace.2.1 27 = .ok (.goto (-25), 3) := by decide +kernel
theorem eX_leastMissingSpace_30 : decode mX_leastMissingSpace.2.1 30 = .ok (.iconst (-1), 1) := by decide +kernel
theorem eX_leastMissingSpace_31 : decode mX_leastMissingSpace.2.1 31 = .ok (.ireturn, 1) := by decide +kernel
theorem eX_leastMissingPicture_0 : decode mX_leastMissingPicture.2.1 0 = .ok (.iconst 0, 1) := by decide +kernel
theorem eX_leastMissingPicture_1 : decode mX_leastMissingPicture.2.1 1 = .ok (.istore_n 1, 1) := by decide +kernel
theorem eX_leastMissingPicture_2 : decode mX_leastMissingPicture.2.1 2 = .ok (.iload_n 1, 1) := by decide +kernel
theorem eX_leastMissingPicture_3 : decode mX_leastMissingPicture.2.1 3 = .ok (.bipush 8, 2) := by decide +kernel
theorem eX_leastMissingPicture_5 : decode mX_leastMissingPicture.2.1 5 = .ok (.if_icmp .ge 20, 3) := by decide +kernel
theorem eX_leastMissingPicture_8 : decode mX_leastMissingPicture.2.1 8 = .ok (.aload_n 0, 1) := by decide +kernel
theorem eX_leastMissingPicture_9 : decode mX_leastMissingPicture.2.1 9 = .ok (.getfield 42, 3) := by decide +kernel
theorem eX_leastMissingPicture_12 : decode mX_leastMissingPicture.2.1 12 = .ok (.iload_n 1, 1) := by decide +kernel
theorem eX_leastMissingPicture_13 : decode mX_leastMissingPicture.2.1 13 = .ok (.baload, 1) := by decide +kernel
theorem eX_leastMissingPicture_14 : decode mX_leastMissingPicture.2.1 14 = .ok (.ifCond .ne 5, 3) := by decide +kernel
theorem eX_leastMissingPicture_17 : decode mX_leastMissingPicture.2.1 17 = .ok (.iload_n 1, 1) := by decide +kernel
theorem eX_leastMissingPicture_18 : decode mX_leastMissingPicture.2.1 18 = .ok (.ireturn, 1) := by decide +kernel
theorem eX_leastMissingPicture_19 : decode mX_leastMissingPicture.2.1 19 = .ok (.iinc 1 1, 3) := by decide +kernel
theorem eX_leastMissingPicture_22 : decode mX_leastMissingPicture.2.1 22 = .ok (.goto (-20), 3) := by decide +kernel
theorem eX_leastMissingPicture_25 : decode mX_leastMissingPicture.2.1 25 = .ok (.iconst (-1), 1) := by decide +kernel
theorem eX_leastMissingPicture_26 : decode mX_leastMissingPicture.2.1 26 = .ok (.ireturn, 1) := by decide +kernel
theorem eX_framesInUse_0 : decode mX_framesInUse.2.1 0 = .ok (.iconst 0, 1) := by decide +kernel
theorem eX_framesInUse_1 : decode mX_framesInUse.2.1 1 = .ok (.istore_n 1, 1) := by decide +kernel
theorem eX_framesInUse_2 : decode mX_framesInUse.2.1 2 = .ok (.iconst 0, 1) := by decide +kernel
theorem eX_framesInUse_3 : decode mX_framesInUse.2.1 3 = .ok (.istore_n 2, 1) := by decide +kernel
theorem eX_framesInUse_4 : decode mX_framesInUse.2.1 4 = .ok (.iload_n 2, 1) := by decide +kernel
theorem eX_framesInUse_5 : decode mX_framesInUse.2.1 5 = .ok (.aload_n 0, 1) := by decide +kernel
theorem eX_framesInUse_6 : decode mX_framesInUse.2.1 6 = .ok (.getfield 18, 3) := by decide +kernel
theorem eX_framesInUse_9 : decode mX_framesInUse.2.1 9 = .ok (.if_icmp .ge 21, 3) := by decide +kernel
theorem eX_framesInUse_12 : decode mX_framesInUse.2.1 12 = .ok (.aload_n 0, 1) := by decide +kernel
theorem eX_framesInUse_13 : decode mX_framesInUse.2.1 13 = .ok (.getfield 26, 3) := by decide +kernel
theorem eX_framesInUse_16 : decode mX_framesInUse.2.1 16 = .ok (.iload_n 2, 1) := by decide +kernel
theorem eX_framesInUse_17 : decode mX_framesInUse.2.1 17 = .ok (.iaload, 1) := by decide +kernel
theorem eX_framesInUse_18 : decode mX_framesInUse.2.1 18 = .ok (.ifCond .le 6, 3) := by decide +kernel
theorem eX_framesInUse_21 : decode mX_framesInUse.2.1 21 = .ok (.iinc 1 1, 3) := by decide +kernel
theorem eX_framesInUse_24 : decode mX_framesInUse.2.1 24 = .ok (.iinc 2 1, 3) := by decide +kernel
theorem eX_framesInUse_27 : decode mX_framesInUse.2.1 27 = .ok (.goto (-23), 3) := by decide +kernel
theorem eX_framesInUse_30 : decode mX_framesInUse.2.1 30 = .ok (.iload_n 1, 1) := by decide +kernel
theorem eX_framesInUse_31 : decode mX_framesInUse.2.1 31 = .ok (.ireturn, 1) := by decide +kernel
theorem eX_spacesNow_0 : decode mX_spacesNow.2.1 0 = .ok (.iconst 0, 1) := by decide +kernel
theorem eX_spacesNow_1 : decode mX_spacesNow.2.1 1 = .ok (.istore_n 1, 1) := by decide +kernel
theorem eX_spacesNow_2 : decode mX_spacesNow.2.1 2 = .ok (.iconst 0, 1) := by decide +kernel
theorem eX_spacesNow_3 : decode mX_spacesNow.2.1 3 = .ok (.istore_n 2, 1) := by decide +kernel
theorem eX_spacesNow_4 : decode mX_spacesNow.2.1 4 = .ok (.iload_n 2, 1) := by decide +kernel
theorem eX_spacesNow_5 : decode mX_spacesNow.2.1 5 = .ok (.bipush 6, 2) := by decide +kernel
theorem eX_spacesNow_7 : decode mX_spacesNow.2.1 7 = .ok (.if_icmp .ge 26, 3) := by decide +kernel
theorem eX_spacesNow_10 : decode mX_spacesNow.2.1 10 = .ok (.aload_n 0, 1) := by decide +kernel
theorem eX_spacesNow_11 : decode mX_spacesNow.2.1 11 = .ok (.getfield 38, 3) := by decide +kernel
theorem eX_spacesNow_14 : decode mX_spacesNow.2.1 14 = .ok (.bipush 8, 2) := by decide +kernel
theorem eX_spacesNow_16 : decode mX_spacesNow.2.1 16 = .ok (.iload_n 2, 1) := by decide +kernel
theorem eX_spacesNow_17 : decode mX_spacesNow.2.1 17 = .ok (.invokestatic 49, 3) := by decide +kernel
theorem eX_spacesNow_20 : decode mX_spacesNow.2.1 20 = .ok (.baload, 1) := by decide +kernel
theorem eX_spacesNow_21 : decode mX_spacesNow.2.1 21 = .ok (.ifCond .eq 6, 3) := by decide +kernel
theorem eX_spacesNow_24 : decode mX_spacesNow.2.1 24 = .ok (.iinc 1 1, 3) := by decide +kernel
theorem eX_spacesNow_27 : decode mX_spacesNow.2.1 27 = .ok (.iinc 2 1, 3) := by decide +kernel
theorem eX_spacesNow_30 : decode mX_spacesNow.2.1 30 = .ok (.goto (-26), 3) := by decide +kernel
theorem eX_spacesNow_33 : decode mX_spacesNow.2.1 33 = .ok (.iload_n 1, 1) := by decide +kernel
theorem eX_spacesNow_34 : decode mX_spacesNow.2.1 34 = .ok (.ireturn, 1) := by decide +kernel
theorem eX_picturesNow_0 : decode mX_picturesNow.2.1 0 = .ok (.iconst 0, 1) := by decide +kernel
theorem eX_picturesNow_1 : decode mX_picturesNow.2.1 1 = .ok (.istore_n 1, 1) := by decide +kernel
theorem eX_picturesNow_2 : decode mX_picturesNow.2.1 2 = .ok (.iconst 0, 1) := by decide +kernel
theorem eX_picturesNow_3 : decode mX_picturesNow.2.1 3 = .ok (.istore_n 2, 1) := by decide +kernel
theorem eX_picturesNow_4 : decode mX_picturesNow.2.1 4 = .ok (.iload_n 2, 1) := by decide +kernel
theorem eX_picturesNow_5 : decode mX_picturesNow.2.1 5 = .ok (.bipush 8, 2) := by decide +kernel
theorem eX_picturesNow_7 : decode mX_picturesNow.2.1 7 = .ok (.if_icmp .ge 21, 3) := by decide +kernel
theorem eX_picturesNow_10 : decode mX_picturesNow.2.1 10 = .ok (.aload_n 0, 1) := by decide +kernel
theorem eX_picturesNow_11 : decode mX_picturesNow.2.1 11 = .ok (.getfield 42, 3) := by decide +kernel
theorem eX_picturesNow_14 : decode mX_picturesNow.2.1 14 = .ok (.iload_n 2, 1) := by decide +kernel
theorem eX_picturesNow_15 : decode mX_picturesNow.2.1 15 = .ok (.baload, 1) := by decide +kernel
theorem eX_picturesNow_16 : decode mX_picturesNow.2.1 16 = .ok (.ifCond .eq 6, 3) := by decide +kernel
theorem eX_picturesNow_19 : decode mX_picturesNow.2.1 19 = .ok (.iinc 1 1, 3) := by decide +kernel
theorem eX_picturesNow_22 : decode mX_picturesNow.2.1 22 = .ok (.iinc 2 1, 3) := by decide +kernel
theorem eX_picturesNow_25 : decode mX_picturesNow.2.1 25 = .ok (.goto (-21), 3) := by decide +kernel
theorem eX_picturesNow_28 : decode mX_picturesNow.2.1 28 = .ok (.iload_n 1, 1) := by decide +kernel
theorem eX_picturesNow_29 : decode mX_picturesNow.2.1 29 = .ok (.ireturn, 1) := by decide +kernel
theorem eX_pagesNow_0 : decode mX_pagesNow.2.1 0 = .ok (.iconst 0, 1) := by decide +kernel
theorem eX_pagesNow_1 : decode mX_pagesNow.2.1 1 = .ok (.istore_n 1, 1) := by decide +kernel
theorem eX_pagesNow_2 : decode mX_pagesNow.2.1 2 = .ok (.iconst 0, 1) := by decide +kernel
theorem eX_pagesNow_3 : decode mX_pagesNow.2.1 3 = .ok (.istore_n 2, 1) := by decide +kernel
theorem eX_pagesNow_4 : decode mX_pagesNow.2.1 4 = .ok (.iload_n 2, 1) := by decide +kernel
theorem eX_pagesNow_5 : decode mX_pagesNow.2.1 5 = .ok (.bipush 6, 2) := by decide +kernel
theorem eX_pagesNow_7 : decode mX_pagesNow.2.1 7 = .ok (.if_icmp .ge 17, 3) := by decide +kernel
theorem eX_pagesNow_10 : decode mX_pagesNow.2.1 10 = .ok (.iload_n 1, 1) := by decide +kernel
theorem eX_pagesNow_11 : decode mX_pagesNow.2.1 11 = .ok (.aload_n 0, 1) := by decide +kernel
theorem eX_pagesNow_12 : decode mX_pagesNow.2.1 12 = .ok (.iload_n 2, 1) := by decide +kernel
theorem eX_pagesNow_13 : decode mX_pagesNow.2.1 13 = .ok (.invokevirtual 63, 3) := by decide +kernel
theorem eX_pagesNow_16 : decode mX_pagesNow.2.1 16 = .ok (.iadd, 1) := by decide +kernel
theorem eX_pagesNow_17 : decode mX_pagesNow.2.1 17 = .ok (.istore_n 1, 1) := by decide +kernel
theorem eX_pagesNow_18 : decode mX_pagesNow.2.1 18 = .ok (.iinc 2 1, 3) := by decide +kernel
theorem eX_pagesNow_21 : decode mX_pagesNow.2.1 21 = .ok (.goto (-17), 3) := by decide +kernel
theorem eX_pagesNow_24 : decode mX_pagesNow.2.1 24 = .ok (.iload_n 1, 1) := by decide +kernel
theorem eX_pagesNow_25 : decode mX_pagesNow.2.1 25 = .ok (.ireturn, 1) := by decide +kernel
theorem eX_pagesOfSpace_0 : decode mX_pagesOfSpace.2.1 0 = .ok (.iconst 0, 1) := by decide +kernel
theorem eX_pagesOfSpace_1 : decode mX_pagesOfSpace.2.1 1 = .ok (.istore_n 2, 1) := by decide +kernel
theorem eX_pagesOfSpace_2 : decode mX_pagesOfSpace.2.1 2 = .ok (.iconst 0, 1) := by decide +kernel
theorem eX_pagesOfSpace_3 : decode mX_pagesOfSpace.2.1 3 = .ok (.istore_n 3, 1) := by decide +kernel
theorem eX_pagesOfSpace_4 : decode mX_pagesOfSpace.2.1 4 = .ok (.iload_n 3, 1) := by decide +kernel
theorem eX_pagesOfSpace_5 : decode mX_pagesOfSpace.2.1 5 = .ok (.bipush 8, 2) := by decide +kernel
theorem eX_pagesOfSpace_7 : decode mX_pagesOfSpace.2.1 7 = .ok (.if_icmp .ge 29, 3) := by decide +kernel
theorem eX_pagesOfSpace_10 : decode mX_pagesOfSpace.2.1 10 = .ok (.aload_n 0, 1) := by decide +kernel
theorem eX_pagesOfSpace_11 : decode mX_pagesOfSpace.2.1 11 = .ok (.aload_n 0, 1) := by decide +kernel
theorem eX_pagesOfSpace_12 : decode mX_pagesOfSpace.2.1 12 = .ok (.getfield 29, 3) := by decide +kernel
theorem eX_pagesOfSpace_15 : decode mX_pagesOfSpace.2.1 15 = .ok (.iload_n 1, 1) := by decide +kernel
theorem eX_pagesOfSpace_16 : decode mX_pagesOfSpace.2.1 16 = .ok (.iload_n 3, 1) := by decide +kernel
theorem eX_pagesOfSpace_17 : decode mX_pagesOfSpace.2.1 17 = .ok (.invokestatic 56, 3) := by decide +kernel
theorem eX_pagesOfSpace_20 : decode mX_pagesOfSpace.2.1 20 = .ok (.iaload, 1) := by decide +kernel
theorem eX_pagesOfSpace_21 : decode mX_pagesOfSpace.2.1 21 = .ok (.invokevirtual 70, 3) := by decide +kernel
theorem eX_pagesOfSpace_24 : decode mX_pagesOfSpace.2.1 24 = .ok (.ifCond .eq 6, 3) := by decide +kernel
theorem eX_pagesOfSpace_27 : decode mX_pagesOfSpace.2.1 27 = .ok (.iinc 2 1, 3) := by decide +kernel
theorem eX_pagesOfSpace_30 : decode mX_pagesOfSpace.2.1 30 = .ok (.iinc 3 1, 3) := by decide +kernel
theorem eX_pagesOfSpace_33 : decode mX_pagesOfSpace.2.1 33 = .ok (.goto (-29), 3) := by decide +kernel
theorem eX_pagesOfSpace_36 : decode mX_pagesOfSpace.2.1 36 = .ok (.iload_n 2, 1) := by decide +kernel
theorem eX_pagesOfSpace_37 : decode mX_pagesOfSpace.2.1 37 = .ok (.ireturn, 1) := by decide +kernel
theorem eX_isFrame_0 : decode mX_isFrame.2.1 0 = .ok (.iload_n 1, 1) := by decide +kernel
theorem eX_isFrame_1 : decode mX_isFrame.2.1 1 = .ok (.ifCond .lt 15, 3) := by decide +kernel
theorem eX_isFrame_4 : decode mX_isFrame.2.1 4 = .ok (.iload_n 1, 1) := by decide +kernel
theorem eX_isFrame_5 : decode mX_isFrame.2.1 5 = .ok (.aload_n 0, 1) := by decide +kernel
theorem eX_isFrame_6 : decode mX_isFrame.2.1 6 = .ok (.getfield 18, 3) := by decide +kernel
theorem eX_isFrame_9 : decode mX_isFrame.2.1 9 = .ok (.if_icmp .ge 7, 3) := by decide +kernel
theorem eX_isFrame_12 : decode mX_isFrame.2.1 12 = .ok (.iconst 1, 1) := by decide +kernel
theorem eX_isFrame_13 : decode mX_isFrame.2.1 13 = .ok (.goto 4, 3) := by decide +kernel
theorem eX_isFrame_16 : decode mX_isFrame.2.1 16 = .ok (.iconst 0, 1) := by decide +kernel
theorem eX_isFrame_17 : decode mX_isFrame.2.1 17 = .ok (.ireturn, 1) := by decide +kernel
theorem eX_spaceIndex_0 : decode mX_spaceIndex.2.1 0 = .ok (.iload_n 0, 1) := by decide +kernel
theorem eX_spaceIndex_1 : decode mX_spaceIndex.2.1 1 = .ok (.bipush 6, 2) := by decide +kernel
theorem eX_spaceIndex_3 : decode mX_spaceIndex.2.1 3 = .ok (.imul, 1) := by decide +kernel
theorem eX_spaceIndex_4 : decode mX_spaceIndex.2.1 4 = .ok (.iload_n 1, 1) := by decide +kernel
theorem eX_spaceIndex_5 : decode mX_spaceIndex.2.1 5 = .ok (.iadd, 1) := by decide +kernel
theorem eX_spaceIndex_6 : decode mX_spaceIndex.2.1 6 = .ok (.ireturn, 1) := by decide +kernel
theorem eX_pageNow_0 : decode mX_pageNow.2.1 0 = .ok (.sipush 384, 3) := by decide +kernel
theorem eX_pageNow_3 : decode mX_pageNow.2.1 3 = .ok (.iload_n 0, 1) := by decide +kernel
theorem eX_pageNow_4 : decode mX_pageNow.2.1 4 = .ok (.bipush 8, 2) := by decide +kernel
theorem eX_pageNow_6 : decode mX_pageNow.2.1 6 = .ok (.imul, 1) := by decide +kernel
theorem eX_pageNow_7 : decode mX_pageNow.2.1 7 = .ok (.iadd, 1) := by decide +kernel
theorem eX_pageNow_8 : decode mX_pageNow.2.1 8 = .ok (.iload_n 1, 1) := by decide +kernel
theorem eX_pageNow_9 : decode mX_pageNow.2.1 9 = .ok (.iadd, 1) := by decide +kernel
theorem eX_pageNow_10 : decode mX_pageNow.2.1 10 = .ok (.ireturn, 1) := by decide +kernel
theorem eX_cellIndex_0 : decode mX_cellIndex.2.1 0 = .ok (.iload_n 0, 1) := by decide +kernel
theorem eX_cellIndex_1 : decode mX_cellIndex.2.1 1 = .ok (.bipush 16, 2) := by decide +kernel
theorem eX_cellIndex_3 : decode mX_cellIndex.2.1 3 = .ok (.imul, 1) := by decide +kernel
theorem eX_cellIndex_4 : decode mX_cellIndex.2.1 4 = .ok (.iload_n 1, 1) := by decide +kernel
theorem eX_cellIndex_5 : decode mX_cellIndex.2.1 5 = .ok (.bipush 16, 2) := by decide +kernel
theorem eX_cellIndex_7 : decode mX_cellIndex.2.1 7 = .ok (.irem, 1) := by decide +kernel
theorem eX_cellIndex_8 : decode mX_cellIndex.2.1 8 = .ok (.iadd, 1) := by decide +kernel
theorem eX_cellIndex_9 : decode mX_cellIndex.2.1 9 = .ok (.ireturn, 1) := by decide +kernel
theorem eX_init_0 : decode mX_init.2.1 0 = .ok (.aload_n 0, 1) := by decide +kernel
theorem eX_init_1 : decode mX_init.2.1 1 = .ok (.invokespecial 3, 3) := by decide +kernel
theorem eX_init_4 : decode mX_init.2.1 4 = .ok (.aload_n 0, 1) := by decide +kernel
theorem eX_init_5 : decode mX_init.2.1 5 = .ok (.iconst 1, 1) := by decide +kernel
theorem eX_init_6 : decode mX_init.2.1 6 = .ok (.bipush 60, 2) := by decide +kernel
theorem eX_init_8 : decode mX_init.2.1 8 = .ok (.iload_n 1, 1) := by decide +kernel
theorem eX_init_9 : decode mX_init.2.1 9 = .ok (.invokestatic 9, 3) := by decide +kernel
theorem eX_init_12 : decode mX_init.2.1 12 = .ok (.invokestatic 15, 3) := by decide +kernel
theorem eX_init_15 : decode mX_init.2.1 15 = .ok (.putfield 18, 3) := by decide +kernel
theorem eX_init_18 : decode mX_init.2.1 18 = .ok (.aload_n 0, 1) := by decide +kernel
theorem eX_init_19 : decode mX_init.2.1 19 = .ok (.aload_n 0, 1) := by decide +kernel
theorem eX_init_20 : decode mX_init.2.1 20 = .ok (.getfield 18, 3) := by decide +kernel
theorem eX_init_23 : decode mX_init.2.1 23 = .ok (.bipush 16, 2) := by decide +kernel
theorem eX_init_25 : decode mX_init.2.1 25 = .ok (.imul, 1) := by decide +kernel
theorem eX_init_26 : decode mX_init.2.1 26 = .ok (.newarray .int, 2) := by decide +kernel
theorem eX_init_28 : decode mX_init.2.1 28 = .ok (.putfield 22, 3) := by decide +kernel
theorem eX_init_31 : decode mX_init.2.1 31 = .ok (.aload_n 0, 1) := by decide +kernel
theorem eX_init_32 : decode mX_init.2.1 32 = .ok (.aload_n 0, 1) := by decide +kernel
theorem eX_init_33 : decode mX_init.2.1 33 = .ok (.getfield 18, 3) := by decide +kernel
theorem eX_init_36 : decode mX_init.2.1 36 = .ok (.newarray .int, 2) := by decide +kernel
theorem eX_init_38 : decode mX_init.2.1 38 = .ok (.putfield 26, 3) := by decide +kernel
theorem eX_init_41 : decode mX_init.2.1 41 = .ok (.aload_n 0, 1) := by decide +kernel
theorem eX_init_42 : decode mX_init.2.1 42 = .ok (.sipush 432, 3) := by decide +kernel
theorem eX_init_45 : decode mX_init.2.1 45 = .ok (.newarray .int, 2) := by decide +kernel
theorem eX_init_47 : decode mX_init.2.1 47 = .ok (.putfield 29, 3) := by decide +kernel
theorem eX_init_50 : decode mX_init.2.1 50 = .ok (.aload_n 0, 1) := by decide +kernel
theorem eX_init_51 : decode mX_init.2.1 51 = .ok (.getfield 29, 3) := by decide +kernel
theorem eX_init_54 : decode mX_init.2.1 54 = .ok (.iconst (-1), 1) := by decide +kernel
theorem eX_init_55 : decode mX_init.2.1 55 = .ok (.invokestatic 32, 3) := by decide +kernel
theorem eX_init_58 : decode mX_init.2.1 58 = .ok (.aload_n 0, 1) := by decide +kernel
theorem eX_init_59 : decode mX_init.2.1 59 = .ok (.bipush 54, 2) := by decide +kernel
theorem eX_init_61 : decode mX_init.2.1 61 = .ok (.newarray .boolean, 2) := by decide +kernel
theorem eX_init_63 : decode mX_init.2.1 63 = .ok (.putfield 38, 3) := by decide +kernel
theorem eX_init_66 : decode mX_init.2.1 66 = .ok (.aload_n 0, 1) := by decide +kernel
theorem eX_init_67 : decode mX_init.2.1 67 = .ok (.bipush 8, 2) := by decide +kernel
theorem eX_init_69 : decode mX_init.2.1 69 = .ok (.newarray .boolean, 2) := by decide +kernel
theorem eX_init_71 : decode mX_init.2.1 71 = .ok (.putfield 42, 3) := by decide +kernel
theorem eX_init_74 : decode mX_init.2.1 74 = .ok (.return_, 1) := by decide +kernel
