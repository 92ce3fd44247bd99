theorem dX0_init_0 : decode cX0_init 0 = .ok (.aload_n 0, 1) := by decide +kernel
theorem dX0_init_1 : decode cX0_init 1 = .ok (.invokespecial 3, 3) := by decide +kernel
theorem dX0_init_4 : decode cX0_init 4 = .ok (.aload_n 0, 1) := by decide +kernel
theorem dX0_init_5 : decode cX0_init 5 = .ok (.bipush 48, 2) := by decide +kernel
theorem dX0_init_7 : decode cX0_init 7 = .ok (.anewarray 11, 3) := by decide +kernel
theorem dX0_init_10 : decode cX0_init 10 = .ok (.putfield 13, 3) := by decide +kernel
theorem dX0_init_13 : decode cX0_init 13 = .ok (.aload_n 0, 1) := by decide +kernel
theorem dX0_init_14 : decode cX0_init 14 = .ok (.bipush 6, 2) := by decide +kernel
theorem dX0_init_16 : decode cX0_init 16 = .ok (.newarray .int, 2) := by decide +kernel
theorem dX0_init_18 : decode cX0_init 18 = .ok (.putfield 17, 3) := by decide +kernel
theorem dX0_init_21 : decode cX0_init 21 = .ok (.iconst 0, 1) := by decide +kernel
theorem dX0_init_22 : decode cX0_init 22 = .ok (.istore_n 1, 1) := by decide +kernel
theorem dX0_init_23 : decode cX0_init 23 = .ok (.iload_n 1, 1) := by decide +kernel
theorem dX0_init_24 : decode cX0_init 24 = .ok (.bipush 48, 2) := by decide +kernel
theorem dX0_init_26 : decode cX0_init 26 = .ok (.if_icmp .ge 22, 3) := by decide +kernel
theorem dX0_init_29 : decode cX0_init 29 = .ok (.aload_n 0, 1) := by decide +kernel
theorem dX0_init_30 : decode cX0_init 30 = .ok (.getfield 13, 3) := by decide +kernel
theorem dX0_init_33 : decode cX0_init 33 = .ok (.iload_n 1, 1) := by decide +kernel
theorem dX0_init_34 : decode cX0_init 34 = .ok (.new 11, 3) := by decide +kernel
theorem dX0_init_37 : decode cX0_init 37 = .ok (.dup, 1) := by decide +kernel
theorem dX0_init_38 : decode cX0_init 38 = .ok (.invokespecial 21, 3) := by decide +kernel
theorem dX0_init_41 : decode cX0_init 41 = .ok (.aastore, 1) := by decide +kernel
theorem dX0_init_42 : decode cX0_init 42 = .ok (.iinc 1 1, 3) := by decide +kernel
theorem dX0_init_45 : decode cX0_init 45 = .ok (.goto (-22), 3) := by decide +kernel
theorem dX0_init_48 : decode cX0_init 48 = .ok (.return_, 1) := by decide +kernel
theorem dX0_holds_0 : decode cX0_holds 0 = .ok (.iload_n 1, 1) := by decide +kernel
theorem dX0_holds_1 : decode cX0_holds 1 = .ok (.ifCond .lt 15, 3) := by decide +kernel
theorem dX0_holds_4 : decode cX0_holds 4 = .ok (.iload_n 1, 1) := by decide +kernel
theorem dX0_holds_5 : decode cX0_holds 5 = .ok (.aload_n 0, 1) := by decide +kernel
theorem dX0_holds_6 : decode cX0_holds 6 = .ok (.getfield 22, 3) := by decide +kernel
theorem dX0_holds_9 : decode cX0_holds 9 = .ok (.if_icmp .ge 7, 3) := by decide +kernel
theorem dX0_holds_12 : decode cX0_holds 12 = .ok (.iconst 1, 1) := by decide +kernel
theorem dX0_holds_13 : decode cX0_holds 13 = .ok (.goto 4, 3) := by decide +kernel
theorem dX0_holds_16 : decode cX0_holds 16 = .ok (.iconst 0, 1) := by decide +kernel
theorem dX0_holds_17 : decode cX0_holds 17 = .ok (.ireturn, 1) := by decide +kernel
theorem dX0_isFull_0 : decode cX0_isFull 0 = .ok (.aload_n 0, 1) := by decide +kernel
theorem dX0_isFull_1 : decode cX0_isFull 1 = .ok (.getfield 22, 3) := by decide +kernel
theorem dX0_isFull_4 : decode cX0_isFull 4 = .ok (.bipush 48, 2) := by decide +kernel
theorem dX0_isFull_6 : decode cX0_isFull 6 = .ok (.if_icmp .lt 7, 3) := by decide +kernel
theorem dX0_isFull_9 : decode cX0_isFull 9 = .ok (.iconst 1, 1) := by decide +kernel
theorem dX0_isFull_10 : decode cX0_isFull 10 = .ok (.goto 4, 3) := by decide +kernel
theorem dX0_isFull_13 : decode cX0_isFull 13 = .ok (.iconst 0, 1) := by decide +kernel
theorem dX0_isFull_14 : decode cX0_isFull 14 = .ok (.ireturn, 1) := by decide +kernel
theorem dX0_at_0 : decode cX0_at 0 = .ok (.aload_n 0, 1) := by decide +kernel
theorem dX0_at_1 : decode cX0_at 1 = .ok (.getfield 13, 3) := by decide +kernel
theorem dX0_at_4 : decode cX0_at 4 = .ok (.iload_n 1, 1) := by decide +kernel
theorem dX0_at_5 : decode cX0_at 5 = .ok (.aaload, 1) := by decide +kernel
theorem dX0_at_6 : decode cX0_at 6 = .ok (.areturn, 1) := by decide +kernel
theorem dX0_settle_0 : decode cX0_settle 0 = .ok (.aload_n 0, 1) := by decide +kernel
theorem dX0_settle_1 : decode cX0_settle 1 = .ok (.getfield 13, 3) := by decide +kernel
theorem dX0_settle_4 : decode cX0_settle 4 = .ok (.aload_n 0, 1) := by decide +kernel
theorem dX0_settle_5 : decode cX0_settle 5 = .ok (.getfield 22, 3) := by decide +kernel
theorem dX0_settle_8 : decode cX0_settle 8 = .ok (.aaload, 1) := by decide +kernel
theorem dX0_settle_9 : decode cX0_settle 9 = .ok (.astore 6, 2) := by decide +kernel
theorem dX0_settle_11 : decode cX0_settle 11 = .ok (.aload 6, 2) := by decide +kernel
theorem dX0_settle_13 : decode cX0_settle 13 = .ok (.iload_n 1, 1) := by decide +kernel
theorem dX0_settle_14 : decode cX0_settle 14 = .ok (.putfield 26, 3) := by decide +kernel
theorem dX0_settle_17 : decode cX0_settle 17 = .ok (.aload 6, 2) := by decide +kernel
theorem dX0_settle_19 : decode cX0_settle 19 = .ok (.iload_n 2, 1) := by decide +kernel
theorem dX0_settle_20 : decode cX0_settle 20 = .ok (.putfield 29, 3) := by decide +kernel
theorem dX0_settle_23 : decode cX0_settle 23 = .ok (.aload 6, 2) := by decide +kernel
theorem dX0_settle_25 : decode cX0_settle 25 = .ok (.iload_n 3, 1) := by decide +kernel
theorem dX0_settle_26 : decode cX0_settle 26 = .ok (.putfield 32, 3) := by decide +kernel
theorem dX0_settle_29 : decode cX0_settle 29 = .ok (.aload 6, 2) := by decide +kernel
theorem dX0_settle_31 : decode cX0_settle 31 = .ok (.iload 4, 2) := by decide +kernel
theorem dX0_settle_33 : decode cX0_settle 33 = .ok (.putfield 35, 3) := by decide +kernel
theorem dX0_settle_36 : decode cX0_settle 36 = .ok (.aload 6, 2) := by decide +kernel
theorem dX0_settle_38 : decode cX0_settle 38 = .ok (.iload 5, 2) := by decide +kernel
theorem dX0_settle_40 : decode cX0_settle 40 = .ok (.putfield 38, 3) := by decide +kernel
theorem dX0_settle_43 : decode cX0_settle 43 = .ok (.aload_n 0, 1) := by decide +kernel
theorem dX0_settle_44 : decode cX0_settle 44 = .ok (.dup, 1) := by decide +kernel
theorem dX0_settle_45 : decode cX0_settle 45 = .ok (.getfield 22, 3) := by decide +kernel
theorem dX0_settle_48 : decode cX0_settle 48 = .ok (.iconst 1, 1) := by decide +kernel
theorem dX0_settle_49 : decode cX0_settle 49 = .ok (.iadd, 1) := by decide +kernel
theorem dX0_settle_50 : decode cX0_settle 50 = .ok (.putfield 22, 3) := by decide +kernel
theorem dX0_settle_53 : decode cX0_settle 53 = .ok (.aload_n 0, 1) := by decide +kernel
theorem dX0_settle_54 : decode cX0_settle 54 = .ok (.getfield 22, 3) := by decide +kernel
theorem dX0_settle_57 : decode cX0_settle 57 = .ok (.iconst 1, 1) := by decide +kernel
theorem dX0_settle_58 : decode cX0_settle 58 = .ok (.isub, 1) := by decide +kernel
theorem dX0_settle_59 : decode cX0_settle 59 = .ok (.ireturn, 1) := by decide +kernel
theorem dX0_tally_0 : decode cX0_tally 0 = .ok (.iconst 0, 1) := by decide +kernel
theorem dX0_tally_1 : decode cX0_tally 1 = .ok (.istore 4, 2) := by decide +kernel
theorem dX0_tally_3 : decode cX0_tally 3 = .ok (.iconst 0, 1) := by decide +kernel
theorem dX0_tally_4 : decode cX0_tally 4 = .ok (.istore 5, 2) := by decide +kernel
theorem dX0_tally_6 : decode cX0_tally 6 = .ok (.iload 5, 2) := by decide +kernel
theorem dX0_tally_8 : decode cX0_tally 8 = .ok (.aload_n 0, 1) := by decide +kernel
theorem dX0_tally_9 : decode cX0_tally 9 = .ok (.getfield 22, 3) := by decide +kernel
theorem dX0_tally_12 : decode cX0_tally 12 = .ok (.if_icmp .ge 58, 3) := by decide +kernel
theorem dX0_tally_15 : decode cX0_tally 15 = .ok (.aload_n 0, 1) := by decide +kernel
theorem dX0_tally_16 : decode cX0_tally 16 = .ok (.getfield 13, 3) := by decide +kernel
theorem dX0_tally_19 : decode cX0_tally 19 = .ok (.iload 5, 2) := by decide +kernel
theorem dX0_tally_21 : decode cX0_tally 21 = .ok (.aaload, 1) := by decide +kernel
theorem dX0_tally_22 : decode cX0_tally 22 = .ok (.astore 6, 2) := by decide +kernel
theorem dX0_tally_24 : decode cX0_tally 24 = .ok (.aload 6, 2) := by decide +kernel
theorem dX0_tally_26 : decode cX0_tally 26 = .ok (.getfield 41, 3) := by decide +kernel
theorem dX0_tally_29 : decode cX0_tally 29 = .ok (.iload_n 3, 1) := by decide +kernel
theorem dX0_tally_30 : decode cX0_tally 30 = .ok (.if_icmp .ne 34, 3) := by decide +kernel
theorem dX0_tally_33 : decode cX0_tally 33 = .ok (.iload_n 1, 1) := by decide +kernel
theorem dX0_tally_34 : decode cX0_tally 34 = .ok (.iconst (-1), 1) := by decide +kernel
theorem dX0_tally_35 : decode cX0_tally 35 = .ok (.if_icmp .eq 12, 3) := by decide +kernel
theorem dX0_tally_38 : decode cX0_tally 38 = .ok (.aload 6, 2) := by decide +kernel
theorem dX0_tally_40 : decode cX0_tally 40 = .ok (.getfield 26, 3) := by decide +kernel
theorem dX0_tally_43 : decode cX0_tally 43 = .ok (.iload_n 1, 1) := by decide +kernel
theorem dX0_tally_44 : decode cX0_tally 44 = .ok (.if_icmp .ne 20, 3) := by decide +kernel
theorem dX0_tally_47 : decode cX0_tally 47 = .ok (.iload_n 2, 1) := by decide +kernel
theorem dX0_tally_48 : decode cX0_tally 48 = .ok (.iconst (-1), 1) := by decide +kernel
theorem dX0_tally_49 : decode cX0_tally 49 = .ok (.if_icmp .eq 12, 3) := by decide +kernel
theorem dX0_tally_52 : decode cX0_tally 52 = .ok (.aload 6, 2) := by decide +kernel
theorem dX0_tally_54 : decode cX0_tally 54 = .ok (.getfield 29, 3) := by decide +kernel
theorem dX0_tally_57 : decode cX0_tally 57 = .ok (.iload_n 2, 1) := by decide +kernel
theorem dX0_tally_58 : decode cX0_tally 58 = .ok (.if_icmp .ne 6, 3) := by decide +kernel
theorem dX0_tally_61 : decode cX0_tally 61 = .ok (.iinc 4 1, 3) := by decide +kernel
theorem dX0_tally_64 : decode cX0_tally 64 = .ok (.iinc 5 1, 3) := by decide +kernel
theorem dX0_tally_67 : decode cX0_tally 67 = .ok (.goto (-61), 3) := by decide +kernel
theorem dX0_tally_70 : decode cX0_tally 70 = .ok (.iload 4, 2) := by decide +kernel
theorem dX0_tally_72 : decode cX0_tally 72 = .ok (.ireturn, 1) := by decide +kernel
theorem dX0_winner_0 : decode cX0_winner 0 = .ok (.aload_n 0, 1) := by decide +kernel
theorem dX0_winner_1 : decode cX0_winner 1 = .ok (.iload_n 1, 1) := by decide +kernel
theorem dX0_winner_2 : decode cX0_winner 2 = .ok (.iconst 1, 1) := by decide +kernel
theorem dX0_winner_3 : decode cX0_winner 3 = .ok (.iconst 1, 1) := by decide +kernel
theorem dX0_winner_4 : decode cX0_winner 4 = .ok (.invokevirtual 44, 3) := by decide +kernel
theorem dX0_winner_7 : decode cX0_winner 7 = .ok (.aload_n 0, 1) := by decide +kernel
theorem dX0_winner_8 : decode cX0_winner 8 = .ok (.iload_n 1, 1) := by decide +kernel
theorem dX0_winner_9 : decode cX0_winner 9 = .ok (.iconst 0, 1) := by decide +kernel
theorem dX0_winner_10 : decode cX0_winner 10 = .ok (.iconst 1, 1) := by decide +kernel
theorem dX0_winner_11 : decode cX0_winner 11 = .ok (.invokevirtual 44, 3) := by decide +kernel
theorem dX0_winner_14 : decode cX0_winner 14 = .ok (.isub, 1) := by decide +kernel
theorem dX0_winner_15 : decode cX0_winner 15 = .ok (.istore_n 2, 1) := by decide +kernel
theorem dX0_winner_16 : decode cX0_winner 16 = .ok (.iload_n 2, 1) := by decide +kernel
theorem dX0_winner_17 : decode cX0_winner 17 = .ok (.ifCond .ne 5, 3) := by decide +kernel
theorem dX0_winner_20 : decode cX0_winner 20 = .ok (.iconst (-1), 1) := by decide +kernel
theorem dX0_winner_21 : decode cX0_winner 21 = .ok (.ireturn, 1) := by decide +kernel
theorem dX0_winner_22 : decode cX0_winner 22 = .ok (.iload_n 2, 1) := by decide +kernel
theorem dX0_winner_23 : decode cX0_winner 23 = .ok (.ifCond .le 7, 3) := by decide +kernel
theorem dX0_winner_26 : decode cX0_winner 26 = .ok (.iconst 1, 1) := by decide +kernel
theorem dX0_winner_27 : decode cX0_winner 27 = .ok (.goto 4, 3) := by decide +kernel
theorem dX0_winner_30 : decode cX0_winner 30 = .ok (.iconst 0, 1) := by decide +kernel
theorem dX0_winner_31 : decode cX0_winner 31 = .ok (.ireturn, 1) := by decide +kernel
theorem dX0_namesToChange_0 : decode cX0_namesToChange 0 = .ok (.aload_n 0, 1) := by decide +kernel
theorem dX0_namesToChange_1 : decode cX0_namesToChange 1 = .ok (.iload_n 1, 1) := by decide +kernel
theorem dX0_namesToChange_2 : decode cX0_namesToChange 2 = .ok (.invokevirtual 48, 3) := by decide +kernel
theorem dX0_namesToChange_5 : decode cX0_namesToChange 5 = .ok (.istore_n 2, 1) := by decide +kernel
theorem dX0_namesToChange_6 : decode cX0_namesToChange 6 = .ok (.iconst (-1), 1) := by decide +kernel
theorem dX0_namesToChange_7 : decode cX0_namesToChange 7 = .ok (.istore_n 3, 1) := by decide +kernel
theorem dX0_namesToChange_8 : decode cX0_namesToChange 8 = .ok (.iconst 0, 1) := by decide +kernel
theorem dX0_namesToChange_9 : decode cX0_namesToChange 9 = .ok (.istore 4, 2) := by decide +kernel
theorem dX0_namesToChange_11 : decode cX0_namesToChange 11 = .ok (.iload 4, 2) := by decide +kernel
theorem dX0_namesToChange_13 : decode cX0_namesToChange 13 = .ok (.iconst 2, 1) := by decide +kernel
theorem dX0_namesToChange_14 : decode cX0_namesToChange 14 = .ok (.if_icmp .ge 48, 3) := by decide +kernel
theorem dX0_namesToChange_17 : decode cX0_namesToChange 17 = .ok (.iload 4, 2) := by decide +kernel
theorem dX0_namesToChange_19 : decode cX0_namesToChange 19 = .ok (.iload_n 2, 1) := by decide +kernel
theorem dX0_namesToChange_20 : decode cX0_namesToChange 20 = .ok (.if_icmp .ne 7, 3) := by decide +kernel
theorem dX0_namesToChange_23 : decode cX0_namesToChange 23 = .ok (.iconst (-1), 1) := by decide +kernel
theorem dX0_namesToChange_24 : decode cX0_namesToChange 24 = .ok (.goto 10, 3) := by decide +kernel
theorem dX0_namesToChange_27 : decode cX0_namesToChange 27 = .ok (.aload_n 0, 1) := by decide +kernel
theorem dX0_namesToChange_28 : decode cX0_namesToChange 28 = .ok (.iload_n 1, 1) := by decide +kernel
theorem dX0_namesToChange_29 : decode cX0_namesToChange 29 = .ok (.iload 4, 2) := by decide +kernel
theorem dX0_namesToChange_31 : decode cX0_namesToChange 31 = .ok (.invokevirtual 52, 3) := by decide +kernel
theorem dX0_namesToChange_34 : decode cX0_namesToChange 34 = .ok (.istore 5, 2) := by decide +kernel
theorem dX0_namesToChange_36 : decode cX0_namesToChange 36 = .ok (.iload 5, 2) := by decide +kernel
theorem dX0_namesToChange_38 : decode cX0_namesToChange 38 = .ok (.iconst (-1), 1) := by decide +kernel
theorem dX0_namesToChange_39 : decode cX0_namesToChange 39 = .ok (.if_icmp .eq 17, 3) := by decide +kernel
theorem dX0_namesToChange_42 : decode cX0_namesToChange 42 = .ok (.iload_n 3, 1) := by decide +kernel
theorem dX0_namesToChange_43 : decode cX0_namesToChange 43 = .ok (.iconst (-1), 1) := by decide +kernel
theorem dX0_namesToChange_44 : decode cX0_namesToChange 44 = .ok (.if_icmp .eq 9, 3) := by decide +kernel
theorem dX0_namesToChange_47 : decode cX0_namesToChange 47 = .ok (.iload 5, 2) := by decide +kernel
theorem dX0_namesToChange_49 : decode cX0_namesToChange 49 = .ok (.iload_n 3, 1) := by decide +kernel
theorem dX0_namesToChange_50 : decode cX0_namesToChange 50 = .ok (.if_icmp .ge 6, 3) := by decide +kernel
theorem dX0_namesToChange_53 : decode cX0_namesToChange 53 = .ok (.iload 5, 2) := by decide +kernel
theorem dX0_namesToChange_55 : decode cX0_namesToChange 55 = .ok (.istore_n 3, 1) := by decide +kernel
theorem dX0_namesToChange_56 : decode cX0_namesToChange 56 = .ok (.iinc 4 1, 3) := by decide +kernel
theorem dX0_namesToChange_59 : decode cX0_namesToChange 59 = .ok (.goto (-48), 3) := by decide +kernel
theorem dX0_namesToChange_62 : decode cX0_namesToChange 62 = .ok (.iload_n 3, 1) := by decide +kernel
theorem dX0_namesToChange_63 : decode cX0_namesToChange 63 = .ok (.ireturn, 1) := by decide +kernel
theorem dX0_namesToWin_0 : decode cX0_namesToWin 0 = .ok (.iconst 0, 1) := by decide +kernel
theorem dX0_namesToWin_1 : decode cX0_namesToWin 1 = .ok (.istore_n 2, 1) := by decide +kernel
theorem dX0_namesToWin_2 : decode cX0_namesToWin 2 = .ok (.iconst 0, 1) := by decide +kernel
theorem dX0_namesToWin_3 : decode cX0_namesToWin 3 = .ok (.istore_n 3, 1) := by decide +kernel
theorem dX0_namesToWin_4 : decode cX0_namesToWin 4 = .ok (.iload_n 3, 1) := by decide +kernel
theorem dX0_namesToWin_5 : decode cX0_namesToWin 5 = .ok (.bipush 6, 2) := by decide +kernel
theorem dX0_namesToWin_7 : decode cX0_namesToWin 7 = .ok (.if_icmp .ge 33, 3) := by decide +kernel
theorem dX0_namesToWin_10 : decode cX0_namesToWin 10 = .ok (.aload_n 0, 1) := by decide +kernel
theorem dX0_namesToWin_11 : decode cX0_namesToWin 11 = .ok (.iload_n 3, 1) := by decide +kernel
theorem dX0_namesToWin_12 : decode cX0_namesToWin 12 = .ok (.iconst 1, 1) := by decide +kernel
theorem dX0_namesToWin_13 : decode cX0_namesToWin 13 = .ok (.invokevirtual 52, 3) := by decide +kernel
theorem dX0_namesToWin_16 : decode cX0_namesToWin 16 = .ok (.istore 4, 2) := by decide +kernel
theorem dX0_namesToWin_18 : decode cX0_namesToWin 18 = .ok (.iload 4, 2) := by decide +kernel
theorem dX0_namesToWin_20 : decode cX0_namesToWin 20 = .ok (.iconst (-1), 1) := by decide +kernel
theorem dX0_namesToWin_21 : decode cX0_namesToWin 21 = .ok (.if_icmp .eq 13, 3) := by decide +kernel
theorem dX0_namesToWin_24 : decode cX0_namesToWin 24 = .ok (.aload_n 0, 1) := by decide +kernel
theorem dX0_namesToWin_25 : decode cX0_namesToWin 25 = .ok (.iload 4, 2) := by decide +kernel
theorem dX0_namesToWin_27 : decode cX0_namesToWin 27 = .ok (.iload_n 2, 1) := by decide +kernel
theorem dX0_namesToWin_28 : decode cX0_namesToWin 28 = .ok (.invokevirtual 56, 3) := by decide +kernel
theorem dX0_namesToWin_31 : decode cX0_namesToWin 31 = .ok (.iinc 2 1, 3) := by decide +kernel
theorem dX0_namesToWin_34 : decode cX0_namesToWin 34 = .ok (.iinc 3 1, 3) := by decide +kernel
theorem dX0_namesToWin_37 : decode cX0_namesToWin 37 = .ok (.goto (-33), 3) := by decide +kernel
theorem dX0_namesToWin_40 : decode cX0_namesToWin 40 = .ok (.iload_n 2, 1) := by decide +kernel
theorem dX0_namesToWin_41 : decode cX0_namesToWin 41 = .ok (.iload_n 1, 1) := by decide +kernel
theorem dX0_namesToWin_42 : decode cX0_namesToWin 42 = .ok (.if_icmp .ge 5, 3) := by decide +kernel
theorem dX0_namesToWin_45 : decode cX0_namesToWin 45 = .ok (.iconst (-1), 1) := by decide +kernel
theorem dX0_namesToWin_46 : decode cX0_namesToWin 46 = .ok (.ireturn, 1) := by decide +kernel
theorem dX0_namesToWin_47 : decode cX0_namesToWin 47 = .ok (.iconst 0, 1) := by decide +kernel
theorem dX0_namesToWin_48 : decode cX0_namesToWin 48 = .ok (.istore_n 3, 1) := by decide +kernel
theorem dX0_namesToWin_49 : decode cX0_namesToWin 49 = .ok (.iconst 0, 1) := by decide +kernel
theorem dX0_namesToWin_50 : decode cX0_namesToWin 50 = .ok (.istore 4, 2) := by decide +kernel
theorem dX0_namesToWin_52 : decode cX0_namesToWin 52 = .ok (.iload 4, 2) := by decide +kernel
theorem dX0_namesToWin_54 : decode cX0_namesToWin 54 = .ok (.iload_n 1, 1) := by decide +kernel
theorem dX0_namesToWin_55 : decode cX0_namesToWin 55 = .ok (.if_icmp .ge 19, 3) := by decide +kernel
theorem dX0_namesToWin_58 : decode cX0_namesToWin 58 = .ok (.iload_n 3, 1) := by decide +kernel
theorem dX0_namesToWin_59 : decode cX0_namesToWin 59 = .ok (.aload_n 0, 1) := by decide +kernel
theorem dX0_namesToWin_60 : decode cX0_namesToWin 60 = .ok (.getfield 17, 3) := by decide +kernel
theorem dX0_namesToWin_63 : decode cX0_namesToWin 63 = .ok (.iload 4, 2) := by decide +kernel
theorem dX0_namesToWin_65 : decode cX0_namesToWin 65 = .ok (.iaload, 1) := by decide +kernel
theorem dX0_namesToWin_66 : decode cX0_namesToWin 66 = .ok (.iadd, 1) := by decide +kernel
theorem dX0_namesToWin_67 : decode cX0_namesToWin 67 = .ok (.istore_n 3, 1) := by decide +kernel
theorem dX0_namesToWin_68 : decode cX0_namesToWin 68 = .ok (.iinc 4 1, 3) := by decide +kernel
theorem dX0_namesToWin_71 : decode cX0_namesToWin 71 = .ok (.goto (-19), 3) := by decide +kernel
theorem dX0_namesToWin_74 : decode cX0_namesToWin 74 = .ok (.iload_n 3, 1) := by decide +kernel
theorem dX0_namesToWin_75 : decode cX0_namesToWin 75 = .ok (.ireturn, 1) := by decide +kernel
theorem dX0_keepInOrder_0 : decode cX0_keepInOrder 0 = .ok (.iload_n 2, 1) := by decide +kernel
theorem dX0_keepInOrder_1 : decode cX0_keepInOrder 1 = .ok (.istore_n 3, 1) := by decide +kernel
theorem dX0_keepInOrder_2 : decode cX0_keepInOrder 2 = .ok (.iload_n 3, 1) := by decide +kernel
theorem dX0_keepInOrder_3 : decode cX0_keepInOrder 3 = .ok (.ifCond .le 35, 3) := by decide +kernel
theorem dX0_keepInOrder_6 : decode cX0_keepInOrder 6 = .ok (.aload_n 0, 1) := by decide +kernel
theorem dX0_keepInOrder_7 : decode cX0_keepInOrder 7 = .ok (.getfield 17, 3) := by decide +kernel
theorem dX0_keepInOrder_10 : decode cX0_keepInOrder 10 = .ok (.iload_n 3, 1) := by decide +kernel
theorem dX0_keepInOrder_11 : decode cX0_keepInOrder 11 = .ok (.iconst 1, 1) := by decide +kernel
theorem dX0_keepInOrder_12 : decode cX0_keepInOrder 12 = .ok (.isub, 1) := by decide +kernel
theorem dX0_keepInOrder_13 : decode cX0_keepInOrder 13 = .ok (.iaload, 1) := by decide +kernel
theorem dX0_keepInOrder_14 : decode cX0_keepInOrder 14 = .ok (.iload_n 1, 1) := by decide +kernel
theorem dX0_keepInOrder_15 : decode cX0_keepInOrder 15 = .ok (.if_icmp .le 23, 3) := by decide +kernel
theorem dX0_keepInOrder_18 : decode cX0_keepInOrder 18 = .ok (.aload_n 0, 1) := by decide +kernel
theorem dX0_keepInOrder_19 : decode cX0_keepInOrder 19 = .ok (.getfield 17, 3) := by decide +kernel
theorem dX0_keepInOrder_22 : decode cX0_keepInOrder 22 = .ok (.iload_n 3, 1) := by decide +kernel
theorem dX0_keepInOrder_23 : decode cX0_keepInOrder 23 = .ok (.aload_n 0, 1) := by decide +kernel
theorem dX0_keepInOrder_24 : decode cX0_keepInOrder 24 = .ok (.getfield 17, 3) := by decide +kernel
theorem dX0_keepInOrder_27 : decode cX0_keepInOrder 27 = .ok (.iload_n 3, 1) := by decide +kernel
theorem dX0_keepInOrder_28 : decode cX0_keepInOrder 28 = .ok (.iconst 1, 1) := by decide +kernel
theorem dX0_keepInOrder_29 : decode cX0_keepInOrder 29 = .ok (.isub, 1) := by decide +kernel
theorem dX0_keepInOrder_30 : decode cX0_keepInOrder 30 = .ok (.iaload, 1) := by decide +kernel
theorem dX0_keepInOrder_31 : decode cX0_keepInOrder 31 = .ok (.iastore, 1) := by decide +kernel
theorem dX0_keepInOrder_32 : decode cX0_keepInOrder 32 = .ok (.iinc 3 (-1), 3) := by decide +kernel
theorem dX0_keepInOrder_35 : decode cX0_keepInOrder 35 = .ok (.goto (-33), 3) := by decide +kernel
theorem dX0_keepInOrder_38 : decode cX0_keepInOrder 38 = .ok (.aload_n 0, 1) := by decide +kernel
theorem dX0_keepInOrder_39 : decode cX0_keepInOrder 39 = .ok (.getfield 17, 3) := by decide +kernel
theorem dX0_keepInOrder_42 : decode cX0_keepInOrder 42 = .ok (.iload_n 3, 1) := by decide +kernel
theorem dX0_keepInOrder_43 : decode cX0_keepInOrder 43 = .ok (.iload_n 1, 1) := by decide +kernel
theorem dX0_keepInOrder_44 : decode cX0_keepInOrder 44 = .ok (.iastore, 1) := by decide +kernel
theorem dX0_keepInOrder_45 : decode cX0_keepInOrder 45 = .ok (.return_, 1) := by decide +kernel
theorem dX0_namesFor_0 : decode cX0_namesFor 0 = .ok (.aload_n 0, 1) := by decide +kernel
theorem dX0_namesFor_1 : decode cX0_namesFor 1 = .ok (.iload_n 1, 1) := by decide +kernel
theorem dX0_namesFor_2 : decode cX0_namesFor 2 = .ok (.iconst 1, 1) := by decide +kernel
theorem dX0_namesFor_3 : decode cX0_namesFor 3 = .ok (.iload_n 2, 1) := by decide +kernel
theorem dX0_namesFor_4 : decode cX0_namesFor 4 = .ok (.isub, 1) := by decide +kernel
theorem dX0_namesFor_5 : decode cX0_namesFor 5 = .ok (.iconst 1, 1) := by decide +kernel
theorem dX0_namesFor_6 : decode cX0_namesFor 6 = .ok (.invokevirtual 44, 3) := by decide +kernel
theorem dX0_namesFor_9 : decode cX0_namesFor 9 = .ok (.aload_n 0, 1) := by decide +kernel
theorem dX0_namesFor_10 : decode cX0_namesFor 10 = .ok (.iload_n 1, 1) := by decide +kernel
theorem dX0_namesFor_11 : decode cX0_namesFor 11 = .ok (.iload_n 2, 1) := by decide +kernel
theorem dX0_namesFor_12 : decode cX0_namesFor 12 = .ok (.iconst 1, 1) := by decide +kernel
theorem dX0_namesFor_13 : decode cX0_namesFor 13 = .ok (.invokevirtual 44, 3) := by decide +kernel
theorem dX0_namesFor_16 : decode cX0_namesFor 16 = .ok (.isub, 1) := by decide +kernel
theorem dX0_namesFor_17 : decode cX0_namesFor 17 = .ok (.iconst 1, 1) := by decide +kernel
theorem dX0_namesFor_18 : decode cX0_namesFor 18 = .ok (.iadd, 1) := by decide +kernel
theorem dX0_namesFor_19 : decode cX0_namesFor 19 = .ok (.istore_n 3, 1) := by decide +kernel
theorem dX0_namesFor_20 : decode cX0_namesFor 20 = .ok (.iload_n 3, 1) := by decide +kernel
theorem dX0_namesFor_21 : decode cX0_namesFor 21 = .ok (.ifCond .gt 5, 3) := by decide +kernel
theorem dX0_namesFor_24 : decode cX0_namesFor 24 = .ok (.iconst 0, 1) := by decide +kernel
theorem dX0_namesFor_25 : decode cX0_namesFor 25 = .ok (.ireturn, 1) := by decide +kernel
theorem dX0_namesFor_26 : decode cX0_namesFor 26 = .ok (.aload_n 0, 1) := by decide +kernel
theorem dX0_namesFor_27 : decode cX0_namesFor 27 = .ok (.iload_n 1, 1) := by decide +kernel
theorem dX0_namesFor_28 : decode cX0_namesFor 28 = .ok (.iload_n 2, 1) := by decide +kernel
theorem dX0_namesFor_29 : decode cX0_namesFor 29 = .ok (.iconst 0, 1) := by decide +kernel
theorem dX0_namesFor_30 : decode cX0_namesFor 30 = .ok (.invokevirtual 44, 3) := by decide +kernel
theorem dX0_namesFor_33 : decode cX0_namesFor 33 = .ok (.aload_n 0, 1) := by decide +kernel
theorem dX0_namesFor_34 : decode cX0_namesFor 34 = .ok (.iload_n 1, 1) := by decide +kernel
theorem dX0_namesFor_35 : decode cX0_namesFor 35 = .ok (.iload_n 2, 1) := by decide +kernel
theorem dX0_namesFor_36 : decode cX0_namesFor 36 = .ok (.iconst 2, 1) := by decide +kernel
theorem dX0_namesFor_37 : decode cX0_namesFor 37 = .ok (.invokevirtual 44, 3) := by decide +kernel
theorem dX0_namesFor_40 : decode cX0_namesFor 40 = .ok (.iadd, 1) := by decide +kernel
theorem dX0_namesFor_41 : decode cX0_namesFor 41 = .ok (.istore 4, 2) := by decide +kernel
theorem dX0_namesFor_43 : decode cX0_namesFor 43 = .ok (.iload_n 3, 1) := by decide +kernel
theorem dX0_namesFor_44 : decode cX0_namesFor 44 = .ok (.iload 4, 2) := by decide +kernel
theorem dX0_namesFor_46 : decode cX0_namesFor 46 = .ok (.if_icmp .gt 7, 3) := by decide +kernel
theorem dX0_namesFor_49 : decode cX0_namesFor 49 = .ok (.iload_n 3, 1) := by decide +kernel
theorem dX0_namesFor_50 : decode cX0_namesFor 50 = .ok (.goto 4, 3) := by decide +kernel
theorem dX0_namesFor_53 : decode cX0_namesFor 53 = .ok (.iconst (-1), 1) := by decide +kernel
theorem dX0_namesFor_54 : decode cX0_namesFor 54 = .ok (.ireturn, 1) := by decide +kernel
theorem dX1_init_0 : decode cX1_init 0 = .ok (.aload_n 0, 1) := by decide +kernel
theorem dX1_init_1 : decode cX1_init 1 = .ok (.invokespecial 3, 3) := by decide +kernel
theorem dX1_init_4 : decode cX1_init 4 = .ok (.aload_n 0, 1) := by decide +kernel
theorem dX1_init_5 : decode cX1_init 5 = .ok (.iconst (-1), 1) := by decide +kernel
theorem dX1_init_6 : decode cX1_init 6 = .ok (.putfield 9, 3) := by decide +kernel
theorem dX1_init_9 : decode cX1_init 9 = .ok (.return_, 1) := by decide +kernel
theorem dX1_told_0 : decode cX1_told 0 = .ok (.aload_n 0, 1) := by decide +kernel
theorem dX1_told_1 : decode cX1_told 1 = .ok (.getfield 9, 3) := by decide +kernel
theorem dX1_told_4 : decode cX1_told 4 = .ok (.iconst (-1), 1) := by decide +kernel
theorem dX1_told_5 : decode cX1_told 5 = .ok (.if_icmp .ne 10, 3) := by decide +kernel
theorem dX1_told_8 : decode cX1_told 8 = .ok (.aload_n 0, 1) := by decide +kernel
theorem dX1_told_9 : decode cX1_told 9 = .ok (.getfield 15, 3) := by decide +kernel
theorem dX1_told_12 : decode cX1_told 12 = .ok (.goto 7, 3) := by decide +kernel
theorem dX1_told_15 : decode cX1_told 15 = .ok (.aload_n 0, 1) := by decide +kernel
theorem dX1_told_16 : decode cX1_told 16 = .ok (.getfield 9, 3) := by decide +kernel
theorem dX1_told_19 : decode cX1_told 19 = .ok (.ireturn, 1) := by decide +kernel
theorem dX2_init_0 : decode cX2_init 0 = .ok (.aload_n 0, 1) := by decide +kernel
theorem dX2_init_1 : decode cX2_init 1 = .ok (.invokespecial 3, 3) := by decide +kernel
theorem dX2_init_4 : decode cX2_init 4 = .ok (.aload_n 0, 1) := by decide +kernel
theorem dX2_init_5 : decode cX2_init 5 = .ok (.bipush 60, 2) := by decide +kernel
theorem dX2_init_7 : decode cX2_init 7 = .ok (.anewarray 11, 3) := by decide +kernel
theorem dX2_init_10 : decode cX2_init 10 = .ok (.putfield 13, 3) := by decide +kernel
theorem dX2_init_13 : decode cX2_init 13 = .ok (.aload_n 0, 1) := by decide +kernel
theorem dX2_init_14 : decode cX2_init 14 = .ok (.iconst 4, 1) := by decide +kernel
theorem dX2_init_15 : decode cX2_init 15 = .ok (.newarray .int, 2) := by decide +kernel
theorem dX2_init_17 : decode cX2_init 17 = .ok (.putfield 17, 3) := by decide +kernel
theorem dX2_init_20 : decode cX2_init 20 = .ok (.aload_n 0, 1) := by decide +kernel
theorem dX2_init_21 : decode cX2_init 21 = .ok (.sipush 400, 3) := by decide +kernel
theorem dX2_init_24 : decode cX2_init 24 = .ok (.newarray .int, 2) := by decide +kernel
theorem dX2_init_26 : decode cX2_init 26 = .ok (.putfield 21, 3) := by decide +kernel
theorem dX2_init_29 : decode cX2_init 29 = .ok (.aload_n 0, 1) := by decide +kernel
theorem dX2_init_30 : decode cX2_init 30 = .ok (.aload_n 1, 1) := by decide +kernel
theorem dX2_init_31 : decode cX2_init 31 = .ok (.putfield 24, 3) := by decide +kernel
theorem dX2_init_34 : decode cX2_init 34 = .ok (.aload_n 0, 1) := by decide +kernel
theorem dX2_init_35 : decode cX2_init 35 = .ok (.aload_n 2, 1) := by decide +kernel
theorem dX2_init_36 : decode cX2_init 36 = .ok (.putfield 28, 3) := by decide +kernel
theorem dX2_init_39 : decode cX2_init 39 = .ok (.aload_n 0, 1) := by decide +kernel
theorem dX2_init_40 : decode cX2_init 40 = .ok (.aload_n 3, 1) := by decide +kernel
theorem dX2_init_41 : decode cX2_init 41 = .ok (.putfield 32, 3) := by decide +kernel
theorem dX2_init_44 : decode cX2_init 44 = .ok (.iconst 0, 1) := by decide +kernel
theorem dX2_init_45 : decode cX2_init 45 = .ok (.istore 4, 2) := by decide +kernel
theorem dX2_init_47 : decode cX2_init 47 = .ok (.iload 4, 2) := by decide +kernel
theorem dX2_init_49 : decode cX2_init 49 = .ok (.bipush 60, 2) := by decide +kernel
theorem dX2_init_51 : decode cX2_init 51 = .ok (.if_icmp .ge 23, 3) := by decide +kernel
theorem dX2_init_54 : decode cX2_init 54 = .ok (.aload_n 0, 1) := by decide +kernel
theorem dX2_init_55 : decode cX2_init 55 = .ok (.getfield 13, 3) := by decide +kernel
theorem dX2_init_58 : decode cX2_init 58 = .ok (.iload 4, 2) := by decide +kernel
theorem dX2_init_60 : decode cX2_init 60 = .ok (.new 11, 3) := by decide +kernel
theorem dX2_init_63 : decode cX2_init 63 = .ok (.dup, 1) := by decide +kernel
theorem dX2_init_64 : decode cX2_init 64 = .ok (.invokespecial 36, 3) := by decide +kernel
theorem dX2_init_67 : decode cX2_init 67 = .ok (.aastore, 1) := by decide +kernel
theorem dX2_init_68 : decode cX2_init 68 = .ok (.iinc 4 1, 3) := by decide +kernel
theorem dX2_init_71 : decode cX2_init 71 = .ok (.goto (-24), 3) := by decide +kernel
theorem dX2_init_74 : decode cX2_init 74 = .ok (.iconst 0, 1) := by decide +kernel
theorem dX2_init_75 : decode cX2_init 75 = .ok (.istore 4, 2) := by decide +kernel
theorem dX2_init_77 : decode cX2_init 77 = .ok (.iload 4, 2) := by decide +kernel
theorem dX2_init_79 : decode cX2_init 79 = .ok (.iconst 4, 1) := by decide +kernel
theorem dX2_init_80 : decode cX2_init 80 = .ok (.if_icmp .ge 17, 3) := by decide +kernel
theorem dX2_init_83 : decode cX2_init 83 = .ok (.aload_n 0, 1) := by decide +kernel
theorem dX2_init_84 : decode cX2_init 84 = .ok (.getfield 17, 3) := by decide +kernel
theorem dX2_init_87 : decode cX2_init 87 = .ok (.iload 4, 2) := by decide +kernel
theorem dX2_init_89 : decode cX2_init 89 = .ok (.iconst (-1), 1) := by decide +kernel
theorem dX2_init_90 : decode cX2_init 90 = .ok (.iastore, 1) := by decide +kernel
theorem dX2_init_91 : decode cX2_init 91 = .ok (.iinc 4 1, 3) := by decide +kernel
theorem dX2_init_94 : decode cX2_init 94 = .ok (.goto (-17), 3) := by decide +kernel
theorem dX2_init_97 : decode cX2_init 97 = .ok (.return_, 1) := by decide +kernel
theorem dX2_holds_0 : decode cX2_holds 0 = .ok (.iload_n 1, 1) := by decide +kernel
theorem dX2_holds_1 : decode cX2_holds 1 = .ok (.ifCond .lt 15, 3) := by decide +kernel
theorem dX2_holds_4 : decode cX2_holds 4 = .ok (.iload_n 1, 1) := by decide +kernel
theorem dX2_holds_5 : decode cX2_holds 5 = .ok (.aload_n 0, 1) := by decide +kernel
theorem dX2_holds_6 : decode cX2_holds 6 = .ok (.getfield 37, 3) := by decide +kernel
theorem dX2_holds_9 : decode cX2_holds 9 = .ok (.if_icmp .ge 7, 3) := by decide +kernel
theorem dX2_holds_12 : decode cX2_holds 12 = .ok (.iconst 1, 1) := by decide +kernel
theorem dX2_holds_13 : decode cX2_holds 13 = .ok (.goto 4, 3) := by decide +kernel
theorem dX2_holds_16 : decode cX2_holds 16 = .ok (.iconst 0, 1) := by decide +kernel
theorem dX2_holds_17 : decode cX2_holds 17 = .ok (.ireturn, 1) := by decide +kernel
theorem dX2_isFull_0 : decode cX2_isFull 0 = .ok (.aload_n 0, 1) := by decide +kernel
theorem dX2_isFull_1 : decode cX2_isFull 1 = .ok (.getfield 37, 3) := by decide +kernel
theorem dX2_isFull_4 : decode cX2_isFull 4 = .ok (.bipush 60, 2) := by decide +kernel
theorem dX2_isFull_6 : decode cX2_isFull 6 = .ok (.if_icmp .lt 7, 3) := by decide +kernel
theorem dX2_isFull_9 : decode cX2_isFull 9 = .ok (.iconst 1, 1) := by decide +kernel
theorem dX2_isFull_10 : decode cX2_isFull 10 = .ok (.goto 4, 3) := by decide +kernel
theorem dX2_isFull_13 : decode cX2_isFull 13 = .ok (.iconst 0, 1) := by decide +kernel
theorem dX2_isFull_14 : decode cX2_isFull 14 = .ok (.ireturn, 1) := by decide +kernel
theorem dX2_handIn_0 : decode cX2_handIn 0 = .ok (.aload_n 0, 1) := by decide +kernel
theorem dX2_handIn_1 : decode cX2_handIn 1 = .ok (.getfield 13, 3) := by decide +kernel
theorem dX2_handIn_4 : decode cX2_handIn 4 = .ok (.aload_n 0, 1) := by decide +kernel
theorem dX2_handIn_5 : decode cX2_handIn 5 = .ok (.getfield 37, 3) := by decide +kernel
theorem dX2_handIn_8 : decode cX2_handIn 8 = .ok (.aaload, 1) := by decide +kernel
theorem dX2_handIn_9 : decode cX2_handIn 9 = .ok (.astore_n 3, 1) := by decide +kernel
theorem dX2_handIn_10 : decode cX2_handIn 10 = .ok (.aload_n 3, 1) := by decide +kernel
theorem dX2_handIn_11 : decode cX2_handIn 11 = .ok (.iload_n 1, 1) := by decide +kernel
theorem dX2_handIn_12 : decode cX2_handIn 12 = .ok (.putfield 41, 3) := by decide +kernel
theorem dX2_handIn_15 : decode cX2_handIn 15 = .ok (.aload_n 3, 1) := by decide +kernel
theorem dX2_handIn_16 : decode cX2_handIn 16 = .ok (.aload_n 0, 1) := by decide +kernel
theorem dX2_handIn_17 : decode cX2_handIn 17 = .ok (.getfield 28, 3) := by decide +kernel
theorem dX2_handIn_20 : decode cX2_handIn 20 = .ok (.iload_n 1, 1) := by decide +kernel
theorem dX2_handIn_21 : decode cX2_handIn 21 = .ok (.invokevirtual 44, 3) := by decide +kernel
theorem dX2_handIn_24 : decode cX2_handIn 24 = .ok (.getfield 50, 3) := by decide +kernel
theorem dX2_handIn_27 : decode cX2_handIn 27 = .ok (.putfield 55, 3) := by decide +kernel
theorem dX2_handIn_30 : decode cX2_handIn 30 = .ok (.aload_n 3, 1) := by decide +kernel
theorem dX2_handIn_31 : decode cX2_handIn 31 = .ok (.aload_n 0, 1) := by decide +kernel
theorem dX2_handIn_32 : decode cX2_handIn 32 = .ok (.getfield 28, 3) := by decide +kernel
theorem dX2_handIn_35 : decode cX2_handIn 35 = .ok (.iload_n 1, 1) := by decide +kernel
theorem dX2_handIn_36 : decode cX2_handIn 36 = .ok (.invokevirtual 44, 3) := by decide +kernel
theorem dX2_handIn_39 : decode cX2_handIn 39 = .ok (.getfield 56, 3) := by decide +kernel
theorem dX2_handIn_42 : decode cX2_handIn 42 = .ok (.putfield 59, 3) := by decide +kernel
theorem dX2_handIn_45 : decode cX2_handIn 45 = .ok (.aload_n 3, 1) := by decide +kernel
theorem dX2_handIn_46 : decode cX2_handIn 46 = .ok (.aload_n 0, 1) := by decide +kernel
theorem dX2_handIn_47 : decode cX2_handIn 47 = .ok (.getfield 32, 3) := by decide +kernel
theorem dX2_handIn_50 : decode cX2_handIn 50 = .ok (.getfield 60, 3) := by decide +kernel
theorem dX2_handIn_53 : decode cX2_handIn 53 = .ok (.putfield 65, 3) := by decide +kernel
theorem dX2_handIn_56 : decode cX2_handIn 56 = .ok (.aload_n 3, 1) := by decide +kernel
theorem dX2_handIn_57 : decode cX2_handIn 57 = .ok (.iconst (-1), 1) := by decide +kernel
theorem dX2_handIn_58 : decode cX2_handIn 58 = .ok (.putfield 68, 3) := by decide +kernel
theorem dX2_handIn_61 : decode cX2_handIn 61 = .ok (.aload_n 3, 1) := by decide +kernel
theorem dX2_handIn_62 : decode cX2_handIn 62 = .ok (.iconst (-1), 1) := by decide +kernel
theorem dX2_handIn_63 : decode cX2_handIn 63 = .ok (.putfield 71, 3) := by decide +kernel
theorem dX2_handIn_66 : decode cX2_handIn 66 = .ok (.aload_n 3, 1) := by decide +kernel
theorem dX2_handIn_67 : decode cX2_handIn 67 = .ok (.iconst (-1), 1) := by decide +kernel
theorem dX2_handIn_68 : decode cX2_handIn 68 = .ok (.putfield 74, 3) := by decide +kernel
theorem dX2_handIn_71 : decode cX2_handIn 71 = .ok (.aload_n 3, 1) := by decide +kernel
theorem dX2_handIn_72 : decode cX2_handIn 72 = .ok (.iconst 0, 1) := by decide +kernel
theorem dX2_handIn_73 : decode cX2_handIn 73 = .ok (.putfield 77, 3) := by decide +kernel
theorem dX2_handIn_76 : decode cX2_handIn 76 = .ok (.iconst 0, 1) := by decide +kernel
theorem dX2_handIn_77 : decode cX2_handIn 77 = .ok (.istore 4, 2) := by decide +kernel
theorem dX2_handIn_79 : decode cX2_handIn 79 = .ok (.iload 4, 2) := by decide +kernel
theorem dX2_handIn_81 : decode cX2_handIn 81 = .ok (.bipush 20, 2) := by decide +kernel
theorem dX2_handIn_83 : decode cX2_handIn 83 = .ok (.if_icmp .ge 54, 3) := by decide +kernel
theorem dX2_handIn_86 : decode cX2_handIn 86 = .ok (.iload 4, 2) := by decide +kernel
theorem dX2_handIn_88 : decode cX2_handIn 88 = .ok (.aload_n 2, 1) := by decide +kernel
theorem dX2_handIn_89 : decode cX2_handIn 89 = .ok (.getfield 81, 3) := by decide +kernel
theorem dX2_handIn_92 : decode cX2_handIn 92 = .ok (.if_icmp .ge 12, 3) := by decide +kernel
theorem dX2_handIn_95 : decode cX2_handIn 95 = .ok (.aload_n 2, 1) := by decide +kernel
theorem dX2_handIn_96 : decode cX2_handIn 96 = .ok (.iload 4, 2) := by decide +kernel
theorem dX2_handIn_98 : decode cX2_handIn 98 = .ok (.invokevirtual 84, 3) := by decide +kernel
theorem dX2_handIn_101 : decode cX2_handIn 101 = .ok (.goto 4, 3) := by decide +kernel
theorem dX2_handIn_104 : decode cX2_handIn 104 = .ok (.iconst (-1), 1) := by decide +kernel
theorem dX2_handIn_105 : decode cX2_handIn 105 = .ok (.istore 5, 2) := by decide +kernel
theorem dX2_handIn_107 : decode cX2_handIn 107 = .ok (.aload_n 3, 1) := by decide +kernel
theorem dX2_handIn_108 : decode cX2_handIn 108 = .ok (.getfield 88, 3) := by decide +kernel
theorem dX2_handIn_111 : decode cX2_handIn 111 = .ok (.iload 4, 2) := by decide +kernel
theorem dX2_handIn_113 : decode cX2_handIn 113 = .ok (.iload 5, 2) := by decide +kernel
theorem dX2_handIn_115 : decode cX2_handIn 115 = .ok (.iconst 0, 1) := by decide +kernel
theorem dX2_handIn_116 : decode cX2_handIn 116 = .ok (.bipush 99, 2) := by decide +kernel
theorem dX2_handIn_118 : decode cX2_handIn 118 = .ok (.invokestatic 91, 3) := by decide +kernel
theorem dX2_handIn_121 : decode cX2_handIn 121 = .ok (.ifCond .eq 8, 3) := by decide +kernel
theorem dX2_handIn_124 : decode cX2_handIn 124 = .ok (.iload 5, 2) := by decide +kernel
theorem dX2_handIn_126 : decode cX2_handIn 126 = .ok (.goto 4, 3) := by decide +kernel
theorem dX2_handIn_129 : decode cX2_handIn 129 = .ok (.iconst (-1), 1) := by decide +kernel
theorem dX2_handIn_130 : decode cX2_handIn 130 = .ok (.iastore, 1) := by decide +kernel
theorem dX2_handIn_131 : decode cX2_handIn 131 = .ok (.iinc 4 1, 3) := by decide +kernel
theorem dX2_handIn_134 : decode cX2_handIn 134 = .ok (.goto (-55), 3) := by decide +kernel
theorem dX2_handIn_137 : decode cX2_handIn 137 = .ok (.aload_n 0, 1) := by decide +kernel
theorem dX2_handIn_138 : decode cX2_handIn 138 = .ok (.aload_n 3, 1) := by decide +kernel
theorem dX2_handIn_139 : decode cX2_handIn 139 = .ok (.invokevirtual 95, 3) := by decide +kernel
theorem dX2_handIn_142 : decode cX2_handIn 142 = .ok (.aload_n 0, 1) := by decide +kernel
theorem dX2_handIn_143 : decode cX2_handIn 143 = .ok (.dup, 1) := by decide +kernel
theorem dX2_handIn_144 : decode cX2_handIn 144 = .ok (.getfield 37, 3) := by decide +kernel
theorem dX2_handIn_147 : decode cX2_handIn 147 = .ok (.iconst 1, 1) := by decide +kernel
theorem dX2_handIn_148 : decode cX2_handIn 148 = .ok (.iadd, 1) := by decide +kernel
theorem dX2_handIn_149 : decode cX2_handIn 149 = .ok (.putfield 37, 3) := by decide +kernel
theorem dX2_handIn_152 : decode cX2_handIn 152 = .ok (.aload_n 0, 1) := by decide +kernel
theorem dX2_handIn_153 : decode cX2_handIn 153 = .ok (.getfield 37, 3) := by decide +kernel
theorem dX2_handIn_156 : decode cX2_handIn 156 = .ok (.iconst 1, 1) := by decide +kernel
theorem dX2_handIn_157 : decode cX2_handIn 157 = .ok (.isub, 1) := by decide +kernel
theorem dX2_handIn_158 : decode cX2_handIn 158 = .ok (.ireturn, 1) := by decide +kernel
theorem dX2_decide_0 : decode cX2_decide 0 = .ok (.aload_n 0, 1) := by decide +kernel
theorem dX2_decide_1 : decode cX2_decide 1 = .ok (.getfield 13, 3) := by decide +kernel
theorem dX2_decide_4 : decode cX2_decide 4 = .ok (.iload_n 1, 1) := by decide +kernel
theorem dX2_decide_5 : decode cX2_decide 5 = .ok (.aaload, 1) := by decide +kernel
theorem dX2_decide_6 : decode cX2_decide 6 = .ok (.astore 5, 2) := by decide +kernel
theorem dX2_decide_8 : decode cX2_decide 8 = .ok (.aload 5, 2) := by decide +kernel
theorem dX2_decide_10 : decode cX2_decide 10 = .ok (.getfield 68, 3) := by decide +kernel
theorem dX2_decide_13 : decode cX2_decide 13 = .ok (.iconst (-1), 1) := by decide +kernel
theorem dX2_decide_14 : decode cX2_decide 14 = .ok (.if_icmp .ne 17, 3) := by decide +kernel
theorem dX2_decide_17 : decode cX2_decide 17 = .ok (.iload_n 3, 1) := by decide +kernel
theorem dX2_decide_18 : decode cX2_decide 18 = .ok (.ifCond .ne 16, 3) := by decide +kernel
theorem dX2_decide_21 : decode cX2_decide 21 = .ok (.aload_n 0, 1) := by decide +kernel
theorem dX2_decide_22 : decode cX2_decide 22 = .ok (.aload 5, 2) := by decide +kernel
theorem dX2_decide_24 : decode cX2_decide 24 = .ok (.iload_n 2, 1) := by decide +kernel
theorem dX2_decide_25 : decode cX2_decide 25 = .ok (.invokevirtual 99, 3) := by decide +kernel
theorem dX2_decide_28 : decode cX2_decide 28 = .ok (.ifCond .eq 6, 3) := by decide +kernel
theorem dX2_decide_31 : decode cX2_decide 31 = .ok (.bipush (-3), 2) := by decide +kernel
theorem dX2_decide_33 : decode cX2_decide 33 = .ok (.ireturn, 1) := by decide +kernel
theorem dX2_decide_34 : decode cX2_decide 34 = .ok (.aload 5, 2) := by decide +kernel
theorem dX2_decide_36 : decode cX2_decide 36 = .ok (.aload_n 0, 1) := by decide +kernel
theorem dX2_decide_37 : decode cX2_decide 37 = .ok (.getfield 32, 3) := by decide +kernel
theorem dX2_decide_40 : decode cX2_decide 40 = .ok (.getfield 60, 3) := by decide +kernel
theorem dX2_decide_43 : decode cX2_decide 43 = .ok (.putfield 68, 3) := by decide +kernel
theorem dX2_decide_46 : decode cX2_decide 46 = .ok (.aload 5, 2) := by decide +kernel
theorem dX2_decide_48 : decode cX2_decide 48 = .ok (.iload_n 2, 1) := by decide +kernel
theorem dX2_decide_49 : decode cX2_decide 49 = .ok (.putfield 71, 3) := by decide +kernel
theorem dX2_decide_52 : decode cX2_decide 52 = .ok (.aload 5, 2) := by decide +kernel
theorem dX2_decide_54 : decode cX2_decide 54 = .ok (.iload_n 3, 1) := by decide +kernel
theorem dX2_decide_55 : decode cX2_decide 55 = .ok (.putfield 77, 3) := by decide +kernel
theorem dX2_decide_58 : decode cX2_decide 58 = .ok (.aload 5, 2) := by decide +kernel
theorem dX2_decide_60 : decode cX2_decide 60 = .ok (.iload_n 3, 1) := by decide +kernel
theorem dX2_decide_61 : decode cX2_decide 61 = .ok (.ifCond .eq 7, 3) := by decide +kernel
theorem dX2_decide_64 : decode cX2_decide 64 = .ok (.iconst (-1), 1) := by decide +kernel
theorem dX2_decide_65 : decode cX2_decide 65 = .ok (.goto 5, 3) := by decide +kernel
theorem dX2_decide_68 : decode cX2_decide 68 = .ok (.iload 4, 2) := by decide +kernel
theorem dX2_decide_70 : decode cX2_decide 70 = .ok (.putfield 74, 3) := by decide +kernel
theorem dX2_decide_73 : decode cX2_decide 73 = .ok (.aload_n 0, 1) := by decide +kernel
theorem dX2_decide_74 : decode cX2_decide 74 = .ok (.getfield 28, 3) := by decide +kernel
theorem dX2_decide_77 : decode cX2_decide 77 = .ok (.aload 5, 2) := by decide +kernel
theorem dX2_decide_79 : decode cX2_decide 79 = .ok (.getfield 41, 3) := by decide +kernel
theorem dX2_decide_82 : decode cX2_decide 82 = .ok (.invokevirtual 44, 3) := by decide +kernel
theorem dX2_decide_85 : decode cX2_decide 85 = .ok (.astore 6, 2) := by decide +kernel
theorem dX2_decide_87 : decode cX2_decide 87 = .ok (.iload_n 3, 1) := by decide +kernel
theorem dX2_decide_88 : decode cX2_decide 88 = .ok (.ifCond .eq 17, 3) := by decide +kernel
theorem dX2_decide_91 : decode cX2_decide 91 = .ok (.aload 6, 2) := by decide +kernel
theorem dX2_decide_93 : decode cX2_decide 93 = .ok (.invokevirtual 103, 3) := by decide +kernel
theorem dX2_decide_96 : decode cX2_decide 96 = .ok (.ifCond .eq 9, 3) := by decide +kernel
theorem dX2_decide_99 : decode cX2_decide 99 = .ok (.aload 6, 2) := by decide +kernel
theorem dX2_decide_101 : decode cX2_decide 101 = .ok (.iconst 1, 1) := by decide +kernel
theorem dX2_decide_102 : decode cX2_decide 102 = .ok (.invokevirtual 107, 3) := by decide +kernel
theorem dX2_decide_105 : decode cX2_decide 105 = .ok (.iconst 1, 1) := by decide +kernel
theorem dX2_decide_106 : decode cX2_decide 106 = .ok (.ireturn, 1) := by decide +kernel
theorem dX2_setOrder_0 : decode cX2_setOrder 0 = .ok (.aload_n 0, 1) := by decide +kernel
theorem dX2_setOrder_1 : decode cX2_setOrder 1 = .ok (.getfield 17, 3) := by decide +kernel
theorem dX2_setOrder_4 : decode cX2_setOrder 4 = .ok (.iload_n 1, 1) := by decide +kernel
theorem dX2_setOrder_5 : decode cX2_setOrder 5 = .ok (.iaload, 1) := by decide +kernel
theorem dX2_setOrder_6 : decode cX2_setOrder 6 = .ok (.istore_n 3, 1) := by decide +kernel
theorem dX2_setOrder_7 : decode cX2_setOrder 7 = .ok (.aload_n 0, 1) := by decide +kernel
theorem dX2_setOrder_8 : decode cX2_setOrder 8 = .ok (.getfield 17, 3) := by decide +kernel
theorem dX2_setOrder_11 : decode cX2_setOrder 11 = .ok (.iload_n 1, 1) := by decide +kernel
theorem dX2_setOrder_12 : decode cX2_setOrder 12 = .ok (.iload_n 2, 1) := by decide +kernel
theorem dX2_setOrder_13 : decode cX2_setOrder 13 = .ok (.iastore, 1) := by decide +kernel
theorem dX2_setOrder_14 : decode cX2_setOrder 14 = .ok (.iload_n 3, 1) := by decide +kernel
theorem dX2_setOrder_15 : decode cX2_setOrder 15 = .ok (.ireturn, 1) := by decide +kernel
theorem dX2_mustPass_0 : decode cX2_mustPass 0 = .ok (.aload_n 0, 1) := by decide +kernel
theorem dX2_mustPass_1 : decode cX2_mustPass 1 = .ok (.getfield 17, 3) := by decide +kernel
theorem dX2_mustPass_4 : decode cX2_mustPass 4 = .ok (.iload_n 2, 1) := by decide +kernel
theorem dX2_mustPass_5 : decode cX2_mustPass 5 = .ok (.iaload, 1) := by decide +kernel
theorem dX2_mustPass_6 : decode cX2_mustPass 6 = .ok (.iconst (-1), 1) := by decide +kernel
theorem dX2_mustPass_7 : decode cX2_mustPass 7 = .ok (.if_icmp .eq 30, 3) := by decide +kernel
theorem dX2_mustPass_10 : decode cX2_mustPass 10 = .ok (.aload_n 0, 1) := by decide +kernel
theorem dX2_mustPass_11 : decode cX2_mustPass 11 = .ok (.getfield 32, 3) := by decide +kernel
theorem dX2_mustPass_14 : decode cX2_mustPass 14 = .ok (.getfield 60, 3) := by decide +kernel
theorem dX2_mustPass_17 : decode cX2_mustPass 17 = .ok (.aload_n 0, 1) := by decide +kernel
theorem dX2_mustPass_18 : decode cX2_mustPass 18 = .ok (.getfield 17, 3) := by decide +kernel
theorem dX2_mustPass_21 : decode cX2_mustPass 21 = .ok (.iload_n 2, 1) := by decide +kernel
theorem dX2_mustPass_22 : decode cX2_mustPass 22 = .ok (.iaload, 1) := by decide +kernel
theorem dX2_mustPass_23 : decode cX2_mustPass 23 = .ok (.if_icmp .lt 14, 3) := by decide +kernel
theorem dX2_mustPass_26 : decode cX2_mustPass 26 = .ok (.aload_n 1, 1) := by decide +kernel
theorem dX2_mustPass_27 : decode cX2_mustPass 27 = .ok (.invokevirtual 111, 3) := by decide +kernel
theorem dX2_mustPass_30 : decode cX2_mustPass 30 = .ok (.ifCond .eq 7, 3) := by decide +kernel
theorem dX2_mustPass_33 : decode cX2_mustPass 33 = .ok (.iconst 1, 1) := by decide +kernel
theorem dX2_mustPass_34 : decode cX2_mustPass 34 = .ok (.goto 4, 3) := by decide +kernel
theorem dX2_mustPass_37 : decode cX2_mustPass 37 = .ok (.iconst 0, 1) := by decide +kernel
theorem dX2_mustPass_38 : decode cX2_mustPass 38 = .ok (.ireturn, 1) := by decide +kernel
theorem dX2_isKnown_0 : decode cX2_isKnown 0 = .ok (.aload_n 0, 1) := by decide +kernel
theorem dX2_isKnown_1 : decode cX2_isKnown 1 = .ok (.getfield 13, 3) := by decide +kernel
theorem dX2_isKnown_4 : decode cX2_isKnown 4 = .ok (.iload_n 1, 1) := by decide +kernel
theorem dX2_isKnown_5 : decode cX2_isKnown 5 = .ok (.aaload, 1) := by decide +kernel
theorem dX2_isKnown_6 : decode cX2_isKnown 6 = .ok (.getfield 65, 3) := by decide +kernel
theorem dX2_isKnown_9 : decode cX2_isKnown 9 = .ok (.aload_n 0, 1) := by decide +kernel
theorem dX2_isKnown_10 : decode cX2_isKnown 10 = .ok (.getfield 32, 3) := by decide +kernel
theorem dX2_isKnown_13 : decode cX2_isKnown 13 = .ok (.invokevirtual 114, 3) := by decide +kernel
theorem dX2_isKnown_16 : decode cX2_isKnown 16 = .ok (.if_icmp .gt 7, 3) := by decide +kernel
theorem dX2_isKnown_19 : decode cX2_isKnown 19 = .ok (.iconst 1, 1) := by decide +kernel
theorem dX2_isKnown_20 : decode cX2_isKnown 20 = .ok (.goto 4, 3) := by decide +kernel
theorem dX2_isKnown_23 : decode cX2_isKnown 23 = .ok (.iconst 0, 1) := by decide +kernel
theorem dX2_isKnown_24 : decode cX2_isKnown 24 = .ok (.ireturn, 1) := by decide +kernel
theorem dX2_isRead_0 : decode cX2_isRead 0 = .ok (.aload_n 1, 1) := by decide +kernel
theorem dX2_isRead_1 : decode cX2_isRead 1 = .ok (.getfield 68, 3) := by decide +kernel
theorem dX2_isRead_4 : decode cX2_isRead 4 = .ok (.iconst (-1), 1) := by decide +kernel
theorem dX2_isRead_5 : decode cX2_isRead 5 = .ok (.if_icmp .eq 21, 3) := by decide +kernel
theorem dX2_isRead_8 : decode cX2_isRead 8 = .ok (.aload_n 1, 1) := by decide +kernel
theorem dX2_isRead_9 : decode cX2_isRead 9 = .ok (.getfield 68, 3) := by decide +kernel
theorem dX2_isRead_12 : decode cX2_isRead 12 = .ok (.aload_n 0, 1) := by decide +kernel
theorem dX2_isRead_13 : decode cX2_isRead 13 = .ok (.getfield 32, 3) := by decide +kernel
theorem dX2_isRead_16 : decode cX2_isRead 16 = .ok (.invokevirtual 114, 3) := by decide +kernel
theorem dX2_isRead_19 : decode cX2_isRead 19 = .ok (.if_icmp .gt 7, 3) := by decide +kernel
theorem dX2_isRead_22 : decode cX2_isRead 22 = .ok (.iconst 1, 1) := by decide +kernel
theorem dX2_isRead_23 : decode cX2_isRead 23 = .ok (.goto 4, 3) := by decide +kernel
theorem dX2_isRead_26 : decode cX2_isRead 26 = .ok (.iconst 0, 1) := by decide +kernel
theorem dX2_isRead_27 : decode cX2_isRead 27 = .ok (.ireturn, 1) := by decide +kernel
theorem dX2_knownOf_0 : decode cX2_knownOf 0 = .ok (.iconst 0, 1) := by decide +kernel
theorem dX2_knownOf_1 : decode cX2_knownOf 1 = .ok (.istore_n 2, 1) := by decide +kernel
theorem dX2_knownOf_2 : decode cX2_knownOf 2 = .ok (.iconst 0, 1) := by decide +kernel
theorem dX2_knownOf_3 : decode cX2_knownOf 3 = .ok (.istore_n 3, 1) := by decide +kernel
theorem dX2_knownOf_4 : decode cX2_knownOf 4 = .ok (.iload_n 3, 1) := by decide +kernel
theorem dX2_knownOf_5 : decode cX2_knownOf 5 = .ok (.aload_n 0, 1) := by decide +kernel
theorem dX2_knownOf_6 : decode cX2_knownOf 6 = .ok (.getfield 37, 3) := by decide +kernel
theorem dX2_knownOf_9 : decode cX2_knownOf 9 = .ok (.if_icmp .ge 38, 3) := by decide +kernel
theorem dX2_knownOf_12 : decode cX2_knownOf 12 = .ok (.aload_n 0, 1) := by decide +kernel
theorem dX2_knownOf_13 : decode cX2_knownOf 13 = .ok (.iload_n 3, 1) := by decide +kernel
theorem dX2_knownOf_14 : decode cX2_knownOf 14 = .ok (.invokevirtual 118, 3) := by decide +kernel
theorem dX2_knownOf_17 : decode cX2_knownOf 17 = .ok (.ifCond .eq 24, 3) := by decide +kernel
theorem dX2_knownOf_20 : decode cX2_knownOf 20 = .ok (.iload_n 1, 1) := by decide +kernel
theorem dX2_knownOf_21 : decode cX2_knownOf 21 = .ok (.iconst (-1), 1) := by decide +kernel
theorem dX2_knownOf_22 : decode cX2_knownOf 22 = .ok (.if_icmp .eq 16, 3) := by decide +kernel
theorem dX2_knownOf_25 : decode cX2_knownOf 25 = .ok (.aload_n 0, 1) := by decide +kernel
theorem dX2_knownOf_26 : decode cX2_knownOf 26 = .ok (.getfield 13, 3) := by decide +kernel
theorem dX2_knownOf_29 : decode cX2_knownOf 29 = .ok (.iload_n 3, 1) := by decide +kernel
theorem dX2_knownOf_30 : decode cX2_knownOf 30 = .ok (.aaload, 1) := by decide +kernel
theorem dX2_knownOf_31 : decode cX2_knownOf 31 = .ok (.getfield 41, 3) := by decide +kernel
theorem dX2_knownOf_34 : decode cX2_knownOf 34 = .ok (.iload_n 1, 1) := by decide +kernel
theorem dX2_knownOf_35 : decode cX2_knownOf 35 = .ok (.if_icmp .ne 6, 3) := by decide +kernel
theorem dX2_knownOf_38 : decode cX2_knownOf 38 = .ok (.iinc 2 1, 3) := by decide +kernel
theorem dX2_knownOf_41 : decode cX2_knownOf 41 = .ok (.iinc 3 1, 3) := by decide +kernel
theorem dX2_knownOf_44 : decode cX2_knownOf 44 = .ok (.goto (-40), 3) := by decide +kernel
theorem dX2_knownOf_47 : decode cX2_knownOf 47 = .ok (.iload_n 2, 1) := by decide +kernel
theorem dX2_knownOf_48 : decode cX2_knownOf 48 = .ok (.ireturn, 1) := by decide +kernel
theorem dX2_readOnes_0 : decode cX2_readOnes 0 = .ok (.iconst 0, 1) := by decide +kernel
theorem dX2_readOnes_1 : decode cX2_readOnes 1 = .ok (.istore_n 1, 1) := by decide +kernel
theorem dX2_readOnes_2 : decode cX2_readOnes 2 = .ok (.iconst 0, 1) := by decide +kernel
theorem dX2_readOnes_3 : decode cX2_readOnes 3 = .ok (.istore_n 2, 1) := by decide +kernel
theorem dX2_readOnes_4 : decode cX2_readOnes 4 = .ok (.iload_n 2, 1) := by decide +kernel
theorem dX2_readOnes_5 : decode cX2_readOnes 5 = .ok (.aload_n 0, 1) := by decide +kernel
theorem dX2_readOnes_6 : decode cX2_readOnes 6 = .ok (.getfield 37, 3) := by decide +kernel
theorem dX2_readOnes_9 : decode cX2_readOnes 9 = .ok (.if_icmp .ge 25, 3) := by decide +kernel
theorem dX2_readOnes_12 : decode cX2_readOnes 12 = .ok (.aload_n 0, 1) := by decide +kernel
theorem dX2_readOnes_13 : decode cX2_readOnes 13 = .ok (.aload_n 0, 1) := by decide +kernel
theorem dX2_readOnes_14 : decode cX2_readOnes 14 = .ok (.getfield 13, 3) := by decide +kernel
theorem dX2_readOnes_17 : decode cX2_readOnes 17 = .ok (.iload_n 2, 1) := by decide +kernel
theorem dX2_readOnes_18 : decode cX2_readOnes 18 = .ok (.aaload, 1) := by decide +kernel
theorem dX2_readOnes_19 : decode cX2_readOnes 19 = .ok (.invokevirtual 122, 3) := by decide +kernel
theorem dX2_readOnes_22 : decode cX2_readOnes 22 = .ok (.ifCond .eq 6, 3) := by decide +kernel
theorem dX2_readOnes_25 : decode cX2_readOnes 25 = .ok (.iinc 1 1, 3) := by decide +kernel
theorem dX2_readOnes_28 : decode cX2_readOnes 28 = .ok (.iinc 2 1, 3) := by decide +kernel
theorem dX2_readOnes_31 : decode cX2_readOnes 31 = .ok (.goto (-27), 3) := by decide +kernel
theorem dX2_readOnes_34 : decode cX2_readOnes 34 = .ok (.iload_n 1, 1) := by decide +kernel
theorem dX2_readOnes_35 : decode cX2_readOnes 35 = .ok (.ireturn, 1) := by decide +kernel
theorem dX2_answerOf_0 : decode cX2_answerOf 0 = .ok (.aload_n 0, 1) := by decide +kernel
theorem dX2_answerOf_1 : decode cX2_answerOf 1 = .ok (.getfield 13, 3) := by decide +kernel
theorem dX2_answerOf_4 : decode cX2_answerOf 4 = .ok (.iload_n 1, 1) := by decide +kernel
theorem dX2_answerOf_5 : decode cX2_answerOf 5 = .ok (.aaload, 1) := by decide +kernel
theorem dX2_answerOf_6 : decode cX2_answerOf 6 = .ok (.getfield 88, 3) := by decide +kernel
theorem dX2_answerOf_9 : decode cX2_answerOf 9 = .ok (.iload_n 2, 1) := by decide +kernel
theorem dX2_answerOf_10 : decode cX2_answerOf 10 = .ok (.iaload, 1) := by decide +kernel
theorem dX2_answerOf_11 : decode cX2_answerOf 11 = .ok (.ireturn, 1) := by decide +kernel
theorem dX2_tell_0 : decode cX2_tell 0 = .ok (.aload_n 0, 1) := by decide +kernel
theorem dX2_tell_1 : decode cX2_tell 1 = .ok (.getfield 13, 3) := by decide +kernel
theorem dX2_tell_4 : decode cX2_tell 4 = .ok (.iload_n 1, 1) := by decide +kernel
theorem dX2_tell_5 : decode cX2_tell 5 = .ok (.aaload, 1) := by decide +kernel
theorem dX2_tell_6 : decode cX2_tell 6 = .ok (.astore_n 3, 1) := by decide +kernel
theorem dX2_tell_7 : decode cX2_tell 7 = .ok (.aload_n 0, 1) := by decide +kernel
theorem dX2_tell_8 : decode cX2_tell 8 = .ok (.aload_n 3, 1) := by decide +kernel
theorem dX2_tell_9 : decode cX2_tell 9 = .ok (.invokevirtual 122, 3) := by decide +kernel
theorem dX2_tell_12 : decode cX2_tell 12 = .ok (.istore 4, 2) := by decide +kernel
theorem dX2_tell_14 : decode cX2_tell 14 = .ok (.iload_n 2, 1) := by decide +kernel
theorem dX2_tell_15 : decode cX2_tell 15 = .ok (.tableswitch 149 0 10 #[57, 62, 67, 72, 77, 82, 95, 109, 123, 129, 143], 57) := by decide +kernel
theorem dX2_tell_72 : decode cX2_tell 72 = .ok (.aload_n 3, 1) := by decide +kernel
theorem dX2_tell_73 : decode cX2_tell 73 = .ok (.getfield 41, 3) := by decide +kernel
theorem dX2_tell_76 : decode cX2_tell 76 = .ok (.ireturn, 1) := by decide +kernel
theorem dX2_tell_77 : decode cX2_tell 77 = .ok (.aload_n 3, 1) := by decide +kernel
theorem dX2_tell_78 : decode cX2_tell 78 = .ok (.getfield 65, 3) := by decide +kernel
theorem dX2_tell_81 : decode cX2_tell 81 = .ok (.ireturn, 1) := by decide +kernel
theorem dX2_tell_82 : decode cX2_tell 82 = .ok (.aload_n 3, 1) := by decide +kernel
theorem dX2_tell_83 : decode cX2_tell 83 = .ok (.getfield 59, 3) := by decide +kernel
theorem dX2_tell_86 : decode cX2_tell 86 = .ok (.ireturn, 1) := by decide +kernel
theorem dX2_tell_87 : decode cX2_tell 87 = .ok (.aload_n 3, 1) := by decide +kernel
theorem dX2_tell_88 : decode cX2_tell 88 = .ok (.getfield 126, 3) := by decide +kernel
theorem dX2_tell_91 : decode cX2_tell 91 = .ok (.ireturn, 1) := by decide +kernel
theorem dX2_tell_92 : decode cX2_tell 92 = .ok (.aload_n 3, 1) := by decide +kernel
theorem dX2_tell_93 : decode cX2_tell 93 = .ok (.invokestatic 129, 3) := by decide +kernel
theorem dX2_tell_96 : decode cX2_tell 96 = .ok (.ireturn, 1) := by decide +kernel
theorem dX2_tell_97 : decode cX2_tell 97 = .ok (.aload_n 3, 1) := by decide +kernel
theorem dX2_tell_98 : decode cX2_tell 98 = .ok (.invokevirtual 111, 3) := by decide +kernel
theorem dX2_tell_101 : decode cX2_tell 101 = .ok (.ifCond .eq 7, 3) := by decide +kernel
theorem dX2_tell_104 : decode cX2_tell 104 = .ok (.iconst 1, 1) := by decide +kernel
theorem dX2_tell_105 : decode cX2_tell 105 = .ok (.goto 4, 3) := by decide +kernel
theorem dX2_tell_108 : decode cX2_tell 108 = .ok (.iconst 0, 1) := by decide +kernel
theorem dX2_tell_109 : decode cX2_tell 109 = .ok (.ireturn, 1) := by decide +kernel
theorem dX2_tell_110 : decode cX2_tell 110 = .ok (.iload 4, 2) := by decide +kernel
theorem dX2_tell_112 : decode cX2_tell 112 = .ok (.ifCond .eq 10, 3) := by decide +kernel
theorem dX2_tell_115 : decode cX2_tell 115 = .ok (.aload_n 3, 1) := by decide +kernel
theorem dX2_tell_116 : decode cX2_tell 116 = .ok (.getfield 68, 3) := by decide +kernel
theorem dX2_tell_119 : decode cX2_tell 119 = .ok (.goto 4, 3) := by decide +kernel
theorem dX2_tell_122 : decode cX2_tell 122 = .ok (.iconst (-1), 1) := by decide +kernel
theorem dX2_tell_123 : decode cX2_tell 123 = .ok (.ireturn, 1) := by decide +kernel
theorem dX2_tell_124 : decode cX2_tell 124 = .ok (.iload 4, 2) := by decide +kernel
theorem dX2_tell_126 : decode cX2_tell 126 = .ok (.ifCond .eq 10, 3) := by decide +kernel
theorem dX2_tell_129 : decode cX2_tell 129 = .ok (.aload_n 3, 1) := by decide +kernel
theorem dX2_tell_130 : decode cX2_tell 130 = .ok (.getfield 71, 3) := by decide +kernel
theorem dX2_tell_133 : decode cX2_tell 133 = .ok (.goto 4, 3) := by decide +kernel
theorem dX2_tell_136 : decode cX2_tell 136 = .ok (.iconst (-1), 1) := by decide +kernel
theorem dX2_tell_137 : decode cX2_tell 137 = .ok (.ireturn, 1) := by decide +kernel
theorem dX2_tell_138 : decode cX2_tell 138 = .ok (.aload_n 0, 1) := by decide +kernel
theorem dX2_tell_139 : decode cX2_tell 139 = .ok (.aload_n 3, 1) := by decide +kernel
theorem dX2_tell_140 : decode cX2_tell 140 = .ok (.invokevirtual 133, 3) := by decide +kernel
theorem dX2_tell_143 : decode cX2_tell 143 = .ok (.ireturn, 1) := by decide +kernel
theorem dX2_tell_144 : decode cX2_tell 144 = .ok (.iload 4, 2) := by decide +kernel
theorem dX2_tell_146 : decode cX2_tell 146 = .ok (.ifCond .eq 10, 3) := by decide +kernel
theorem dX2_tell_149 : decode cX2_tell 149 = .ok (.aload_n 3, 1) := by decide +kernel
theorem dX2_tell_150 : decode cX2_tell 150 = .ok (.getfield 74, 3) := by decide +kernel
theorem dX2_tell_153 : decode cX2_tell 153 = .ok (.goto 4, 3) := by decide +kernel
theorem dX2_tell_156 : decode cX2_tell 156 = .ok (.iconst (-1), 1) := by decide +kernel
theorem dX2_tell_157 : decode cX2_tell 157 = .ok (.ireturn, 1) := by decide +kernel
theorem dX2_tell_158 : decode cX2_tell 158 = .ok (.aload_n 0, 1) := by decide +kernel
theorem dX2_tell_159 : decode cX2_tell 159 = .ok (.aload_n 3, 1) := by decide +kernel
theorem dX2_tell_160 : decode cX2_tell 160 = .ok (.invokevirtual 136, 3) := by decide +kernel
theorem dX2_tell_163 : decode cX2_tell 163 = .ok (.ireturn, 1) := by decide +kernel
theorem dX2_tell_164 : decode cX2_tell 164 = .ok (.aload_n 0, 1) := by decide +kernel
theorem dX2_tell_165 : decode cX2_tell 165 = .ok (.aload_n 3, 1) := by decide +kernel
theorem dX2_tell_166 : decode cX2_tell 166 = .ok (.invokevirtual 139, 3) := by decide +kernel
theorem dX2_tell_169 : decode cX2_tell 169 = .ok (.ifCond .eq 7, 3) := by decide +kernel
theorem dX2_tell_172 : decode cX2_tell 172 = .ok (.iconst 1, 1) := by decide +kernel
theorem dX2_tell_173 : decode cX2_tell 173 = .ok (.goto 4, 3) := by decide +kernel
theorem dX2_tell_176 : decode cX2_tell 176 = .ok (.iconst 0, 1) := by decide +kernel
theorem dX2_tell_177 : decode cX2_tell 177 = .ok (.ireturn, 1) := by decide +kernel
theorem dX2_outcome_0 : decode cX2_outcome 0 = .ok (.aload_n 0, 1) := by decide +kernel
theorem dX2_outcome_1 : decode cX2_outcome 1 = .ok (.aload_n 1, 1) := by decide +kernel
theorem dX2_outcome_2 : decode cX2_outcome 2 = .ok (.invokevirtual 122, 3) := by decide +kernel
theorem dX2_outcome_5 : decode cX2_outcome 5 = .ok (.ifCond .ne 5, 3) := by decide +kernel
theorem dX2_outcome_8 : decode cX2_outcome 8 = .ok (.iconst 0, 1) := by decide +kernel
theorem dX2_outcome_9 : decode cX2_outcome 9 = .ok (.ireturn, 1) := by decide +kernel
theorem dX2_outcome_10 : decode cX2_outcome 10 = .ok (.aload_n 1, 1) := by decide +kernel
theorem dX2_outcome_11 : decode cX2_outcome 11 = .ok (.getfield 77, 3) := by decide +kernel
theorem dX2_outcome_14 : decode cX2_outcome 14 = .ok (.ifCond .eq 7, 3) := by decide +kernel
theorem dX2_outcome_17 : decode cX2_outcome 17 = .ok (.iconst 1, 1) := by decide +kernel
theorem dX2_outcome_18 : decode cX2_outcome 18 = .ok (.goto 4, 3) := by decide +kernel
theorem dX2_outcome_21 : decode cX2_outcome 21 = .ok (.iconst 2, 1) := by decide +kernel
theorem dX2_outcome_22 : decode cX2_outcome 22 = .ok (.ireturn, 1) := by decide +kernel
theorem dX2_emptyOnes_0 : decode cX2_emptyOnes 0 = .ok (.iconst 0, 1) := by decide +kernel
theorem dX2_emptyOnes_1 : decode cX2_emptyOnes 1 = .ok (.istore_n 1, 1) := by decide +kernel
theorem dX2_emptyOnes_2 : decode cX2_emptyOnes 2 = .ok (.iconst 0, 1) := by decide +kernel
theorem dX2_emptyOnes_3 : decode cX2_emptyOnes 3 = .ok (.istore_n 2, 1) := by decide +kernel
theorem dX2_emptyOnes_4 : decode cX2_emptyOnes 4 = .ok (.iload_n 2, 1) := by decide +kernel
theorem dX2_emptyOnes_5 : decode cX2_emptyOnes 5 = .ok (.bipush 20, 2) := by decide +kernel
theorem dX2_emptyOnes_7 : decode cX2_emptyOnes 7 = .ok (.if_icmp .ge 22, 3) := by decide +kernel
theorem dX2_emptyOnes_10 : decode cX2_emptyOnes 10 = .ok (.aload_n 0, 1) := by decide +kernel
theorem dX2_emptyOnes_11 : decode cX2_emptyOnes 11 = .ok (.getfield 88, 3) := by decide +kernel
theorem dX2_emptyOnes_14 : decode cX2_emptyOnes 14 = .ok (.iload_n 2, 1) := by decide +kernel
theorem dX2_emptyOnes_15 : decode cX2_emptyOnes 15 = .ok (.iaload, 1) := by decide +kernel
theorem dX2_emptyOnes_16 : decode cX2_emptyOnes 16 = .ok (.iconst (-1), 1) := by decide +kernel
theorem dX2_emptyOnes_17 : decode cX2_emptyOnes 17 = .ok (.if_icmp .ne 6, 3) := by decide +kernel
theorem dX2_emptyOnes_20 : decode cX2_emptyOnes 20 = .ok (.iinc 1 1, 3) := by decide +kernel
theorem dX2_emptyOnes_23 : decode cX2_emptyOnes 23 = .ok (.iinc 2 1, 3) := by decide +kernel
theorem dX2_emptyOnes_26 : decode cX2_emptyOnes 26 = .ok (.goto (-22), 3) := by decide +kernel
theorem dX2_emptyOnes_29 : decode cX2_emptyOnes 29 = .ok (.iload_n 1, 1) := by decide +kernel
theorem dX2_emptyOnes_30 : decode cX2_emptyOnes 30 = .ok (.ireturn, 1) := by decide +kernel
theorem dX2_weighAll_0 : decode cX2_weighAll 0 = .ok (.iconst 0, 1) := by decide +kernel
theorem dX2_weighAll_1 : decode cX2_weighAll 1 = .ok (.istore_n 1, 1) := by decide +kernel
theorem dX2_weighAll_2 : decode cX2_weighAll 2 = .ok (.iload_n 1, 1) := by decide +kernel
theorem dX2_weighAll_3 : decode cX2_weighAll 3 = .ok (.aload_n 0, 1) := by decide +kernel
theorem dX2_weighAll_4 : decode cX2_weighAll 4 = .ok (.getfield 37, 3) := by decide +kernel
theorem dX2_weighAll_7 : decode cX2_weighAll 7 = .ok (.if_icmp .ge 19, 3) := by decide +kernel
theorem dX2_weighAll_10 : decode cX2_weighAll 10 = .ok (.aload_n 0, 1) := by decide +kernel
theorem dX2_weighAll_11 : decode cX2_weighAll 11 = .ok (.aload_n 0, 1) := by decide +kernel
theorem dX2_weighAll_12 : decode cX2_weighAll 12 = .ok (.getfield 13, 3) := by decide +kernel
theorem dX2_weighAll_15 : decode cX2_weighAll 15 = .ok (.iload_n 1, 1) := by decide +kernel
theorem dX2_weighAll_16 : decode cX2_weighAll 16 = .ok (.aaload, 1) := by decide +kernel
theorem dX2_weighAll_17 : decode cX2_weighAll 17 = .ok (.invokevirtual 95, 3) := by decide +kernel
theorem dX2_weighAll_20 : decode cX2_weighAll 20 = .ok (.iinc 1 1, 3) := by decide +kernel
theorem dX2_weighAll_23 : decode cX2_weighAll 23 = .ok (.goto (-21), 3) := by decide +kernel
theorem dX2_weighAll_26 : decode cX2_weighAll 26 = .ok (.return_, 1) := by decide +kernel
theorem dX2_weigh_0 : decode cX2_weigh 0 = .ok (.iconst 0, 1) := by decide +kernel
theorem dX2_weigh_1 : decode cX2_weigh 1 = .ok (.istore_n 2, 1) := by decide +kernel
theorem dX2_weigh_2 : decode cX2_weigh 2 = .ok (.iconst 0, 1) := by decide +kernel
theorem dX2_weigh_3 : decode cX2_weigh 3 = .ok (.istore_n 3, 1) := by decide +kernel
theorem dX2_weigh_4 : decode cX2_weigh 4 = .ok (.iload_n 3, 1) := by decide +kernel
theorem dX2_weigh_5 : decode cX2_weigh 5 = .ok (.bipush 20, 2) := by decide +kernel
theorem dX2_weigh_7 : decode cX2_weigh 7 = .ok (.if_icmp .ge 43, 3) := by decide +kernel
theorem dX2_weigh_10 : decode cX2_weigh 10 = .ok (.aload_n 1, 1) := by decide +kernel
theorem dX2_weigh_11 : decode cX2_weigh 11 = .ok (.getfield 88, 3) := by decide +kernel
theorem dX2_weigh_14 : decode cX2_weigh 14 = .ok (.iload_n 3, 1) := by decide +kernel
theorem dX2_weigh_15 : decode cX2_weigh 15 = .ok (.iaload, 1) := by decide +kernel
theorem dX2_weigh_16 : decode cX2_weigh 16 = .ok (.istore 4, 2) := by decide +kernel
theorem dX2_weigh_18 : decode cX2_weigh 18 = .ok (.iload 4, 2) := by decide +kernel
theorem dX2_weigh_20 : decode cX2_weigh 20 = .ok (.iconst (-1), 1) := by decide +kernel
theorem dX2_weigh_21 : decode cX2_weigh 21 = .ok (.if_icmp .eq 23, 3) := by decide +kernel
theorem dX2_weigh_24 : decode cX2_weigh 24 = .ok (.iload 4, 2) := by decide +kernel
theorem dX2_weigh_26 : decode cX2_weigh 26 = .ok (.aload_n 0, 1) := by decide +kernel
theorem dX2_weigh_27 : decode cX2_weigh 27 = .ok (.getfield 24, 3) := by decide +kernel
theorem dX2_weigh_30 : decode cX2_weigh 30 = .ok (.iload_n 3, 1) := by decide +kernel
theorem dX2_weigh_31 : decode cX2_weigh 31 = .ok (.aload_n 1, 1) := by decide +kernel
theorem dX2_weigh_32 : decode cX2_weigh 32 = .ok (.getfield 65, 3) := by decide +kernel
theorem dX2_weigh_35 : decode cX2_weigh 35 = .ok (.invokevirtual 142, 3) := by decide +kernel
theorem dX2_weigh_38 : decode cX2_weigh 38 = .ok (.if_icmp .ne 6, 3) := by decide +kernel
theorem dX2_weigh_41 : decode cX2_weigh 41 = .ok (.iinc 2 1, 3) := by decide +kernel
theorem dX2_weigh_44 : decode cX2_weigh 44 = .ok (.iinc 3 1, 3) := by decide +kernel
theorem dX2_weigh_47 : decode cX2_weigh 47 = .ok (.goto (-43), 3) := by decide +kernel
theorem dX2_weigh_50 : decode cX2_weigh 50 = .ok (.aload_n 1, 1) := by decide +kernel
theorem dX2_weigh_51 : decode cX2_weigh 51 = .ok (.iload_n 2, 1) := by decide +kernel
theorem dX2_weigh_52 : decode cX2_weigh 52 = .ok (.putfield 126, 3) := by decide +kernel
theorem dX2_weigh_55 : decode cX2_weigh 55 = .ok (.aload_n 1, 1) := by decide +kernel
theorem dX2_weigh_56 : decode cX2_weigh 56 = .ok (.aload_n 0, 1) := by decide +kernel
theorem dX2_weigh_57 : decode cX2_weigh 57 = .ok (.getfield 24, 3) := by decide +kernel
theorem dX2_weigh_60 : decode cX2_weigh 60 = .ok (.aload_n 1, 1) := by decide +kernel
theorem dX2_weigh_61 : decode cX2_weigh 61 = .ok (.getfield 55, 3) := by decide +kernel
theorem dX2_weigh_64 : decode cX2_weigh 64 = .ok (.aload_n 1, 1) := by decide +kernel
theorem dX2_weigh_65 : decode cX2_weigh 65 = .ok (.getfield 59, 3) := by decide +kernel
theorem dX2_weigh_68 : decode cX2_weigh 68 = .ok (.iload_n 2, 1) := by decide +kernel
theorem dX2_weigh_69 : decode cX2_weigh 69 = .ok (.aload_n 1, 1) := by decide +kernel
theorem dX2_weigh_70 : decode cX2_weigh 70 = .ok (.getfield 65, 3) := by decide +kernel
theorem dX2_weigh_73 : decode cX2_weigh 73 = .ok (.invokevirtual 148, 3) := by decide +kernel
theorem dX2_weigh_76 : decode cX2_weigh 76 = .ok (.putfield 152, 3) := by decide +kernel
theorem dX2_weigh_79 : decode cX2_weigh 79 = .ok (.return_, 1) := by decide +kernel
theorem dX2_isLate_0 : decode cX2_isLate 0 = .ok (.aload_n 0, 1) := by decide +kernel
theorem dX2_isLate_1 : decode cX2_isLate 1 = .ok (.aload_n 1, 1) := by decide +kernel
theorem dX2_isLate_2 : decode cX2_isLate 2 = .ok (.invokevirtual 122, 3) := by decide +kernel
theorem dX2_isLate_5 : decode cX2_isLate 5 = .ok (.ifCond .eq 10, 3) := by decide +kernel
theorem dX2_isLate_8 : decode cX2_isLate 8 = .ok (.aload_n 1, 1) := by decide +kernel
theorem dX2_isLate_9 : decode cX2_isLate 9 = .ok (.getfield 68, 3) := by decide +kernel
theorem dX2_isLate_12 : decode cX2_isLate 12 = .ok (.goto 10, 3) := by decide +kernel
theorem dX2_isLate_15 : decode cX2_isLate 15 = .ok (.aload_n 0, 1) := by decide +kernel
theorem dX2_isLate_16 : decode cX2_isLate 16 = .ok (.getfield 32, 3) := by decide +kernel
theorem dX2_isLate_19 : decode cX2_isLate 19 = .ok (.invokevirtual 114, 3) := by decide +kernel
theorem dX2_isLate_22 : decode cX2_isLate 22 = .ok (.istore_n 2, 1) := by decide +kernel
theorem dX2_isLate_23 : decode cX2_isLate 23 = .ok (.iload_n 2, 1) := by decide +kernel
theorem dX2_isLate_24 : decode cX2_isLate 24 = .ok (.aload_n 1, 1) := by decide +kernel
theorem dX2_isLate_25 : decode cX2_isLate 25 = .ok (.getfield 65, 3) := by decide +kernel
theorem dX2_isLate_28 : decode cX2_isLate 28 = .ok (.isub, 1) := by decide +kernel
theorem dX2_isLate_29 : decode cX2_isLate 29 = .ok (.aload_n 0, 1) := by decide +kernel
theorem dX2_isLate_30 : decode cX2_isLate 30 = .ok (.getfield 24, 3) := by decide +kernel
theorem dX2_isLate_33 : decode cX2_isLate 33 = .ok (.bipush 23, 2) := by decide +kernel
theorem dX2_isLate_35 : decode cX2_isLate 35 = .ok (.iload_n 2, 1) := by decide +kernel
theorem dX2_isLate_36 : decode cX2_isLate 36 = .ok (.invokevirtual 142, 3) := by decide +kernel
theorem dX2_isLate_39 : decode cX2_isLate 39 = .ok (.if_icmp .le 7, 3) := by decide +kernel
theorem dX2_isLate_42 : decode cX2_isLate 42 = .ok (.iconst 1, 1) := by decide +kernel
theorem dX2_isLate_43 : decode cX2_isLate 43 = .ok (.goto 4, 3) := by decide +kernel
theorem dX2_isLate_46 : decode cX2_isLate 46 = .ok (.iconst 0, 1) := by decide +kernel
theorem dX2_isLate_47 : decode cX2_isLate 47 = .ok (.ireturn, 1) := by decide +kernel
theorem dX2_trueReasons_0 : decode cX2_trueReasons 0 = .ok (.aload_n 0, 1) := by decide +kernel
theorem dX2_trueReasons_1 : decode cX2_trueReasons 1 = .ok (.aload_n 1, 1) := by decide +kernel
theorem dX2_trueReasons_2 : decode cX2_trueReasons 2 = .ok (.invokevirtual 139, 3) := by decide +kernel
theorem dX2_trueReasons_5 : decode cX2_trueReasons 5 = .ok (.ifCond .eq 13, 3) := by decide +kernel
theorem dX2_trueReasons_8 : decode cX2_trueReasons 8 = .ok (.aload_n 1, 1) := by decide +kernel
theorem dX2_trueReasons_9 : decode cX2_trueReasons 9 = .ok (.getfield 152, 3) := by decide +kernel
theorem dX2_trueReasons_12 : decode cX2_trueReasons 12 = .ok (.bipush 8, 2) := by decide +kernel
theorem dX2_trueReasons_14 : decode cX2_trueReasons 14 = .ok (.ior, 1) := by decide +kernel
theorem dX2_trueReasons_15 : decode cX2_trueReasons 15 = .ok (.goto 7, 3) := by decide +kernel
theorem dX2_trueReasons_18 : decode cX2_trueReasons 18 = .ok (.aload_n 1, 1) := by decide +kernel
theorem dX2_trueReasons_19 : decode cX2_trueReasons 19 = .ok (.getfield 152, 3) := by decide +kernel
theorem dX2_trueReasons_22 : decode cX2_trueReasons 22 = .ok (.ireturn, 1) := by decide +kernel
theorem dX2_partedOnes_0 : decode cX2_partedOnes 0 = .ok (.iconst 0, 1) := by decide +kernel
theorem dX2_partedOnes_1 : decode cX2_partedOnes 1 = .ok (.istore_n 3, 1) := by decide +kernel
theorem dX2_partedOnes_2 : decode cX2_partedOnes 2 = .ok (.iconst 0, 1) := by decide +kernel
theorem dX2_partedOnes_3 : decode cX2_partedOnes 3 = .ok (.istore 4, 2) := by decide +kernel
theorem dX2_partedOnes_5 : decode cX2_partedOnes 5 = .ok (.iload 4, 2) := by decide +kernel
theorem dX2_partedOnes_7 : decode cX2_partedOnes 7 = .ok (.aload_n 0, 1) := by decide +kernel
theorem dX2_partedOnes_8 : decode cX2_partedOnes 8 = .ok (.getfield 37, 3) := by decide +kernel
theorem dX2_partedOnes_11 : decode cX2_partedOnes 11 = .ok (.if_icmp .ge 54, 3) := by decide +kernel
theorem dX2_partedOnes_14 : decode cX2_partedOnes 14 = .ok (.aload_n 0, 1) := by decide +kernel
theorem dX2_partedOnes_15 : decode cX2_partedOnes 15 = .ok (.getfield 13, 3) := by decide +kernel
theorem dX2_partedOnes_18 : decode cX2_partedOnes 18 = .ok (.iload 4, 2) := by decide +kernel
theorem dX2_partedOnes_20 : decode cX2_partedOnes 20 = .ok (.aaload, 1) := by decide +kernel
theorem dX2_partedOnes_21 : decode cX2_partedOnes 21 = .ok (.astore 5, 2) := by decide +kernel
theorem dX2_partedOnes_23 : decode cX2_partedOnes 23 = .ok (.aload_n 0, 1) := by decide +kernel
theorem dX2_partedOnes_24 : decode cX2_partedOnes 24 = .ok (.aload 5, 2) := by decide +kernel
theorem dX2_partedOnes_26 : decode cX2_partedOnes 26 = .ok (.invokevirtual 122, 3) := by decide +kernel
theorem dX2_partedOnes_29 : decode cX2_partedOnes 29 = .ok (.ifCond .eq 30, 3) := by decide +kernel
theorem dX2_partedOnes_32 : decode cX2_partedOnes 32 = .ok (.iload_n 1, 1) := by decide +kernel
theorem dX2_partedOnes_33 : decode cX2_partedOnes 33 = .ok (.iconst (-1), 1) := by decide +kernel
theorem dX2_partedOnes_34 : decode cX2_partedOnes 34 = .ok (.if_icmp .eq 12, 3) := by decide +kernel
theorem dX2_partedOnes_37 : decode cX2_partedOnes 37 = .ok (.aload 5, 2) := by decide +kernel
theorem dX2_partedOnes_39 : decode cX2_partedOnes 39 = .ok (.getfield 55, 3) := by decide +kernel
theorem dX2_partedOnes_42 : decode cX2_partedOnes 42 = .ok (.iload_n 1, 1) := by decide +kernel
theorem dX2_partedOnes_43 : decode cX2_partedOnes 43 = .ok (.if_icmp .ne 16, 3) := by decide +kernel
theorem dX2_partedOnes_46 : decode cX2_partedOnes 46 = .ok (.aload_n 0, 1) := by decide +kernel
theorem dX2_partedOnes_47 : decode cX2_partedOnes 47 = .ok (.aload 5, 2) := by decide +kernel
theorem dX2_partedOnes_49 : decode cX2_partedOnes 49 = .ok (.iload_n 2, 1) := by decide +kernel
theorem dX2_partedOnes_50 : decode cX2_partedOnes 50 = .ok (.invokevirtual 154, 3) := by decide +kernel
theorem dX2_partedOnes_53 : decode cX2_partedOnes 53 = .ok (.ifCond .eq 6, 3) := by decide +kernel
theorem dX2_partedOnes_56 : decode cX2_partedOnes 56 = .ok (.iinc 3 1, 3) := by decide +kernel
theorem dX2_partedOnes_59 : decode cX2_partedOnes 59 = .ok (.iinc 4 1, 3) := by decide +kernel
theorem dX2_partedOnes_62 : decode cX2_partedOnes 62 = .ok (.goto (-57), 3) := by decide +kernel
theorem dX2_partedOnes_65 : decode cX2_partedOnes 65 = .ok (.iload_n 3, 1) := by decide +kernel
theorem dX2_partedOnes_66 : decode cX2_partedOnes 66 = .ok (.ireturn, 1) := by decide +kernel
theorem dX2_isParted_0 : decode cX2_isParted 0 = .ok (.iload_n 2, 1) := by decide +kernel
theorem dX2_isParted_1 : decode cX2_isParted 1 = .ok (.lookupswitch 67 #[(0, 27), (1, 47)], 27) := by decide +kernel
theorem dX2_isParted_28 : decode cX2_isParted 28 = .ok (.aload_n 1, 1) := by decide +kernel
theorem dX2_isParted_29 : decode cX2_isParted 29 = .ok (.getfield 77, 3) := by decide +kernel
theorem dX2_isParted_32 : decode cX2_isParted 32 = .ok (.ifCond .eq 14, 3) := by decide +kernel
theorem dX2_isParted_35 : decode cX2_isParted 35 = .ok (.aload_n 1, 1) := by decide +kernel
theorem dX2_isParted_36 : decode cX2_isParted 36 = .ok (.invokevirtual 111, 3) := by decide +kernel
theorem dX2_isParted_39 : decode cX2_isParted 39 = .ok (.ifCond .ne 7, 3) := by decide +kernel
theorem dX2_isParted_42 : decode cX2_isParted 42 = .ok (.iconst 1, 1) := by decide +kernel
theorem dX2_isParted_43 : decode cX2_isParted 43 = .ok (.goto 4, 3) := by decide +kernel
theorem dX2_isParted_46 : decode cX2_isParted 46 = .ok (.iconst 0, 1) := by decide +kernel
theorem dX2_isParted_47 : decode cX2_isParted 47 = .ok (.ireturn, 1) := by decide +kernel
theorem dX2_isParted_48 : decode cX2_isParted 48 = .ok (.aload_n 1, 1) := by decide +kernel
theorem dX2_isParted_49 : decode cX2_isParted 49 = .ok (.getfield 77, 3) := by decide +kernel
theorem dX2_isParted_52 : decode cX2_isParted 52 = .ok (.ifCond .ne 14, 3) := by decide +kernel
theorem dX2_isParted_55 : decode cX2_isParted 55 = .ok (.aload_n 1, 1) := by decide +kernel
theorem dX2_isParted_56 : decode cX2_isParted 56 = .ok (.invokevirtual 111, 3) := by decide +kernel
theorem dX2_isParted_59 : decode cX2_isParted 59 = .ok (.ifCond .eq 7, 3) := by decide +kernel
theorem dX2_isParted_62 : decode cX2_isParted 62 = .ok (.iconst 1, 1) := by decide +kernel
theorem dX2_isParted_63 : decode cX2_isParted 63 = .ok (.goto 4, 3) := by decide +kernel
theorem dX2_isParted_66 : decode cX2_isParted 66 = .ok (.iconst 0, 1) := by decide +kernel
theorem dX2_isParted_67 : decode cX2_isParted 67 = .ok (.ireturn, 1) := by decide +kernel
theorem dX2_isParted_68 : decode cX2_isParted 68 = .ok (.aload_n 1, 1) := by decide +kernel
theorem dX2_isParted_69 : decode cX2_isParted 69 = .ok (.getfield 77, 3) := by decide +kernel
theorem dX2_isParted_72 : decode cX2_isParted 72 = .ok (.ifCond .ne 22, 3) := by decide +kernel
theorem dX2_isParted_75 : decode cX2_isParted 75 = .ok (.aload_n 0, 1) := by decide +kernel
theorem dX2_isParted_76 : decode cX2_isParted 76 = .ok (.aload_n 1, 1) := by decide +kernel
theorem dX2_isParted_77 : decode cX2_isParted 77 = .ok (.invokevirtual 136, 3) := by decide +kernel
theorem dX2_isParted_80 : decode cX2_isParted 80 = .ok (.aload_n 1, 1) := by decide +kernel
theorem dX2_isParted_81 : decode cX2_isParted 81 = .ok (.getfield 74, 3) := by decide +kernel
theorem dX2_isParted_84 : decode cX2_isParted 84 = .ok (.ishr, 1) := by decide +kernel
theorem dX2_isParted_85 : decode cX2_isParted 85 = .ok (.iconst 1, 1) := by decide +kernel
theorem dX2_isParted_86 : decode cX2_isParted 86 = .ok (.iand, 1) := by decide +kernel
theorem dX2_isParted_87 : decode cX2_isParted 87 = .ok (.ifCond .ne 7, 3) := by decide +kernel
theorem dX2_isParted_90 : decode cX2_isParted 90 = .ok (.iconst 1, 1) := by decide +kernel
theorem dX2_isParted_91 : decode cX2_isParted 91 = .ok (.goto 4, 3) := by decide +kernel
theorem dX2_isParted_94 : decode cX2_isParted 94 = .ok (.iconst 0, 1) := by decide +kernel
theorem dX2_isParted_95 : decode cX2_isParted 95 = .ok (.ireturn, 1) := by decide +kernel
theorem dX2_isReadBy_0 : decode cX2_isReadBy 0 = .ok (.aload_n 0, 1) := by decide +kernel
theorem dX2_isReadBy_1 : decode cX2_isReadBy 1 = .ok (.aload_n 1, 1) := by decide +kernel
theorem dX2_isReadBy_2 : decode cX2_isReadBy 2 = .ok (.invokevirtual 122, 3) := by decide +kernel
theorem dX2_isReadBy_5 : decode cX2_isReadBy 5 = .ok (.ifCond .eq 15, 3) := by decide +kernel
theorem dX2_isReadBy_8 : decode cX2_isReadBy 8 = .ok (.aload_n 1, 1) := by decide +kernel
theorem dX2_isReadBy_9 : decode cX2_isReadBy 9 = .ok (.getfield 71, 3) := by decide +kernel
theorem dX2_isReadBy_12 : decode cX2_isReadBy 12 = .ok (.iload_n 2, 1) := by decide +kernel
theorem dX2_isReadBy_13 : decode cX2_isReadBy 13 = .ok (.if_icmp .ne 7, 3) := by decide +kernel
theorem dX2_isReadBy_16 : decode cX2_isReadBy 16 = .ok (.iconst 1, 1) := by decide +kernel
theorem dX2_isReadBy_17 : decode cX2_isReadBy 17 = .ok (.goto 4, 3) := by decide +kernel
theorem dX2_isReadBy_20 : decode cX2_isReadBy 20 = .ok (.iconst 0, 1) := by decide +kernel
theorem dX2_isReadBy_21 : decode cX2_isReadBy 21 = .ok (.ireturn, 1) := by decide +kernel
theorem dX2_leastAsked_0 : decode cX2_leastAsked 0 = .ok (.iconst 0, 1) := by decide +kernel
theorem dX2_leastAsked_1 : decode cX2_leastAsked 1 = .ok (.istore_n 3, 1) := by decide +kernel
theorem dX2_leastAsked_2 : decode cX2_leastAsked 2 = .ok (.iconst 0, 1) := by decide +kernel
theorem dX2_leastAsked_3 : decode cX2_leastAsked 3 = .ok (.istore 4, 2) := by decide +kernel
theorem dX2_leastAsked_5 : decode cX2_leastAsked 5 = .ok (.iload 4, 2) := by decide +kernel
theorem dX2_leastAsked_7 : decode cX2_leastAsked 7 = .ok (.aload_n 0, 1) := by decide +kernel
theorem dX2_leastAsked_8 : decode cX2_leastAsked 8 = .ok (.getfield 37, 3) := by decide +kernel
theorem dX2_leastAsked_11 : decode cX2_leastAsked 11 = .ok (.if_icmp .ge 57, 3) := by decide +kernel
theorem dX2_leastAsked_14 : decode cX2_leastAsked 14 = .ok (.aload_n 0, 1) := by decide +kernel
theorem dX2_leastAsked_15 : decode cX2_leastAsked 15 = .ok (.getfield 13, 3) := by decide +kernel
theorem dX2_leastAsked_18 : decode cX2_leastAsked 18 = .ok (.iload 4, 2) := by decide +kernel
theorem dX2_leastAsked_20 : decode cX2_leastAsked 20 = .ok (.aaload, 1) := by decide +kernel
theorem dX2_leastAsked_21 : decode cX2_leastAsked 21 = .ok (.astore 5, 2) := by decide +kernel
theorem dX2_leastAsked_23 : decode cX2_leastAsked 23 = .ok (.aload_n 0, 1) := by decide +kernel
theorem dX2_leastAsked_24 : decode cX2_leastAsked 24 = .ok (.aload 5, 2) := by decide +kernel
theorem dX2_leastAsked_26 : decode cX2_leastAsked 26 = .ok (.iload_n 1, 1) := by decide +kernel
theorem dX2_leastAsked_27 : decode cX2_leastAsked 27 = .ok (.invokevirtual 157, 3) := by decide +kernel
theorem dX2_leastAsked_30 : decode cX2_leastAsked 30 = .ok (.ifCond .eq 32, 3) := by decide +kernel
theorem dX2_leastAsked_33 : decode cX2_leastAsked 33 = .ok (.aload 5, 2) := by decide +kernel
theorem dX2_leastAsked_35 : decode cX2_leastAsked 35 = .ok (.getfield 55, 3) := by decide +kernel
theorem dX2_leastAsked_38 : decode cX2_leastAsked 38 = .ok (.iload_n 2, 1) := by decide +kernel
theorem dX2_leastAsked_39 : decode cX2_leastAsked 39 = .ok (.if_icmp .ne 23, 3) := by decide +kernel
theorem dX2_leastAsked_42 : decode cX2_leastAsked 42 = .ok (.aload 5, 2) := by decide +kernel
theorem dX2_leastAsked_44 : decode cX2_leastAsked 44 = .ok (.getfield 77, 3) := by decide +kernel
theorem dX2_leastAsked_47 : decode cX2_leastAsked 47 = .ok (.ifCond .ne 15, 3) := by decide +kernel
theorem dX2_leastAsked_50 : decode cX2_leastAsked 50 = .ok (.iload_n 3, 1) := by decide +kernel
theorem dX2_leastAsked_51 : decode cX2_leastAsked 51 = .ok (.aload 5, 2) := by decide +kernel
theorem dX2_leastAsked_53 : decode cX2_leastAsked 53 = .ok (.getfield 126, 3) := by decide +kernel
theorem dX2_leastAsked_56 : decode cX2_leastAsked 56 = .ok (.iconst 1, 1) := by decide +kernel
theorem dX2_leastAsked_57 : decode cX2_leastAsked 57 = .ok (.iadd, 1) := by decide +kernel
theorem dX2_leastAsked_58 : decode cX2_leastAsked 58 = .ok (.invokestatic 160, 3) := by decide +kernel
theorem dX2_leastAsked_61 : decode cX2_leastAsked 61 = .ok (.istore_n 3, 1) := by decide +kernel
theorem dX2_leastAsked_62 : decode cX2_leastAsked 62 = .ok (.iinc 4 1, 3) := by decide +kernel
theorem dX2_leastAsked_65 : decode cX2_leastAsked 65 = .ok (.goto (-60), 3) := by decide +kernel
theorem dX2_leastAsked_68 : decode cX2_leastAsked 68 = .ok (.iload_n 3, 1) := by decide +kernel
theorem dX2_leastAsked_69 : decode cX2_leastAsked 69 = .ok (.ireturn, 1) := by decide +kernel
theorem dX2_mostAsked_0 : decode cX2_mostAsked 0 = .ok (.bipush 21, 2) := by decide +kernel
theorem dX2_mostAsked_2 : decode cX2_mostAsked 2 = .ok (.istore_n 3, 1) := by decide +kernel
theorem dX2_mostAsked_3 : decode cX2_mostAsked 3 = .ok (.iconst 0, 1) := by decide +kernel
theorem dX2_mostAsked_4 : decode cX2_mostAsked 4 = .ok (.istore 4, 2) := by decide +kernel
theorem dX2_mostAsked_6 : decode cX2_mostAsked 6 = .ok (.iload 4, 2) := by decide +kernel
theorem dX2_mostAsked_8 : decode cX2_mostAsked 8 = .ok (.aload_n 0, 1) := by decide +kernel
theorem dX2_mostAsked_9 : decode cX2_mostAsked 9 = .ok (.getfield 37, 3) := by decide +kernel
theorem dX2_mostAsked_12 : decode cX2_mostAsked 12 = .ok (.if_icmp .ge 55, 3) := by decide +kernel
theorem dX2_mostAsked_15 : decode cX2_mostAsked 15 = .ok (.aload_n 0, 1) := by decide +kernel
theorem dX2_mostAsked_16 : decode cX2_mostAsked 16 = .ok (.getfield 13, 3) := by decide +kernel
theorem dX2_mostAsked_19 : decode cX2_mostAsked 19 = .ok (.iload 4, 2) := by decide +kernel
theorem dX2_mostAsked_21 : decode cX2_mostAsked 21 = .ok (.aaload, 1) := by decide +kernel
theorem dX2_mostAsked_22 : decode cX2_mostAsked 22 = .ok (.astore 5, 2) := by decide +kernel
theorem dX2_mostAsked_24 : decode cX2_mostAsked 24 = .ok (.aload_n 0, 1) := by decide +kernel
theorem dX2_mostAsked_25 : decode cX2_mostAsked 25 = .ok (.aload 5, 2) := by decide +kernel
theorem dX2_mostAsked_27 : decode cX2_mostAsked 27 = .ok (.iload_n 1, 1) := by decide +kernel
theorem dX2_mostAsked_28 : decode cX2_mostAsked 28 = .ok (.invokevirtual 157, 3) := by decide +kernel
theorem dX2_mostAsked_31 : decode cX2_mostAsked 31 = .ok (.ifCond .eq 30, 3) := by decide +kernel
theorem dX2_mostAsked_34 : decode cX2_mostAsked 34 = .ok (.aload 5, 2) := by decide +kernel
theorem dX2_mostAsked_36 : decode cX2_mostAsked 36 = .ok (.getfield 55, 3) := by decide +kernel
theorem dX2_mostAsked_39 : decode cX2_mostAsked 39 = .ok (.iload_n 2, 1) := by decide +kernel
theorem dX2_mostAsked_40 : decode cX2_mostAsked 40 = .ok (.if_icmp .ne 21, 3) := by decide +kernel
theorem dX2_mostAsked_43 : decode cX2_mostAsked 43 = .ok (.aload 5, 2) := by decide +kernel
theorem dX2_mostAsked_45 : decode cX2_mostAsked 45 = .ok (.getfield 77, 3) := by decide +kernel
theorem dX2_mostAsked_48 : decode cX2_mostAsked 48 = .ok (.ifCond .eq 13, 3) := by decide +kernel
theorem dX2_mostAsked_51 : decode cX2_mostAsked 51 = .ok (.iload_n 3, 1) := by decide +kernel
theorem dX2_mostAsked_52 : decode cX2_mostAsked 52 = .ok (.aload 5, 2) := by decide +kernel
theorem dX2_mostAsked_54 : decode cX2_mostAsked 54 = .ok (.getfield 126, 3) := by decide +kernel
theorem dX2_mostAsked_57 : decode cX2_mostAsked 57 = .ok (.invokestatic 165, 3) := by decide +kernel
theorem dX2_mostAsked_60 : decode cX2_mostAsked 60 = .ok (.istore_n 3, 1) := by decide +kernel
theorem dX2_mostAsked_61 : decode cX2_mostAsked 61 = .ok (.iinc 4 1, 3) := by decide +kernel
theorem dX2_mostAsked_64 : decode cX2_mostAsked 64 = .ok (.goto (-58), 3) := by decide +kernel
theorem dX2_mostAsked_67 : decode cX2_mostAsked 67 = .ok (.iload_n 3, 1) := by decide +kernel
theorem dX2_mostAsked_68 : decode cX2_mostAsked 68 = .ok (.ireturn, 1) := by decide +kernel
theorem dX2_waysToAsk_0 : decode cX2_waysToAsk 0 = .ok (.iconst 0, 1) := by decide +kernel
theorem dX2_waysToAsk_1 : decode cX2_waysToAsk 1 = .ok (.aload_n 0, 1) := by decide +kernel
theorem dX2_waysToAsk_2 : decode cX2_waysToAsk 2 = .ok (.iload_n 1, 1) := by decide +kernel
theorem dX2_waysToAsk_3 : decode cX2_waysToAsk 3 = .ok (.iload_n 2, 1) := by decide +kernel
theorem dX2_waysToAsk_4 : decode cX2_waysToAsk 4 = .ok (.invokevirtual 168, 3) := by decide +kernel
theorem dX2_waysToAsk_7 : decode cX2_waysToAsk 7 = .ok (.aload_n 0, 1) := by decide +kernel
theorem dX2_waysToAsk_8 : decode cX2_waysToAsk 8 = .ok (.iload_n 1, 1) := by decide +kernel
theorem dX2_waysToAsk_9 : decode cX2_waysToAsk 9 = .ok (.iload_n 2, 1) := by decide +kernel
theorem dX2_waysToAsk_10 : decode cX2_waysToAsk 10 = .ok (.invokevirtual 171, 3) := by decide +kernel
theorem dX2_waysToAsk_13 : decode cX2_waysToAsk 13 = .ok (.isub, 1) := by decide +kernel
theorem dX2_waysToAsk_14 : decode cX2_waysToAsk 14 = .ok (.iconst 1, 1) := by decide +kernel
theorem dX2_waysToAsk_15 : decode cX2_waysToAsk 15 = .ok (.iadd, 1) := by decide +kernel
theorem dX2_waysToAsk_16 : decode cX2_waysToAsk 16 = .ok (.invokestatic 160, 3) := by decide +kernel
theorem dX2_waysToAsk_19 : decode cX2_waysToAsk 19 = .ok (.ireturn, 1) := by decide +kernel
theorem dX2_fittingRules_0 : decode cX2_fittingRules 0 = .ok (.aload_n 0, 1) := by decide +kernel
theorem dX2_fittingRules_1 : decode cX2_fittingRules 1 = .ok (.iload_n 1, 1) := by decide +kernel
theorem dX2_fittingRules_2 : decode cX2_fittingRules 2 = .ok (.iconst 0, 1) := by decide +kernel
theorem dX2_fittingRules_3 : decode cX2_fittingRules 3 = .ok (.invokevirtual 174, 3) := by decide +kernel
theorem dX2_fittingRules_6 : decode cX2_fittingRules 6 = .ok (.aload_n 0, 1) := by decide +kernel
theorem dX2_fittingRules_7 : decode cX2_fittingRules 7 = .ok (.iload_n 1, 1) := by decide +kernel
theorem dX2_fittingRules_8 : decode cX2_fittingRules 8 = .ok (.iconst 1, 1) := by decide +kernel
theorem dX2_fittingRules_9 : decode cX2_fittingRules 9 = .ok (.invokevirtual 174, 3) := by decide +kernel
theorem dX2_fittingRules_12 : decode cX2_fittingRules 12 = .ok (.imul, 1) := by decide +kernel
theorem dX2_fittingRules_13 : decode cX2_fittingRules 13 = .ok (.ireturn, 1) := by decide +kernel
theorem dX2_fittingRule_0 : decode cX2_fittingRule 0 = .ok (.aload_n 0, 1) := by decide +kernel
theorem dX2_fittingRule_1 : decode cX2_fittingRule 1 = .ok (.iload_n 1, 1) := by decide +kernel
theorem dX2_fittingRule_2 : decode cX2_fittingRule 2 = .ok (.iconst 1, 1) := by decide +kernel
theorem dX2_fittingRule_3 : decode cX2_fittingRule 3 = .ok (.invokevirtual 174, 3) := by decide +kernel
theorem dX2_fittingRule_6 : decode cX2_fittingRule 6 = .ok (.istore_n 3, 1) := by decide +kernel
theorem dX2_fittingRule_7 : decode cX2_fittingRule 7 = .ok (.iload_n 3, 1) := by decide +kernel
theorem dX2_fittingRule_8 : decode cX2_fittingRule 8 = .ok (.ifCond .le 15, 3) := by decide +kernel
theorem dX2_fittingRule_11 : decode cX2_fittingRule 11 = .ok (.iload_n 2, 1) := by decide +kernel
theorem dX2_fittingRule_12 : decode cX2_fittingRule 12 = .ok (.iload_n 3, 1) := by decide +kernel
theorem dX2_fittingRule_13 : decode cX2_fittingRule 13 = .ok (.aload_n 0, 1) := by decide +kernel
theorem dX2_fittingRule_14 : decode cX2_fittingRule 14 = .ok (.iload_n 1, 1) := by decide +kernel
theorem dX2_fittingRule_15 : decode cX2_fittingRule 15 = .ok (.iconst 0, 1) := by decide +kernel
theorem dX2_fittingRule_16 : decode cX2_fittingRule 16 = .ok (.invokevirtual 174, 3) := by decide +kernel
theorem dX2_fittingRule_19 : decode cX2_fittingRule 19 = .ok (.imul, 1) := by decide +kernel
theorem dX2_fittingRule_20 : decode cX2_fittingRule 20 = .ok (.if_icmp .lt 5, 3) := by decide +kernel
theorem dX2_fittingRule_23 : decode cX2_fittingRule 23 = .ok (.iconst (-1), 1) := by decide +kernel
theorem dX2_fittingRule_24 : decode cX2_fittingRule 24 = .ok (.ireturn, 1) := by decide +kernel
theorem dX2_fittingRule_25 : decode cX2_fittingRule 25 = .ok (.bipush 100, 2) := by decide +kernel
theorem dX2_fittingRule_27 : decode cX2_fittingRule 27 = .ok (.aload_n 0, 1) := by decide +kernel
theorem dX2_fittingRule_28 : decode cX2_fittingRule 28 = .ok (.iload_n 1, 1) := by decide +kernel
theorem dX2_fittingRule_29 : decode cX2_fittingRule 29 = .ok (.iconst 0, 1) := by decide +kernel
theorem dX2_fittingRule_30 : decode cX2_fittingRule 30 = .ok (.invokevirtual 171, 3) := by decide +kernel
theorem dX2_fittingRule_33 : decode cX2_fittingRule 33 = .ok (.iload_n 2, 1) := by decide +kernel
theorem dX2_fittingRule_34 : decode cX2_fittingRule 34 = .ok (.iload_n 3, 1) := by decide +kernel
theorem dX2_fittingRule_35 : decode cX2_fittingRule 35 = .ok (.idiv, 1) := by decide +kernel
theorem dX2_fittingRule_36 : decode cX2_fittingRule 36 = .ok (.iadd, 1) := by decide +kernel
theorem dX2_fittingRule_37 : decode cX2_fittingRule 37 = .ok (.imul, 1) := by decide +kernel
theorem dX2_fittingRule_38 : decode cX2_fittingRule 38 = .ok (.aload_n 0, 1) := by decide +kernel
theorem dX2_fittingRule_39 : decode cX2_fittingRule 39 = .ok (.iload_n 1, 1) := by decide +kernel
theorem dX2_fittingRule_40 : decode cX2_fittingRule 40 = .ok (.iconst 1, 1) := by decide +kernel
theorem dX2_fittingRule_41 : decode cX2_fittingRule 41 = .ok (.invokevirtual 171, 3) := by decide +kernel
theorem dX2_fittingRule_44 : decode cX2_fittingRule 44 = .ok (.iadd, 1) := by decide +kernel
theorem dX2_fittingRule_45 : decode cX2_fittingRule 45 = .ok (.iload_n 2, 1) := by decide +kernel
theorem dX2_fittingRule_46 : decode cX2_fittingRule 46 = .ok (.iload_n 3, 1) := by decide +kernel
theorem dX2_fittingRule_47 : decode cX2_fittingRule 47 = .ok (.irem, 1) := by decide +kernel
theorem dX2_fittingRule_48 : decode cX2_fittingRule 48 = .ok (.iadd, 1) := by decide +kernel
theorem dX2_fittingRule_49 : decode cX2_fittingRule 49 = .ok (.ireturn, 1) := by decide +kernel
theorem dX2_isUnlike_0 : decode cX2_isUnlike 0 = .ok (.aload_n 0, 1) := by decide +kernel
theorem dX2_isUnlike_1 : decode cX2_isUnlike 1 = .ok (.aload_n 2, 1) := by decide +kernel
theorem dX2_isUnlike_2 : decode cX2_isUnlike 2 = .ok (.iload_n 3, 1) := by decide +kernel
theorem dX2_isUnlike_3 : decode cX2_isUnlike 3 = .ok (.invokevirtual 157, 3) := by decide +kernel
theorem dX2_isUnlike_6 : decode cX2_isUnlike 6 = .ok (.ifCond .eq 36, 3) := by decide +kernel
theorem dX2_isUnlike_9 : decode cX2_isUnlike 9 = .ok (.aload_n 2, 1) := by decide +kernel
theorem dX2_isUnlike_10 : decode cX2_isUnlike 10 = .ok (.getfield 77, 3) := by decide +kernel
theorem dX2_isUnlike_13 : decode cX2_isUnlike 13 = .ok (.ifCond .ne 29, 3) := by decide +kernel
theorem dX2_isUnlike_16 : decode cX2_isUnlike 16 = .ok (.aload_n 1, 1) := by decide +kernel
theorem dX2_isUnlike_17 : decode cX2_isUnlike 17 = .ok (.getfield 55, 3) := by decide +kernel
theorem dX2_isUnlike_20 : decode cX2_isUnlike 20 = .ok (.aload_n 2, 1) := by decide +kernel
theorem dX2_isUnlike_21 : decode cX2_isUnlike 21 = .ok (.getfield 55, 3) := by decide +kernel
theorem dX2_isUnlike_24 : decode cX2_isUnlike 24 = .ok (.if_icmp .eq 18, 3) := by decide +kernel
theorem dX2_isUnlike_27 : decode cX2_isUnlike 27 = .ok (.aload_n 2, 1) := by decide +kernel
theorem dX2_isUnlike_28 : decode cX2_isUnlike 28 = .ok (.getfield 126, 3) := by decide +kernel
theorem dX2_isUnlike_31 : decode cX2_isUnlike 31 = .ok (.aload_n 1, 1) := by decide +kernel
theorem dX2_isUnlike_32 : decode cX2_isUnlike 32 = .ok (.getfield 126, 3) := by decide +kernel
theorem dX2_isUnlike_35 : decode cX2_isUnlike 35 = .ok (.if_icmp .lt 7, 3) := by decide +kernel
theorem dX2_isUnlike_38 : decode cX2_isUnlike 38 = .ok (.iconst 1, 1) := by decide +kernel
theorem dX2_isUnlike_39 : decode cX2_isUnlike 39 = .ok (.goto 4, 3) := by decide +kernel
theorem dX2_isUnlike_42 : decode cX2_isUnlike 42 = .ok (.iconst 0, 1) := by decide +kernel
theorem dX2_isUnlike_43 : decode cX2_isUnlike 43 = .ok (.ireturn, 1) := by decide +kernel
theorem dX2_unlikePairs_0 : decode cX2_unlikePairs 0 = .ok (.iconst 0, 1) := by decide +kernel
theorem dX2_unlikePairs_1 : decode cX2_unlikePairs 1 = .ok (.istore_n 2, 1) := by decide +kernel
theorem dX2_unlikePairs_2 : decode cX2_unlikePairs 2 = .ok (.iconst 0, 1) := by decide +kernel
theorem dX2_unlikePairs_3 : decode cX2_unlikePairs 3 = .ok (.istore_n 3, 1) := by decide +kernel
theorem dX2_unlikePairs_4 : decode cX2_unlikePairs 4 = .ok (.iload_n 3, 1) := by decide +kernel
theorem dX2_unlikePairs_5 : decode cX2_unlikePairs 5 = .ok (.aload_n 0, 1) := by decide +kernel
theorem dX2_unlikePairs_6 : decode cX2_unlikePairs 6 = .ok (.getfield 37, 3) := by decide +kernel
theorem dX2_unlikePairs_9 : decode cX2_unlikePairs 9 = .ok (.if_icmp .ge 80, 3) := by decide +kernel
theorem dX2_unlikePairs_12 : decode cX2_unlikePairs 12 = .ok (.aload_n 0, 1) := by decide +kernel
theorem dX2_unlikePairs_13 : decode cX2_unlikePairs 13 = .ok (.aload_n 0, 1) := by decide +kernel
theorem dX2_unlikePairs_14 : decode cX2_unlikePairs 14 = .ok (.getfield 13, 3) := by decide +kernel
theorem dX2_unlikePairs_17 : decode cX2_unlikePairs 17 = .ok (.iload_n 3, 1) := by decide +kernel
theorem dX2_unlikePairs_18 : decode cX2_unlikePairs 18 = .ok (.aaload, 1) := by decide +kernel
theorem dX2_unlikePairs_19 : decode cX2_unlikePairs 19 = .ok (.iload_n 1, 1) := by decide +kernel
theorem dX2_unlikePairs_20 : decode cX2_unlikePairs 20 = .ok (.invokevirtual 157, 3) := by decide +kernel
theorem dX2_unlikePairs_23 : decode cX2_unlikePairs 23 = .ok (.ifCond .eq 60, 3) := by decide +kernel
theorem dX2_unlikePairs_26 : decode cX2_unlikePairs 26 = .ok (.aload_n 0, 1) := by decide +kernel
theorem dX2_unlikePairs_27 : decode cX2_unlikePairs 27 = .ok (.getfield 13, 3) := by decide +kernel
theorem dX2_unlikePairs_30 : decode cX2_unlikePairs 30 = .ok (.iload_n 3, 1) := by decide +kernel
theorem dX2_unlikePairs_31 : decode cX2_unlikePairs 31 = .ok (.aaload, 1) := by decide +kernel
theorem dX2_unlikePairs_32 : decode cX2_unlikePairs 32 = .ok (.getfield 77, 3) := by decide +kernel
theorem dX2_unlikePairs_35 : decode cX2_unlikePairs 35 = .ok (.ifCond .ne 6, 3) := by decide +kernel
theorem dX2_unlikePairs_38 : decode cX2_unlikePairs 38 = .ok (.goto 45, 3) := by decide +kernel
theorem dX2_unlikePairs_41 : decode cX2_unlikePairs 41 = .ok (.iconst 0, 1) := by decide +kernel
theorem dX2_unlikePairs_42 : decode cX2_unlikePairs 42 = .ok (.istore 4, 2) := by decide +kernel
theorem dX2_unlikePairs_44 : decode cX2_unlikePairs 44 = .ok (.iload 4, 2) := by decide +kernel
theorem dX2_unlikePairs_46 : decode cX2_unlikePairs 46 = .ok (.aload_n 0, 1) := by decide +kernel
theorem dX2_unlikePairs_47 : decode cX2_unlikePairs 47 = .ok (.getfield 37, 3) := by decide +kernel
theorem dX2_unlikePairs_50 : decode cX2_unlikePairs 50 = .ok (.if_icmp .ge 33, 3) := by decide +kernel
theorem dX2_unlikePairs_53 : decode cX2_unlikePairs 53 = .ok (.aload_n 0, 1) := by decide +kernel
theorem dX2_unlikePairs_54 : decode cX2_unlikePairs 54 = .ok (.aload_n 0, 1) := by decide +kernel
theorem dX2_unlikePairs_55 : decode cX2_unlikePairs 55 = .ok (.getfield 13, 3) := by decide +kernel
theorem dX2_unlikePairs_58 : decode cX2_unlikePairs 58 = .ok (.iload_n 3, 1) := by decide +kernel
theorem dX2_unlikePairs_59 : decode cX2_unlikePairs 59 = .ok (.aaload, 1) := by decide +kernel
theorem dX2_unlikePairs_60 : decode cX2_unlikePairs 60 = .ok (.aload_n 0, 1) := by decide +kernel
theorem dX2_unlikePairs_61 : decode cX2_unlikePairs 61 = .ok (.getfield 13, 3) := by decide +kernel
theorem dX2_unlikePairs_64 : decode cX2_unlikePairs 64 = .ok (.iload 4, 2) := by decide +kernel
theorem dX2_unlikePairs_66 : decode cX2_unlikePairs 66 = .ok (.aaload, 1) := by decide +kernel
theorem dX2_unlikePairs_67 : decode cX2_unlikePairs 67 = .ok (.iload_n 1, 1) := by decide +kernel
theorem dX2_unlikePairs_68 : decode cX2_unlikePairs 68 = .ok (.invokevirtual 177, 3) := by decide +kernel
theorem dX2_unlikePairs_71 : decode cX2_unlikePairs 71 = .ok (.ifCond .eq 6, 3) := by decide +kernel
theorem dX2_unlikePairs_74 : decode cX2_unlikePairs 74 = .ok (.iinc 2 1, 3) := by decide +kernel
theorem dX2_unlikePairs_77 : decode cX2_unlikePairs 77 = .ok (.iinc 4 1, 3) := by decide +kernel
theorem dX2_unlikePairs_80 : decode cX2_unlikePairs 80 = .ok (.goto (-36), 3) := by decide +kernel
theorem dX2_unlikePairs_83 : decode cX2_unlikePairs 83 = .ok (.iinc 3 1, 3) := by decide +kernel
theorem dX2_unlikePairs_86 : decode cX2_unlikePairs 86 = .ok (.goto (-82), 3) := by decide +kernel
theorem dX2_unlikePairs_89 : decode cX2_unlikePairs 89 = .ok (.iload_n 2, 1) := by decide +kernel
theorem dX2_unlikePairs_90 : decode cX2_unlikePairs 90 = .ok (.ireturn, 1) := by decide +kernel
theorem dX2_firstUnlikePair_0 : decode cX2_firstUnlikePair 0 = .ok (.iconst 0, 1) := by decide +kernel
theorem dX2_firstUnlikePair_1 : decode cX2_firstUnlikePair 1 = .ok (.istore_n 2, 1) := by decide +kernel
theorem dX2_firstUnlikePair_2 : decode cX2_firstUnlikePair 2 = .ok (.iload_n 2, 1) := by decide +kernel
theorem dX2_firstUnlikePair_3 : decode cX2_firstUnlikePair 3 = .ok (.aload_n 0, 1) := by decide +kernel
theorem dX2_firstUnlikePair_4 : decode cX2_firstUnlikePair 4 = .ok (.getfield 37, 3) := by decide +kernel
theorem dX2_firstUnlikePair_7 : decode cX2_firstUnlikePair 7 = .ok (.if_icmp .ge 81, 3) := by decide +kernel
theorem dX2_firstUnlikePair_10 : decode cX2_firstUnlikePair 10 = .ok (.aload_n 0, 1) := by decide +kernel
theorem dX2_firstUnlikePair_11 : decode cX2_firstUnlikePair 11 = .ok (.aload_n 0, 1) := by decide +kernel
theorem dX2_firstUnlikePair_12 : decode cX2_firstUnlikePair 12 = .ok (.getfield 13, 3) := by decide +kernel
theorem dX2_firstUnlikePair_15 : decode cX2_firstUnlikePair 15 = .ok (.iload_n 2, 1) := by decide +kernel
theorem dX2_firstUnlikePair_16 : decode cX2_firstUnlikePair 16 = .ok (.aaload, 1) := by decide +kernel
theorem dX2_firstUnlikePair_17 : decode cX2_firstUnlikePair 17 = .ok (.iload_n 1, 1) := by decide +kernel
theorem dX2_firstUnlikePair_18 : decode cX2_firstUnlikePair 18 = .ok (.invokevirtual 157, 3) := by decide +kernel
theorem dX2_firstUnlikePair_21 : decode cX2_firstUnlikePair 21 = .ok (.ifCond .eq 61, 3) := by decide +kernel
theorem dX2_firstUnlikePair_24 : decode cX2_firstUnlikePair 24 = .ok (.aload_n 0, 1) := by decide +kernel
theorem dX2_firstUnlikePair_25 : decode cX2_firstUnlikePair 25 = .ok (.getfield 13, 3) := by decide +kernel
theorem dX2_firstUnlikePair_28 : decode cX2_firstUnlikePair 28 = .ok (.iload_n 2, 1) := by decide +kernel
theorem dX2_firstUnlikePair_29 : decode cX2_firstUnlikePair 29 = .ok (.aaload, 1) := by decide +kernel
theorem dX2_firstUnlikePair_30 : decode cX2_firstUnlikePair 30 = .ok (.getfield 77, 3) := by decide +kernel
theorem dX2_firstUnlikePair_33 : decode cX2_firstUnlikePair 33 = .ok (.ifCond .ne 6, 3) := by decide +kernel
theorem dX2_firstUnlikePair_36 : decode cX2_firstUnlikePair 36 = .ok (.goto 46, 3) := by decide +kernel
theorem dX2_firstUnlikePair_39 : decode cX2_firstUnlikePair 39 = .ok (.iconst 0, 1) := by decide +kernel
theorem dX2_firstUnlikePair_40 : decode cX2_firstUnlikePair 40 = .ok (.istore_n 3, 1) := by decide +kernel
theorem dX2_firstUnlikePair_41 : decode cX2_firstUnlikePair 41 = .ok (.iload_n 3, 1) := by decide +kernel
theorem dX2_firstUnlikePair_42 : decode cX2_firstUnlikePair 42 = .ok (.aload_n 0, 1) := by decide +kernel
theorem dX2_firstUnlikePair_43 : decode cX2_firstUnlikePair 43 = .ok (.getfield 37, 3) := by decide +kernel
theorem dX2_firstUnlikePair_46 : decode cX2_firstUnlikePair 46 = .ok (.if_icmp .ge 36, 3) := by decide +kernel
theorem dX2_firstUnlikePair_49 : decode cX2_firstUnlikePair 49 = .ok (.aload_n 0, 1) := by decide +kernel
theorem dX2_firstUnlikePair_50 : decode cX2_firstUnlikePair 50 = .ok (.aload_n 0, 1) := by decide +kernel
theorem dX2_firstUnlikePair_51 : decode cX2_firstUnlikePair 51 = .ok (.getfield 13, 3) := by decide +kernel
theorem dX2_firstUnlikePair_54 : decode cX2_firstUnlikePair 54 = .ok (.iload_n 2, 1) := by decide +kernel
theorem dX2_firstUnlikePair_55 : decode cX2_firstUnlikePair 55 = .ok (.aaload, 1) := by decide +kernel
theorem dX2_firstUnlikePair_56 : decode cX2_firstUnlikePair 56 = .ok (.aload_n 0, 1) := by decide +kernel
theorem dX2_firstUnlikePair_57 : decode cX2_firstUnlikePair 57 = .ok (.getfield 13, 3) := by decide +kernel
theorem dX2_firstUnlikePair_60 : decode cX2_firstUnlikePair 60 = .ok (.iload_n 3, 1) := by decide +kernel
theorem dX2_firstUnlikePair_61 : decode cX2_firstUnlikePair 61 = .ok (.aaload, 1) := by decide +kernel
theorem dX2_firstUnlikePair_62 : decode cX2_firstUnlikePair 62 = .ok (.iload_n 1, 1) := by decide +kernel
theorem dX2_firstUnlikePair_63 : decode cX2_firstUnlikePair 63 = .ok (.invokevirtual 177, 3) := by decide +kernel
theorem dX2_firstUnlikePair_66 : decode cX2_firstUnlikePair 66 = .ok (.ifCond .eq 10, 3) := by decide +kernel
theorem dX2_firstUnlikePair_69 : decode cX2_firstUnlikePair 69 = .ok (.bipush 100, 2) := by decide +kernel
theorem dX2_firstUnlikePair_71 : decode cX2_firstUnlikePair 71 = .ok (.iload_n 2, 1) := by decide +kernel
theorem dX2_firstUnlikePair_72 : decode cX2_firstUnlikePair 72 = .ok (.imul, 1) := by decide +kernel
theorem dX2_firstUnlikePair_73 : decode cX2_firstUnlikePair 73 = .ok (.iload_n 3, 1) := by decide +kernel
theorem dX2_firstUnlikePair_74 : decode cX2_firstUnlikePair 74 = .ok (.iadd, 1) := by decide +kernel
theorem dX2_firstUnlikePair_75 : decode cX2_firstUnlikePair 75 = .ok (.ireturn, 1) := by decide +kernel
theorem dX2_firstUnlikePair_76 : decode cX2_firstUnlikePair 76 = .ok (.iinc 3 1, 3) := by decide +kernel
theorem dX2_firstUnlikePair_79 : decode cX2_firstUnlikePair 79 = .ok (.goto (-38), 3) := by decide +kernel
theorem dX2_firstUnlikePair_82 : decode cX2_firstUnlikePair 82 = .ok (.iinc 2 1, 3) := by decide +kernel
theorem dX2_firstUnlikePair_85 : decode cX2_firstUnlikePair 85 = .ok (.goto (-83), 3) := by decide +kernel
theorem dX2_firstUnlikePair_88 : decode cX2_firstUnlikePair 88 = .ok (.iconst (-1), 1) := by decide +kernel
theorem dX2_firstUnlikePair_89 : decode cX2_firstUnlikePair 89 = .ok (.ireturn, 1) := by decide +kernel
theorem dX2_ripeOn_0 : decode cX2_ripeOn 0 = .ok (.iconst 0, 1) := by decide +kernel
theorem dX2_ripeOn_1 : decode cX2_ripeOn 1 = .ok (.istore 4, 2) := by decide +kernel
theorem dX2_ripeOn_3 : decode cX2_ripeOn 3 = .ok (.iload 4, 2) := by decide +kernel
theorem dX2_ripeOn_5 : decode cX2_ripeOn 5 = .ok (.sipush 399, 3) := by decide +kernel
theorem dX2_ripeOn_8 : decode cX2_ripeOn 8 = .ok (.if_icmp .gt 17, 3) := by decide +kernel
theorem dX2_ripeOn_11 : decode cX2_ripeOn 11 = .ok (.aload_n 0, 1) := by decide +kernel
theorem dX2_ripeOn_12 : decode cX2_ripeOn 12 = .ok (.getfield 21, 3) := by decide +kernel
theorem dX2_ripeOn_15 : decode cX2_ripeOn 15 = .ok (.iload 4, 2) := by decide +kernel
theorem dX2_ripeOn_17 : decode cX2_ripeOn 17 = .ok (.iconst 0, 1) := by decide +kernel
theorem dX2_ripeOn_18 : decode cX2_ripeOn 18 = .ok (.iastore, 1) := by decide +kernel
theorem dX2_ripeOn_19 : decode cX2_ripeOn 19 = .ok (.iinc 4 1, 3) := by decide +kernel
theorem dX2_ripeOn_22 : decode cX2_ripeOn 22 = .ok (.goto (-19), 3) := by decide +kernel
theorem dX2_ripeOn_25 : decode cX2_ripeOn 25 = .ok (.iconst 0, 1) := by decide +kernel
theorem dX2_ripeOn_26 : decode cX2_ripeOn 26 = .ok (.istore 4, 2) := by decide +kernel
theorem dX2_ripeOn_28 : decode cX2_ripeOn 28 = .ok (.iload 4, 2) := by decide +kernel
theorem dX2_ripeOn_30 : decode cX2_ripeOn 30 = .ok (.aload_n 0, 1) := by decide +kernel
theorem dX2_ripeOn_31 : decode cX2_ripeOn 31 = .ok (.getfield 37, 3) := by decide +kernel
theorem dX2_ripeOn_34 : decode cX2_ripeOn 34 = .ok (.if_icmp .ge 73, 3) := by decide +kernel
theorem dX2_ripeOn_37 : decode cX2_ripeOn 37 = .ok (.aload_n 0, 1) := by decide +kernel
theorem dX2_ripeOn_38 : decode cX2_ripeOn 38 = .ok (.getfield 13, 3) := by decide +kernel
theorem dX2_ripeOn_41 : decode cX2_ripeOn 41 = .ok (.iload 4, 2) := by decide +kernel
theorem dX2_ripeOn_43 : decode cX2_ripeOn 43 = .ok (.aaload, 1) := by decide +kernel
theorem dX2_ripeOn_44 : decode cX2_ripeOn 44 = .ok (.astore 5, 2) := by decide +kernel
theorem dX2_ripeOn_46 : decode cX2_ripeOn 46 = .ok (.aload_n 0, 1) := by decide +kernel
theorem dX2_ripeOn_47 : decode cX2_ripeOn 47 = .ok (.aload 5, 2) := by decide +kernel
theorem dX2_ripeOn_49 : decode cX2_ripeOn 49 = .ok (.invokevirtual 122, 3) := by decide +kernel
theorem dX2_ripeOn_52 : decode cX2_ripeOn 52 = .ok (.ifCond .eq 49, 3) := by decide +kernel
theorem dX2_ripeOn_55 : decode cX2_ripeOn 55 = .ok (.aload 5, 2) := by decide +kernel
theorem dX2_ripeOn_57 : decode cX2_ripeOn 57 = .ok (.getfield 55, 3) := by decide +kernel
theorem dX2_ripeOn_60 : decode cX2_ripeOn 60 = .ok (.iconst 1, 1) := by decide +kernel
theorem dX2_ripeOn_61 : decode cX2_ripeOn 61 = .ok (.if_icmp .ne 40, 3) := by decide +kernel
theorem dX2_ripeOn_64 : decode cX2_ripeOn 64 = .ok (.aload 5, 2) := by decide +kernel
theorem dX2_ripeOn_66 : decode cX2_ripeOn 66 = .ok (.getfield 65, 3) := by decide +kernel
theorem dX2_ripeOn_69 : decode cX2_ripeOn 69 = .ok (.iload_n 2, 1) := by decide +kernel
theorem dX2_ripeOn_70 : decode cX2_ripeOn 70 = .ok (.iload_n 3, 1) := by decide +kernel
theorem dX2_ripeOn_71 : decode cX2_ripeOn 71 = .ok (.invokestatic 91, 3) := by decide +kernel
theorem dX2_ripeOn_74 : decode cX2_ripeOn 74 = .ok (.ifCond .eq 27, 3) := by decide +kernel
theorem dX2_ripeOn_77 : decode cX2_ripeOn 77 = .ok (.aload_n 0, 1) := by decide +kernel
theorem dX2_ripeOn_78 : decode cX2_ripeOn 78 = .ok (.aload 5, 2) := by decide +kernel
theorem dX2_ripeOn_80 : decode cX2_ripeOn 80 = .ok (.iconst 1, 1) := by decide +kernel
theorem dX2_ripeOn_81 : decode cX2_ripeOn 81 = .ok (.invokevirtual 154, 3) := by decide +kernel
theorem dX2_ripeOn_84 : decode cX2_ripeOn 84 = .ok (.ifCond .eq 17, 3) := by decide +kernel
theorem dX2_ripeOn_87 : decode cX2_ripeOn 87 = .ok (.aload_n 0, 1) := by decide +kernel
theorem dX2_ripeOn_88 : decode cX2_ripeOn 88 = .ok (.getfield 21, 3) := by decide +kernel
theorem dX2_ripeOn_91 : decode cX2_ripeOn 91 = .ok (.aload 5, 2) := by decide +kernel
theorem dX2_ripeOn_93 : decode cX2_ripeOn 93 = .ok (.getfield 68, 3) := by decide +kernel
theorem dX2_ripeOn_96 : decode cX2_ripeOn 96 = .ok (.dup2, 1) := by decide +kernel
theorem dX2_ripeOn_97 : decode cX2_ripeOn 97 = .ok (.iaload, 1) := by decide +kernel
theorem dX2_ripeOn_98 : decode cX2_ripeOn 98 = .ok (.iconst 1, 1) := by decide +kernel
theorem dX2_ripeOn_99 : decode cX2_ripeOn 99 = .ok (.iadd, 1) := by decide +kernel
theorem dX2_ripeOn_100 : decode cX2_ripeOn 100 = .ok (.iastore, 1) := by decide +kernel
theorem dX2_ripeOn_101 : decode cX2_ripeOn 101 = .ok (.iinc 4 1, 3) := by decide +kernel
theorem dX2_ripeOn_104 : decode cX2_ripeOn 104 = .ok (.goto (-76), 3) := by decide +kernel
theorem dX2_ripeOn_107 : decode cX2_ripeOn 107 = .ok (.iconst 0, 1) := by decide +kernel
theorem dX2_ripeOn_108 : decode cX2_ripeOn 108 = .ok (.istore 4, 2) := by decide +kernel
theorem dX2_ripeOn_110 : decode cX2_ripeOn 110 = .ok (.iconst 0, 1) := by decide +kernel
theorem dX2_ripeOn_111 : decode cX2_ripeOn 111 = .ok (.istore 5, 2) := by decide +kernel
theorem dX2_ripeOn_113 : decode cX2_ripeOn 113 = .ok (.iload 5, 2) := by decide +kernel
theorem dX2_ripeOn_115 : decode cX2_ripeOn 115 = .ok (.sipush 399, 3) := by decide +kernel
theorem dX2_ripeOn_118 : decode cX2_ripeOn 118 = .ok (.if_icmp .gt 30, 3) := by decide +kernel
theorem dX2_ripeOn_121 : decode cX2_ripeOn 121 = .ok (.iload 4, 2) := by decide +kernel
theorem dX2_ripeOn_123 : decode cX2_ripeOn 123 = .ok (.aload_n 0, 1) := by decide +kernel
theorem dX2_ripeOn_124 : decode cX2_ripeOn 124 = .ok (.getfield 21, 3) := by decide +kernel
theorem dX2_ripeOn_127 : decode cX2_ripeOn 127 = .ok (.iload 5, 2) := by decide +kernel
theorem dX2_ripeOn_129 : decode cX2_ripeOn 129 = .ok (.iaload, 1) := by decide +kernel
theorem dX2_ripeOn_130 : decode cX2_ripeOn 130 = .ok (.iadd, 1) := by decide +kernel
theorem dX2_ripeOn_131 : decode cX2_ripeOn 131 = .ok (.istore 4, 2) := by decide +kernel
theorem dX2_ripeOn_133 : decode cX2_ripeOn 133 = .ok (.iload 4, 2) := by decide +kernel
theorem dX2_ripeOn_135 : decode cX2_ripeOn 135 = .ok (.iload_n 1, 1) := by decide +kernel
theorem dX2_ripeOn_136 : decode cX2_ripeOn 136 = .ok (.if_icmp .lt 6, 3) := by decide +kernel
theorem dX2_ripeOn_139 : decode cX2_ripeOn 139 = .ok (.iload 5, 2) := by decide +kernel
theorem dX2_ripeOn_141 : decode cX2_ripeOn 141 = .ok (.ireturn, 1) := by decide +kernel
theorem dX2_ripeOn_142 : decode cX2_ripeOn 142 = .ok (.iinc 5 1, 3) := by decide +kernel
theorem dX2_ripeOn_145 : decode cX2_ripeOn 145 = .ok (.goto (-32), 3) := by decide +kernel
theorem dX2_ripeOn_148 : decode cX2_ripeOn 148 = .ok (.iconst (-1), 1) := by decide +kernel
theorem dX2_ripeOn_149 : decode cX2_ripeOn 149 = .ok (.ireturn, 1) := by decide +kernel
theorem dX3_init_0 : decode cX3_init 0 = .ok (.aload_n 0, 1) := by decide +kernel
theorem dX3_init_1 : decode cX3_init 1 = .ok (.invokespecial 3, 3) := by decide +kernel
theorem dX3_init_4 : decode cX3_init 4 = .ok (.aload_n 0, 1) := by decide +kernel
theorem dX3_init_5 : decode cX3_init 5 = .ok (.bipush 20, 2) := by decide +kernel
theorem dX3_init_7 : decode cX3_init 7 = .ok (.newarray .int, 2) := by decide +kernel
theorem dX3_init_9 : decode cX3_init 9 = .ok (.putfield 9, 3) := by decide +kernel
theorem dX3_init_12 : decode cX3_init 12 = .ok (.return_, 1) := by decide +kernel
theorem dX3_isByText_0 : decode cX3_isByText 0 = .ok (.aload_n 0, 1) := by decide +kernel
theorem dX3_isByText_1 : decode cX3_isByText 1 = .ok (.getfield 15, 3) := by decide +kernel
theorem dX3_isByText_4 : decode cX3_isByText 4 = .ok (.ifCond .ne 7, 3) := by decide +kernel
theorem dX3_isByText_7 : decode cX3_isByText 7 = .ok (.iconst 1, 1) := by decide +kernel
theorem dX3_isByText_8 : decode cX3_isByText 8 = .ok (.goto 4, 3) := by decide +kernel
theorem dX3_isByText_11 : decode cX3_isByText 11 = .ok (.iconst 0, 1) := by decide +kernel
theorem dX3_isByText_12 : decode cX3_isByText 12 = .ok (.ireturn, 1) := by decide +kernel
theorem dX4_init_0 : decode cX4_init 0 = .ok (.aload_n 0, 1) := by decide +kernel
theorem dX4_init_1 : decode cX4_init 1 = .ok (.invokespecial 3, 3) := by decide +kernel
theorem dX4_init_4 : decode cX4_init 4 = .ok (.aload_n 0, 1) := by decide +kernel
theorem dX4_init_5 : decode cX4_init 5 = .ok (.sipush 200, 3) := by decide +kernel
theorem dX4_init_8 : decode cX4_init 8 = .ok (.newarray .int, 2) := by decide +kernel
theorem dX4_init_10 : decode cX4_init 10 = .ok (.putfield 11, 3) := by decide +kernel
theorem dX4_init_13 : decode cX4_init 13 = .ok (.aload_n 0, 1) := by decide +kernel
theorem dX4_init_14 : decode cX4_init 14 = .ok (.bipush 50, 2) := by decide +kernel
theorem dX4_init_16 : decode cX4_init 16 = .ok (.newarray .int, 2) := by decide +kernel
theorem dX4_init_18 : decode cX4_init 18 = .ok (.putfield 15, 3) := by decide +kernel
theorem dX4_init_21 : decode cX4_init 21 = .ok (.aload_n 0, 1) := by decide +kernel
theorem dX4_init_22 : decode cX4_init 22 = .ok (.bipush 50, 2) := by decide +kernel
theorem dX4_init_24 : decode cX4_init 24 = .ok (.newarray .int, 2) := by decide +kernel
theorem dX4_init_26 : decode cX4_init 26 = .ok (.putfield 18, 3) := by decide +kernel
theorem dX4_init_29 : decode cX4_init 29 = .ok (.aload_n 0, 1) := by decide +kernel
theorem dX4_init_30 : decode cX4_init 30 = .ok (.bipush 50, 2) := by decide +kernel
theorem dX4_init_32 : decode cX4_init 32 = .ok (.newarray .int, 2) := by decide +kernel
theorem dX4_init_34 : decode cX4_init 34 = .ok (.putfield 21, 3) := by decide +kernel
theorem dX4_init_37 : decode cX4_init 37 = .ok (.aload_n 0, 1) := by decide +kernel
theorem dX4_init_38 : decode cX4_init 38 = .ok (.bipush 24, 2) := by decide +kernel
theorem dX4_init_40 : decode cX4_init 40 = .ok (.newarray .int, 2) := by decide +kernel
theorem dX4_init_42 : decode cX4_init 42 = .ok (.putfield 24, 3) := by decide +kernel
theorem dX4_init_45 : decode cX4_init 45 = .ok (.aload_n 0, 1) := by decide +kernel
theorem dX4_init_46 : decode cX4_init 46 = .ok (.bipush 24, 2) := by decide +kernel
theorem dX4_init_48 : decode cX4_init 48 = .ok (.newarray .int, 2) := by decide +kernel
theorem dX4_init_50 : decode cX4_init 50 = .ok (.putfield 27, 3) := by decide +kernel
theorem dX4_init_53 : decode cX4_init 53 = .ok (.aload_n 0, 1) := by decide +kernel
theorem dX4_init_54 : decode cX4_init 54 = .ok (.iconst (-1), 1) := by decide +kernel
theorem dX4_init_55 : decode cX4_init 55 = .ok (.putfield 30, 3) := by decide +kernel
theorem dX4_init_58 : decode cX4_init 58 = .ok (.return_, 1) := by decide +kernel
theorem dX4_isFull_0 : decode cX4_isFull 0 = .ok (.aload_n 0, 1) := by decide +kernel
theorem dX4_isFull_1 : decode cX4_isFull 1 = .ok (.getfield 34, 3) := by decide +kernel
theorem dX4_isFull_4 : decode cX4_isFull 4 = .ok (.sipush 200, 3) := by decide +kernel
theorem dX4_isFull_7 : decode cX4_isFull 7 = .ok (.if_icmp .lt 7, 3) := by decide +kernel
theorem dX4_isFull_10 : decode cX4_isFull 10 = .ok (.iconst 1, 1) := by decide +kernel
theorem dX4_isFull_11 : decode cX4_isFull 11 = .ok (.goto 4, 3) := by decide +kernel
theorem dX4_isFull_14 : decode cX4_isFull 14 = .ok (.iconst 0, 1) := by decide +kernel
theorem dX4_isFull_15 : decode cX4_isFull 15 = .ok (.ireturn, 1) := by decide +kernel
theorem dX4_append_0 : decode cX4_append 0 = .ok (.aload_n 0, 1) := by decide +kernel
theorem dX4_append_1 : decode cX4_append 1 = .ok (.getfield 34, 3) := by decide +kernel
theorem dX4_append_4 : decode cX4_append 4 = .ok (.sipush 200, 3) := by decide +kernel
theorem dX4_append_7 : decode cX4_append 7 = .ok (.if_icmp .ge 23, 3) := by decide +kernel
theorem dX4_append_10 : decode cX4_append 10 = .ok (.aload_n 0, 1) := by decide +kernel
theorem dX4_append_11 : decode cX4_append 11 = .ok (.getfield 11, 3) := by decide +kernel
theorem dX4_append_14 : decode cX4_append 14 = .ok (.aload_n 0, 1) := by decide +kernel
theorem dX4_append_15 : decode cX4_append 15 = .ok (.getfield 34, 3) := by decide +kernel
theorem dX4_append_18 : decode cX4_append 18 = .ok (.iload_n 1, 1) := by decide +kernel
theorem dX4_append_19 : decode cX4_append 19 = .ok (.iastore, 1) := by decide +kernel
theorem dX4_append_20 : decode cX4_append 20 = .ok (.aload_n 0, 1) := by decide +kernel
theorem dX4_append_21 : decode cX4_append 21 = .ok (.dup, 1) := by decide +kernel
theorem dX4_append_22 : decode cX4_append 22 = .ok (.getfield 34, 3) := by decide +kernel
theorem dX4_append_25 : decode cX4_append 25 = .ok (.iconst 1, 1) := by decide +kernel
theorem dX4_append_26 : decode cX4_append 26 = .ok (.iadd, 1) := by decide +kernel
theorem dX4_append_27 : decode cX4_append 27 = .ok (.putfield 34, 3) := by decide +kernel
theorem dX4_append_30 : decode cX4_append 30 = .ok (.aload_n 0, 1) := by decide +kernel
theorem dX4_append_31 : decode cX4_append 31 = .ok (.invokevirtual 37, 3) := by decide +kernel
theorem dX4_append_34 : decode cX4_append 34 = .ok (.aload_n 0, 1) := by decide +kernel
theorem dX4_append_35 : decode cX4_append 35 = .ok (.getfield 34, 3) := by decide +kernel
theorem dX4_append_38 : decode cX4_append 38 = .ok (.ireturn, 1) := by decide +kernel
theorem dX4_clear_0 : decode cX4_clear 0 = .ok (.aload_n 0, 1) := by decide +kernel
theorem dX4_clear_1 : decode cX4_clear 1 = .ok (.getfield 34, 3) := by decide +kernel
theorem dX4_clear_4 : decode cX4_clear 4 = .ok (.istore_n 1, 1) := by decide +kernel
theorem dX4_clear_5 : decode cX4_clear 5 = .ok (.aload_n 0, 1) := by decide +kernel
theorem dX4_clear_6 : decode cX4_clear 6 = .ok (.iconst 0, 1) := by decide +kernel
theorem dX4_clear_7 : decode cX4_clear 7 = .ok (.putfield 34, 3) := by decide +kernel
theorem dX4_clear_10 : decode cX4_clear 10 = .ok (.aload_n 0, 1) := by decide +kernel
theorem dX4_clear_11 : decode cX4_clear 11 = .ok (.invokevirtual 37, 3) := by decide +kernel
theorem dX4_clear_14 : decode cX4_clear 14 = .ok (.iload_n 1, 1) := by decide +kernel
theorem dX4_clear_15 : decode cX4_clear 15 = .ok (.ireturn, 1) := by decide +kernel
theorem dX4_partFor_0 : decode cX4_partFor 0 = .ok (.aload_n 0, 1) := by decide +kernel
theorem dX4_partFor_1 : decode cX4_partFor 1 = .ok (.iload_n 2, 1) := by decide +kernel
theorem dX4_partFor_2 : decode cX4_partFor 2 = .ok (.invokevirtual 40, 3) := by decide +kernel
theorem dX4_partFor_5 : decode cX4_partFor 5 = .ok (.iload_n 1, 1) := by decide +kernel
theorem dX4_partFor_6 : decode cX4_partFor 6 = .ok (.ifCond .lt 18, 3) := by decide +kernel
theorem dX4_partFor_9 : decode cX4_partFor 9 = .ok (.iload_n 1, 1) := by decide +kernel
theorem dX4_partFor_10 : decode cX4_partFor 10 = .ok (.bipush 24, 2) := by decide +kernel
theorem dX4_partFor_12 : decode cX4_partFor 12 = .ok (.if_icmp .ge 12, 3) := by decide +kernel
theorem dX4_partFor_15 : decode cX4_partFor 15 = .ok (.aload_n 0, 1) := by decide +kernel
theorem dX4_partFor_16 : decode cX4_partFor 16 = .ok (.getfield 24, 3) := by decide +kernel
theorem dX4_partFor_19 : decode cX4_partFor 19 = .ok (.iload_n 1, 1) := by decide +kernel
theorem dX4_partFor_20 : decode cX4_partFor 20 = .ok (.iaload, 1) := by decide +kernel
theorem dX4_partFor_21 : decode cX4_partFor 21 = .ok (.goto 4, 3) := by decide +kernel
theorem dX4_partFor_24 : decode cX4_partFor 24 = .ok (.iconst (-1), 1) := by decide +kernel
theorem dX4_partFor_25 : decode cX4_partFor 25 = .ok (.ireturn, 1) := by decide +kernel
theorem dX4_saidOf_0 : decode cX4_saidOf 0 = .ok (.aload_n 0, 1) := by decide +kernel
theorem dX4_saidOf_1 : decode cX4_saidOf 1 = .ok (.iload_n 2, 1) := by decide +kernel
theorem dX4_saidOf_2 : decode cX4_saidOf 2 = .ok (.invokevirtual 40, 3) := by decide +kernel
theorem dX4_saidOf_5 : decode cX4_saidOf 5 = .ok (.iload_n 1, 1) := by decide +kernel
theorem dX4_saidOf_6 : decode cX4_saidOf 6 = .ok (.ifCond .lt 18, 3) := by decide +kernel
theorem dX4_saidOf_9 : decode cX4_saidOf 9 = .ok (.iload_n 1, 1) := by decide +kernel
theorem dX4_saidOf_10 : decode cX4_saidOf 10 = .ok (.bipush 24, 2) := by decide +kernel
theorem dX4_saidOf_12 : decode cX4_saidOf 12 = .ok (.if_icmp .ge 12, 3) := by decide +kernel
theorem dX4_saidOf_15 : decode cX4_saidOf 15 = .ok (.aload_n 0, 1) := by decide +kernel
theorem dX4_saidOf_16 : decode cX4_saidOf 16 = .ok (.getfield 27, 3) := by decide +kernel
theorem dX4_saidOf_19 : decode cX4_saidOf 19 = .ok (.iload_n 1, 1) := by decide +kernel
theorem dX4_saidOf_20 : decode cX4_saidOf 20 = .ok (.iaload, 1) := by decide +kernel
theorem dX4_saidOf_21 : decode cX4_saidOf 21 = .ok (.goto 4, 3) := by decide +kernel
theorem dX4_saidOf_24 : decode cX4_saidOf 24 = .ok (.iconst (-1), 1) := by decide +kernel
theorem dX4_saidOf_25 : decode cX4_saidOf 25 = .ok (.ireturn, 1) := by decide +kernel
theorem dX4_allows_0 : decode cX4_allows 0 = .ok (.aload_n 0, 1) := by decide +kernel
theorem dX4_allows_1 : decode cX4_allows 1 = .ok (.bipush 21, 2) := by decide +kernel
theorem dX4_allows_3 : decode cX4_allows 3 = .ok (.iload_n 2, 1) := by decide +kernel
theorem dX4_allows_4 : decode cX4_allows 4 = .ok (.invokevirtual 44, 3) := by decide +kernel
theorem dX4_allows_7 : decode cX4_allows 7 = .ok (.iload_n 1, 1) := by decide +kernel
theorem dX4_allows_8 : decode cX4_allows 8 = .ok (.ishr, 1) := by decide +kernel
theorem dX4_allows_9 : decode cX4_allows 9 = .ok (.iconst 1, 1) := by decide +kernel
theorem dX4_allows_10 : decode cX4_allows 10 = .ok (.iand, 1) := by decide +kernel
theorem dX4_allows_11 : decode cX4_allows 11 = .ok (.ifCond .eq 7, 3) := by decide +kernel
theorem dX4_allows_14 : decode cX4_allows 14 = .ok (.iconst 1, 1) := by decide +kernel
theorem dX4_allows_15 : decode cX4_allows 15 = .ok (.goto 4, 3) := by decide +kernel
theorem dX4_allows_18 : decode cX4_allows 18 = .ok (.iconst 0, 1) := by decide +kernel
theorem dX4_allows_19 : decode cX4_allows 19 = .ok (.ireturn, 1) := by decide +kernel
theorem dX4_makesReady_0 : decode cX4_makesReady 0 = .ok (.aload_n 0, 1) := by decide +kernel
theorem dX4_makesReady_1 : decode cX4_makesReady 1 = .ok (.iload_n 1, 1) := by decide +kernel
theorem dX4_makesReady_2 : decode cX4_makesReady 2 = .ok (.iload_n 3, 1) := by decide +kernel
theorem dX4_makesReady_3 : decode cX4_makesReady 3 = .ok (.invokevirtual 48, 3) := by decide +kernel
theorem dX4_makesReady_6 : decode cX4_makesReady 6 = .ok (.ifCond .eq 18, 3) := by decide +kernel
theorem dX4_makesReady_9 : decode cX4_makesReady 9 = .ok (.iload_n 2, 1) := by decide +kernel
theorem dX4_makesReady_10 : decode cX4_makesReady 10 = .ok (.aload_n 0, 1) := by decide +kernel
theorem dX4_makesReady_11 : decode cX4_makesReady 11 = .ok (.bipush 22, 2) := by decide +kernel
theorem dX4_makesReady_13 : decode cX4_makesReady 13 = .ok (.iload_n 3, 1) := by decide +kernel
theorem dX4_makesReady_14 : decode cX4_makesReady 14 = .ok (.invokevirtual 44, 3) := by decide +kernel
theorem dX4_makesReady_17 : decode cX4_makesReady 17 = .ok (.if_icmp .lt 7, 3) := by decide +kernel
theorem dX4_makesReady_20 : decode cX4_makesReady 20 = .ok (.iconst 1, 1) := by decide +kernel
theorem dX4_makesReady_21 : decode cX4_makesReady 21 = .ok (.goto 4, 3) := by decide +kernel
theorem dX4_makesReady_24 : decode cX4_makesReady 24 = .ok (.iconst 0, 1) := by decide +kernel
theorem dX4_makesReady_25 : decode cX4_makesReady 25 = .ok (.ireturn, 1) := by decide +kernel
theorem dX4_lacks_0 : decode cX4_lacks 0 = .ok (.aload_n 0, 1) := by decide +kernel
theorem dX4_lacks_1 : decode cX4_lacks 1 = .ok (.bipush 21, 2) := by decide +kernel
theorem dX4_lacks_3 : decode cX4_lacks 3 = .ok (.iload 4, 2) := by decide +kernel
theorem dX4_lacks_5 : decode cX4_lacks 5 = .ok (.invokevirtual 44, 3) := by decide +kernel
theorem dX4_lacks_8 : decode cX4_lacks 8 = .ok (.iload_n 1, 1) := by decide +kernel
theorem dX4_lacks_9 : decode cX4_lacks 9 = .ok (.ishr, 1) := by decide +kernel
theorem dX4_lacks_10 : decode cX4_lacks 10 = .ok (.iconst 1, 1) := by decide +kernel
theorem dX4_lacks_11 : decode cX4_lacks 11 = .ok (.iand, 1) := by decide +kernel
theorem dX4_lacks_12 : decode cX4_lacks 12 = .ok (.ifCond .eq 7, 3) := by decide +kernel
theorem dX4_lacks_15 : decode cX4_lacks 15 = .ok (.iconst 0, 1) := by decide +kernel
theorem dX4_lacks_16 : decode cX4_lacks 16 = .ok (.goto 4, 3) := by decide +kernel
theorem dX4_lacks_19 : decode cX4_lacks 19 = .ok (.iconst 1, 1) := by decide +kernel
theorem dX4_lacks_20 : decode cX4_lacks 20 = .ok (.istore 5, 2) := by decide +kernel
theorem dX4_lacks_22 : decode cX4_lacks 22 = .ok (.iload_n 2, 1) := by decide +kernel
theorem dX4_lacks_23 : decode cX4_lacks 23 = .ok (.aload_n 0, 1) := by decide +kernel
theorem dX4_lacks_24 : decode cX4_lacks 24 = .ok (.bipush 22, 2) := by decide +kernel
theorem dX4_lacks_26 : decode cX4_lacks 26 = .ok (.iload 4, 2) := by decide +kernel
theorem dX4_lacks_28 : decode cX4_lacks 28 = .ok (.invokevirtual 44, 3) := by decide +kernel
theorem dX4_lacks_31 : decode cX4_lacks 31 = .ok (.if_icmp .ge 9, 3) := by decide +kernel
theorem dX4_lacks_34 : decode cX4_lacks 34 = .ok (.iload 5, 2) := by decide +kernel
theorem dX4_lacks_36 : decode cX4_lacks 36 = .ok (.iconst 2, 1) := by decide +kernel
theorem dX4_lacks_37 : decode cX4_lacks 37 = .ok (.ior, 1) := by decide +kernel
theorem dX4_lacks_38 : decode cX4_lacks 38 = .ok (.istore 5, 2) := by decide +kernel
theorem dX4_lacks_40 : decode cX4_lacks 40 = .ok (.iload_n 3, 1) := by decide +kernel
theorem dX4_lacks_41 : decode cX4_lacks 41 = .ok (.aload_n 0, 1) := by decide +kernel
theorem dX4_lacks_42 : decode cX4_lacks 42 = .ok (.bipush 20, 2) := by decide +kernel
theorem dX4_lacks_44 : decode cX4_lacks 44 = .ok (.iload 4, 2) := by decide +kernel
theorem dX4_lacks_46 : decode cX4_lacks 46 = .ok (.invokevirtual 44, 3) := by decide +kernel
theorem dX4_lacks_49 : decode cX4_lacks 49 = .ok (.if_icmp .ge 9, 3) := by decide +kernel
theorem dX4_lacks_52 : decode cX4_lacks 52 = .ok (.iload 5, 2) := by decide +kernel
theorem dX4_lacks_54 : decode cX4_lacks 54 = .ok (.iconst 4, 1) := by decide +kernel
theorem dX4_lacks_55 : decode cX4_lacks 55 = .ok (.ior, 1) := by decide +kernel
theorem dX4_lacks_56 : decode cX4_lacks 56 = .ok (.istore 5, 2) := by decide +kernel
theorem dX4_lacks_58 : decode cX4_lacks 58 = .ok (.iload 5, 2) := by decide +kernel
theorem dX4_lacks_60 : decode cX4_lacks 60 = .ok (.ireturn, 1) := by decide +kernel
theorem dX4_rightAnswers_0 : decode cX4_rightAnswers 0 = .ok (.iconst 0, 1) := by decide +kernel
theorem dX4_rightAnswers_1 : decode cX4_rightAnswers 1 = .ok (.istore_n 2, 1) := by decide +kernel
theorem dX4_rightAnswers_2 : decode cX4_rightAnswers 2 = .ok (.iconst 0, 1) := by decide +kernel
theorem dX4_rightAnswers_3 : decode cX4_rightAnswers 3 = .ok (.istore_n 3, 1) := by decide +kernel
theorem dX4_rightAnswers_4 : decode cX4_rightAnswers 4 = .ok (.iload_n 3, 1) := by decide +kernel
theorem dX4_rightAnswers_5 : decode cX4_rightAnswers 5 = .ok (.bipush 20, 2) := by decide +kernel
theorem dX4_rightAnswers_7 : decode cX4_rightAnswers 7 = .ok (.if_icmp .ge 22, 3) := by decide +kernel
theorem dX4_rightAnswers_10 : decode cX4_rightAnswers 10 = .ok (.aload_n 0, 1) := by decide +kernel
theorem dX4_rightAnswers_11 : decode cX4_rightAnswers 11 = .ok (.iload_n 3, 1) := by decide +kernel
theorem dX4_rightAnswers_12 : decode cX4_rightAnswers 12 = .ok (.iload_n 1, 1) := by decide +kernel
theorem dX4_rightAnswers_13 : decode cX4_rightAnswers 13 = .ok (.invokevirtual 52, 3) := by decide +kernel
theorem dX4_rightAnswers_16 : decode cX4_rightAnswers 16 = .ok (.iconst (-1), 1) := by decide +kernel
theorem dX4_rightAnswers_17 : decode cX4_rightAnswers 17 = .ok (.if_icmp .eq 6, 3) := by decide +kernel
theorem dX4_rightAnswers_20 : decode cX4_rightAnswers 20 = .ok (.iinc 2 1, 3) := by decide +kernel
theorem dX4_rightAnswers_23 : decode cX4_rightAnswers 23 = .ok (.iinc 3 1, 3) := by decide +kernel
theorem dX4_rightAnswers_26 : decode cX4_rightAnswers 26 = .ok (.goto (-22), 3) := by decide +kernel
theorem dX4_rightAnswers_29 : decode cX4_rightAnswers 29 = .ok (.iload_n 2, 1) := by decide +kernel
theorem dX4_rightAnswers_30 : decode cX4_rightAnswers 30 = .ok (.ireturn, 1) := by decide +kernel
theorem dX4_asksSomething_0 : decode cX4_asksSomething 0 = .ok (.aload_n 0, 1) := by decide +kernel
theorem dX4_asksSomething_1 : decode cX4_asksSomething 1 = .ok (.bipush 22, 2) := by decide +kernel
theorem dX4_asksSomething_3 : decode cX4_asksSomething 3 = .ok (.iload_n 1, 1) := by decide +kernel
theorem dX4_asksSomething_4 : decode cX4_asksSomething 4 = .ok (.invokevirtual 44, 3) := by decide +kernel
theorem dX4_asksSomething_7 : decode cX4_asksSomething 7 = .ok (.ifCond .gt 11, 3) := by decide +kernel
theorem dX4_asksSomething_10 : decode cX4_asksSomething 10 = .ok (.aload_n 0, 1) := by decide +kernel
theorem dX4_asksSomething_11 : decode cX4_asksSomething 11 = .ok (.iload_n 1, 1) := by decide +kernel
theorem dX4_asksSomething_12 : decode cX4_asksSomething 12 = .ok (.invokevirtual 55, 3) := by decide +kernel
theorem dX4_asksSomething_15 : decode cX4_asksSomething 15 = .ok (.ifCond .le 7, 3) := by decide +kernel
theorem dX4_asksSomething_18 : decode cX4_asksSomething 18 = .ok (.iconst 1, 1) := by decide +kernel
theorem dX4_asksSomething_19 : decode cX4_asksSomething 19 = .ok (.goto 4, 3) := by decide +kernel
theorem dX4_asksSomething_22 : decode cX4_asksSomething 22 = .ok (.iconst 0, 1) := by decide +kernel
theorem dX4_asksSomething_23 : decode cX4_asksSomething 23 = .ok (.ireturn, 1) := by decide +kernel
theorem dX4_reckonFor_0 : decode cX4_reckonFor 0 = .ok (.aload_n 0, 1) := by decide +kernel
theorem dX4_reckonFor_1 : decode cX4_reckonFor 1 = .ok (.getfield 30, 3) := by decide +kernel
theorem dX4_reckonFor_4 : decode cX4_reckonFor 4 = .ok (.iload_n 1, 1) := by decide +kernel
theorem dX4_reckonFor_5 : decode cX4_reckonFor 5 = .ok (.if_icmp .ne 4, 3) := by decide +kernel
theorem dX4_reckonFor_8 : decode cX4_reckonFor 8 = .ok (.return_, 1) := by decide +kernel
theorem dX4_reckonFor_9 : decode cX4_reckonFor 9 = .ok (.aload_n 0, 1) := by decide +kernel
theorem dX4_reckonFor_10 : decode cX4_reckonFor 10 = .ok (.iload_n 1, 1) := by decide +kernel
theorem dX4_reckonFor_11 : decode cX4_reckonFor 11 = .ok (.putfield 30, 3) := by decide +kernel
theorem dX4_reckonFor_14 : decode cX4_reckonFor 14 = .ok (.iconst 0, 1) := by decide +kernel
theorem dX4_reckonFor_15 : decode cX4_reckonFor 15 = .ok (.istore_n 2, 1) := by decide +kernel
theorem dX4_reckonFor_16 : decode cX4_reckonFor 16 = .ok (.iload_n 2, 1) := by decide +kernel
theorem dX4_reckonFor_17 : decode cX4_reckonFor 17 = .ok (.bipush 24, 2) := by decide +kernel
theorem dX4_reckonFor_19 : decode cX4_reckonFor 19 = .ok (.if_icmp .ge 23, 3) := by decide +kernel
theorem dX4_reckonFor_22 : decode cX4_reckonFor 22 = .ok (.aload_n 0, 1) := by decide +kernel
theorem dX4_reckonFor_23 : decode cX4_reckonFor 23 = .ok (.getfield 24, 3) := by decide +kernel
theorem dX4_reckonFor_26 : decode cX4_reckonFor 26 = .ok (.iload_n 2, 1) := by decide +kernel
theorem dX4_reckonFor_27 : decode cX4_reckonFor 27 = .ok (.iconst (-1), 1) := by decide +kernel
theorem dX4_reckonFor_28 : decode cX4_reckonFor 28 = .ok (.iastore, 1) := by decide +kernel
theorem dX4_reckonFor_29 : decode cX4_reckonFor 29 = .ok (.aload_n 0, 1) := by decide +kernel
theorem dX4_reckonFor_30 : decode cX4_reckonFor 30 = .ok (.getfield 27, 3) := by decide +kernel
theorem dX4_reckonFor_33 : decode cX4_reckonFor 33 = .ok (.iload_n 2, 1) := by decide +kernel
theorem dX4_reckonFor_34 : decode cX4_reckonFor 34 = .ok (.iconst (-1), 1) := by decide +kernel
theorem dX4_reckonFor_35 : decode cX4_reckonFor 35 = .ok (.iastore, 1) := by decide +kernel
theorem dX4_reckonFor_36 : decode cX4_reckonFor 36 = .ok (.iinc 2 1, 3) := by decide +kernel
theorem dX4_reckonFor_39 : decode cX4_reckonFor 39 = .ok (.goto (-23), 3) := by decide +kernel
theorem dX4_reckonFor_42 : decode cX4_reckonFor 42 = .ok (.aload_n 0, 1) := by decide +kernel
theorem dX4_reckonFor_43 : decode cX4_reckonFor 43 = .ok (.getfield 27, 3) := by decide +kernel
theorem dX4_reckonFor_46 : decode cX4_reckonFor 46 = .ok (.bipush 20, 2) := by decide +kernel
theorem dX4_reckonFor_48 : decode cX4_reckonFor 48 = .ok (.iconst 1, 1) := by decide +kernel
theorem dX4_reckonFor_49 : decode cX4_reckonFor 49 = .ok (.iastore, 1) := by decide +kernel
theorem dX4_reckonFor_50 : decode cX4_reckonFor 50 = .ok (.aload_n 0, 1) := by decide +kernel
theorem dX4_reckonFor_51 : decode cX4_reckonFor 51 = .ok (.getfield 27, 3) := by decide +kernel
theorem dX4_reckonFor_54 : decode cX4_reckonFor 54 = .ok (.bipush 21, 2) := by decide +kernel
theorem dX4_reckonFor_56 : decode cX4_reckonFor 56 = .ok (.iconst 3, 1) := by decide +kernel
theorem dX4_reckonFor_57 : decode cX4_reckonFor 57 = .ok (.iastore, 1) := by decide +kernel
theorem dX4_reckonFor_58 : decode cX4_reckonFor 58 = .ok (.aload_n 0, 1) := by decide +kernel
theorem dX4_reckonFor_59 : decode cX4_reckonFor 59 = .ok (.getfield 27, 3) := by decide +kernel
theorem dX4_reckonFor_62 : decode cX4_reckonFor 62 = .ok (.bipush 22, 2) := by decide +kernel
theorem dX4_reckonFor_64 : decode cX4_reckonFor 64 = .ok (.iconst 0, 1) := by decide +kernel
theorem dX4_reckonFor_65 : decode cX4_reckonFor 65 = .ok (.iastore, 1) := by decide +kernel
theorem dX4_reckonFor_66 : decode cX4_reckonFor 66 = .ok (.aload_n 0, 1) := by decide +kernel
theorem dX4_reckonFor_67 : decode cX4_reckonFor 67 = .ok (.getfield 27, 3) := by decide +kernel
theorem dX4_reckonFor_70 : decode cX4_reckonFor 70 = .ok (.bipush 23, 2) := by decide +kernel
theorem dX4_reckonFor_72 : decode cX4_reckonFor 72 = .ok (.bipush 99, 2) := by decide +kernel
theorem dX4_reckonFor_74 : decode cX4_reckonFor 74 = .ok (.iastore, 1) := by decide +kernel
theorem dX4_reckonFor_75 : decode cX4_reckonFor 75 = .ok (.iconst 0, 1) := by decide +kernel
theorem dX4_reckonFor_76 : decode cX4_reckonFor 76 = .ok (.istore_n 2, 1) := by decide +kernel
theorem dX4_reckonFor_77 : decode cX4_reckonFor 77 = .ok (.iload_n 2, 1) := by decide +kernel
theorem dX4_reckonFor_78 : decode cX4_reckonFor 78 = .ok (.aload_n 0, 1) := by decide +kernel
theorem dX4_reckonFor_79 : decode cX4_reckonFor 79 = .ok (.getfield 59, 3) := by decide +kernel
theorem dX4_reckonFor_82 : decode cX4_reckonFor 82 = .ok (.if_icmp .ge 48, 3) := by decide +kernel
theorem dX4_reckonFor_85 : decode cX4_reckonFor 85 = .ok (.aload_n 0, 1) := by decide +kernel
theorem dX4_reckonFor_86 : decode cX4_reckonFor 86 = .ok (.getfield 21, 3) := by decide +kernel
theorem dX4_reckonFor_89 : decode cX4_reckonFor 89 = .ok (.iload_n 2, 1) := by decide +kernel
theorem dX4_reckonFor_90 : decode cX4_reckonFor 90 = .ok (.iaload, 1) := by decide +kernel
theorem dX4_reckonFor_91 : decode cX4_reckonFor 91 = .ok (.iload_n 1, 1) := by decide +kernel
theorem dX4_reckonFor_92 : decode cX4_reckonFor 92 = .ok (.if_icmp .gt 32, 3) := by decide +kernel
theorem dX4_reckonFor_95 : decode cX4_reckonFor 95 = .ok (.aload_n 0, 1) := by decide +kernel
theorem dX4_reckonFor_96 : decode cX4_reckonFor 96 = .ok (.getfield 24, 3) := by decide +kernel
theorem dX4_reckonFor_99 : decode cX4_reckonFor 99 = .ok (.aload_n 0, 1) := by decide +kernel
theorem dX4_reckonFor_100 : decode cX4_reckonFor 100 = .ok (.getfield 15, 3) := by decide +kernel
theorem dX4_reckonFor_103 : decode cX4_reckonFor 103 = .ok (.iload_n 2, 1) := by decide +kernel
theorem dX4_reckonFor_104 : decode cX4_reckonFor 104 = .ok (.iaload, 1) := by decide +kernel
theorem dX4_reckonFor_105 : decode cX4_reckonFor 105 = .ok (.iload_n 2, 1) := by decide +kernel
theorem dX4_reckonFor_106 : decode cX4_reckonFor 106 = .ok (.iastore, 1) := by decide +kernel
theorem dX4_reckonFor_107 : decode cX4_reckonFor 107 = .ok (.aload_n 0, 1) := by decide +kernel
theorem dX4_reckonFor_108 : decode cX4_reckonFor 108 = .ok (.getfield 27, 3) := by decide +kernel
theorem dX4_reckonFor_111 : decode cX4_reckonFor 111 = .ok (.aload_n 0, 1) := by decide +kernel
theorem dX4_reckonFor_112 : decode cX4_reckonFor 112 = .ok (.getfield 15, 3) := by decide +kernel
theorem dX4_reckonFor_115 : decode cX4_reckonFor 115 = .ok (.iload_n 2, 1) := by decide +kernel
theorem dX4_reckonFor_116 : decode cX4_reckonFor 116 = .ok (.iaload, 1) := by decide +kernel
theorem dX4_reckonFor_117 : decode cX4_reckonFor 117 = .ok (.aload_n 0, 1) := by decide +kernel
theorem dX4_reckonFor_118 : decode cX4_reckonFor 118 = .ok (.getfield 18, 3) := by decide +kernel
theorem dX4_reckonFor_121 : decode cX4_reckonFor 121 = .ok (.iload_n 2, 1) := by decide +kernel
theorem dX4_reckonFor_122 : decode cX4_reckonFor 122 = .ok (.iaload, 1) := by decide +kernel
theorem dX4_reckonFor_123 : decode cX4_reckonFor 123 = .ok (.iastore, 1) := by decide +kernel
theorem dX4_reckonFor_124 : decode cX4_reckonFor 124 = .ok (.iinc 2 1, 3) := by decide +kernel
theorem dX4_reckonFor_127 : decode cX4_reckonFor 127 = .ok (.goto (-50), 3) := by decide +kernel
theorem dX4_reckonFor_130 : decode cX4_reckonFor 130 = .ok (.return_, 1) := by decide +kernel
theorem dX4_parse_0 : decode cX4_parse 0 = .ok (.aload_n 0, 1) := by decide +kernel
theorem dX4_parse_1 : decode cX4_parse 1 = .ok (.iconst (-1), 1) := by decide +kernel
theorem dX4_parse_2 : decode cX4_parse 2 = .ok (.putfield 30, 3) := by decide +kernel
theorem dX4_parse_5 : decode cX4_parse 5 = .ok (.aload_n 0, 1) := by decide +kernel
theorem dX4_parse_6 : decode cX4_parse 6 = .ok (.iconst 0, 1) := by decide +kernel
theorem dX4_parse_7 : decode cX4_parse 7 = .ok (.putfield 59, 3) := by decide +kernel
theorem dX4_parse_10 : decode cX4_parse 10 = .ok (.aload_n 0, 1) := by decide +kernel
theorem dX4_parse_11 : decode cX4_parse 11 = .ok (.iconst 0, 1) := by decide +kernel
theorem dX4_parse_12 : decode cX4_parse 12 = .ok (.putfield 62, 3) := by decide +kernel
theorem dX4_parse_15 : decode cX4_parse 15 = .ok (.aload_n 0, 1) := by decide +kernel
theorem dX4_parse_16 : decode cX4_parse 16 = .ok (.iconst (-1), 1) := by decide +kernel
theorem dX4_parse_17 : decode cX4_parse 17 = .ok (.putfield 65, 3) := by decide +kernel
theorem dX4_parse_20 : decode cX4_parse 20 = .ok (.iconst 0, 1) := by decide +kernel
theorem dX4_parse_21 : decode cX4_parse 21 = .ok (.istore_n 1, 1) := by decide +kernel
theorem dX4_parse_22 : decode cX4_parse 22 = .ok (.iload_n 1, 1) := by decide +kernel
theorem dX4_parse_23 : decode cX4_parse 23 = .ok (.bipush 50, 2) := by decide +kernel
theorem dX4_parse_25 : decode cX4_parse 25 = .ok (.if_icmp .gt 39, 3) := by decide +kernel
theorem dX4_parse_28 : decode cX4_parse 28 = .ok (.aload_n 0, 1) := by decide +kernel
theorem dX4_parse_29 : decode cX4_parse 29 = .ok (.invokevirtual 68, 3) := by decide +kernel
theorem dX4_parse_32 : decode cX4_parse 32 = .ok (.ifCond .eq 32, 3) := by decide +kernel
theorem dX4_parse_35 : decode cX4_parse 35 = .ok (.aload_n 0, 1) := by decide +kernel
theorem dX4_parse_36 : decode cX4_parse 36 = .ok (.getfield 62, 3) := by decide +kernel
theorem dX4_parse_39 : decode cX4_parse 39 = .ok (.aload_n 0, 1) := by decide +kernel
theorem dX4_parse_40 : decode cX4_parse 40 = .ok (.getfield 34, 3) := by decide +kernel
theorem dX4_parse_43 : decode cX4_parse 43 = .ok (.if_icmp .ge 21, 3) := by decide +kernel
theorem dX4_parse_46 : decode cX4_parse 46 = .ok (.aload_n 0, 1) := by decide +kernel
theorem dX4_parse_47 : decode cX4_parse 47 = .ok (.bipush 59, 2) := by decide +kernel
theorem dX4_parse_49 : decode cX4_parse 49 = .ok (.invokevirtual 72, 3) := by decide +kernel
theorem dX4_parse_52 : decode cX4_parse 52 = .ok (.ifCond .ne 6, 3) := by decide +kernel
theorem dX4_parse_55 : decode cX4_parse 55 = .ok (.goto 9, 3) := by decide +kernel
theorem dX4_parse_58 : decode cX4_parse 58 = .ok (.iinc 1 1, 3) := by decide +kernel
theorem dX4_parse_61 : decode cX4_parse 61 = .ok (.goto (-39), 3) := by decide +kernel
theorem dX4_parse_64 : decode cX4_parse 64 = .ok (.aload_n 0, 1) := by decide +kernel
theorem dX4_parse_65 : decode cX4_parse 65 = .ok (.getfield 65, 3) := by decide +kernel
theorem dX4_parse_68 : decode cX4_parse 68 = .ok (.iconst (-1), 1) := by decide +kernel
theorem dX4_parse_69 : decode cX4_parse 69 = .ok (.if_icmp .eq 8, 3) := by decide +kernel
theorem dX4_parse_72 : decode cX4_parse 72 = .ok (.aload_n 0, 1) := by decide +kernel
theorem dX4_parse_73 : decode cX4_parse 73 = .ok (.iconst 0, 1) := by decide +kernel
theorem dX4_parse_74 : decode cX4_parse 74 = .ok (.putfield 59, 3) := by decide +kernel
theorem dX4_parse_77 : decode cX4_parse 77 = .ok (.return_, 1) := by decide +kernel
theorem dX4_takePart_0 : decode cX4_takePart 0 = .ok (.aload_n 0, 1) := by decide +kernel
theorem dX4_takePart_1 : decode cX4_takePart 1 = .ok (.invokevirtual 76, 3) := by decide +kernel
theorem dX4_takePart_4 : decode cX4_takePart 4 = .ok (.istore_n 1, 1) := by decide +kernel
theorem dX4_takePart_5 : decode cX4_takePart 5 = .ok (.iload_n 1, 1) := by decide +kernel
theorem dX4_takePart_6 : decode cX4_takePart 6 = .ok (.iconst (-1), 1) := by decide +kernel
theorem dX4_takePart_7 : decode cX4_takePart 7 = .ok (.if_icmp .eq 12, 3) := by decide +kernel
theorem dX4_takePart_10 : decode cX4_takePart 10 = .ok (.aload_n 0, 1) := by decide +kernel
theorem dX4_takePart_11 : decode cX4_takePart 11 = .ok (.bipush 61, 2) := by decide +kernel
theorem dX4_takePart_13 : decode cX4_takePart 13 = .ok (.invokevirtual 72, 3) := by decide +kernel
theorem dX4_takePart_16 : decode cX4_takePart 16 = .ok (.ifCond .ne 5, 3) := by decide +kernel
theorem dX4_takePart_19 : decode cX4_takePart 19 = .ok (.iconst 0, 1) := by decide +kernel
theorem dX4_takePart_20 : decode cX4_takePart 20 = .ok (.ireturn, 1) := by decide +kernel
theorem dX4_takePart_21 : decode cX4_takePart 21 = .ok (.iload_n 1, 1) := by decide +kernel
theorem dX4_takePart_22 : decode cX4_takePart 22 = .ok (.bipush 21, 2) := by decide +kernel
theorem dX4_takePart_24 : decode cX4_takePart 24 = .ok (.if_icmp .ne 13, 3) := by decide +kernel
theorem dX4_takePart_27 : decode cX4_takePart 27 = .ok (.aload_n 0, 1) := by decide +kernel
theorem dX4_takePart_28 : decode cX4_takePart 28 = .ok (.iconst 1, 1) := by decide +kernel
theorem dX4_takePart_29 : decode cX4_takePart 29 = .ok (.iconst 1, 1) := by decide +kernel
theorem dX4_takePart_30 : decode cX4_takePart 30 = .ok (.iconst 3, 1) := by decide +kernel
theorem dX4_takePart_31 : decode cX4_takePart 31 = .ok (.invokevirtual 80, 3) := by decide +kernel
theorem dX4_takePart_34 : decode cX4_takePart 34 = .ok (.goto 11, 3) := by decide +kernel
theorem dX4_takePart_37 : decode cX4_takePart 37 = .ok (.aload_n 0, 1) := by decide +kernel
theorem dX4_takePart_38 : decode cX4_takePart 38 = .ok (.iconst 2, 1) := by decide +kernel
theorem dX4_takePart_39 : decode cX4_takePart 39 = .ok (.iconst 0, 1) := by decide +kernel
theorem dX4_takePart_40 : decode cX4_takePart 40 = .ok (.bipush 99, 2) := by decide +kernel
theorem dX4_takePart_42 : decode cX4_takePart 42 = .ok (.invokevirtual 80, 3) := by decide +kernel
theorem dX4_takePart_45 : decode cX4_takePart 45 = .ok (.istore_n 2, 1) := by decide +kernel
theorem dX4_takePart_46 : decode cX4_takePart 46 = .ok (.iload_n 2, 1) := by decide +kernel
theorem dX4_takePart_47 : decode cX4_takePart 47 = .ok (.iconst (-1), 1) := by decide +kernel
theorem dX4_takePart_48 : decode cX4_takePart 48 = .ok (.if_icmp .ne 5, 3) := by decide +kernel
theorem dX4_takePart_51 : decode cX4_takePart 51 = .ok (.iconst 0, 1) := by decide +kernel
theorem dX4_takePart_52 : decode cX4_takePart 52 = .ok (.ireturn, 1) := by decide +kernel
theorem dX4_takePart_53 : decode cX4_takePart 53 = .ok (.iconst 0, 1) := by decide +kernel
theorem dX4_takePart_54 : decode cX4_takePart 54 = .ok (.istore_n 3, 1) := by decide +kernel
theorem dX4_takePart_55 : decode cX4_takePart 55 = .ok (.aload_n 0, 1) := by decide +kernel
theorem dX4_takePart_56 : decode cX4_takePart 56 = .ok (.getfield 62, 3) := by decide +kernel
theorem dX4_takePart_59 : decode cX4_takePart 59 = .ok (.aload_n 0, 1) := by decide +kernel
theorem dX4_takePart_60 : decode cX4_takePart 60 = .ok (.getfield 34, 3) := by decide +kernel
theorem dX4_takePart_63 : decode cX4_takePart 63 = .ok (.if_icmp .ge 37, 3) := by decide +kernel
theorem dX4_takePart_66 : decode cX4_takePart 66 = .ok (.aload_n 0, 1) := by decide +kernel
theorem dX4_takePart_67 : decode cX4_takePart 67 = .ok (.getfield 11, 3) := by decide +kernel
theorem dX4_takePart_70 : decode cX4_takePart 70 = .ok (.aload_n 0, 1) := by decide +kernel
theorem dX4_takePart_71 : decode cX4_takePart 71 = .ok (.getfield 62, 3) := by decide +kernel
theorem dX4_takePart_74 : decode cX4_takePart 74 = .ok (.iaload, 1) := by decide +kernel
theorem dX4_takePart_75 : decode cX4_takePart 75 = .ok (.bipush 64, 2) := by decide +kernel
theorem dX4_takePart_77 : decode cX4_takePart 77 = .ok (.if_icmp .ne 23, 3) := by decide +kernel
theorem dX4_takePart_80 : decode cX4_takePart 80 = .ok (.aload_n 0, 1) := by decide +kernel
theorem dX4_takePart_81 : decode cX4_takePart 81 = .ok (.dup, 1) := by decide +kernel
theorem dX4_takePart_82 : decode cX4_takePart 82 = .ok (.getfield 62, 3) := by decide +kernel
theorem dX4_takePart_85 : decode cX4_takePart 85 = .ok (.iconst 1, 1) := by decide +kernel
theorem dX4_takePart_86 : decode cX4_takePart 86 = .ok (.iadd, 1) := by decide +kernel
theorem dX4_takePart_87 : decode cX4_takePart 87 = .ok (.putfield 62, 3) := by decide +kernel
theorem dX4_takePart_90 : decode cX4_takePart 90 = .ok (.aload_n 0, 1) := by decide +kernel
theorem dX4_takePart_91 : decode cX4_takePart 91 = .ok (.iconst 3, 1) := by decide +kernel
theorem dX4_takePart_92 : decode cX4_takePart 92 = .ok (.iconst 0, 1) := by decide +kernel
theorem dX4_takePart_93 : decode cX4_takePart 93 = .ok (.sipush 399, 3) := by decide +kernel
theorem dX4_takePart_96 : decode cX4_takePart 96 = .ok (.invokevirtual 80, 3) := by decide +kernel
theorem dX4_takePart_99 : decode cX4_takePart 99 = .ok (.istore_n 3, 1) := by decide +kernel
theorem dX4_takePart_100 : decode cX4_takePart 100 = .ok (.iload_n 3, 1) := by decide +kernel
theorem dX4_takePart_101 : decode cX4_takePart 101 = .ok (.iconst (-1), 1) := by decide +kernel
theorem dX4_takePart_102 : decode cX4_takePart 102 = .ok (.if_icmp .ne 5, 3) := by decide +kernel
theorem dX4_takePart_105 : decode cX4_takePart 105 = .ok (.iconst 0, 1) := by decide +kernel
theorem dX4_takePart_106 : decode cX4_takePart 106 = .ok (.ireturn, 1) := by decide +kernel
theorem dX4_takePart_107 : decode cX4_takePart 107 = .ok (.aload_n 0, 1) := by decide +kernel
theorem dX4_takePart_108 : decode cX4_takePart 108 = .ok (.iload_n 1, 1) := by decide +kernel
theorem dX4_takePart_109 : decode cX4_takePart 109 = .ok (.iload_n 2, 1) := by decide +kernel
theorem dX4_takePart_110 : decode cX4_takePart 110 = .ok (.iload_n 3, 1) := by decide +kernel
theorem dX4_takePart_111 : decode cX4_takePart 111 = .ok (.invokevirtual 84, 3) := by decide +kernel
theorem dX4_takePart_114 : decode cX4_takePart 114 = .ok (.iconst 1, 1) := by decide +kernel
theorem dX4_takePart_115 : decode cX4_takePart 115 = .ok (.ireturn, 1) := by decide +kernel
theorem dX4_keepPart_0 : decode cX4_keepPart 0 = .ok (.aload_n 0, 1) := by decide +kernel
theorem dX4_keepPart_1 : decode cX4_keepPart 1 = .ok (.getfield 59, 3) := by decide +kernel
theorem dX4_keepPart_4 : decode cX4_keepPart 4 = .ok (.bipush 50, 2) := by decide +kernel
theorem dX4_keepPart_6 : decode cX4_keepPart 6 = .ok (.if_icmp .ge 43, 3) := by decide +kernel
theorem dX4_keepPart_9 : decode cX4_keepPart 9 = .ok (.aload_n 0, 1) := by decide +kernel
theorem dX4_keepPart_10 : decode cX4_keepPart 10 = .ok (.getfield 15, 3) := by decide +kernel
theorem dX4_keepPart_13 : decode cX4_keepPart 13 = .ok (.aload_n 0, 1) := by decide +kernel
theorem dX4_keepPart_14 : decode cX4_keepPart 14 = .ok (.getfield 59, 3) := by decide +kernel
theorem dX4_keepPart_17 : decode cX4_keepPart 17 = .ok (.iload_n 1, 1) := by decide +kernel
theorem dX4_keepPart_18 : decode cX4_keepPart 18 = .ok (.iastore, 1) := by decide +kernel
theorem dX4_keepPart_19 : decode cX4_keepPart 19 = .ok (.aload_n 0, 1) := by decide +kernel
theorem dX4_keepPart_20 : decode cX4_keepPart 20 = .ok (.getfield 18, 3) := by decide +kernel
theorem dX4_keepPart_23 : decode cX4_keepPart 23 = .ok (.aload_n 0, 1) := by decide +kernel
theorem dX4_keepPart_24 : decode cX4_keepPart 24 = .ok (.getfield 59, 3) := by decide +kernel
theorem dX4_keepPart_27 : decode cX4_keepPart 27 = .ok (.iload_n 2, 1) := by decide +kernel
theorem dX4_keepPart_28 : decode cX4_keepPart 28 = .ok (.iastore, 1) := by decide +kernel
theorem dX4_keepPart_29 : decode cX4_keepPart 29 = .ok (.aload_n 0, 1) := by decide +kernel
theorem dX4_keepPart_30 : decode cX4_keepPart 30 = .ok (.getfield 21, 3) := by decide +kernel
theorem dX4_keepPart_33 : decode cX4_keepPart 33 = .ok (.aload_n 0, 1) := by decide +kernel
theorem dX4_keepPart_34 : decode cX4_keepPart 34 = .ok (.getfield 59, 3) := by decide +kernel
theorem dX4_keepPart_37 : decode cX4_keepPart 37 = .ok (.iload_n 3, 1) := by decide +kernel
theorem dX4_keepPart_38 : decode cX4_keepPart 38 = .ok (.iastore, 1) := by decide +kernel
theorem dX4_keepPart_39 : decode cX4_keepPart 39 = .ok (.aload_n 0, 1) := by decide +kernel
theorem dX4_keepPart_40 : decode cX4_keepPart 40 = .ok (.dup, 1) := by decide +kernel
theorem dX4_keepPart_41 : decode cX4_keepPart 41 = .ok (.getfield 59, 3) := by decide +kernel
theorem dX4_keepPart_44 : decode cX4_keepPart 44 = .ok (.iconst 1, 1) := by decide +kernel
theorem dX4_keepPart_45 : decode cX4_keepPart 45 = .ok (.iadd, 1) := by decide +kernel
theorem dX4_keepPart_46 : decode cX4_keepPart 46 = .ok (.putfield 59, 3) := by decide +kernel
theorem dX4_keepPart_49 : decode cX4_keepPart 49 = .ok (.return_, 1) := by decide +kernel
theorem dX4_takeKind_0 : decode cX4_takeKind 0 = .ok (.aload_n 0, 1) := by decide +kernel
theorem dX4_takeKind_1 : decode cX4_takeKind 1 = .ok (.getfield 62, 3) := by decide +kernel
theorem dX4_takeKind_4 : decode cX4_takeKind 4 = .ok (.aload_n 0, 1) := by decide +kernel
theorem dX4_takeKind_5 : decode cX4_takeKind 5 = .ok (.getfield 34, 3) := by decide +kernel
theorem dX4_takeKind_8 : decode cX4_takeKind 8 = .ok (.if_icmp .ge 15, 3) := by decide +kernel
theorem dX4_takeKind_11 : decode cX4_takeKind 11 = .ok (.aload_n 0, 1) := by decide +kernel
theorem dX4_takeKind_12 : decode cX4_takeKind 12 = .ok (.getfield 11, 3) := by decide +kernel
theorem dX4_takeKind_15 : decode cX4_takeKind 15 = .ok (.aload_n 0, 1) := by decide +kernel
theorem dX4_takeKind_16 : decode cX4_takeKind 16 = .ok (.getfield 62, 3) := by decide +kernel
theorem dX4_takeKind_19 : decode cX4_takeKind 19 = .ok (.iaload, 1) := by decide +kernel
theorem dX4_takeKind_20 : decode cX4_takeKind 20 = .ok (.goto 4, 3) := by decide +kernel
theorem dX4_takeKind_23 : decode cX4_takeKind 23 = .ok (.iconst (-1), 1) := by decide +kernel
theorem dX4_takeKind_24 : decode cX4_takeKind 24 = .ok (.istore_n 1, 1) := by decide +kernel
theorem dX4_takeKind_25 : decode cX4_takeKind 25 = .ok (.aload_n 0, 1) := by decide +kernel
theorem dX4_takeKind_26 : decode cX4_takeKind 26 = .ok (.dup, 1) := by decide +kernel
theorem dX4_takeKind_27 : decode cX4_takeKind 27 = .ok (.getfield 62, 3) := by decide +kernel
theorem dX4_takeKind_30 : decode cX4_takeKind 30 = .ok (.iconst 1, 1) := by decide +kernel
theorem dX4_takeKind_31 : decode cX4_takeKind 31 = .ok (.iadd, 1) := by decide +kernel
theorem dX4_takeKind_32 : decode cX4_takeKind 32 = .ok (.putfield 62, 3) := by decide +kernel
theorem dX4_takeKind_35 : decode cX4_takeKind 35 = .ok (.iload_n 1, 1) := by decide +kernel
theorem dX4_takeKind_36 : decode cX4_takeKind 36 = .ok (.tableswitch 89 107 119 #[80, 89, 89, 77, 89, 89, 68, 89, 83, 89, 89, 89, 86], 68) := by decide +kernel
theorem dX4_takeKind_104 : decode cX4_takeKind 104 = .ok (.aload_n 0, 1) := by decide +kernel
theorem dX4_takeKind_105 : decode cX4_takeKind 105 = .ok (.iconst 2, 1) := by decide +kernel
theorem dX4_takeKind_106 : decode cX4_takeKind 106 = .ok (.iconst 0, 1) := by decide +kernel
theorem dX4_takeKind_107 : decode cX4_takeKind 107 = .ok (.bipush 19, 2) := by decide +kernel
theorem dX4_takeKind_109 : decode cX4_takeKind 109 = .ok (.invokevirtual 80, 3) := by decide +kernel
theorem dX4_takeKind_112 : decode cX4_takeKind 112 = .ok (.ireturn, 1) := by decide +kernel
theorem dX4_takeKind_113 : decode cX4_takeKind 113 = .ok (.bipush 20, 2) := by decide +kernel
theorem dX4_takeKind_115 : decode cX4_takeKind 115 = .ok (.ireturn, 1) := by decide +kernel
theorem dX4_takeKind_116 : decode cX4_takeKind 116 = .ok (.bipush 21, 2) := by decide +kernel
theorem dX4_takeKind_118 : decode cX4_takeKind 118 = .ok (.ireturn, 1) := by decide +kernel
theorem dX4_takeKind_119 : decode cX4_takeKind 119 = .ok (.bipush 22, 2) := by decide +kernel
theorem dX4_takeKind_121 : decode cX4_takeKind 121 = .ok (.ireturn, 1) := by decide +kernel
theorem dX4_takeKind_122 : decode cX4_takeKind 122 = .ok (.bipush 23, 2) := by decide +kernel
theorem dX4_takeKind_124 : decode cX4_takeKind 124 = .ok (.ireturn, 1) := by decide +kernel
theorem dX4_takeKind_125 : decode cX4_takeKind 125 = .ok (.aload_n 0, 1) := by decide +kernel
theorem dX4_takeKind_126 : decode cX4_takeKind 126 = .ok (.aload_n 0, 1) := by decide +kernel
theorem dX4_takeKind_127 : decode cX4_takeKind 127 = .ok (.getfield 62, 3) := by decide +kernel
theorem dX4_takeKind_130 : decode cX4_takeKind 130 = .ok (.iconst 1, 1) := by decide +kernel
theorem dX4_takeKind_131 : decode cX4_takeKind 131 = .ok (.isub, 1) := by decide +kernel
theorem dX4_takeKind_132 : decode cX4_takeKind 132 = .ok (.putfield 65, 3) := by decide +kernel
theorem dX4_takeKind_135 : decode cX4_takeKind 135 = .ok (.iconst (-1), 1) := by decide +kernel
theorem dX4_takeKind_136 : decode cX4_takeKind 136 = .ok (.ireturn, 1) := by decide +kernel
theorem dX4_takeSign_0 : decode cX4_takeSign 0 = .ok (.aload_n 0, 1) := by decide +kernel
theorem dX4_takeSign_1 : decode cX4_takeSign 1 = .ok (.getfield 62, 3) := by decide +kernel
theorem dX4_takeSign_4 : decode cX4_takeSign 4 = .ok (.aload_n 0, 1) := by decide +kernel
theorem dX4_takeSign_5 : decode cX4_takeSign 5 = .ok (.getfield 34, 3) := by decide +kernel
theorem dX4_takeSign_8 : decode cX4_takeSign 8 = .ok (.if_icmp .ge 16, 3) := by decide +kernel
theorem dX4_takeSign_11 : decode cX4_takeSign 11 = .ok (.aload_n 0, 1) := by decide +kernel
theorem dX4_takeSign_12 : decode cX4_takeSign 12 = .ok (.getfield 11, 3) := by decide +kernel
theorem dX4_takeSign_15 : decode cX4_takeSign 15 = .ok (.aload_n 0, 1) := by decide +kernel
theorem dX4_takeSign_16 : decode cX4_takeSign 16 = .ok (.getfield 62, 3) := by decide +kernel
theorem dX4_takeSign_19 : decode cX4_takeSign 19 = .ok (.iaload, 1) := by decide +kernel
theorem dX4_takeSign_20 : decode cX4_takeSign 20 = .ok (.iload_n 1, 1) := by decide +kernel
theorem dX4_takeSign_21 : decode cX4_takeSign 21 = .ok (.if_icmp .eq 13, 3) := by decide +kernel
theorem dX4_takeSign_24 : decode cX4_takeSign 24 = .ok (.aload_n 0, 1) := by decide +kernel
theorem dX4_takeSign_25 : decode cX4_takeSign 25 = .ok (.aload_n 0, 1) := by decide +kernel
theorem dX4_takeSign_26 : decode cX4_takeSign 26 = .ok (.getfield 62, 3) := by decide +kernel
theorem dX4_takeSign_29 : decode cX4_takeSign 29 = .ok (.putfield 65, 3) := by decide +kernel
theorem dX4_takeSign_32 : decode cX4_takeSign 32 = .ok (.iconst 0, 1) := by decide +kernel
theorem dX4_takeSign_33 : decode cX4_takeSign 33 = .ok (.ireturn, 1) := by decide +kernel
theorem dX4_takeSign_34 : decode cX4_takeSign 34 = .ok (.aload_n 0, 1) := by decide +kernel
theorem dX4_takeSign_35 : decode cX4_takeSign 35 = .ok (.dup, 1) := by decide +kernel
theorem dX4_takeSign_36 : decode cX4_takeSign 36 = .ok (.getfield 62, 3) := by decide +kernel
theorem dX4_takeSign_39 : decode cX4_takeSign 39 = .ok (.iconst 1, 1) := by decide +kernel
theorem dX4_takeSign_40 : decode cX4_takeSign 40 = .ok (.iadd, 1) := by decide +kernel
theorem dX4_takeSign_41 : decode cX4_takeSign 41 = .ok (.putfield 62, 3) := by decide +kernel
theorem dX4_takeSign_44 : decode cX4_takeSign 44 = .ok (.iconst 1, 1) := by decide +kernel
theorem dX4_takeSign_45 : decode cX4_takeSign 45 = .ok (.ireturn, 1) := by decide +kernel
theorem dX4_takeNumber_0 : decode cX4_takeNumber 0 = .ok (.aload_n 0, 1) := by decide +kernel
theorem dX4_takeNumber_1 : decode cX4_takeNumber 1 = .ok (.getfield 62, 3) := by decide +kernel
theorem dX4_takeNumber_4 : decode cX4_takeNumber 4 = .ok (.istore 4, 2) := by decide +kernel
theorem dX4_takeNumber_6 : decode cX4_takeNumber 6 = .ok (.iconst 0, 1) := by decide +kernel
theorem dX4_takeNumber_7 : decode cX4_takeNumber 7 = .ok (.istore 5, 2) := by decide +kernel
theorem dX4_takeNumber_9 : decode cX4_takeNumber 9 = .ok (.iconst 0, 1) := by decide +kernel
theorem dX4_takeNumber_10 : decode cX4_takeNumber 10 = .ok (.istore 6, 2) := by decide +kernel
theorem dX4_takeNumber_12 : decode cX4_takeNumber 12 = .ok (.iload 6, 2) := by decide +kernel
theorem dX4_takeNumber_14 : decode cX4_takeNumber 14 = .ok (.iload_n 1, 1) := by decide +kernel
theorem dX4_takeNumber_15 : decode cX4_takeNumber 15 = .ok (.if_icmp .ge 46, 3) := by decide +kernel
theorem dX4_takeNumber_18 : decode cX4_takeNumber 18 = .ok (.aload_n 0, 1) := by decide +kernel
theorem dX4_takeNumber_19 : decode cX4_takeNumber 19 = .ok (.invokevirtual 88, 3) := by decide +kernel
theorem dX4_takeNumber_22 : decode cX4_takeNumber 22 = .ok (.ifCond .eq 39, 3) := by decide +kernel
theorem dX4_takeNumber_25 : decode cX4_takeNumber 25 = .ok (.bipush 10, 2) := by decide +kernel
theorem dX4_takeNumber_27 : decode cX4_takeNumber 27 = .ok (.iload 5, 2) := by decide +kernel
theorem dX4_takeNumber_29 : decode cX4_takeNumber 29 = .ok (.imul, 1) := by decide +kernel
theorem dX4_takeNumber_30 : decode cX4_takeNumber 30 = .ok (.aload_n 0, 1) := by decide +kernel
theorem dX4_takeNumber_31 : decode cX4_takeNumber 31 = .ok (.getfield 11, 3) := by decide +kernel
theorem dX4_takeNumber_34 : decode cX4_takeNumber 34 = .ok (.aload_n 0, 1) := by decide +kernel
theorem dX4_takeNumber_35 : decode cX4_takeNumber 35 = .ok (.getfield 62, 3) := by decide +kernel
theorem dX4_takeNumber_38 : decode cX4_takeNumber 38 = .ok (.iaload, 1) := by decide +kernel
theorem dX4_takeNumber_39 : decode cX4_takeNumber 39 = .ok (.iadd, 1) := by decide +kernel
theorem dX4_takeNumber_40 : decode cX4_takeNumber 40 = .ok (.bipush 48, 2) := by decide +kernel
theorem dX4_takeNumber_42 : decode cX4_takeNumber 42 = .ok (.isub, 1) := by decide +kernel
theorem dX4_takeNumber_43 : decode cX4_takeNumber 43 = .ok (.istore 5, 2) := by decide +kernel
theorem dX4_takeNumber_45 : decode cX4_takeNumber 45 = .ok (.aload_n 0, 1) := by decide +kernel
theorem dX4_takeNumber_46 : decode cX4_takeNumber 46 = .ok (.dup, 1) := by decide +kernel
theorem dX4_takeNumber_47 : decode cX4_takeNumber 47 = .ok (.getfield 62, 3) := by decide +kernel
theorem dX4_takeNumber_50 : decode cX4_takeNumber 50 = .ok (.iconst 1, 1) := by decide +kernel
theorem dX4_takeNumber_51 : decode cX4_takeNumber 51 = .ok (.iadd, 1) := by decide +kernel
theorem dX4_takeNumber_52 : decode cX4_takeNumber 52 = .ok (.putfield 62, 3) := by decide +kernel
theorem dX4_takeNumber_55 : decode cX4_takeNumber 55 = .ok (.iinc 6 1, 3) := by decide +kernel
theorem dX4_takeNumber_58 : decode cX4_takeNumber 58 = .ok (.goto (-46), 3) := by decide +kernel
theorem dX4_takeNumber_61 : decode cX4_takeNumber 61 = .ok (.aload_n 0, 1) := by decide +kernel
theorem dX4_takeNumber_62 : decode cX4_takeNumber 62 = .ok (.getfield 62, 3) := by decide +kernel
theorem dX4_takeNumber_65 : decode cX4_takeNumber 65 = .ok (.iload 4, 2) := by decide +kernel
theorem dX4_takeNumber_67 : decode cX4_takeNumber 67 = .ok (.if_icmp .eq 15, 3) := by decide +kernel
theorem dX4_takeNumber_70 : decode cX4_takeNumber 70 = .ok (.iload 5, 2) := by decide +kernel
theorem dX4_takeNumber_72 : decode cX4_takeNumber 72 = .ok (.iload_n 2, 1) := by decide +kernel
theorem dX4_takeNumber_73 : decode cX4_takeNumber 73 = .ok (.if_icmp .lt 9, 3) := by decide +kernel
theorem dX4_takeNumber_76 : decode cX4_takeNumber 76 = .ok (.iload 5, 2) := by decide +kernel
theorem dX4_takeNumber_78 : decode cX4_takeNumber 78 = .ok (.iload_n 3, 1) := by decide +kernel
theorem dX4_takeNumber_79 : decode cX4_takeNumber 79 = .ok (.if_icmp .le 11, 3) := by decide +kernel
theorem dX4_takeNumber_82 : decode cX4_takeNumber 82 = .ok (.aload_n 0, 1) := by decide +kernel
theorem dX4_takeNumber_83 : decode cX4_takeNumber 83 = .ok (.iload 4, 2) := by decide +kernel
theorem dX4_takeNumber_85 : decode cX4_takeNumber 85 = .ok (.putfield 65, 3) := by decide +kernel
theorem dX4_takeNumber_88 : decode cX4_takeNumber 88 = .ok (.iconst (-1), 1) := by decide +kernel
theorem dX4_takeNumber_89 : decode cX4_takeNumber 89 = .ok (.ireturn, 1) := by decide +kernel
theorem dX4_takeNumber_90 : decode cX4_takeNumber 90 = .ok (.iload 5, 2) := by decide +kernel
theorem dX4_takeNumber_92 : decode cX4_takeNumber 92 = .ok (.ireturn, 1) := by decide +kernel
theorem dX4_isFigureNext_0 : decode cX4_isFigureNext 0 = .ok (.aload_n 0, 1) := by decide +kernel
theorem dX4_isFigureNext_1 : decode cX4_isFigureNext 1 = .ok (.getfield 62, 3) := by decide +kernel
theorem dX4_isFigureNext_4 : decode cX4_isFigureNext 4 = .ok (.aload_n 0, 1) := by decide +kernel
theorem dX4_isFigureNext_5 : decode cX4_isFigureNext 5 = .ok (.getfield 34, 3) := by decide +kernel
theorem dX4_isFigureNext_8 : decode cX4_isFigureNext 8 = .ok (.if_icmp .ge 35, 3) := by decide +kernel
theorem dX4_isFigureNext_11 : decode cX4_isFigureNext 11 = .ok (.aload_n 0, 1) := by decide +kernel
theorem dX4_isFigureNext_12 : decode cX4_isFigureNext 12 = .ok (.getfield 11, 3) := by decide +kernel
theorem dX4_isFigureNext_15 : decode cX4_isFigureNext 15 = .ok (.aload_n 0, 1) := by decide +kernel
theorem dX4_isFigureNext_16 : decode cX4_isFigureNext 16 = .ok (.getfield 62, 3) := by decide +kernel
theorem dX4_isFigureNext_19 : decode cX4_isFigureNext 19 = .ok (.iaload, 1) := by decide +kernel
theorem dX4_isFigureNext_20 : decode cX4_isFigureNext 20 = .ok (.bipush 48, 2) := by decide +kernel
theorem dX4_isFigureNext_22 : decode cX4_isFigureNext 22 = .ok (.if_icmp .lt 21, 3) := by decide +kernel
theorem dX4_isFigureNext_25 : decode cX4_isFigureNext 25 = .ok (.aload_n 0, 1) := by decide +kernel
theorem dX4_isFigureNext_26 : decode cX4_isFigureNext 26 = .ok (.getfield 11, 3) := by decide +kernel
theorem dX4_isFigureNext_29 : decode cX4_isFigureNext 29 = .ok (.aload_n 0, 1) := by decide +kernel
theorem dX4_isFigureNext_30 : decode cX4_isFigureNext 30 = .ok (.getfield 62, 3) := by decide +kernel
theorem dX4_isFigureNext_33 : decode cX4_isFigureNext 33 = .ok (.iaload, 1) := by decide +kernel
theorem dX4_isFigureNext_34 : decode cX4_isFigureNext 34 = .ok (.bipush 57, 2) := by decide +kernel
theorem dX4_isFigureNext_36 : decode cX4_isFigureNext 36 = .ok (.if_icmp .gt 7, 3) := by decide +kernel
theorem dX4_isFigureNext_39 : decode cX4_isFigureNext 39 = .ok (.iconst 1, 1) := by decide +kernel
theorem dX4_isFigureNext_40 : decode cX4_isFigureNext 40 = .ok (.goto 4, 3) := by decide +kernel
theorem dX4_isFigureNext_43 : decode cX4_isFigureNext 43 = .ok (.iconst 0, 1) := by decide +kernel
theorem dX4_isFigureNext_44 : decode cX4_isFigureNext 44 = .ok (.ireturn, 1) := by decide +kernel
theorem dX5_init_0 : decode cX5_init 0 = .ok (.aload_n 0, 1) := by decide +kernel
theorem dX5_init_1 : decode cX5_init 1 = .ok (.invokespecial 3, 3) := by decide +kernel
theorem dX5_init_4 : decode cX5_init 4 = .ok (.aload_n 0, 1) := by decide +kernel
theorem dX5_init_5 : decode cX5_init 5 = .ok (.bipush 6, 2) := by decide +kernel
theorem dX5_init_7 : decode cX5_init 7 = .ok (.bipush 13, 2) := by decide +kernel
theorem dX5_init_9 : decode cX5_init 9 = .ok (.multianewarray 11 2, 4) := by decide +kernel
theorem dX5_init_13 : decode cX5_init 13 = .ok (.putfield 13, 3) := by decide +kernel
theorem dX5_init_16 : decode cX5_init 16 = .ok (.aload_n 0, 1) := by decide +kernel
theorem dX5_init_17 : decode cX5_init 17 = .ok (.bipush 6, 2) := by decide +kernel
theorem dX5_init_19 : decode cX5_init 19 = .ok (.bipush 13, 2) := by decide +kernel
theorem dX5_init_21 : decode cX5_init 21 = .ok (.multianewarray 11 2, 4) := by decide +kernel
theorem dX5_init_25 : decode cX5_init 25 = .ok (.putfield 16, 3) := by decide +kernel
theorem dX5_init_28 : decode cX5_init 28 = .ok (.aload_n 0, 1) := by decide +kernel
theorem dX5_init_29 : decode cX5_init 29 = .ok (.aload_n 1, 1) := by decide +kernel
theorem dX5_init_30 : decode cX5_init 30 = .ok (.putfield 19, 3) := by decide +kernel
theorem dX5_init_33 : decode cX5_init 33 = .ok (.aload_n 0, 1) := by decide +kernel
theorem dX5_init_34 : decode cX5_init 34 = .ok (.aload_n 2, 1) := by decide +kernel
theorem dX5_init_35 : decode cX5_init 35 = .ok (.putfield 23, 3) := by decide +kernel
theorem dX5_init_38 : decode cX5_init 38 = .ok (.aload_n 0, 1) := by decide +kernel
theorem dX5_init_39 : decode cX5_init 39 = .ok (.aload_n 3, 1) := by decide +kernel
theorem dX5_init_40 : decode cX5_init 40 = .ok (.putfield 27, 3) := by decide +kernel
theorem dX5_init_43 : decode cX5_init 43 = .ok (.return_, 1) := by decide +kernel
theorem dX5_give_0 : decode cX5_give 0 = .ok (.iconst 0, 1) := by decide +kernel
theorem dX5_give_1 : decode cX5_give 1 = .ok (.istore_n 2, 1) := by decide +kernel
theorem dX5_give_2 : decode cX5_give 2 = .ok (.iconst 0, 1) := by decide +kernel
theorem dX5_give_3 : decode cX5_give 3 = .ok (.istore_n 3, 1) := by decide +kernel
theorem dX5_give_4 : decode cX5_give 4 = .ok (.iload_n 3, 1) := by decide +kernel
theorem dX5_give_5 : decode cX5_give 5 = .ok (.aload_n 0, 1) := by decide +kernel
theorem dX5_give_6 : decode cX5_give 6 = .ok (.getfield 23, 3) := by decide +kernel
theorem dX5_give_9 : decode cX5_give 9 = .ok (.getfield 31, 3) := by decide +kernel
theorem dX5_give_12 : decode cX5_give 12 = .ok (.if_icmp .ge 86, 3) := by decide +kernel
theorem dX5_give_15 : decode cX5_give 15 = .ok (.aload_n 0, 1) := by decide +kernel
theorem dX5_give_16 : decode cX5_give 16 = .ok (.getfield 23, 3) := by decide +kernel
theorem dX5_give_19 : decode cX5_give 19 = .ok (.iload_n 3, 1) := by decide +kernel
theorem dX5_give_20 : decode cX5_give 20 = .ok (.invokevirtual 37, 3) := by decide +kernel
theorem dX5_give_23 : decode cX5_give 23 = .ok (.astore 4, 2) := by decide +kernel
theorem dX5_give_25 : decode cX5_give 25 = .ok (.aload 4, 2) := by decide +kernel
theorem dX5_give_27 : decode cX5_give 27 = .ok (.iconst 1, 1) := by decide +kernel
theorem dX5_give_28 : decode cX5_give 28 = .ok (.invokevirtual 41, 3) := by decide +kernel
theorem dX5_give_31 : decode cX5_give 31 = .ok (.istore 5, 2) := by decide +kernel
theorem dX5_give_33 : decode cX5_give 33 = .ok (.aload 4, 2) := by decide +kernel
theorem dX5_give_35 : decode cX5_give 35 = .ok (.getfield 47, 3) := by decide +kernel
theorem dX5_give_38 : decode cX5_give 38 = .ok (.iload_n 1, 1) := by decide +kernel
theorem dX5_give_39 : decode cX5_give 39 = .ok (.if_icmp .ne 53, 3) := by decide +kernel
theorem dX5_give_42 : decode cX5_give 42 = .ok (.aload 4, 2) := by decide +kernel
theorem dX5_give_44 : decode cX5_give 44 = .ok (.invokevirtual 50, 3) := by decide +kernel
theorem dX5_give_47 : decode cX5_give 47 = .ok (.ifCond .eq 45, 3) := by decide +kernel
theorem dX5_give_50 : decode cX5_give 50 = .ok (.aload_n 0, 1) := by decide +kernel
theorem dX5_give_51 : decode cX5_give 51 = .ok (.getfield 19, 3) := by decide +kernel
theorem dX5_give_54 : decode cX5_give 54 = .ok (.aload 4, 2) := by decide +kernel
theorem dX5_give_56 : decode cX5_give 56 = .ok (.getfield 54, 3) := by decide +kernel
theorem dX5_give_59 : decode cX5_give 59 = .ok (.aload_n 0, 1) := by decide +kernel
theorem dX5_give_60 : decode cX5_give 60 = .ok (.getfield 27, 3) := by decide +kernel
theorem dX5_give_63 : decode cX5_give 63 = .ok (.getfield 57, 3) := by decide +kernel
theorem dX5_give_66 : decode cX5_give 66 = .ok (.invokevirtual 62, 3) := by decide +kernel
theorem dX5_give_69 : decode cX5_give 69 = .ok (.ifCond .eq 23, 3) := by decide +kernel
theorem dX5_give_72 : decode cX5_give 72 = .ok (.iload 5, 2) := by decide +kernel
theorem dX5_give_74 : decode cX5_give 74 = .ok (.aload 4, 2) := by decide +kernel
theorem dX5_give_76 : decode cX5_give 76 = .ok (.getfield 68, 3) := by decide +kernel
theorem dX5_give_79 : decode cX5_give 79 = .ok (.if_icmp .le 13, 3) := by decide +kernel
theorem dX5_give_82 : decode cX5_give 82 = .ok (.aload 4, 2) := by decide +kernel
theorem dX5_give_84 : decode cX5_give 84 = .ok (.iload 5, 2) := by decide +kernel
theorem dX5_give_86 : decode cX5_give 86 = .ok (.putfield 68, 3) := by decide +kernel
theorem dX5_give_89 : decode cX5_give 89 = .ok (.iinc 2 1, 3) := by decide +kernel
theorem dX5_give_92 : decode cX5_give 92 = .ok (.iinc 3 1, 3) := by decide +kernel
theorem dX5_give_95 : decode cX5_give 95 = .ok (.goto (-91), 3) := by decide +kernel
theorem dX5_give_98 : decode cX5_give 98 = .ok (.iload_n 2, 1) := by decide +kernel
theorem dX5_give_99 : decode cX5_give 99 = .ok (.ireturn, 1) := by decide +kernel
theorem dX5_readyIn_0 : decode cX5_readyIn 0 = .ok (.iconst 0, 1) := by decide +kernel
theorem dX5_readyIn_1 : decode cX5_readyIn 1 = .ok (.istore_n 2, 1) := by decide +kernel
theorem dX5_readyIn_2 : decode cX5_readyIn 2 = .ok (.iconst 0, 1) := by decide +kernel
theorem dX5_readyIn_3 : decode cX5_readyIn 3 = .ok (.istore_n 3, 1) := by decide +kernel
theorem dX5_readyIn_4 : decode cX5_readyIn 4 = .ok (.iload_n 3, 1) := by decide +kernel
theorem dX5_readyIn_5 : decode cX5_readyIn 5 = .ok (.aload_n 0, 1) := by decide +kernel
theorem dX5_readyIn_6 : decode cX5_readyIn 6 = .ok (.getfield 23, 3) := by decide +kernel
theorem dX5_readyIn_9 : decode cX5_readyIn 9 = .ok (.getfield 31, 3) := by decide +kernel
theorem dX5_readyIn_12 : decode cX5_readyIn 12 = .ok (.if_icmp .ge 71, 3) := by decide +kernel
theorem dX5_readyIn_15 : decode cX5_readyIn 15 = .ok (.aload_n 0, 1) := by decide +kernel
theorem dX5_readyIn_16 : decode cX5_readyIn 16 = .ok (.getfield 23, 3) := by decide +kernel
theorem dX5_readyIn_19 : decode cX5_readyIn 19 = .ok (.iload_n 3, 1) := by decide +kernel
theorem dX5_readyIn_20 : decode cX5_readyIn 20 = .ok (.invokevirtual 37, 3) := by decide +kernel
theorem dX5_readyIn_23 : decode cX5_readyIn 23 = .ok (.astore 4, 2) := by decide +kernel
theorem dX5_readyIn_25 : decode cX5_readyIn 25 = .ok (.aload 4, 2) := by decide +kernel
theorem dX5_readyIn_27 : decode cX5_readyIn 27 = .ok (.invokevirtual 50, 3) := by decide +kernel
theorem dX5_readyIn_30 : decode cX5_readyIn 30 = .ok (.ifCond .eq 47, 3) := by decide +kernel
theorem dX5_readyIn_33 : decode cX5_readyIn 33 = .ok (.iload_n 1, 1) := by decide +kernel
theorem dX5_readyIn_34 : decode cX5_readyIn 34 = .ok (.iconst (-1), 1) := by decide +kernel
theorem dX5_readyIn_35 : decode cX5_readyIn 35 = .ok (.if_icmp .eq 12, 3) := by decide +kernel
theorem dX5_readyIn_38 : decode cX5_readyIn 38 = .ok (.aload 4, 2) := by decide +kernel
theorem dX5_readyIn_40 : decode cX5_readyIn 40 = .ok (.getfield 47, 3) := by decide +kernel
theorem dX5_readyIn_43 : decode cX5_readyIn 43 = .ok (.iload_n 1, 1) := by decide +kernel
theorem dX5_readyIn_44 : decode cX5_readyIn 44 = .ok (.if_icmp .ne 33, 3) := by decide +kernel
theorem dX5_readyIn_47 : decode cX5_readyIn 47 = .ok (.aload_n 0, 1) := by decide +kernel
theorem dX5_readyIn_48 : decode cX5_readyIn 48 = .ok (.getfield 19, 3) := by decide +kernel
theorem dX5_readyIn_51 : decode cX5_readyIn 51 = .ok (.aload 4, 2) := by decide +kernel
theorem dX5_readyIn_53 : decode cX5_readyIn 53 = .ok (.getfield 54, 3) := by decide +kernel
theorem dX5_readyIn_56 : decode cX5_readyIn 56 = .ok (.aload 4, 2) := by decide +kernel
theorem dX5_readyIn_58 : decode cX5_readyIn 58 = .ok (.getfield 68, 3) := by decide +kernel
theorem dX5_readyIn_61 : decode cX5_readyIn 61 = .ok (.aload_n 0, 1) := by decide +kernel
theorem dX5_readyIn_62 : decode cX5_readyIn 62 = .ok (.getfield 27, 3) := by decide +kernel
theorem dX5_readyIn_65 : decode cX5_readyIn 65 = .ok (.getfield 57, 3) := by decide +kernel
theorem dX5_readyIn_68 : decode cX5_readyIn 68 = .ok (.invokevirtual 71, 3) := by decide +kernel
theorem dX5_readyIn_71 : decode cX5_readyIn 71 = .ok (.ifCond .eq 6, 3) := by decide +kernel
theorem dX5_readyIn_74 : decode cX5_readyIn 74 = .ok (.iinc 2 1, 3) := by decide +kernel
theorem dX5_readyIn_77 : decode cX5_readyIn 77 = .ok (.iinc 3 1, 3) := by decide +kernel
theorem dX5_readyIn_80 : decode cX5_readyIn 80 = .ok (.goto (-76), 3) := by decide +kernel
theorem dX5_readyIn_83 : decode cX5_readyIn 83 = .ok (.iload_n 2, 1) := by decide +kernel
theorem dX5_readyIn_84 : decode cX5_readyIn 84 = .ok (.ireturn, 1) := by decide +kernel
theorem dX5_foresee_0 : decode cX5_foresee 0 = .ok (.iconst 0, 1) := by decide +kernel
theorem dX5_foresee_1 : decode cX5_foresee 1 = .ok (.istore_n 1, 1) := by decide +kernel
theorem dX5_foresee_2 : decode cX5_foresee 2 = .ok (.iload_n 1, 1) := by decide +kernel
theorem dX5_foresee_3 : decode cX5_foresee 3 = .ok (.bipush 6, 2) := by decide +kernel
theorem dX5_foresee_5 : decode cX5_foresee 5 = .ok (.if_icmp .ge 32, 3) := by decide +kernel
theorem dX5_foresee_8 : decode cX5_foresee 8 = .ok (.iconst 0, 1) := by decide +kernel
theorem dX5_foresee_9 : decode cX5_foresee 9 = .ok (.istore_n 2, 1) := by decide +kernel
theorem dX5_foresee_10 : decode cX5_foresee 10 = .ok (.iload_n 2, 1) := by decide +kernel
theorem dX5_foresee_11 : decode cX5_foresee 11 = .ok (.bipush 12, 2) := by decide +kernel
theorem dX5_foresee_13 : decode cX5_foresee 13 = .ok (.if_icmp .gt 18, 3) := by decide +kernel
theorem dX5_foresee_16 : decode cX5_foresee 16 = .ok (.aload_n 0, 1) := by decide +kernel
theorem dX5_foresee_17 : decode cX5_foresee 17 = .ok (.getfield 13, 3) := by decide +kernel
theorem dX5_foresee_20 : decode cX5_foresee 20 = .ok (.iload_n 1, 1) := by decide +kernel
theorem dX5_foresee_21 : decode cX5_foresee 21 = .ok (.aaload, 1) := by decide +kernel
theorem dX5_foresee_22 : decode cX5_foresee 22 = .ok (.iload_n 2, 1) := by decide +kernel
theorem dX5_foresee_23 : decode cX5_foresee 23 = .ok (.iconst 0, 1) := by decide +kernel
theorem dX5_foresee_24 : decode cX5_foresee 24 = .ok (.iastore, 1) := by decide +kernel
theorem dX5_foresee_25 : decode cX5_foresee 25 = .ok (.iinc 2 1, 3) := by decide +kernel
theorem dX5_foresee_28 : decode cX5_foresee 28 = .ok (.goto (-18), 3) := by decide +kernel
theorem dX5_foresee_31 : decode cX5_foresee 31 = .ok (.iinc 1 1, 3) := by decide +kernel
theorem dX5_foresee_34 : decode cX5_foresee 34 = .ok (.goto (-32), 3) := by decide +kernel
theorem dX5_foresee_37 : decode cX5_foresee 37 = .ok (.iconst 0, 1) := by decide +kernel
theorem dX5_foresee_38 : decode cX5_foresee 38 = .ok (.istore_n 1, 1) := by decide +kernel
theorem dX5_foresee_39 : decode cX5_foresee 39 = .ok (.iload_n 1, 1) := by decide +kernel
theorem dX5_foresee_40 : decode cX5_foresee 40 = .ok (.aload_n 0, 1) := by decide +kernel
theorem dX5_foresee_41 : decode cX5_foresee 41 = .ok (.getfield 23, 3) := by decide +kernel
theorem dX5_foresee_44 : decode cX5_foresee 44 = .ok (.getfield 31, 3) := by decide +kernel
theorem dX5_foresee_47 : decode cX5_foresee 47 = .ok (.if_icmp .ge 90, 3) := by decide +kernel
theorem dX5_foresee_50 : decode cX5_foresee 50 = .ok (.aload_n 0, 1) := by decide +kernel
theorem dX5_foresee_51 : decode cX5_foresee 51 = .ok (.getfield 23, 3) := by decide +kernel
theorem dX5_foresee_54 : decode cX5_foresee 54 = .ok (.iload_n 1, 1) := by decide +kernel
theorem dX5_foresee_55 : decode cX5_foresee 55 = .ok (.invokevirtual 37, 3) := by decide +kernel
theorem dX5_foresee_58 : decode cX5_foresee 58 = .ok (.astore_n 2, 1) := by decide +kernel
theorem dX5_foresee_59 : decode cX5_foresee 59 = .ok (.iconst 0, 1) := by decide +kernel
theorem dX5_foresee_60 : decode cX5_foresee 60 = .ok (.istore_n 3, 1) := by decide +kernel
theorem dX5_foresee_61 : decode cX5_foresee 61 = .ok (.iload_n 3, 1) := by decide +kernel
theorem dX5_foresee_62 : decode cX5_foresee 62 = .ok (.bipush 12, 2) := by decide +kernel
theorem dX5_foresee_64 : decode cX5_foresee 64 = .ok (.if_icmp .gt 67, 3) := by decide +kernel
theorem dX5_foresee_67 : decode cX5_foresee 67 = .ok (.aload_n 2, 1) := by decide +kernel
theorem dX5_foresee_68 : decode cX5_foresee 68 = .ok (.invokevirtual 50, 3) := by decide +kernel
theorem dX5_foresee_71 : decode cX5_foresee 71 = .ok (.ifCond .eq 54, 3) := by decide +kernel
theorem dX5_foresee_74 : decode cX5_foresee 74 = .ok (.aload_n 2, 1) := by decide +kernel
theorem dX5_foresee_75 : decode cX5_foresee 75 = .ok (.getfield 47, 3) := by decide +kernel
theorem dX5_foresee_78 : decode cX5_foresee 78 = .ok (.invokestatic 75, 3) := by decide +kernel
theorem dX5_foresee_81 : decode cX5_foresee 81 = .ok (.ifCond .eq 44, 3) := by decide +kernel
theorem dX5_foresee_84 : decode cX5_foresee 84 = .ok (.aload_n 0, 1) := by decide +kernel
theorem dX5_foresee_85 : decode cX5_foresee 85 = .ok (.getfield 19, 3) := by decide +kernel
theorem dX5_foresee_88 : decode cX5_foresee 88 = .ok (.aload_n 2, 1) := by decide +kernel
theorem dX5_foresee_89 : decode cX5_foresee 89 = .ok (.getfield 54, 3) := by decide +kernel
theorem dX5_foresee_92 : decode cX5_foresee 92 = .ok (.aload_n 2, 1) := by decide +kernel
theorem dX5_foresee_93 : decode cX5_foresee 93 = .ok (.iload_n 3, 1) := by decide +kernel
theorem dX5_foresee_94 : decode cX5_foresee 94 = .ok (.invokevirtual 41, 3) := by decide +kernel
theorem dX5_foresee_97 : decode cX5_foresee 97 = .ok (.aload_n 0, 1) := by decide +kernel
theorem dX5_foresee_98 : decode cX5_foresee 98 = .ok (.getfield 27, 3) := by decide +kernel
theorem dX5_foresee_101 : decode cX5_foresee 101 = .ok (.getfield 57, 3) := by decide +kernel
theorem dX5_foresee_104 : decode cX5_foresee 104 = .ok (.invokevirtual 71, 3) := by decide +kernel
theorem dX5_foresee_107 : decode cX5_foresee 107 = .ok (.ifCond .eq 18, 3) := by decide +kernel
theorem dX5_foresee_110 : decode cX5_foresee 110 = .ok (.aload_n 0, 1) := by decide +kernel
theorem dX5_foresee_111 : decode cX5_foresee 111 = .ok (.getfield 13, 3) := by decide +kernel
theorem dX5_foresee_114 : decode cX5_foresee 114 = .ok (.aload_n 2, 1) := by decide +kernel
theorem dX5_foresee_115 : decode cX5_foresee 115 = .ok (.getfield 47, 3) := by decide +kernel
theorem dX5_foresee_118 : decode cX5_foresee 118 = .ok (.aaload, 1) := by decide +kernel
theorem dX5_foresee_119 : decode cX5_foresee 119 = .ok (.iload_n 3, 1) := by decide +kernel
theorem dX5_foresee_120 : decode cX5_foresee 120 = .ok (.dup2, 1) := by decide +kernel
theorem dX5_foresee_121 : decode cX5_foresee 121 = .ok (.iaload, 1) := by decide +kernel
theorem dX5_foresee_122 : decode cX5_foresee 122 = .ok (.iconst 1, 1) := by decide +kernel
theorem dX5_foresee_123 : decode cX5_foresee 123 = .ok (.iadd, 1) := by decide +kernel
theorem dX5_foresee_124 : decode cX5_foresee 124 = .ok (.iastore, 1) := by decide +kernel
theorem dX5_foresee_125 : decode cX5_foresee 125 = .ok (.iinc 3 1, 3) := by decide +kernel
theorem dX5_foresee_128 : decode cX5_foresee 128 = .ok (.goto (-67), 3) := by decide +kernel
theorem dX5_foresee_131 : decode cX5_foresee 131 = .ok (.iinc 1 1, 3) := by decide +kernel
theorem dX5_foresee_134 : decode cX5_foresee 134 = .ok (.goto (-95), 3) := by decide +kernel
theorem dX5_foresee_137 : decode cX5_foresee 137 = .ok (.return_, 1) := by decide +kernel
theorem dX5_foreseen_0 : decode cX5_foreseen 0 = .ok (.aload_n 0, 1) := by decide +kernel
theorem dX5_foreseen_1 : decode cX5_foreseen 1 = .ok (.getfield 13, 3) := by decide +kernel
theorem dX5_foreseen_4 : decode cX5_foreseen 4 = .ok (.iload_n 1, 1) := by decide +kernel
theorem dX5_foreseen_5 : decode cX5_foreseen 5 = .ok (.aaload, 1) := by decide +kernel
theorem dX5_foreseen_6 : decode cX5_foreseen 6 = .ok (.iload_n 2, 1) := by decide +kernel
theorem dX5_foreseen_7 : decode cX5_foreseen 7 = .ok (.iaload, 1) := by decide +kernel
theorem dX5_foreseen_8 : decode cX5_foreseen 8 = .ok (.ireturn, 1) := by decide +kernel
theorem dX5_share_0 : decode cX5_share 0 = .ok (.aload_n 0, 1) := by decide +kernel
theorem dX5_share_1 : decode cX5_share 1 = .ok (.invokevirtual 79, 3) := by decide +kernel
theorem dX5_share_4 : decode cX5_share 4 = .ok (.aload_n 0, 1) := by decide +kernel
theorem dX5_share_5 : decode cX5_share 5 = .ok (.iload_n 1, 1) := by decide +kernel
theorem dX5_share_6 : decode cX5_share 6 = .ok (.invokevirtual 82, 3) := by decide +kernel
theorem dX5_share_9 : decode cX5_share 9 = .ok (.iconst 0, 1) := by decide +kernel
theorem dX5_share_10 : decode cX5_share 10 = .ok (.istore_n 3, 1) := by decide +kernel
theorem dX5_share_11 : decode cX5_share 11 = .ok (.iconst 1, 1) := by decide +kernel
theorem dX5_share_12 : decode cX5_share 12 = .ok (.istore 4, 2) := by decide +kernel
theorem dX5_share_14 : decode cX5_share 14 = .ok (.iload 4, 2) := by decide +kernel
theorem dX5_share_16 : decode cX5_share 16 = .ok (.iload_n 1, 1) := by decide +kernel
theorem dX5_share_17 : decode cX5_share 17 = .ok (.if_icmp .gt 32, 3) := by decide +kernel
theorem dX5_share_20 : decode cX5_share 20 = .ok (.aload_n 0, 1) := by decide +kernel
theorem dX5_share_21 : decode cX5_share 21 = .ok (.getfield 16, 3) := by decide +kernel
theorem dX5_share_24 : decode cX5_share 24 = .ok (.iconst 0, 1) := by decide +kernel
theorem dX5_share_25 : decode cX5_share 25 = .ok (.aaload, 1) := by decide +kernel
theorem dX5_share_26 : decode cX5_share 26 = .ok (.iload 4, 2) := by decide +kernel
theorem dX5_share_28 : decode cX5_share 28 = .ok (.iaload, 1) := by decide +kernel
theorem dX5_share_29 : decode cX5_share 29 = .ok (.aload_n 0, 1) := by decide +kernel
theorem dX5_share_30 : decode cX5_share 30 = .ok (.getfield 16, 3) := by decide +kernel
theorem dX5_share_33 : decode cX5_share 33 = .ok (.iconst 0, 1) := by decide +kernel
theorem dX5_share_34 : decode cX5_share 34 = .ok (.aaload, 1) := by decide +kernel
theorem dX5_share_35 : decode cX5_share 35 = .ok (.iload_n 3, 1) := by decide +kernel
theorem dX5_share_36 : decode cX5_share 36 = .ok (.iaload, 1) := by decide +kernel
theorem dX5_share_37 : decode cX5_share 37 = .ok (.if_icmp .le 6, 3) := by decide +kernel
theorem dX5_share_40 : decode cX5_share 40 = .ok (.iload 4, 2) := by decide +kernel
theorem dX5_share_42 : decode cX5_share 42 = .ok (.istore_n 3, 1) := by decide +kernel
theorem dX5_share_43 : decode cX5_share 43 = .ok (.iinc 4 1, 3) := by decide +kernel
theorem dX5_share_46 : decode cX5_share 46 = .ok (.goto (-32), 3) := by decide +kernel
theorem dX5_share_49 : decode cX5_share 49 = .ok (.iload_n 2, 1) := by decide +kernel
theorem dX5_share_50 : decode cX5_share 50 = .ok (.iconst (-1), 1) := by decide +kernel
theorem dX5_share_51 : decode cX5_share 51 = .ok (.if_icmp .ne 14, 3) := by decide +kernel
theorem dX5_share_54 : decode cX5_share 54 = .ok (.aload_n 0, 1) := by decide +kernel
theorem dX5_share_55 : decode cX5_share 55 = .ok (.getfield 16, 3) := by decide +kernel
theorem dX5_share_58 : decode cX5_share 58 = .ok (.iconst 0, 1) := by decide +kernel
theorem dX5_share_59 : decode cX5_share 59 = .ok (.aaload, 1) := by decide +kernel
theorem dX5_share_60 : decode cX5_share 60 = .ok (.iload_n 3, 1) := by decide +kernel
theorem dX5_share_61 : decode cX5_share 61 = .ok (.iaload, 1) := by decide +kernel
theorem dX5_share_62 : decode cX5_share 62 = .ok (.goto 9, 3) := by decide +kernel
theorem dX5_share_65 : decode cX5_share 65 = .ok (.aload_n 0, 1) := by decide +kernel
theorem dX5_share_66 : decode cX5_share 66 = .ok (.iload_n 2, 1) := by decide +kernel
theorem dX5_share_67 : decode cX5_share 67 = .ok (.iload_n 3, 1) := by decide +kernel
theorem dX5_share_68 : decode cX5_share 68 = .ok (.invokevirtual 86, 3) := by decide +kernel
theorem dX5_share_71 : decode cX5_share 71 = .ok (.ireturn, 1) := by decide +kernel
theorem dX5_reckonMostFrom_0 : decode cX5_reckonMostFrom 0 = .ok (.iconst 0, 1) := by decide +kernel
theorem dX5_reckonMostFrom_1 : decode cX5_reckonMostFrom 1 = .ok (.istore_n 2, 1) := by decide +kernel
theorem dX5_reckonMostFrom_2 : decode cX5_reckonMostFrom 2 = .ok (.iload_n 2, 1) := by decide +kernel
theorem dX5_reckonMostFrom_3 : decode cX5_reckonMostFrom 3 = .ok (.iload_n 1, 1) := by decide +kernel
theorem dX5_reckonMostFrom_4 : decode cX5_reckonMostFrom 4 = .ok (.if_icmp .gt 25, 3) := by decide +kernel
theorem dX5_reckonMostFrom_7 : decode cX5_reckonMostFrom 7 = .ok (.aload_n 0, 1) := by decide +kernel
theorem dX5_reckonMostFrom_8 : decode cX5_reckonMostFrom 8 = .ok (.getfield 16, 3) := by decide +kernel
theorem dX5_reckonMostFrom_11 : decode cX5_reckonMostFrom 11 = .ok (.iconst 5, 1) := by decide +kernel
theorem dX5_reckonMostFrom_12 : decode cX5_reckonMostFrom 12 = .ok (.aaload, 1) := by decide +kernel
theorem dX5_reckonMostFrom_13 : decode cX5_reckonMostFrom 13 = .ok (.iload_n 2, 1) := by decide +kernel
theorem dX5_reckonMostFrom_14 : decode cX5_reckonMostFrom 14 = .ok (.aload_n 0, 1) := by decide +kernel
theorem dX5_reckonMostFrom_15 : decode cX5_reckonMostFrom 15 = .ok (.getfield 13, 3) := by decide +kernel
theorem dX5_reckonMostFrom_18 : decode cX5_reckonMostFrom 18 = .ok (.iconst 5, 1) := by decide +kernel
theorem dX5_reckonMostFrom_19 : decode cX5_reckonMostFrom 19 = .ok (.aaload, 1) := by decide +kernel
theorem dX5_reckonMostFrom_20 : decode cX5_reckonMostFrom 20 = .ok (.iload_n 2, 1) := by decide +kernel
theorem dX5_reckonMostFrom_21 : decode cX5_reckonMostFrom 21 = .ok (.iaload, 1) := by decide +kernel
theorem dX5_reckonMostFrom_22 : decode cX5_reckonMostFrom 22 = .ok (.iastore, 1) := by decide +kernel
theorem dX5_reckonMostFrom_23 : decode cX5_reckonMostFrom 23 = .ok (.iinc 2 1, 3) := by decide +kernel
theorem dX5_reckonMostFrom_26 : decode cX5_reckonMostFrom 26 = .ok (.goto (-24), 3) := by decide +kernel
theorem dX5_reckonMostFrom_29 : decode cX5_reckonMostFrom 29 = .ok (.iconst 4, 1) := by decide +kernel
theorem dX5_reckonMostFrom_30 : decode cX5_reckonMostFrom 30 = .ok (.istore_n 2, 1) := by decide +kernel
theorem dX5_reckonMostFrom_31 : decode cX5_reckonMostFrom 31 = .ok (.iload_n 2, 1) := by decide +kernel
theorem dX5_reckonMostFrom_32 : decode cX5_reckonMostFrom 32 = .ok (.ifCond .lt 73, 3) := by decide +kernel
theorem dX5_reckonMostFrom_35 : decode cX5_reckonMostFrom 35 = .ok (.iconst 0, 1) := by decide +kernel
theorem dX5_reckonMostFrom_36 : decode cX5_reckonMostFrom 36 = .ok (.istore_n 3, 1) := by decide +kernel
theorem dX5_reckonMostFrom_37 : decode cX5_reckonMostFrom 37 = .ok (.iload_n 3, 1) := by decide +kernel
theorem dX5_reckonMostFrom_38 : decode cX5_reckonMostFrom 38 = .ok (.iload_n 1, 1) := by decide +kernel
theorem dX5_reckonMostFrom_39 : decode cX5_reckonMostFrom 39 = .ok (.if_icmp .gt 60, 3) := by decide +kernel
theorem dX5_reckonMostFrom_42 : decode cX5_reckonMostFrom 42 = .ok (.aload_n 0, 1) := by decide +kernel
theorem dX5_reckonMostFrom_43 : decode cX5_reckonMostFrom 43 = .ok (.getfield 16, 3) := by decide +kernel
theorem dX5_reckonMostFrom_46 : decode cX5_reckonMostFrom 46 = .ok (.iload_n 2, 1) := by decide +kernel
theorem dX5_reckonMostFrom_47 : decode cX5_reckonMostFrom 47 = .ok (.aaload, 1) := by decide +kernel
theorem dX5_reckonMostFrom_48 : decode cX5_reckonMostFrom 48 = .ok (.iload_n 3, 1) := by decide +kernel
theorem dX5_reckonMostFrom_49 : decode cX5_reckonMostFrom 49 = .ok (.iconst 0, 1) := by decide +kernel
theorem dX5_reckonMostFrom_50 : decode cX5_reckonMostFrom 50 = .ok (.iastore, 1) := by decide +kernel
theorem dX5_reckonMostFrom_51 : decode cX5_reckonMostFrom 51 = .ok (.iconst 0, 1) := by decide +kernel
theorem dX5_reckonMostFrom_52 : decode cX5_reckonMostFrom 52 = .ok (.istore 4, 2) := by decide +kernel
theorem dX5_reckonMostFrom_54 : decode cX5_reckonMostFrom 54 = .ok (.iload 4, 2) := by decide +kernel
theorem dX5_reckonMostFrom_56 : decode cX5_reckonMostFrom 56 = .ok (.iload_n 3, 1) := by decide +kernel
theorem dX5_reckonMostFrom_57 : decode cX5_reckonMostFrom 57 = .ok (.if_icmp .gt 36, 3) := by decide +kernel
theorem dX5_reckonMostFrom_60 : decode cX5_reckonMostFrom 60 = .ok (.aload_n 0, 1) := by decide +kernel
theorem dX5_reckonMostFrom_61 : decode cX5_reckonMostFrom 61 = .ok (.getfield 16, 3) := by decide +kernel
theorem dX5_reckonMostFrom_64 : decode cX5_reckonMostFrom 64 = .ok (.iload_n 2, 1) := by decide +kernel
theorem dX5_reckonMostFrom_65 : decode cX5_reckonMostFrom 65 = .ok (.aaload, 1) := by decide +kernel
theorem dX5_reckonMostFrom_66 : decode cX5_reckonMostFrom 66 = .ok (.iload_n 3, 1) := by decide +kernel
theorem dX5_reckonMostFrom_67 : decode cX5_reckonMostFrom 67 = .ok (.aload_n 0, 1) := by decide +kernel
theorem dX5_reckonMostFrom_68 : decode cX5_reckonMostFrom 68 = .ok (.getfield 16, 3) := by decide +kernel
theorem dX5_reckonMostFrom_71 : decode cX5_reckonMostFrom 71 = .ok (.iload_n 2, 1) := by decide +kernel
theorem dX5_reckonMostFrom_72 : decode cX5_reckonMostFrom 72 = .ok (.aaload, 1) := by decide +kernel
theorem dX5_reckonMostFrom_73 : decode cX5_reckonMostFrom 73 = .ok (.iload_n 3, 1) := by decide +kernel
theorem dX5_reckonMostFrom_74 : decode cX5_reckonMostFrom 74 = .ok (.iaload, 1) := by decide +kernel
theorem dX5_reckonMostFrom_75 : decode cX5_reckonMostFrom 75 = .ok (.aload_n 0, 1) := by decide +kernel
theorem dX5_reckonMostFrom_76 : decode cX5_reckonMostFrom 76 = .ok (.iload_n 2, 1) := by decide +kernel
theorem dX5_reckonMostFrom_77 : decode cX5_reckonMostFrom 77 = .ok (.iload_n 3, 1) := by decide +kernel
theorem dX5_reckonMostFrom_78 : decode cX5_reckonMostFrom 78 = .ok (.iload 4, 2) := by decide +kernel
theorem dX5_reckonMostFrom_80 : decode cX5_reckonMostFrom 80 = .ok (.invokevirtual 90, 3) := by decide +kernel
theorem dX5_reckonMostFrom_83 : decode cX5_reckonMostFrom 83 = .ok (.invokestatic 94, 3) := by decide +kernel
theorem dX5_reckonMostFrom_86 : decode cX5_reckonMostFrom 86 = .ok (.iastore, 1) := by decide +kernel
theorem dX5_reckonMostFrom_87 : decode cX5_reckonMostFrom 87 = .ok (.iinc 4 1, 3) := by decide +kernel
theorem dX5_reckonMostFrom_90 : decode cX5_reckonMostFrom 90 = .ok (.goto (-36), 3) := by decide +kernel
theorem dX5_reckonMostFrom_93 : decode cX5_reckonMostFrom 93 = .ok (.iinc 3 1, 3) := by decide +kernel
theorem dX5_reckonMostFrom_96 : decode cX5_reckonMostFrom 96 = .ok (.goto (-59), 3) := by decide +kernel
theorem dX5_reckonMostFrom_99 : decode cX5_reckonMostFrom 99 = .ok (.iinc 2 (-1), 3) := by decide +kernel
theorem dX5_reckonMostFrom_102 : decode cX5_reckonMostFrom 102 = .ok (.goto (-71), 3) := by decide +kernel
theorem dX5_reckonMostFrom_105 : decode cX5_reckonMostFrom 105 = .ok (.return_, 1) := by decide +kernel
theorem dX5_with_0 : decode cX5_with 0 = .ok (.aload_n 0, 1) := by decide +kernel
theorem dX5_with_1 : decode cX5_with 1 = .ok (.getfield 13, 3) := by decide +kernel
theorem dX5_with_4 : decode cX5_with 4 = .ok (.iload_n 1, 1) := by decide +kernel
theorem dX5_with_5 : decode cX5_with 5 = .ok (.aaload, 1) := by decide +kernel
theorem dX5_with_6 : decode cX5_with 6 = .ok (.iload_n 3, 1) := by decide +kernel
theorem dX5_with_7 : decode cX5_with 7 = .ok (.iaload, 1) := by decide +kernel
theorem dX5_with_8 : decode cX5_with 8 = .ok (.aload_n 0, 1) := by decide +kernel
theorem dX5_with_9 : decode cX5_with 9 = .ok (.getfield 16, 3) := by decide +kernel
theorem dX5_with_12 : decode cX5_with 12 = .ok (.iload_n 1, 1) := by decide +kernel
theorem dX5_with_13 : decode cX5_with 13 = .ok (.iconst 1, 1) := by decide +kernel
theorem dX5_with_14 : decode cX5_with 14 = .ok (.iadd, 1) := by decide +kernel
theorem dX5_with_15 : decode cX5_with 15 = .ok (.aaload, 1) := by decide +kernel
theorem dX5_with_16 : decode cX5_with 16 = .ok (.iload_n 2, 1) := by decide +kernel
theorem dX5_with_17 : decode cX5_with 17 = .ok (.iload_n 3, 1) := by decide +kernel
theorem dX5_with_18 : decode cX5_with 18 = .ok (.isub, 1) := by decide +kernel
theorem dX5_with_19 : decode cX5_with 19 = .ok (.iaload, 1) := by decide +kernel
theorem dX5_with_20 : decode cX5_with 20 = .ok (.iadd, 1) := by decide +kernel
theorem dX5_with_21 : decode cX5_with 21 = .ok (.ireturn, 1) := by decide +kernel
theorem dX5_lessonsFor_0 : decode cX5_lessonsFor 0 = .ok (.iload_n 2, 1) := by decide +kernel
theorem dX5_lessonsFor_1 : decode cX5_lessonsFor 1 = .ok (.istore_n 3, 1) := by decide +kernel
theorem dX5_lessonsFor_2 : decode cX5_lessonsFor 2 = .ok (.iconst 0, 1) := by decide +kernel
theorem dX5_lessonsFor_3 : decode cX5_lessonsFor 3 = .ok (.istore 4, 2) := by decide +kernel
theorem dX5_lessonsFor_5 : decode cX5_lessonsFor 5 = .ok (.iload 4, 2) := by decide +kernel
theorem dX5_lessonsFor_7 : decode cX5_lessonsFor 7 = .ok (.iconst 5, 1) := by decide +kernel
theorem dX5_lessonsFor_8 : decode cX5_lessonsFor 8 = .ok (.if_icmp .ge 58, 3) := by decide +kernel
theorem dX5_lessonsFor_11 : decode cX5_lessonsFor 11 = .ok (.iload_n 3, 1) := by decide +kernel
theorem dX5_lessonsFor_12 : decode cX5_lessonsFor 12 = .ok (.istore 5, 2) := by decide +kernel
theorem dX5_lessonsFor_14 : decode cX5_lessonsFor 14 = .ok (.iload 5, 2) := by decide +kernel
theorem dX5_lessonsFor_16 : decode cX5_lessonsFor 16 = .ok (.ifCond .le 30, 3) := by decide +kernel
theorem dX5_lessonsFor_19 : decode cX5_lessonsFor 19 = .ok (.aload_n 0, 1) := by decide +kernel
theorem dX5_lessonsFor_20 : decode cX5_lessonsFor 20 = .ok (.iload 4, 2) := by decide +kernel
theorem dX5_lessonsFor_22 : decode cX5_lessonsFor 22 = .ok (.iload_n 3, 1) := by decide +kernel
theorem dX5_lessonsFor_23 : decode cX5_lessonsFor 23 = .ok (.iload 5, 2) := by decide +kernel
theorem dX5_lessonsFor_25 : decode cX5_lessonsFor 25 = .ok (.invokevirtual 90, 3) := by decide +kernel
theorem dX5_lessonsFor_28 : decode cX5_lessonsFor 28 = .ok (.aload_n 0, 1) := by decide +kernel
theorem dX5_lessonsFor_29 : decode cX5_lessonsFor 29 = .ok (.getfield 16, 3) := by decide +kernel
theorem dX5_lessonsFor_32 : decode cX5_lessonsFor 32 = .ok (.iload 4, 2) := by decide +kernel
theorem dX5_lessonsFor_34 : decode cX5_lessonsFor 34 = .ok (.aaload, 1) := by decide +kernel
theorem dX5_lessonsFor_35 : decode cX5_lessonsFor 35 = .ok (.iload_n 3, 1) := by decide +kernel
theorem dX5_lessonsFor_36 : decode cX5_lessonsFor 36 = .ok (.iaload, 1) := by decide +kernel
theorem dX5_lessonsFor_37 : decode cX5_lessonsFor 37 = .ok (.if_icmp .ge 9, 3) := by decide +kernel
theorem dX5_lessonsFor_40 : decode cX5_lessonsFor 40 = .ok (.iinc 5 (-1), 3) := by decide +kernel
theorem dX5_lessonsFor_43 : decode cX5_lessonsFor 43 = .ok (.goto (-29), 3) := by decide +kernel
theorem dX5_lessonsFor_46 : decode cX5_lessonsFor 46 = .ok (.iload 4, 2) := by decide +kernel
theorem dX5_lessonsFor_48 : decode cX5_lessonsFor 48 = .ok (.iload_n 1, 1) := by decide +kernel
theorem dX5_lessonsFor_49 : decode cX5_lessonsFor 49 = .ok (.if_icmp .ne 6, 3) := by decide +kernel
theorem dX5_lessonsFor_52 : decode cX5_lessonsFor 52 = .ok (.iload 5, 2) := by decide +kernel
theorem dX5_lessonsFor_54 : decode cX5_lessonsFor 54 = .ok (.ireturn, 1) := by decide +kernel
theorem dX5_lessonsFor_55 : decode cX5_lessonsFor 55 = .ok (.iload_n 3, 1) := by decide +kernel
theorem dX5_lessonsFor_56 : decode cX5_lessonsFor 56 = .ok (.iload 5, 2) := by decide +kernel
theorem dX5_lessonsFor_58 : decode cX5_lessonsFor 58 = .ok (.isub, 1) := by decide +kernel
theorem dX5_lessonsFor_59 : decode cX5_lessonsFor 59 = .ok (.istore_n 3, 1) := by decide +kernel
theorem dX5_lessonsFor_60 : decode cX5_lessonsFor 60 = .ok (.iinc 4 1, 3) := by decide +kernel
theorem dX5_lessonsFor_63 : decode cX5_lessonsFor 63 = .ok (.goto (-58), 3) := by decide +kernel
theorem dX5_lessonsFor_66 : decode cX5_lessonsFor 66 = .ok (.iload_n 3, 1) := by decide +kernel
theorem dX5_lessonsFor_67 : decode cX5_lessonsFor 67 = .ok (.ireturn, 1) := by decide +kernel
theorem dX6_init_0 : decode cX6_init 0 = .ok (.aload_n 0, 1) := by decide +kernel
theorem dX6_init_1 : decode cX6_init 1 = .ok (.invokespecial 3, 3) := by decide +kernel
theorem dX6_init_4 : decode cX6_init 4 = .ok (.aload_n 0, 1) := by decide +kernel
theorem dX6_init_5 : decode cX6_init 5 = .ok (.bipush 24, 2) := by decide +kernel
theorem dX6_init_7 : decode cX6_init 7 = .ok (.newarray .int, 2) := by decide +kernel
theorem dX6_init_9 : decode cX6_init 9 = .ok (.putfield 11, 3) := by decide +kernel
theorem dX6_init_12 : decode cX6_init 12 = .ok (.aload_n 0, 1) := by decide +kernel
theorem dX6_init_13 : decode cX6_init 13 = .ok (.bipush 24, 2) := by decide +kernel
theorem dX6_init_15 : decode cX6_init 15 = .ok (.newarray .int, 2) := by decide +kernel
theorem dX6_init_17 : decode cX6_init 17 = .ok (.putfield 15, 3) := by decide +kernel
theorem dX6_init_20 : decode cX6_init 20 = .ok (.aload_n 0, 1) := by decide +kernel
theorem dX6_init_21 : decode cX6_init 21 = .ok (.bipush 24, 2) := by decide +kernel
theorem dX6_init_23 : decode cX6_init 23 = .ok (.newarray .int, 2) := by decide +kernel
theorem dX6_init_25 : decode cX6_init 25 = .ok (.putfield 18, 3) := by decide +kernel
theorem dX6_init_28 : decode cX6_init 28 = .ok (.aload_n 0, 1) := by decide +kernel
theorem dX6_init_29 : decode cX6_init 29 = .ok (.bipush 24, 2) := by decide +kernel
theorem dX6_init_31 : decode cX6_init 31 = .ok (.newarray .int, 2) := by decide +kernel
theorem dX6_init_33 : decode cX6_init 33 = .ok (.putfield 21, 3) := by decide +kernel
theorem dX6_init_36 : decode cX6_init 36 = .ok (.aload_n 0, 1) := by decide +kernel
theorem dX6_init_37 : decode cX6_init 37 = .ok (.bipush 8, 2) := by decide +kernel
theorem dX6_init_39 : decode cX6_init 39 = .ok (.newarray .int, 2) := by decide +kernel
theorem dX6_init_41 : decode cX6_init 41 = .ok (.putfield 24, 3) := by decide +kernel
theorem dX6_init_44 : decode cX6_init 44 = .ok (.aload_n 0, 1) := by decide +kernel
theorem dX6_init_45 : decode cX6_init 45 = .ok (.iconst 1, 1) := by decide +kernel
theorem dX6_init_46 : decode cX6_init 46 = .ok (.putfield 27, 3) := by decide +kernel
theorem dX6_init_49 : decode cX6_init 49 = .ok (.aload_n 0, 1) := by decide +kernel
theorem dX6_init_50 : decode cX6_init 50 = .ok (.sipush 540, 3) := by decide +kernel
theorem dX6_init_53 : decode cX6_init 53 = .ok (.putfield 31, 3) := by decide +kernel
theorem dX6_init_56 : decode cX6_init 56 = .ok (.aload_n 0, 1) := by decide +kernel
theorem dX6_init_57 : decode cX6_init 57 = .ok (.sipush 1020, 3) := by decide +kernel
theorem dX6_init_60 : decode cX6_init 60 = .ok (.putfield 34, 3) := by decide +kernel
theorem dX6_init_63 : decode cX6_init 63 = .ok (.iconst 0, 1) := by decide +kernel
theorem dX6_init_64 : decode cX6_init 64 = .ok (.istore_n 1, 1) := by decide +kernel
theorem dX6_init_65 : decode cX6_init 65 = .ok (.iload_n 1, 1) := by decide +kernel
theorem dX6_init_66 : decode cX6_init 66 = .ok (.bipush 8, 2) := by decide +kernel
theorem dX6_init_68 : decode cX6_init 68 = .ok (.if_icmp .ge 17, 3) := by decide +kernel
theorem dX6_init_71 : decode cX6_init 71 = .ok (.aload_n 0, 1) := by decide +kernel
theorem dX6_init_72 : decode cX6_init 72 = .ok (.getfield 24, 3) := by decide +kernel
theorem dX6_init_75 : decode cX6_init 75 = .ok (.iload_n 1, 1) := by decide +kernel
theorem dX6_init_76 : decode cX6_init 76 = .ok (.bipush 20, 2) := by decide +kernel
theorem dX6_init_78 : decode cX6_init 78 = .ok (.iastore, 1) := by decide +kernel
theorem dX6_init_79 : decode cX6_init 79 = .ok (.iinc 1 1, 3) := by decide +kernel
theorem dX6_init_82 : decode cX6_init 82 = .ok (.goto (-17), 3) := by decide +kernel
theorem dX6_init_85 : decode cX6_init 85 = .ok (.return_, 1) := by decide +kernel
theorem dX6_setMinutes_0 : decode cX6_setMinutes 0 = .ok (.aload_n 0, 1) := by decide +kernel
theorem dX6_setMinutes_1 : decode cX6_setMinutes 1 = .ok (.getfield 24, 3) := by decide +kernel
theorem dX6_setMinutes_4 : decode cX6_setMinutes 4 = .ok (.iconst 2, 1) := by decide +kernel
theorem dX6_setMinutes_5 : decode cX6_setMinutes 5 = .ok (.iload_n 1, 1) := by decide +kernel
theorem dX6_setMinutes_6 : decode cX6_setMinutes 6 = .ok (.imul, 1) := by decide +kernel
theorem dX6_setMinutes_7 : decode cX6_setMinutes 7 = .ok (.iload_n 2, 1) := by decide +kernel
theorem dX6_setMinutes_8 : decode cX6_setMinutes 8 = .ok (.iadd, 1) := by decide +kernel
theorem dX6_setMinutes_9 : decode cX6_setMinutes 9 = .ok (.iaload, 1) := by decide +kernel
theorem dX6_setMinutes_10 : decode cX6_setMinutes 10 = .ok (.istore 4, 2) := by decide +kernel
theorem dX6_setMinutes_12 : decode cX6_setMinutes 12 = .ok (.aload_n 0, 1) := by decide +kernel
theorem dX6_setMinutes_13 : decode cX6_setMinutes 13 = .ok (.getfield 24, 3) := by decide +kernel
theorem dX6_setMinutes_16 : decode cX6_setMinutes 16 = .ok (.iconst 2, 1) := by decide +kernel
theorem dX6_setMinutes_17 : decode cX6_setMinutes 17 = .ok (.iload_n 1, 1) := by decide +kernel
theorem dX6_setMinutes_18 : decode cX6_setMinutes 18 = .ok (.imul, 1) := by decide +kernel
theorem dX6_setMinutes_19 : decode cX6_setMinutes 19 = .ok (.iload_n 2, 1) := by decide +kernel
theorem dX6_setMinutes_20 : decode cX6_setMinutes 20 = .ok (.iadd, 1) := by decide +kernel
theorem dX6_setMinutes_21 : decode cX6_setMinutes 21 = .ok (.iload_n 3, 1) := by decide +kernel
theorem dX6_setMinutes_22 : decode cX6_setMinutes 22 = .ok (.iastore, 1) := by decide +kernel
theorem dX6_setMinutes_23 : decode cX6_setMinutes 23 = .ok (.iload 4, 2) := by decide +kernel
theorem dX6_setMinutes_25 : decode cX6_setMinutes 25 = .ok (.ireturn, 1) := by decide +kernel
theorem dX6_setHours_0 : decode cX6_setHours 0 = .ok (.aload_n 0, 1) := by decide +kernel
theorem dX6_setHours_1 : decode cX6_setHours 1 = .ok (.iload_n 1, 1) := by decide +kernel
theorem dX6_setHours_2 : decode cX6_setHours 2 = .ok (.putfield 27, 3) := by decide +kernel
theorem dX6_setHours_5 : decode cX6_setHours 5 = .ok (.aload_n 0, 1) := by decide +kernel
theorem dX6_setHours_6 : decode cX6_setHours 6 = .ok (.iload_n 2, 1) := by decide +kernel
theorem dX6_setHours_7 : decode cX6_setHours 7 = .ok (.putfield 31, 3) := by decide +kernel
theorem dX6_setHours_10 : decode cX6_setHours 10 = .ok (.aload_n 0, 1) := by decide +kernel
theorem dX6_setHours_11 : decode cX6_setHours 11 = .ok (.iload_n 3, 1) := by decide +kernel
theorem dX6_setHours_12 : decode cX6_setHours 12 = .ok (.putfield 34, 3) := by decide +kernel
theorem dX6_setHours_15 : decode cX6_setHours 15 = .ok (.return_, 1) := by decide +kernel
theorem dX6_isFull_0 : decode cX6_isFull 0 = .ok (.aload_n 0, 1) := by decide +kernel
theorem dX6_isFull_1 : decode cX6_isFull 1 = .ok (.getfield 37, 3) := by decide +kernel
theorem dX6_isFull_4 : decode cX6_isFull 4 = .ok (.bipush 24, 2) := by decide +kernel
theorem dX6_isFull_6 : decode cX6_isFull 6 = .ok (.if_icmp .lt 7, 3) := by decide +kernel
theorem dX6_isFull_9 : decode cX6_isFull 9 = .ok (.iconst 1, 1) := by decide +kernel
theorem dX6_isFull_10 : decode cX6_isFull 10 = .ok (.goto 4, 3) := by decide +kernel
theorem dX6_isFull_13 : decode cX6_isFull 13 = .ok (.iconst 0, 1) := by decide +kernel
theorem dX6_isFull_14 : decode cX6_isFull 14 = .ok (.ireturn, 1) := by decide +kernel
theorem dX6_placeOf_0 : decode cX6_placeOf 0 = .ok (.iconst 0, 1) := by decide +kernel
theorem dX6_placeOf_1 : decode cX6_placeOf 1 = .ok (.istore_n 2, 1) := by decide +kernel
theorem dX6_placeOf_2 : decode cX6_placeOf 2 = .ok (.iload_n 2, 1) := by decide +kernel
theorem dX6_placeOf_3 : decode cX6_placeOf 3 = .ok (.aload_n 0, 1) := by decide +kernel
theorem dX6_placeOf_4 : decode cX6_placeOf 4 = .ok (.getfield 37, 3) := by decide +kernel
theorem dX6_placeOf_7 : decode cX6_placeOf 7 = .ok (.if_icmp .ge 21, 3) := by decide +kernel
theorem dX6_placeOf_10 : decode cX6_placeOf 10 = .ok (.aload_n 0, 1) := by decide +kernel
theorem dX6_placeOf_11 : decode cX6_placeOf 11 = .ok (.getfield 11, 3) := by decide +kernel
theorem dX6_placeOf_14 : decode cX6_placeOf 14 = .ok (.iload_n 2, 1) := by decide +kernel
theorem dX6_placeOf_15 : decode cX6_placeOf 15 = .ok (.iaload, 1) := by decide +kernel
theorem dX6_placeOf_16 : decode cX6_placeOf 16 = .ok (.iload_n 1, 1) := by decide +kernel
theorem dX6_placeOf_17 : decode cX6_placeOf 17 = .ok (.if_icmp .ne 5, 3) := by decide +kernel
theorem dX6_placeOf_20 : decode cX6_placeOf 20 = .ok (.iload_n 2, 1) := by decide +kernel
theorem dX6_placeOf_21 : decode cX6_placeOf 21 = .ok (.ireturn, 1) := by decide +kernel
theorem dX6_placeOf_22 : decode cX6_placeOf 22 = .ok (.iinc 2 1, 3) := by decide +kernel
theorem dX6_placeOf_25 : decode cX6_placeOf 25 = .ok (.goto (-23), 3) := by decide +kernel
theorem dX6_placeOf_28 : decode cX6_placeOf 28 = .ok (.iconst (-1), 1) := by decide +kernel
theorem dX6_placeOf_29 : decode cX6_placeOf 29 = .ok (.ireturn, 1) := by decide +kernel
theorem dX6_join_0 : decode cX6_join 0 = .ok (.aload_n 0, 1) := by decide +kernel
theorem dX6_join_1 : decode cX6_join 1 = .ok (.getfield 37, 3) := by decide +kernel
theorem dX6_join_4 : decode cX6_join 4 = .ok (.istore 4, 2) := by decide +kernel
theorem dX6_join_6 : decode cX6_join 6 = .ok (.iload 4, 2) := by decide +kernel
theorem dX6_join_8 : decode cX6_join 8 = .ok (.ifCond .le 70, 3) := by decide +kernel
theorem dX6_join_11 : decode cX6_join 11 = .ok (.aload_n 0, 1) := by decide +kernel
theorem dX6_join_12 : decode cX6_join 12 = .ok (.getfield 18, 3) := by decide +kernel
theorem dX6_join_15 : decode cX6_join 15 = .ok (.iload 4, 2) := by decide +kernel
theorem dX6_join_17 : decode cX6_join 17 = .ok (.iconst 1, 1) := by decide +kernel
theorem dX6_join_18 : decode cX6_join 18 = .ok (.isub, 1) := by decide +kernel
theorem dX6_join_19 : decode cX6_join 19 = .ok (.iaload, 1) := by decide +kernel
theorem dX6_join_20 : decode cX6_join 20 = .ok (.iload_n 3, 1) := by decide +kernel
theorem dX6_join_21 : decode cX6_join 21 = .ok (.if_icmp .le 57, 3) := by decide +kernel
theorem dX6_join_24 : decode cX6_join 24 = .ok (.aload_n 0, 1) := by decide +kernel
theorem dX6_join_25 : decode cX6_join 25 = .ok (.getfield 11, 3) := by decide +kernel
theorem dX6_join_28 : decode cX6_join 28 = .ok (.iload 4, 2) := by decide +kernel
theorem dX6_join_30 : decode cX6_join 30 = .ok (.aload_n 0, 1) := by decide +kernel
theorem dX6_join_31 : decode cX6_join 31 = .ok (.getfield 11, 3) := by decide +kernel
theorem dX6_join_34 : decode cX6_join 34 = .ok (.iload 4, 2) := by decide +kernel
theorem dX6_join_36 : decode cX6_join 36 = .ok (.iconst 1, 1) := by decide +kernel
theorem dX6_join_37 : decode cX6_join 37 = .ok (.isub, 1) := by decide +kernel
theorem dX6_join_38 : decode cX6_join 38 = .ok (.iaload, 1) := by decide +kernel
theorem dX6_join_39 : decode cX6_join 39 = .ok (.iastore, 1) := by decide +kernel
theorem dX6_join_40 : decode cX6_join 40 = .ok (.aload_n 0, 1) := by decide +kernel
theorem dX6_join_41 : decode cX6_join 41 = .ok (.getfield 15, 3) := by decide +kernel
theorem dX6_join_44 : decode cX6_join 44 = .ok (.iload 4, 2) := by decide +kernel
theorem dX6_join_46 : decode cX6_join 46 = .ok (.aload_n 0, 1) := by decide +kernel
theorem dX6_join_47 : decode cX6_join 47 = .ok (.getfield 15, 3) := by decide +kernel
theorem dX6_join_50 : decode cX6_join 50 = .ok (.iload 4, 2) := by decide +kernel
theorem dX6_join_52 : decode cX6_join 52 = .ok (.iconst 1, 1) := by decide +kernel
theorem dX6_join_53 : decode cX6_join 53 = .ok (.isub, 1) := by decide +kernel
theorem dX6_join_54 : decode cX6_join 54 = .ok (.iaload, 1) := by decide +kernel
theorem dX6_join_55 : decode cX6_join 55 = .ok (.iastore, 1) := by decide +kernel
theorem dX6_join_56 : decode cX6_join 56 = .ok (.aload_n 0, 1) := by decide +kernel
theorem dX6_join_57 : decode cX6_join 57 = .ok (.getfield 18, 3) := by decide +kernel
theorem dX6_join_60 : decode cX6_join 60 = .ok (.iload 4, 2) := by decide +kernel
theorem dX6_join_62 : decode cX6_join 62 = .ok (.aload_n 0, 1) := by decide +kernel
theorem dX6_join_63 : decode cX6_join 63 = .ok (.getfield 18, 3) := by decide +kernel
theorem dX6_join_66 : decode cX6_join 66 = .ok (.iload 4, 2) := by decide +kernel
theorem dX6_join_68 : decode cX6_join 68 = .ok (.iconst 1, 1) := by decide +kernel
theorem dX6_join_69 : decode cX6_join 69 = .ok (.isub, 1) := by decide +kernel
theorem dX6_join_70 : decode cX6_join 70 = .ok (.iaload, 1) := by decide +kernel
theorem dX6_join_71 : decode cX6_join 71 = .ok (.iastore, 1) := by decide +kernel
theorem dX6_join_72 : decode cX6_join 72 = .ok (.iinc 4 (-1), 3) := by decide +kernel
theorem dX6_join_75 : decode cX6_join 75 = .ok (.goto (-69), 3) := by decide +kernel
theorem dX6_join_78 : decode cX6_join 78 = .ok (.aload_n 0, 1) := by decide +kernel
theorem dX6_join_79 : decode cX6_join 79 = .ok (.getfield 11, 3) := by decide +kernel
theorem dX6_join_82 : decode cX6_join 82 = .ok (.iload 4, 2) := by decide +kernel
theorem dX6_join_84 : decode cX6_join 84 = .ok (.iload_n 1, 1) := by decide +kernel
theorem dX6_join_85 : decode cX6_join 85 = .ok (.iastore, 1) := by decide +kernel
theorem dX6_join_86 : decode cX6_join 86 = .ok (.aload_n 0, 1) := by decide +kernel
theorem dX6_join_87 : decode cX6_join 87 = .ok (.getfield 15, 3) := by decide +kernel
theorem dX6_join_90 : decode cX6_join 90 = .ok (.iload 4, 2) := by decide +kernel
theorem dX6_join_92 : decode cX6_join 92 = .ok (.iload_n 2, 1) := by decide +kernel
theorem dX6_join_93 : decode cX6_join 93 = .ok (.iastore, 1) := by decide +kernel
theorem dX6_join_94 : decode cX6_join 94 = .ok (.aload_n 0, 1) := by decide +kernel
theorem dX6_join_95 : decode cX6_join 95 = .ok (.getfield 18, 3) := by decide +kernel
theorem dX6_join_98 : decode cX6_join 98 = .ok (.iload 4, 2) := by decide +kernel
theorem dX6_join_100 : decode cX6_join 100 = .ok (.iload_n 3, 1) := by decide +kernel
theorem dX6_join_101 : decode cX6_join 101 = .ok (.iastore, 1) := by decide +kernel
theorem dX6_join_102 : decode cX6_join 102 = .ok (.aload_n 0, 1) := by decide +kernel
theorem dX6_join_103 : decode cX6_join 103 = .ok (.dup, 1) := by decide +kernel
theorem dX6_join_104 : decode cX6_join 104 = .ok (.getfield 37, 3) := by decide +kernel
theorem dX6_join_107 : decode cX6_join 107 = .ok (.iconst 1, 1) := by decide +kernel
theorem dX6_join_108 : decode cX6_join 108 = .ok (.iadd, 1) := by decide +kernel
theorem dX6_join_109 : decode cX6_join 109 = .ok (.putfield 37, 3) := by decide +kernel
theorem dX6_join_112 : decode cX6_join 112 = .ok (.aload_n 0, 1) := by decide +kernel
theorem dX6_join_113 : decode cX6_join 113 = .ok (.getfield 37, 3) := by decide +kernel
theorem dX6_join_116 : decode cX6_join 116 = .ok (.ireturn, 1) := by decide +kernel
theorem dX6_empty_0 : decode cX6_empty 0 = .ok (.aload_n 0, 1) := by decide +kernel
theorem dX6_empty_1 : decode cX6_empty 1 = .ok (.getfield 37, 3) := by decide +kernel
theorem dX6_empty_4 : decode cX6_empty 4 = .ok (.istore_n 1, 1) := by decide +kernel
theorem dX6_empty_5 : decode cX6_empty 5 = .ok (.aload_n 0, 1) := by decide +kernel
theorem dX6_empty_6 : decode cX6_empty 6 = .ok (.iconst 0, 1) := by decide +kernel
theorem dX6_empty_7 : decode cX6_empty 7 = .ok (.putfield 37, 3) := by decide +kernel
theorem dX6_empty_10 : decode cX6_empty 10 = .ok (.iload_n 1, 1) := by decide +kernel
theorem dX6_empty_11 : decode cX6_empty 11 = .ok (.ireturn, 1) := by decide +kernel
theorem dX6_serve_0 : decode cX6_serve 0 = .ok (.aload_n 0, 1) := by decide +kernel
theorem dX6_serve_1 : decode cX6_serve 1 = .ok (.getfield 27, 3) := by decide +kernel
theorem dX6_serve_4 : decode cX6_serve 4 = .ok (.iload_n 2, 1) := by decide +kernel
theorem dX6_serve_5 : decode cX6_serve 5 = .ok (.bipush 7, 2) := by decide +kernel
theorem dX6_serve_7 : decode cX6_serve 7 = .ok (.irem, 1) := by decide +kernel
theorem dX6_serve_8 : decode cX6_serve 8 = .ok (.ishr, 1) := by decide +kernel
theorem dX6_serve_9 : decode cX6_serve 9 = .ok (.iconst 1, 1) := by decide +kernel
theorem dX6_serve_10 : decode cX6_serve 10 = .ok (.iand, 1) := by decide +kernel
theorem dX6_serve_11 : decode cX6_serve 11 = .ok (.ifCond .ne 5, 3) := by decide +kernel
theorem dX6_serve_14 : decode cX6_serve 14 = .ok (.iconst 0, 1) := by decide +kernel
theorem dX6_serve_15 : decode cX6_serve 15 = .ok (.ireturn, 1) := by decide +kernel
theorem dX6_serve_16 : decode cX6_serve 16 = .ok (.aload_n 0, 1) := by decide +kernel
theorem dX6_serve_17 : decode cX6_serve 17 = .ok (.getfield 31, 3) := by decide +kernel
theorem dX6_serve_20 : decode cX6_serve 20 = .ok (.istore_n 3, 1) := by decide +kernel
theorem dX6_serve_21 : decode cX6_serve 21 = .ok (.iconst 0, 1) := by decide +kernel
theorem dX6_serve_22 : decode cX6_serve 22 = .ok (.istore 4, 2) := by decide +kernel
theorem dX6_serve_24 : decode cX6_serve 24 = .ok (.iload 4, 2) := by decide +kernel
theorem dX6_serve_26 : decode cX6_serve 26 = .ok (.aload_n 0, 1) := by decide +kernel
theorem dX6_serve_27 : decode cX6_serve 27 = .ok (.getfield 37, 3) := by decide +kernel
theorem dX6_serve_30 : decode cX6_serve 30 = .ok (.if_icmp .ge 63, 3) := by decide +kernel
theorem dX6_serve_33 : decode cX6_serve 33 = .ok (.aload_n 0, 1) := by decide +kernel
theorem dX6_serve_34 : decode cX6_serve 34 = .ok (.getfield 21, 3) := by decide +kernel
theorem dX6_serve_37 : decode cX6_serve 37 = .ok (.iload 4, 2) := by decide +kernel
theorem dX6_serve_39 : decode cX6_serve 39 = .ok (.iload_n 3, 1) := by decide +kernel
theorem dX6_serve_40 : decode cX6_serve 40 = .ok (.aload_n 0, 1) := by decide +kernel
theorem dX6_serve_41 : decode cX6_serve 41 = .ok (.getfield 18, 3) := by decide +kernel
theorem dX6_serve_44 : decode cX6_serve 44 = .ok (.iload 4, 2) := by decide +kernel
theorem dX6_serve_46 : decode cX6_serve 46 = .ok (.iaload, 1) := by decide +kernel
theorem dX6_serve_47 : decode cX6_serve 47 = .ok (.invokestatic 40, 3) := by decide +kernel
theorem dX6_serve_50 : decode cX6_serve 50 = .ok (.iastore, 1) := by decide +kernel
theorem dX6_serve_51 : decode cX6_serve 51 = .ok (.aload_n 0, 1) := by decide +kernel
theorem dX6_serve_52 : decode cX6_serve 52 = .ok (.getfield 21, 3) := by decide +kernel
theorem dX6_serve_55 : decode cX6_serve 55 = .ok (.iload 4, 2) := by decide +kernel
theorem dX6_serve_57 : decode cX6_serve 57 = .ok (.iaload, 1) := by decide +kernel
theorem dX6_serve_58 : decode cX6_serve 58 = .ok (.aload_n 0, 1) := by decide +kernel
theorem dX6_serve_59 : decode cX6_serve 59 = .ok (.getfield 24, 3) := by decide +kernel
theorem dX6_serve_62 : decode cX6_serve 62 = .ok (.iconst 2, 1) := by decide +kernel
theorem dX6_serve_63 : decode cX6_serve 63 = .ok (.iload_n 1, 1) := by decide +kernel
theorem dX6_serve_64 : decode cX6_serve 64 = .ok (.imul, 1) := by decide +kernel
theorem dX6_serve_65 : decode cX6_serve 65 = .ok (.aload_n 0, 1) := by decide +kernel
theorem dX6_serve_66 : decode cX6_serve 66 = .ok (.getfield 15, 3) := by decide +kernel
theorem dX6_serve_69 : decode cX6_serve 69 = .ok (.iload 4, 2) := by decide +kernel
theorem dX6_serve_71 : decode cX6_serve 71 = .ok (.iaload, 1) := by decide +kernel
theorem dX6_serve_72 : decode cX6_serve 72 = .ok (.iadd, 1) := by decide +kernel
theorem dX6_serve_73 : decode cX6_serve 73 = .ok (.iaload, 1) := by decide +kernel
theorem dX6_serve_74 : decode cX6_serve 74 = .ok (.iadd, 1) := by decide +kernel
theorem dX6_serve_75 : decode cX6_serve 75 = .ok (.istore_n 3, 1) := by decide +kernel
theorem dX6_serve_76 : decode cX6_serve 76 = .ok (.iload_n 3, 1) := by decide +kernel
theorem dX6_serve_77 : decode cX6_serve 77 = .ok (.aload_n 0, 1) := by decide +kernel
theorem dX6_serve_78 : decode cX6_serve 78 = .ok (.getfield 34, 3) := by decide +kernel
theorem dX6_serve_81 : decode cX6_serve 81 = .ok (.if_icmp .le 6, 3) := by decide +kernel
theorem dX6_serve_84 : decode cX6_serve 84 = .ok (.iload 4, 2) := by decide +kernel
theorem dX6_serve_86 : decode cX6_serve 86 = .ok (.ireturn, 1) := by decide +kernel
theorem dX6_serve_87 : decode cX6_serve 87 = .ok (.iinc 4 1, 3) := by decide +kernel
theorem dX6_serve_90 : decode cX6_serve 90 = .ok (.goto (-66), 3) := by decide +kernel
theorem dX6_serve_93 : decode cX6_serve 93 = .ok (.aload_n 0, 1) := by decide +kernel
theorem dX6_serve_94 : decode cX6_serve 94 = .ok (.getfield 37, 3) := by decide +kernel
theorem dX6_serve_97 : decode cX6_serve 97 = .ok (.ireturn, 1) := by decide +kernel
theorem dX6_beginOf_0 : decode cX6_beginOf 0 = .ok (.aload_n 0, 1) := by decide +kernel
theorem dX6_beginOf_1 : decode cX6_beginOf 1 = .ok (.iload_n 3, 1) := by decide +kernel
theorem dX6_beginOf_2 : decode cX6_beginOf 2 = .ok (.invokevirtual 46, 3) := by decide +kernel
theorem dX6_beginOf_5 : decode cX6_beginOf 5 = .ok (.istore 4, 2) := by decide +kernel
theorem dX6_beginOf_7 : decode cX6_beginOf 7 = .ok (.aload_n 0, 1) := by decide +kernel
theorem dX6_beginOf_8 : decode cX6_beginOf 8 = .ok (.iload_n 1, 1) := by decide +kernel
theorem dX6_beginOf_9 : decode cX6_beginOf 9 = .ok (.iload_n 2, 1) := by decide +kernel
theorem dX6_beginOf_10 : decode cX6_beginOf 10 = .ok (.invokevirtual 50, 3) := by decide +kernel
theorem dX6_beginOf_13 : decode cX6_beginOf 13 = .ok (.istore 5, 2) := by decide +kernel
theorem dX6_beginOf_15 : decode cX6_beginOf 15 = .ok (.iload 4, 2) := by decide +kernel
theorem dX6_beginOf_17 : decode cX6_beginOf 17 = .ok (.ifCond .lt 20, 3) := by decide +kernel
theorem dX6_beginOf_20 : decode cX6_beginOf 20 = .ok (.iload 4, 2) := by decide +kernel
theorem dX6_beginOf_22 : decode cX6_beginOf 22 = .ok (.iload 5, 2) := by decide +kernel
theorem dX6_beginOf_24 : decode cX6_beginOf 24 = .ok (.if_icmp .ge 13, 3) := by decide +kernel
theorem dX6_beginOf_27 : decode cX6_beginOf 27 = .ok (.aload_n 0, 1) := by decide +kernel
theorem dX6_beginOf_28 : decode cX6_beginOf 28 = .ok (.getfield 21, 3) := by decide +kernel
theorem dX6_beginOf_31 : decode cX6_beginOf 31 = .ok (.iload 4, 2) := by decide +kernel
theorem dX6_beginOf_33 : decode cX6_beginOf 33 = .ok (.iaload, 1) := by decide +kernel
theorem dX6_beginOf_34 : decode cX6_beginOf 34 = .ok (.goto 4, 3) := by decide +kernel
theorem dX6_beginOf_37 : decode cX6_beginOf 37 = .ok (.iconst (-1), 1) := by decide +kernel
theorem dX6_beginOf_38 : decode cX6_beginOf 38 = .ok (.ireturn, 1) := by decide +kernel
theorem dX7_init_0 : decode cX7_init 0 = .ok (.aload_n 0, 1) := by decide +kernel
theorem dX7_init_1 : decode cX7_init 1 = .ok (.invokespecial 3, 3) := by decide +kernel
theorem dX7_init_4 : decode cX7_init 4 = .ok (.aload_n 0, 1) := by decide +kernel
theorem dX7_init_5 : decode cX7_init 5 = .ok (.bipush 30, 2) := by decide +kernel
theorem dX7_init_7 : decode cX7_init 7 = .ok (.newarray .int, 2) := by decide +kernel
theorem dX7_init_9 : decode cX7_init 9 = .ok (.putfield 11, 3) := by decide +kernel
theorem dX7_init_12 : decode cX7_init 12 = .ok (.aload_n 0, 1) := by decide +kernel
theorem dX7_init_13 : decode cX7_init 13 = .ok (.bipush 30, 2) := by decide +kernel
theorem dX7_init_15 : decode cX7_init 15 = .ok (.newarray .int, 2) := by decide +kernel
theorem dX7_init_17 : decode cX7_init 17 = .ok (.putfield 15, 3) := by decide +kernel
theorem dX7_init_20 : decode cX7_init 20 = .ok (.aload_n 0, 1) := by decide +kernel
theorem dX7_init_21 : decode cX7_init 21 = .ok (.bipush 30, 2) := by decide +kernel
theorem dX7_init_23 : decode cX7_init 23 = .ok (.newarray .int, 2) := by decide +kernel
theorem dX7_init_25 : decode cX7_init 25 = .ok (.putfield 18, 3) := by decide +kernel
theorem dX7_init_28 : decode cX7_init 28 = .ok (.aload_n 0, 1) := by decide +kernel
theorem dX7_init_29 : decode cX7_init 29 = .ok (.bipush 30, 2) := by decide +kernel
theorem dX7_init_31 : decode cX7_init 31 = .ok (.newarray .int, 2) := by decide +kernel
theorem dX7_init_33 : decode cX7_init 33 = .ok (.putfield 21, 3) := by decide +kernel
theorem dX7_init_36 : decode cX7_init 36 = .ok (.aload_n 0, 1) := by decide +kernel
theorem dX7_init_37 : decode cX7_init 37 = .ok (.bipush 6, 2) := by decide +kernel
theorem dX7_init_39 : decode cX7_init 39 = .ok (.newarray .int, 2) := by decide +kernel
theorem dX7_init_41 : decode cX7_init 41 = .ok (.putfield 24, 3) := by decide +kernel
theorem dX7_init_44 : decode cX7_init 44 = .ok (.aload_n 0, 1) := by decide +kernel
theorem dX7_init_45 : decode cX7_init 45 = .ok (.aload_n 1, 1) := by decide +kernel
theorem dX7_init_46 : decode cX7_init 46 = .ok (.putfield 27, 3) := by decide +kernel
theorem dX7_init_49 : decode cX7_init 49 = .ok (.aload_n 0, 1) := by decide +kernel
theorem dX7_init_50 : decode cX7_init 50 = .ok (.aload_n 2, 1) := by decide +kernel
theorem dX7_init_51 : decode cX7_init 51 = .ok (.putfield 31, 3) := by decide +kernel
theorem dX7_init_54 : decode cX7_init 54 = .ok (.return_, 1) := by decide +kernel
theorem dX7_holds_0 : decode cX7_holds 0 = .ok (.iload_n 1, 1) := by decide +kernel
theorem dX7_holds_1 : decode cX7_holds 1 = .ok (.ifCond .lt 15, 3) := by decide +kernel
theorem dX7_holds_4 : decode cX7_holds 4 = .ok (.iload_n 1, 1) := by decide +kernel
theorem dX7_holds_5 : decode cX7_holds 5 = .ok (.aload_n 0, 1) := by decide +kernel
theorem dX7_holds_6 : decode cX7_holds 6 = .ok (.getfield 35, 3) := by decide +kernel
theorem dX7_holds_9 : decode cX7_holds 9 = .ok (.if_icmp .ge 7, 3) := by decide +kernel
theorem dX7_holds_12 : decode cX7_holds 12 = .ok (.iconst 1, 1) := by decide +kernel
theorem dX7_holds_13 : decode cX7_holds 13 = .ok (.goto 4, 3) := by decide +kernel
theorem dX7_holds_16 : decode cX7_holds 16 = .ok (.iconst 0, 1) := by decide +kernel
theorem dX7_holds_17 : decode cX7_holds 17 = .ok (.ireturn, 1) := by decide +kernel
theorem dX7_isFull_0 : decode cX7_isFull 0 = .ok (.aload_n 0, 1) := by decide +kernel
theorem dX7_isFull_1 : decode cX7_isFull 1 = .ok (.getfield 35, 3) := by decide +kernel
theorem dX7_isFull_4 : decode cX7_isFull 4 = .ok (.bipush 30, 2) := by decide +kernel
theorem dX7_isFull_6 : decode cX7_isFull 6 = .ok (.if_icmp .lt 7, 3) := by decide +kernel
theorem dX7_isFull_9 : decode cX7_isFull 9 = .ok (.iconst 1, 1) := by decide +kernel
theorem dX7_isFull_10 : decode cX7_isFull 10 = .ok (.goto 4, 3) := by decide +kernel
theorem dX7_isFull_13 : decode cX7_isFull 13 = .ok (.iconst 0, 1) := by decide +kernel
theorem dX7_isFull_14 : decode cX7_isFull 14 = .ok (.ireturn, 1) := by decide +kernel
theorem dX7_print_0 : decode cX7_print 0 = .ok (.aload_n 0, 1) := by decide +kernel
theorem dX7_print_1 : decode cX7_print 1 = .ok (.getfield 35, 3) := by decide +kernel
theorem dX7_print_4 : decode cX7_print 4 = .ok (.istore_n 1, 1) := by decide +kernel
theorem dX7_print_5 : decode cX7_print 5 = .ok (.aload_n 0, 1) := by decide +kernel
theorem dX7_print_6 : decode cX7_print 6 = .ok (.dup, 1) := by decide +kernel
theorem dX7_print_7 : decode cX7_print 7 = .ok (.getfield 35, 3) := by decide +kernel
theorem dX7_print_10 : decode cX7_print 10 = .ok (.iconst 1, 1) := by decide +kernel
theorem dX7_print_11 : decode cX7_print 11 = .ok (.iadd, 1) := by decide +kernel
theorem dX7_print_12 : decode cX7_print 12 = .ok (.putfield 35, 3) := by decide +kernel
theorem dX7_print_15 : decode cX7_print 15 = .ok (.aload_n 0, 1) := by decide +kernel
theorem dX7_print_16 : decode cX7_print 16 = .ok (.getfield 11, 3) := by decide +kernel
theorem dX7_print_19 : decode cX7_print 19 = .ok (.iload_n 1, 1) := by decide +kernel
theorem dX7_print_20 : decode cX7_print 20 = .ok (.aload_n 0, 1) := by decide +kernel
theorem dX7_print_21 : decode cX7_print 21 = .ok (.getfield 31, 3) := by decide +kernel
theorem dX7_print_24 : decode cX7_print 24 = .ok (.getfield 39, 3) := by decide +kernel
theorem dX7_print_27 : decode cX7_print 27 = .ok (.iastore, 1) := by decide +kernel
theorem dX7_print_28 : decode cX7_print 28 = .ok (.aload_n 0, 1) := by decide +kernel
theorem dX7_print_29 : decode cX7_print 29 = .ok (.getfield 15, 3) := by decide +kernel
theorem dX7_print_32 : decode cX7_print 32 = .ok (.iload_n 1, 1) := by decide +kernel
theorem dX7_print_33 : decode cX7_print 33 = .ok (.aload_n 0, 1) := by decide +kernel
theorem dX7_print_34 : decode cX7_print 34 = .ok (.getfield 27, 3) := by decide +kernel
theorem dX7_print_37 : decode cX7_print 37 = .ok (.iconst (-1), 1) := by decide +kernel
theorem dX7_print_38 : decode cX7_print 38 = .ok (.iconst (-1), 1) := by decide +kernel
theorem dX7_print_39 : decode cX7_print 39 = .ok (.iconst 1, 1) := by decide +kernel
theorem dX7_print_40 : decode cX7_print 40 = .ok (.invokevirtual 44, 3) := by decide +kernel
theorem dX7_print_43 : decode cX7_print 43 = .ok (.iastore, 1) := by decide +kernel
theorem dX7_print_44 : decode cX7_print 44 = .ok (.aload_n 0, 1) := by decide +kernel
theorem dX7_print_45 : decode cX7_print 45 = .ok (.getfield 18, 3) := by decide +kernel
theorem dX7_print_48 : decode cX7_print 48 = .ok (.iload_n 1, 1) := by decide +kernel
theorem dX7_print_49 : decode cX7_print 49 = .ok (.aload_n 0, 1) := by decide +kernel
theorem dX7_print_50 : decode cX7_print 50 = .ok (.invokevirtual 50, 3) := by decide +kernel
theorem dX7_print_53 : decode cX7_print 53 = .ok (.iastore, 1) := by decide +kernel
theorem dX7_print_54 : decode cX7_print 54 = .ok (.aload_n 0, 1) := by decide +kernel
theorem dX7_print_55 : decode cX7_print 55 = .ok (.getfield 21, 3) := by decide +kernel
theorem dX7_print_58 : decode cX7_print 58 = .ok (.iload_n 1, 1) := by decide +kernel
theorem dX7_print_59 : decode cX7_print 59 = .ok (.aload_n 0, 1) := by decide +kernel
theorem dX7_print_60 : decode cX7_print 60 = .ok (.invokevirtual 54, 3) := by decide +kernel
theorem dX7_print_63 : decode cX7_print 63 = .ok (.iastore, 1) := by decide +kernel
theorem dX7_print_64 : decode cX7_print 64 = .ok (.aload_n 0, 1) := by decide +kernel
theorem dX7_print_65 : decode cX7_print 65 = .ok (.getfield 18, 3) := by decide +kernel
theorem dX7_print_68 : decode cX7_print 68 = .ok (.iload_n 1, 1) := by decide +kernel
theorem dX7_print_69 : decode cX7_print 69 = .ok (.iaload, 1) := by decide +kernel
theorem dX7_print_70 : decode cX7_print 70 = .ok (.ireturn, 1) := by decide +kernel
theorem dX7_tell_0 : decode cX7_tell 0 = .ok (.iload_n 2, 1) := by decide +kernel
theorem dX7_tell_1 : decode cX7_tell 1 = .ok (.tableswitch 48 0 2 #[27, 34, 41], 27) := by decide +kernel
theorem dX7_tell_28 : decode cX7_tell 28 = .ok (.aload_n 0, 1) := by decide +kernel
theorem dX7_tell_29 : decode cX7_tell 29 = .ok (.getfield 11, 3) := by decide +kernel
theorem dX7_tell_32 : decode cX7_tell 32 = .ok (.iload_n 1, 1) := by decide +kernel
theorem dX7_tell_33 : decode cX7_tell 33 = .ok (.iaload, 1) := by decide +kernel
theorem dX7_tell_34 : decode cX7_tell 34 = .ok (.ireturn, 1) := by decide +kernel
theorem dX7_tell_35 : decode cX7_tell 35 = .ok (.aload_n 0, 1) := by decide +kernel
theorem dX7_tell_36 : decode cX7_tell 36 = .ok (.getfield 15, 3) := by decide +kernel
theorem dX7_tell_39 : decode cX7_tell 39 = .ok (.iload_n 1, 1) := by decide +kernel
theorem dX7_tell_40 : decode cX7_tell 40 = .ok (.iaload, 1) := by decide +kernel
theorem dX7_tell_41 : decode cX7_tell 41 = .ok (.ireturn, 1) := by decide +kernel
theorem dX7_tell_42 : decode cX7_tell 42 = .ok (.aload_n 0, 1) := by decide +kernel
theorem dX7_tell_43 : decode cX7_tell 43 = .ok (.getfield 18, 3) := by decide +kernel
theorem dX7_tell_46 : decode cX7_tell 46 = .ok (.iload_n 1, 1) := by decide +kernel
theorem dX7_tell_47 : decode cX7_tell 47 = .ok (.iaload, 1) := by decide +kernel
theorem dX7_tell_48 : decode cX7_tell 48 = .ok (.ireturn, 1) := by decide +kernel
theorem dX7_tell_49 : decode cX7_tell 49 = .ok (.aload_n 0, 1) := by decide +kernel
theorem dX7_tell_50 : decode cX7_tell 50 = .ok (.getfield 21, 3) := by decide +kernel
theorem dX7_tell_53 : decode cX7_tell 53 = .ok (.iload_n 1, 1) := by decide +kernel
theorem dX7_tell_54 : decode cX7_tell 54 = .ok (.iaload, 1) := by decide +kernel
theorem dX7_tell_55 : decode cX7_tell 55 = .ok (.ireturn, 1) := by decide +kernel
theorem dX7_driveOut_0 : decode cX7_driveOut 0 = .ok (.iconst 0, 1) := by decide +kernel
theorem dX7_driveOut_1 : decode cX7_driveOut 1 = .ok (.istore_n 1, 1) := by decide +kernel
theorem dX7_driveOut_2 : decode cX7_driveOut 2 = .ok (.iload_n 1, 1) := by decide +kernel
theorem dX7_driveOut_3 : decode cX7_driveOut 3 = .ok (.bipush 6, 2) := by decide +kernel
theorem dX7_driveOut_5 : decode cX7_driveOut 5 = .ok (.if_icmp .ge 16, 3) := by decide +kernel
theorem dX7_driveOut_8 : decode cX7_driveOut 8 = .ok (.aload_n 0, 1) := by decide +kernel
theorem dX7_driveOut_9 : decode cX7_driveOut 9 = .ok (.getfield 24, 3) := by decide +kernel
theorem dX7_driveOut_12 : decode cX7_driveOut 12 = .ok (.iload_n 1, 1) := by decide +kernel
theorem dX7_driveOut_13 : decode cX7_driveOut 13 = .ok (.iconst 0, 1) := by decide +kernel
theorem dX7_driveOut_14 : decode cX7_driveOut 14 = .ok (.iastore, 1) := by decide +kernel
theorem dX7_driveOut_15 : decode cX7_driveOut 15 = .ok (.iinc 1 1, 3) := by decide +kernel
theorem dX7_driveOut_18 : decode cX7_driveOut 18 = .ok (.goto (-16), 3) := by decide +kernel
theorem dX7_driveOut_21 : decode cX7_driveOut 21 = .ok (.iconst 0, 1) := by decide +kernel
theorem dX7_driveOut_22 : decode cX7_driveOut 22 = .ok (.istore_n 1, 1) := by decide +kernel
theorem dX7_driveOut_23 : decode cX7_driveOut 23 = .ok (.iconst 0, 1) := by decide +kernel
theorem dX7_driveOut_24 : decode cX7_driveOut 24 = .ok (.istore_n 2, 1) := by decide +kernel
theorem dX7_driveOut_25 : decode cX7_driveOut 25 = .ok (.iload_n 2, 1) := by decide +kernel
theorem dX7_driveOut_26 : decode cX7_driveOut 26 = .ok (.aload_n 0, 1) := by decide +kernel
theorem dX7_driveOut_27 : decode cX7_driveOut 27 = .ok (.getfield 27, 3) := by decide +kernel
theorem dX7_driveOut_30 : decode cX7_driveOut 30 = .ok (.getfield 57, 3) := by decide +kernel
theorem dX7_driveOut_33 : decode cX7_driveOut 33 = .ok (.if_icmp .ge 47, 3) := by decide +kernel
theorem dX7_driveOut_36 : decode cX7_driveOut 36 = .ok (.aload_n 0, 1) := by decide +kernel
theorem dX7_driveOut_37 : decode cX7_driveOut 37 = .ok (.getfield 27, 3) := by decide +kernel
theorem dX7_driveOut_40 : decode cX7_driveOut 40 = .ok (.iload_n 2, 1) := by decide +kernel
theorem dX7_driveOut_41 : decode cX7_driveOut 41 = .ok (.invokevirtual 58, 3) := by decide +kernel
theorem dX7_driveOut_44 : decode cX7_driveOut 44 = .ok (.astore_n 3, 1) := by decide +kernel
theorem dX7_driveOut_45 : decode cX7_driveOut 45 = .ok (.aload_n 0, 1) := by decide +kernel
theorem dX7_driveOut_46 : decode cX7_driveOut 46 = .ok (.aload_n 3, 1) := by decide +kernel
theorem dX7_driveOut_47 : decode cX7_driveOut 47 = .ok (.invokevirtual 62, 3) := by decide +kernel
theorem dX7_driveOut_50 : decode cX7_driveOut 50 = .ok (.ifCond .eq 24, 3) := by decide +kernel
theorem dX7_driveOut_53 : decode cX7_driveOut 53 = .ok (.aload_n 0, 1) := by decide +kernel
theorem dX7_driveOut_54 : decode cX7_driveOut 54 = .ok (.getfield 24, 3) := by decide +kernel
theorem dX7_driveOut_57 : decode cX7_driveOut 57 = .ok (.aload_n 3, 1) := by decide +kernel
theorem dX7_driveOut_58 : decode cX7_driveOut 58 = .ok (.getfield 66, 3) := by decide +kernel
theorem dX7_driveOut_61 : decode cX7_driveOut 61 = .ok (.dup2, 1) := by decide +kernel
theorem dX7_driveOut_62 : decode cX7_driveOut 62 = .ok (.iaload, 1) := by decide +kernel
theorem dX7_driveOut_63 : decode cX7_driveOut 63 = .ok (.iconst 1, 1) := by decide +kernel
theorem dX7_driveOut_64 : decode cX7_driveOut 64 = .ok (.iadd, 1) := by decide +kernel
theorem dX7_driveOut_65 : decode cX7_driveOut 65 = .ok (.iastore, 1) := by decide +kernel
theorem dX7_driveOut_66 : decode cX7_driveOut 66 = .ok (.aload_n 3, 1) := by decide +kernel
theorem dX7_driveOut_67 : decode cX7_driveOut 67 = .ok (.iconst 3, 1) := by decide +kernel
theorem dX7_driveOut_68 : decode cX7_driveOut 68 = .ok (.invokevirtual 71, 3) := by decide +kernel
theorem dX7_driveOut_71 : decode cX7_driveOut 71 = .ok (.iinc 1 1, 3) := by decide +kernel
theorem dX7_driveOut_74 : decode cX7_driveOut 74 = .ok (.iinc 2 1, 3) := by decide +kernel
theorem dX7_driveOut_77 : decode cX7_driveOut 77 = .ok (.goto (-52), 3) := by decide +kernel
theorem dX7_driveOut_80 : decode cX7_driveOut 80 = .ok (.iload_n 1, 1) := by decide +kernel
theorem dX7_driveOut_81 : decode cX7_driveOut 81 = .ok (.ireturn, 1) := by decide +kernel
theorem dX7_losesHouse_0 : decode cX7_losesHouse 0 = .ok (.aload_n 1, 1) := by decide +kernel
theorem dX7_losesHouse_1 : decode cX7_losesHouse 1 = .ok (.getfield 75, 3) := by decide +kernel
theorem dX7_losesHouse_4 : decode cX7_losesHouse 4 = .ok (.iconst 1, 1) := by decide +kernel
theorem dX7_losesHouse_5 : decode cX7_losesHouse 5 = .ok (.if_icmp .ne 52, 3) := by decide +kernel
theorem dX7_losesHouse_8 : decode cX7_losesHouse 8 = .ok (.aload_n 1, 1) := by decide +kernel
theorem dX7_losesHouse_9 : decode cX7_losesHouse 9 = .ok (.getfield 66, 3) := by decide +kernel
theorem dX7_losesHouse_12 : decode cX7_losesHouse 12 = .ok (.invokestatic 78, 3) := by decide +kernel
theorem dX7_losesHouse_15 : decode cX7_losesHouse 15 = .ok (.ifCond .eq 42, 3) := by decide +kernel
theorem dX7_losesHouse_18 : decode cX7_losesHouse 18 = .ok (.aload_n 0, 1) := by decide +kernel
theorem dX7_losesHouse_19 : decode cX7_losesHouse 19 = .ok (.getfield 27, 3) := by decide +kernel
theorem dX7_losesHouse_22 : decode cX7_losesHouse 22 = .ok (.aload_n 1, 1) := by decide +kernel
theorem dX7_losesHouse_23 : decode cX7_losesHouse 23 = .ok (.getfield 82, 3) := by decide +kernel
theorem dX7_losesHouse_26 : decode cX7_losesHouse 26 = .ok (.invokevirtual 85, 3) := by decide +kernel
theorem dX7_losesHouse_29 : decode cX7_losesHouse 29 = .ok (.ifCond .eq 28, 3) := by decide +kernel
theorem dX7_losesHouse_32 : decode cX7_losesHouse 32 = .ok (.aload_n 1, 1) := by decide +kernel
theorem dX7_losesHouse_33 : decode cX7_losesHouse 33 = .ok (.getfield 88, 3) := by decide +kernel
theorem dX7_losesHouse_36 : decode cX7_losesHouse 36 = .ok (.aload_n 0, 1) := by decide +kernel
theorem dX7_losesHouse_37 : decode cX7_losesHouse 37 = .ok (.getfield 27, 3) := by decide +kernel
theorem dX7_losesHouse_40 : decode cX7_losesHouse 40 = .ok (.aload_n 1, 1) := by decide +kernel
theorem dX7_losesHouse_41 : decode cX7_losesHouse 41 = .ok (.getfield 82, 3) := by decide +kernel
theorem dX7_losesHouse_44 : decode cX7_losesHouse 44 = .ok (.invokevirtual 58, 3) := by decide +kernel
theorem dX7_losesHouse_47 : decode cX7_losesHouse 47 = .ok (.getfield 91, 3) := by decide +kernel
theorem dX7_losesHouse_50 : decode cX7_losesHouse 50 = .ok (.if_icmp .ge 7, 3) := by decide +kernel
theorem dX7_losesHouse_53 : decode cX7_losesHouse 53 = .ok (.iconst 1, 1) := by decide +kernel
theorem dX7_losesHouse_54 : decode cX7_losesHouse 54 = .ok (.goto 4, 3) := by decide +kernel
theorem dX7_losesHouse_57 : decode cX7_losesHouse 57 = .ok (.iconst 0, 1) := by decide +kernel
theorem dX7_losesHouse_58 : decode cX7_losesHouse 58 = .ok (.ireturn, 1) := by decide +kernel
theorem dX7_frighten_0 : decode cX7_frighten 0 = .ok (.iconst 0, 1) := by decide +kernel
theorem dX7_frighten_1 : decode cX7_frighten 1 = .ok (.istore_n 1, 1) := by decide +kernel
theorem dX7_frighten_2 : decode cX7_frighten 2 = .ok (.iconst 0, 1) := by decide +kernel
theorem dX7_frighten_3 : decode cX7_frighten 3 = .ok (.istore_n 2, 1) := by decide +kernel
theorem dX7_frighten_4 : decode cX7_frighten 4 = .ok (.iload_n 2, 1) := by decide +kernel
theorem dX7_frighten_5 : decode cX7_frighten 5 = .ok (.aload_n 0, 1) := by decide +kernel
theorem dX7_frighten_6 : decode cX7_frighten 6 = .ok (.getfield 27, 3) := by decide +kernel
theorem dX7_frighten_9 : decode cX7_frighten 9 = .ok (.getfield 57, 3) := by decide +kernel
theorem dX7_frighten_12 : decode cX7_frighten 12 = .ok (.if_icmp .ge 91, 3) := by decide +kernel
theorem dX7_frighten_15 : decode cX7_frighten 15 = .ok (.aload_n 0, 1) := by decide +kernel
theorem dX7_frighten_16 : decode cX7_frighten 16 = .ok (.getfield 27, 3) := by decide +kernel
theorem dX7_frighten_19 : decode cX7_frighten 19 = .ok (.iload_n 2, 1) := by decide +kernel
theorem dX7_frighten_20 : decode cX7_frighten 20 = .ok (.invokevirtual 58, 3) := by decide +kernel
theorem dX7_frighten_23 : decode cX7_frighten 23 = .ok (.astore_n 3, 1) := by decide +kernel
theorem dX7_frighten_24 : decode cX7_frighten 24 = .ok (.aload_n 3, 1) := by decide +kernel
theorem dX7_frighten_25 : decode cX7_frighten 25 = .ok (.getfield 66, 3) := by decide +kernel
theorem dX7_frighten_28 : decode cX7_frighten 28 = .ok (.invokestatic 78, 3) := by decide +kernel
theorem dX7_frighten_31 : decode cX7_frighten 31 = .ok (.ifCond .eq 15, 3) := by decide +kernel
theorem dX7_frighten_34 : decode cX7_frighten 34 = .ok (.aload_n 0, 1) := by decide +kernel
theorem dX7_frighten_35 : decode cX7_frighten 35 = .ok (.getfield 24, 3) := by decide +kernel
theorem dX7_frighten_38 : decode cX7_frighten 38 = .ok (.aload_n 3, 1) := by decide +kernel
theorem dX7_frighten_39 : decode cX7_frighten 39 = .ok (.getfield 66, 3) := by decide +kernel
theorem dX7_frighten_42 : decode cX7_frighten 42 = .ok (.iaload, 1) := by decide +kernel
theorem dX7_frighten_43 : decode cX7_frighten 43 = .ok (.goto 4, 3) := by decide +kernel
theorem dX7_frighten_46 : decode cX7_frighten 46 = .ok (.iconst 0, 1) := by decide +kernel
theorem dX7_frighten_47 : decode cX7_frighten 47 = .ok (.istore 4, 2) := by decide +kernel
theorem dX7_frighten_49 : decode cX7_frighten 49 = .ok (.iload 4, 2) := by decide +kernel
theorem dX7_frighten_51 : decode cX7_frighten 51 = .ok (.ifCond .le 46, 3) := by decide +kernel
theorem dX7_frighten_54 : decode cX7_frighten 54 = .ok (.aload_n 3, 1) := by decide +kernel
theorem dX7_frighten_55 : decode cX7_frighten 55 = .ok (.getfield 75, 3) := by decide +kernel
theorem dX7_frighten_58 : decode cX7_frighten 58 = .ok (.iconst 1, 1) := by decide +kernel
theorem dX7_frighten_59 : decode cX7_frighten 59 = .ok (.if_icmp .ne 23, 3) := by decide +kernel
theorem dX7_frighten_62 : decode cX7_frighten 62 = .ok (.aload_n 3, 1) := by decide +kernel
theorem dX7_frighten_63 : decode cX7_frighten 63 = .ok (.getfield 88, 3) := by decide +kernel
theorem dX7_frighten_66 : decode cX7_frighten 66 = .ok (.iload 4, 2) := by decide +kernel
theorem dX7_frighten_68 : decode cX7_frighten 68 = .ok (.iadd, 1) := by decide +kernel
theorem dX7_frighten_69 : decode cX7_frighten 69 = .ok (.bipush 10, 2) := by decide +kernel
theorem dX7_frighten_71 : decode cX7_frighten 71 = .ok (.if_icmp .lt 11, 3) := by decide +kernel
theorem dX7_frighten_74 : decode cX7_frighten 74 = .ok (.aload_n 3, 1) := by decide +kernel
theorem dX7_frighten_75 : decode cX7_frighten 75 = .ok (.iconst 2, 1) := by decide +kernel
theorem dX7_frighten_76 : decode cX7_frighten 76 = .ok (.invokevirtual 71, 3) := by decide +kernel
theorem dX7_frighten_79 : decode cX7_frighten 79 = .ok (.iinc 1 1, 3) := by decide +kernel
theorem dX7_frighten_82 : decode cX7_frighten 82 = .ok (.aload_n 3, 1) := by decide +kernel
theorem dX7_frighten_83 : decode cX7_frighten 83 = .ok (.bipush 9, 2) := by decide +kernel
theorem dX7_frighten_85 : decode cX7_frighten 85 = .ok (.aload_n 3, 1) := by decide +kernel
theorem dX7_frighten_86 : decode cX7_frighten 86 = .ok (.getfield 88, 3) := by decide +kernel
theorem dX7_frighten_89 : decode cX7_frighten 89 = .ok (.iconst 1, 1) := by decide +kernel
theorem dX7_frighten_90 : decode cX7_frighten 90 = .ok (.iadd, 1) := by decide +kernel
theorem dX7_frighten_91 : decode cX7_frighten 91 = .ok (.invokestatic 94, 3) := by decide +kernel
theorem dX7_frighten_94 : decode cX7_frighten 94 = .ok (.putfield 88, 3) := by decide +kernel
theorem dX7_frighten_97 : decode cX7_frighten 97 = .ok (.iinc 2 1, 3) := by decide +kernel
theorem dX7_frighten_100 : decode cX7_frighten 100 = .ok (.goto (-96), 3) := by decide +kernel
theorem dX7_frighten_103 : decode cX7_frighten 103 = .ok (.iload_n 1, 1) := by decide +kernel
theorem dX7_frighten_104 : decode cX7_frighten 104 = .ok (.ireturn, 1) := by decide +kernel
theorem dX8_init_0 : decode cX8_init 0 = .ok (.aload_n 0, 1) := by decide +kernel
theorem dX8_init_1 : decode cX8_init 1 = .ok (.invokespecial 3, 3) := by decide +kernel
theorem dX8_init_4 : decode cX8_init 4 = .ok (.return_, 1) := by decide +kernel
theorem dX8_lives_0 : decode cX8_lives 0 = .ok (.aload_n 0, 1) := by decide +kernel
theorem dX8_lives_1 : decode cX8_lives 1 = .ok (.getfield 9, 3) := by decide +kernel
theorem dX8_lives_4 : decode cX8_lives 4 = .ok (.iconst 2, 1) := by decide +kernel
theorem dX8_lives_5 : decode cX8_lives 5 = .ok (.if_icmp .gt 7, 3) := by decide +kernel
theorem dX8_lives_8 : decode cX8_lives 8 = .ok (.iconst 1, 1) := by decide +kernel
theorem dX8_lives_9 : decode cX8_lives 9 = .ok (.goto 4, 3) := by decide +kernel
theorem dX8_lives_12 : decode cX8_lives 12 = .ok (.iconst 0, 1) := by decide +kernel
theorem dX8_lives_13 : decode cX8_lives 13 = .ok (.ireturn, 1) := by decide +kernel
theorem dX8_waits_0 : decode cX8_waits 0 = .ok (.aload_n 0, 1) := by decide +kernel
theorem dX8_waits_1 : decode cX8_waits 1 = .ok (.getfield 9, 3) := by decide +kernel
theorem dX8_waits_4 : decode cX8_waits 4 = .ok (.ifCond .eq 11, 3) := by decide +kernel
theorem dX8_waits_7 : decode cX8_waits 7 = .ok (.aload_n 0, 1) := by decide +kernel
theorem dX8_waits_8 : decode cX8_waits 8 = .ok (.getfield 9, 3) := by decide +kernel
theorem dX8_waits_11 : decode cX8_waits 11 = .ok (.iconst 2, 1) := by decide +kernel
theorem dX8_waits_12 : decode cX8_waits 12 = .ok (.if_icmp .ne 7, 3) := by decide +kernel
theorem dX8_waits_15 : decode cX8_waits 15 = .ok (.iconst 1, 1) := by decide +kernel
theorem dX8_waits_16 : decode cX8_waits 16 = .ok (.goto 4, 3) := by decide +kernel
theorem dX8_waits_19 : decode cX8_waits 19 = .ok (.iconst 0, 1) := by decide +kernel
theorem dX8_waits_20 : decode cX8_waits 20 = .ok (.ireturn, 1) := by decide +kernel
theorem dX8_become_0 : decode cX8_become 0 = .ok (.aload_n 0, 1) := by decide +kernel
theorem dX8_become_1 : decode cX8_become 1 = .ok (.iload_n 1, 1) := by decide +kernel
theorem dX8_become_2 : decode cX8_become 2 = .ok (.putfield 9, 3) := by decide +kernel
theorem dX8_become_5 : decode cX8_become 5 = .ok (.aload_n 0, 1) := by decide +kernel
theorem dX8_become_6 : decode cX8_become 6 = .ok (.invokevirtual 15, 3) := by decide +kernel
theorem dX8_become_9 : decode cX8_become 9 = .ok (.ifCond .ne 8, 3) := by decide +kernel
theorem dX8_become_12 : decode cX8_become 12 = .ok (.aload_n 0, 1) := by decide +kernel
theorem dX8_become_13 : decode cX8_become 13 = .ok (.iconst (-1), 1) := by decide +kernel
theorem dX8_become_14 : decode cX8_become 14 = .ok (.putfield 19, 3) := by decide +kernel
theorem dX8_become_17 : decode cX8_become 17 = .ok (.return_, 1) := by decide +kernel
theorem dX8_schoolingAfter_0 : decode cX8_schoolingAfter 0 = .ok (.bipush 20, 2) := by decide +kernel
theorem dX8_schoolingAfter_2 : decode cX8_schoolingAfter 2 = .ok (.aload_n 0, 1) := by decide +kernel
theorem dX8_schoolingAfter_3 : decode cX8_schoolingAfter 3 = .ok (.getfield 22, 3) := by decide +kernel
theorem dX8_schoolingAfter_6 : decode cX8_schoolingAfter 6 = .ok (.iconst 2, 1) := by decide +kernel
theorem dX8_schoolingAfter_7 : decode cX8_schoolingAfter 7 = .ok (.iload_n 1, 1) := by decide +kernel
theorem dX8_schoolingAfter_8 : decode cX8_schoolingAfter 8 = .ok (.imul, 1) := by decide +kernel
theorem dX8_schoolingAfter_9 : decode cX8_schoolingAfter 9 = .ok (.iadd, 1) := by decide +kernel
theorem dX8_schoolingAfter_10 : decode cX8_schoolingAfter 10 = .ok (.invokestatic 25, 3) := by decide +kernel
theorem dX8_schoolingAfter_13 : decode cX8_schoolingAfter 13 = .ok (.ireturn, 1) := by decide +kernel
theorem dX8_tell_0 : decode cX8_tell 0 = .ok (.iload_n 1, 1) := by decide +kernel
theorem dX8_tell_1 : decode cX8_tell 1 = .ok (.tableswitch 69 0 5 #[39, 44, 49, 54, 59, 64], 39) := by decide +kernel
theorem dX8_tell_40 : decode cX8_tell 40 = .ok (.aload_n 0, 1) := by decide +kernel
theorem dX8_tell_41 : decode cX8_tell 41 = .ok (.getfield 19, 3) := by decide +kernel
theorem dX8_tell_44 : decode cX8_tell 44 = .ok (.ireturn, 1) := by decide +kernel
theorem dX8_tell_45 : decode cX8_tell 45 = .ok (.aload_n 0, 1) := by decide +kernel
theorem dX8_tell_46 : decode cX8_tell 46 = .ok (.getfield 31, 3) := by decide +kernel
theorem dX8_tell_49 : decode cX8_tell 49 = .ok (.ireturn, 1) := by decide +kernel
theorem dX8_tell_50 : decode cX8_tell 50 = .ok (.aload_n 0, 1) := by decide +kernel
theorem dX8_tell_51 : decode cX8_tell 51 = .ok (.getfield 22, 3) := by decide +kernel
theorem dX8_tell_54 : decode cX8_tell 54 = .ok (.ireturn, 1) := by decide +kernel
theorem dX8_tell_55 : decode cX8_tell 55 = .ok (.aload_n 0, 1) := by decide +kernel
theorem dX8_tell_56 : decode cX8_tell 56 = .ok (.getfield 34, 3) := by decide +kernel
theorem dX8_tell_59 : decode cX8_tell 59 = .ok (.ireturn, 1) := by decide +kernel
