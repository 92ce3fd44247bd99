theorem dX8_tell_60 : decode cX8_tell 60 = .ok (.aload_n 0, 1) := by decide +kernel
theorem dX8_tell_61 : decode cX8_tell 61 = .ok (.getfield 37, 3) := by decide +kernel
theorem dX8_tell_64 : decode cX8_tell 64 = .ok (.ireturn, 1) := by decide +kernel
theorem dX8_tell_65 : decode cX8_tell 65 = .ok (.aload_n 0, 1) := by decide +kernel
theorem dX8_tell_66 : decode cX8_tell 66 = .ok (.getfield 9, 3) := by decide +kernel
theorem dX8_tell_69 : decode cX8_tell 69 = .ok (.ireturn, 1) := by decide +kernel
theorem dX8_tell_70 : decode cX8_tell 70 = .ok (.aload_n 0, 1) := by decide +kernel
theorem dX8_tell_71 : decode cX8_tell 71 = .ok (.getfield 40, 3) := by decide +kernel
theorem dX8_tell_74 : decode cX8_tell 74 = .ok (.ireturn, 1) := by decide +kernel
theorem dX9_init_0 : decode cX9_init 0 = .ok (.aload_n 0, 1) := by decide +kernel
theorem dX9_init_1 : decode cX9_init 1 = .ok (.invokespecial 3, 3) := by decide +kernel
theorem dX9_init_4 : decode cX9_init 4 = .ok (.aload_n 0, 1) := by decide +kernel
theorem dX9_init_5 : decode cX9_init 5 = .ok (.iconst (-1), 1) := by decide +kernel
theorem dX9_init_6 : decode cX9_init 6 = .ok (.putfield 9, 3) := by decide +kernel
theorem dX9_init_9 : decode cX9_init 9 = .ok (.aload_n 0, 1) := by decide +kernel
theorem dX9_init_10 : decode cX9_init 10 = .ok (.bipush 40, 2) := by decide +kernel
theorem dX9_init_12 : decode cX9_init 12 = .ok (.newarray .int, 2) := by decide +kernel
theorem dX9_init_14 : decode cX9_init 14 = .ok (.putfield 15, 3) := by decide +kernel
theorem dX9_init_17 : decode cX9_init 17 = .ok (.return_, 1) := by decide +kernel
theorem dX9_isLost_0 : decode cX9_isLost 0 = .ok (.aload_n 0, 1) := by decide +kernel
theorem dX9_isLost_1 : decode cX9_isLost 1 = .ok (.getfield 9, 3) := by decide +kernel
theorem dX9_isLost_4 : decode cX9_isLost 4 = .ok (.iconst (-1), 1) := by decide +kernel
theorem dX9_isLost_5 : decode cX9_isLost 5 = .ok (.if_icmp .ne 7, 3) := by decide +kernel
theorem dX9_isLost_8 : decode cX9_isLost 8 = .ok (.iconst 1, 1) := by decide +kernel
theorem dX9_isLost_9 : decode cX9_isLost 9 = .ok (.goto 4, 3) := by decide +kernel
theorem dX9_isLost_12 : decode cX9_isLost 12 = .ok (.iconst 0, 1) := by decide +kernel
theorem dX9_isLost_13 : decode cX9_isLost 13 = .ok (.ireturn, 1) := by decide +kernel
theorem dX9_renew_0 : decode cX9_renew 0 = .ok (.aload_n 0, 1) := by decide +kernel
theorem dX9_renew_1 : decode cX9_renew 1 = .ok (.iload_n 1, 1) := by decide +kernel
theorem dX9_renew_2 : decode cX9_renew 2 = .ok (.putfield 9, 3) := by decide +kernel
theorem dX9_renew_5 : decode cX9_renew 5 = .ok (.aload_n 0, 1) := by decide +kernel
theorem dX9_renew_6 : decode cX9_renew 6 = .ok (.iload_n 2, 1) := by decide +kernel
theorem dX9_renew_7 : decode cX9_renew 7 = .ok (.putfield 19, 3) := by decide +kernel
theorem dX9_renew_10 : decode cX9_renew 10 = .ok (.iconst 0, 1) := by decide +kernel
theorem dX9_renew_11 : decode cX9_renew 11 = .ok (.istore_n 3, 1) := by decide +kernel
theorem dX9_renew_12 : decode cX9_renew 12 = .ok (.iload_n 3, 1) := by decide +kernel
theorem dX9_renew_13 : decode cX9_renew 13 = .ok (.bipush 40, 2) := by decide +kernel
theorem dX9_renew_15 : decode cX9_renew 15 = .ok (.if_icmp .ge 16, 3) := by decide +kernel
theorem dX9_renew_18 : decode cX9_renew 18 = .ok (.aload_n 0, 1) := by decide +kernel
theorem dX9_renew_19 : decode cX9_renew 19 = .ok (.getfield 15, 3) := by decide +kernel
theorem dX9_renew_22 : decode cX9_renew 22 = .ok (.iload_n 3, 1) := by decide +kernel
theorem dX9_renew_23 : decode cX9_renew 23 = .ok (.iconst 0, 1) := by decide +kernel
theorem dX9_renew_24 : decode cX9_renew 24 = .ok (.iastore, 1) := by decide +kernel
theorem dX9_renew_25 : decode cX9_renew 25 = .ok (.iinc 3 1, 3) := by decide +kernel
theorem dX9_renew_28 : decode cX9_renew 28 = .ok (.goto (-16), 3) := by decide +kernel
theorem dX9_renew_31 : decode cX9_renew 31 = .ok (.return_, 1) := by decide +kernel
theorem dX9_vanish_0 : decode cX9_vanish 0 = .ok (.aload_n 0, 1) := by decide +kernel
theorem dX9_vanish_1 : decode cX9_vanish 1 = .ok (.getfield 19, 3) := by decide +kernel
theorem dX9_vanish_4 : decode cX9_vanish 4 = .ok (.istore_n 1, 1) := by decide +kernel
theorem dX9_vanish_5 : decode cX9_vanish 5 = .ok (.aload_n 0, 1) := by decide +kernel
theorem dX9_vanish_6 : decode cX9_vanish 6 = .ok (.iconst (-1), 1) := by decide +kernel
theorem dX9_vanish_7 : decode cX9_vanish 7 = .ok (.putfield 9, 3) := by decide +kernel
theorem dX9_vanish_10 : decode cX9_vanish 10 = .ok (.aload_n 0, 1) := by decide +kernel
theorem dX9_vanish_11 : decode cX9_vanish 11 = .ok (.iconst 0, 1) := by decide +kernel
theorem dX9_vanish_12 : decode cX9_vanish 12 = .ok (.putfield 19, 3) := by decide +kernel
theorem dX9_vanish_15 : decode cX9_vanish 15 = .ok (.iload_n 1, 1) := by decide +kernel
theorem dX9_vanish_16 : decode cX9_vanish 16 = .ok (.ireturn, 1) := by decide +kernel
theorem dX9_item_0 : decode cX9_item 0 = .ok (.aload_n 0, 1) := by decide +kernel
theorem dX9_item_1 : decode cX9_item 1 = .ok (.getfield 15, 3) := by decide +kernel
theorem dX9_item_4 : decode cX9_item 4 = .ok (.iload_n 1, 1) := by decide +kernel
theorem dX9_item_5 : decode cX9_item 5 = .ok (.iaload, 1) := by decide +kernel
theorem dX9_item_6 : decode cX9_item 6 = .ok (.ireturn, 1) := by decide +kernel
theorem dX9_store_0 : decode cX9_store 0 = .ok (.aload_n 0, 1) := by decide +kernel
theorem dX9_store_1 : decode cX9_store 1 = .ok (.getfield 9, 3) := by decide +kernel
theorem dX9_store_4 : decode cX9_store 4 = .ok (.lookupswitch 50 #[(0, 28), (1, 39)], 28) := by decide +kernel
theorem dX9_store_32 : decode cX9_store 32 = .ok (.aload_n 0, 1) := by decide +kernel
theorem dX9_store_33 : decode cX9_store 33 = .ok (.getfield 15, 3) := by decide +kernel
theorem dX9_store_36 : decode cX9_store 36 = .ok (.iload_n 1, 1) := by decide +kernel
theorem dX9_store_37 : decode cX9_store 37 = .ok (.iload_n 2, 1) := by decide +kernel
theorem dX9_store_38 : decode cX9_store 38 = .ok (.i2b, 1) := by decide +kernel
theorem dX9_store_39 : decode cX9_store 39 = .ok (.iastore, 1) := by decide +kernel
theorem dX9_store_40 : decode cX9_store 40 = .ok (.goto 21, 3) := by decide +kernel
theorem dX9_store_43 : decode cX9_store 43 = .ok (.aload_n 0, 1) := by decide +kernel
theorem dX9_store_44 : decode cX9_store 44 = .ok (.getfield 15, 3) := by decide +kernel
theorem dX9_store_47 : decode cX9_store 47 = .ok (.iload_n 1, 1) := by decide +kernel
theorem dX9_store_48 : decode cX9_store 48 = .ok (.iload_n 2, 1) := by decide +kernel
theorem dX9_store_49 : decode cX9_store 49 = .ok (.i2s, 1) := by decide +kernel
theorem dX9_store_50 : decode cX9_store 50 = .ok (.iastore, 1) := by decide +kernel
theorem dX9_store_51 : decode cX9_store 51 = .ok (.goto 10, 3) := by decide +kernel
theorem dX9_store_54 : decode cX9_store 54 = .ok (.aload_n 0, 1) := by decide +kernel
theorem dX9_store_55 : decode cX9_store 55 = .ok (.getfield 15, 3) := by decide +kernel
theorem dX9_store_58 : decode cX9_store 58 = .ok (.iload_n 1, 1) := by decide +kernel
theorem dX9_store_59 : decode cX9_store 59 = .ok (.iload_n 2, 1) := by decide +kernel
theorem dX9_store_60 : decode cX9_store 60 = .ok (.iastore, 1) := by decide +kernel
theorem dX9_store_61 : decode cX9_store 61 = .ok (.return_, 1) := by decide +kernel
theorem dX9_hasRange_0 : decode cX9_hasRange 0 = .ok (.iload_n 1, 1) := by decide +kernel
theorem dX9_hasRange_1 : decode cX9_hasRange 1 = .ok (.ifCond .lt 29, 3) := by decide +kernel
theorem dX9_hasRange_4 : decode cX9_hasRange 4 = .ok (.iload_n 2, 1) := by decide +kernel
theorem dX9_hasRange_5 : decode cX9_hasRange 5 = .ok (.ifCond .lt 25, 3) := by decide +kernel
theorem dX9_hasRange_8 : decode cX9_hasRange 8 = .ok (.iload_n 1, 1) := by decide +kernel
theorem dX9_hasRange_9 : decode cX9_hasRange 9 = .ok (.aload_n 0, 1) := by decide +kernel
theorem dX9_hasRange_10 : decode cX9_hasRange 10 = .ok (.getfield 19, 3) := by decide +kernel
theorem dX9_hasRange_13 : decode cX9_hasRange 13 = .ok (.if_icmp .gt 17, 3) := by decide +kernel
theorem dX9_hasRange_16 : decode cX9_hasRange 16 = .ok (.iload_n 2, 1) := by decide +kernel
theorem dX9_hasRange_17 : decode cX9_hasRange 17 = .ok (.aload_n 0, 1) := by decide +kernel
theorem dX9_hasRange_18 : decode cX9_hasRange 18 = .ok (.getfield 19, 3) := by decide +kernel
theorem dX9_hasRange_21 : decode cX9_hasRange 21 = .ok (.iload_n 1, 1) := by decide +kernel
theorem dX9_hasRange_22 : decode cX9_hasRange 22 = .ok (.isub, 1) := by decide +kernel
theorem dX9_hasRange_23 : decode cX9_hasRange 23 = .ok (.if_icmp .gt 7, 3) := by decide +kernel
theorem dX9_hasRange_26 : decode cX9_hasRange 26 = .ok (.iconst 1, 1) := by decide +kernel
theorem dX9_hasRange_27 : decode cX9_hasRange 27 = .ok (.goto 4, 3) := by decide +kernel
theorem dX9_hasRange_30 : decode cX9_hasRange 30 = .ok (.iconst 0, 1) := by decide +kernel
theorem dX9_hasRange_31 : decode cX9_hasRange 31 = .ok (.ireturn, 1) := by decide +kernel
theorem dX9_troubleAt_0 : decode cX9_troubleAt 0 = .ok (.aload_n 0, 1) := by decide +kernel
theorem dX9_troubleAt_1 : decode cX9_troubleAt 1 = .ok (.invokevirtual 22, 3) := by decide +kernel
theorem dX9_troubleAt_4 : decode cX9_troubleAt 4 = .ok (.ifCond .eq 5, 3) := by decide +kernel
theorem dX9_troubleAt_7 : decode cX9_troubleAt 7 = .ok (.iconst 1, 1) := by decide +kernel
theorem dX9_troubleAt_8 : decode cX9_troubleAt 8 = .ok (.ireturn, 1) := by decide +kernel
theorem dX9_troubleAt_9 : decode cX9_troubleAt 9 = .ok (.aload_n 0, 1) := by decide +kernel
theorem dX9_troubleAt_10 : decode cX9_troubleAt 10 = .ok (.getfield 9, 3) := by decide +kernel
theorem dX9_troubleAt_13 : decode cX9_troubleAt 13 = .ok (.iload_n 1, 1) := by decide +kernel
theorem dX9_troubleAt_14 : decode cX9_troubleAt 14 = .ok (.if_icmp .eq 5, 3) := by decide +kernel
theorem dX9_troubleAt_17 : decode cX9_troubleAt 17 = .ok (.iconst 3, 1) := by decide +kernel
theorem dX9_troubleAt_18 : decode cX9_troubleAt 18 = .ok (.ireturn, 1) := by decide +kernel
theorem dX9_troubleAt_19 : decode cX9_troubleAt 19 = .ok (.iload_n 2, 1) := by decide +kernel
theorem dX9_troubleAt_20 : decode cX9_troubleAt 20 = .ok (.ifCond .lt 15, 3) := by decide +kernel
theorem dX9_troubleAt_23 : decode cX9_troubleAt 23 = .ok (.iload_n 2, 1) := by decide +kernel
theorem dX9_troubleAt_24 : decode cX9_troubleAt 24 = .ok (.aload_n 0, 1) := by decide +kernel
theorem dX9_troubleAt_25 : decode cX9_troubleAt 25 = .ok (.getfield 19, 3) := by decide +kernel
theorem dX9_troubleAt_28 : decode cX9_troubleAt 28 = .ok (.if_icmp .ge 7, 3) := by decide +kernel
theorem dX9_troubleAt_31 : decode cX9_troubleAt 31 = .ok (.iconst 0, 1) := by decide +kernel
theorem dX9_troubleAt_32 : decode cX9_troubleAt 32 = .ok (.goto 4, 3) := by decide +kernel
theorem dX9_troubleAt_35 : decode cX9_troubleAt 35 = .ok (.iconst 2, 1) := by decide +kernel
theorem dX9_troubleAt_36 : decode cX9_troubleAt 36 = .ok (.ireturn, 1) := by decide +kernel
theorem dX10_init_0 : decode cX10_init 0 = .ok (.aload_n 0, 1) := by decide +kernel
theorem dX10_init_1 : decode cX10_init 1 = .ok (.invokespecial 3, 3) := by decide +kernel
theorem dX10_init_4 : decode cX10_init 4 = .ok (.aload_n 0, 1) := by decide +kernel
theorem dX10_init_5 : decode cX10_init 5 = .ok (.bipush 8, 2) := by decide +kernel
theorem dX10_init_7 : decode cX10_init 7 = .ok (.newarray .boolean, 2) := by decide +kernel
theorem dX10_init_9 : decode cX10_init 9 = .ok (.putfield 11, 3) := by decide +kernel
theorem dX10_init_12 : decode cX10_init 12 = .ok (.aload_n 0, 1) := by decide +kernel
theorem dX10_init_13 : decode cX10_init 13 = .ok (.bipush 8, 2) := by decide +kernel
theorem dX10_init_15 : decode cX10_init 15 = .ok (.newarray .int, 2) := by decide +kernel
theorem dX10_init_17 : decode cX10_init 17 = .ok (.putfield 15, 3) := by decide +kernel
theorem dX10_init_20 : decode cX10_init 20 = .ok (.aload_n 0, 1) := by decide +kernel
theorem dX10_init_21 : decode cX10_init 21 = .ok (.bipush 8, 2) := by decide +kernel
theorem dX10_init_23 : decode cX10_init 23 = .ok (.newarray .int, 2) := by decide +kernel
theorem dX10_init_25 : decode cX10_init 25 = .ok (.putfield 19, 3) := by decide +kernel
theorem dX10_init_28 : decode cX10_init 28 = .ok (.aload_n 0, 1) := by decide +kernel
theorem dX10_init_29 : decode cX10_init 29 = .ok (.bipush 6, 2) := by decide +kernel
theorem dX10_init_31 : decode cX10_init 31 = .ok (.newarray .int, 2) := by decide +kernel
theorem dX10_init_33 : decode cX10_init 33 = .ok (.putfield 22, 3) := by decide +kernel
theorem dX10_init_36 : decode cX10_init 36 = .ok (.aload_n 0, 1) := by decide +kernel
theorem dX10_init_37 : decode cX10_init 37 = .ok (.aload_n 1, 1) := by decide +kernel
theorem dX10_init_38 : decode cX10_init 38 = .ok (.putfield 25, 3) := by decide +kernel
theorem dX10_init_41 : decode cX10_init 41 = .ok (.aload_n 0, 1) := by decide +kernel
theorem dX10_init_42 : decode cX10_init 42 = .ok (.aload_n 2, 1) := by decide +kernel
theorem dX10_init_43 : decode cX10_init 43 = .ok (.putfield 29, 3) := by decide +kernel
theorem dX10_init_46 : decode cX10_init 46 = .ok (.aload_n 0, 1) := by decide +kernel
theorem dX10_init_47 : decode cX10_init 47 = .ok (.aload_n 3, 1) := by decide +kernel
theorem dX10_init_48 : decode cX10_init 48 = .ok (.putfield 33, 3) := by decide +kernel
theorem dX10_init_51 : decode cX10_init 51 = .ok (.aload_n 0, 1) := by decide +kernel
theorem dX10_init_52 : decode cX10_init 52 = .ok (.aload 4, 2) := by decide +kernel
theorem dX10_init_54 : decode cX10_init 54 = .ok (.putfield 37, 3) := by decide +kernel
theorem dX10_init_57 : decode cX10_init 57 = .ok (.return_, 1) := by decide +kernel
theorem dX10_isFull_0 : decode cX10_isFull 0 = .ok (.aload_n 0, 1) := by decide +kernel
theorem dX10_isFull_1 : decode cX10_isFull 1 = .ok (.getfield 41, 3) := by decide +kernel
theorem dX10_isFull_4 : decode cX10_isFull 4 = .ok (.bipush 8, 2) := by decide +kernel
theorem dX10_isFull_6 : decode cX10_isFull 6 = .ok (.if_icmp .lt 7, 3) := by decide +kernel
theorem dX10_isFull_9 : decode cX10_isFull 9 = .ok (.iconst 1, 1) := by decide +kernel
theorem dX10_isFull_10 : decode cX10_isFull 10 = .ok (.goto 4, 3) := by decide +kernel
theorem dX10_isFull_13 : decode cX10_isFull 13 = .ok (.iconst 0, 1) := by decide +kernel
theorem dX10_isFull_14 : decode cX10_isFull 14 = .ok (.ireturn, 1) := by decide +kernel
theorem dX10_offer_0 : decode cX10_offer 0 = .ok (.aload_n 0, 1) := by decide +kernel
theorem dX10_offer_1 : decode cX10_offer 1 = .ok (.getfield 11, 3) := by decide +kernel
theorem dX10_offer_4 : decode cX10_offer 4 = .ok (.aload_n 0, 1) := by decide +kernel
theorem dX10_offer_5 : decode cX10_offer 5 = .ok (.getfield 41, 3) := by decide +kernel
theorem dX10_offer_8 : decode cX10_offer 8 = .ok (.iload_n 1, 1) := by decide +kernel
theorem dX10_offer_9 : decode cX10_offer 9 = .ok (.bastore, 1) := by decide +kernel
theorem dX10_offer_10 : decode cX10_offer 10 = .ok (.aload_n 0, 1) := by decide +kernel
theorem dX10_offer_11 : decode cX10_offer 11 = .ok (.getfield 15, 3) := by decide +kernel
theorem dX10_offer_14 : decode cX10_offer 14 = .ok (.aload_n 0, 1) := by decide +kernel
theorem dX10_offer_15 : decode cX10_offer 15 = .ok (.getfield 41, 3) := by decide +kernel
theorem dX10_offer_18 : decode cX10_offer 18 = .ok (.iload_n 2, 1) := by decide +kernel
theorem dX10_offer_19 : decode cX10_offer 19 = .ok (.iastore, 1) := by decide +kernel
theorem dX10_offer_20 : decode cX10_offer 20 = .ok (.aload_n 0, 1) := by decide +kernel
theorem dX10_offer_21 : decode cX10_offer 21 = .ok (.getfield 19, 3) := by decide +kernel
theorem dX10_offer_24 : decode cX10_offer 24 = .ok (.aload_n 0, 1) := by decide +kernel
theorem dX10_offer_25 : decode cX10_offer 25 = .ok (.getfield 41, 3) := by decide +kernel
theorem dX10_offer_28 : decode cX10_offer 28 = .ok (.iload_n 3, 1) := by decide +kernel
theorem dX10_offer_29 : decode cX10_offer 29 = .ok (.iastore, 1) := by decide +kernel
theorem dX10_offer_30 : decode cX10_offer 30 = .ok (.aload_n 0, 1) := by decide +kernel
theorem dX10_offer_31 : decode cX10_offer 31 = .ok (.dup, 1) := by decide +kernel
theorem dX10_offer_32 : decode cX10_offer 32 = .ok (.getfield 41, 3) := by decide +kernel
theorem dX10_offer_35 : decode cX10_offer 35 = .ok (.iconst 1, 1) := by decide +kernel
theorem dX10_offer_36 : decode cX10_offer 36 = .ok (.iadd, 1) := by decide +kernel
theorem dX10_offer_37 : decode cX10_offer 37 = .ok (.putfield 41, 3) := by decide +kernel
theorem dX10_offer_40 : decode cX10_offer 40 = .ok (.aload_n 0, 1) := by decide +kernel
theorem dX10_offer_41 : decode cX10_offer 41 = .ok (.getfield 41, 3) := by decide +kernel
theorem dX10_offer_44 : decode cX10_offer 44 = .ok (.ireturn, 1) := by decide +kernel
theorem dX10_clear_0 : decode cX10_clear 0 = .ok (.aload_n 0, 1) := by decide +kernel
theorem dX10_clear_1 : decode cX10_clear 1 = .ok (.getfield 41, 3) := by decide +kernel
theorem dX10_clear_4 : decode cX10_clear 4 = .ok (.istore_n 1, 1) := by decide +kernel
theorem dX10_clear_5 : decode cX10_clear 5 = .ok (.aload_n 0, 1) := by decide +kernel
theorem dX10_clear_6 : decode cX10_clear 6 = .ok (.iconst 0, 1) := by decide +kernel
theorem dX10_clear_7 : decode cX10_clear 7 = .ok (.putfield 41, 3) := by decide +kernel
theorem dX10_clear_10 : decode cX10_clear 10 = .ok (.iload_n 1, 1) := by decide +kernel
theorem dX10_clear_11 : decode cX10_clear 11 = .ok (.ireturn, 1) := by decide +kernel
theorem dX10_allBits_0 : decode cX10_allBits 0 = .ok (.iconst 1, 1) := by decide +kernel
theorem dX10_allBits_1 : decode cX10_allBits 1 = .ok (.aload_n 0, 1) := by decide +kernel
theorem dX10_allBits_2 : decode cX10_allBits 2 = .ok (.getfield 41, 3) := by decide +kernel
theorem dX10_allBits_5 : decode cX10_allBits 5 = .ok (.ishl, 1) := by decide +kernel
theorem dX10_allBits_6 : decode cX10_allBits 6 = .ok (.iconst 1, 1) := by decide +kernel
theorem dX10_allBits_7 : decode cX10_allBits 7 = .ok (.isub, 1) := by decide +kernel
theorem dX10_allBits_8 : decode cX10_allBits 8 = .ok (.ireturn, 1) := by decide +kernel
theorem dX10_outcome_0 : decode cX10_outcome 0 = .ok (.iload_n 2, 1) := by decide +kernel
theorem dX10_outcome_1 : decode cX10_outcome 1 = .ok (.iconst 2, 1) := by decide +kernel
theorem dX10_outcome_2 : decode cX10_outcome 2 = .ok (.if_icmp .ne 9, 3) := by decide +kernel
theorem dX10_outcome_5 : decode cX10_outcome 5 = .ok (.aload_n 0, 1) := by decide +kernel
theorem dX10_outcome_6 : decode cX10_outcome 6 = .ok (.iload_n 1, 1) := by decide +kernel
theorem dX10_outcome_7 : decode cX10_outcome 7 = .ok (.invokevirtual 45, 3) := by decide +kernel
theorem dX10_outcome_10 : decode cX10_outcome 10 = .ok (.ireturn, 1) := by decide +kernel
theorem dX10_outcome_11 : decode cX10_outcome 11 = .ok (.aload_n 0, 1) := by decide +kernel
theorem dX10_outcome_12 : decode cX10_outcome 12 = .ok (.getfield 37, 3) := by decide +kernel
theorem dX10_outcome_15 : decode cX10_outcome 15 = .ok (.invokevirtual 49, 3) := by decide +kernel
theorem dX10_outcome_18 : decode cX10_outcome 18 = .ok (.aload_n 0, 1) := by decide +kernel
theorem dX10_outcome_19 : decode cX10_outcome 19 = .ok (.aload_n 0, 1) := by decide +kernel
theorem dX10_outcome_20 : decode cX10_outcome 20 = .ok (.getfield 25, 3) := by decide +kernel
theorem dX10_outcome_23 : decode cX10_outcome 23 = .ok (.aload_n 0, 1) := by decide +kernel
theorem dX10_outcome_24 : decode cX10_outcome 24 = .ok (.getfield 33, 3) := by decide +kernel
theorem dX10_outcome_27 : decode cX10_outcome 27 = .ok (.getfield 54, 3) := by decide +kernel
theorem dX10_outcome_30 : decode cX10_outcome 30 = .ok (.invokevirtual 59, 3) := by decide +kernel
theorem dX10_outcome_33 : decode cX10_outcome 33 = .ok (.putfield 64, 3) := by decide +kernel
theorem dX10_outcome_36 : decode cX10_outcome 36 = .ok (.aload_n 0, 1) := by decide +kernel
theorem dX10_outcome_37 : decode cX10_outcome 37 = .ok (.iload_n 1, 1) := by decide +kernel
theorem dX10_outcome_38 : decode cX10_outcome 38 = .ok (.invokevirtual 66, 3) := by decide +kernel
theorem dX10_outcome_41 : decode cX10_outcome 41 = .ok (.iload_n 2, 1) := by decide +kernel
theorem dX10_outcome_42 : decode cX10_outcome 42 = .ok (.ifCond .ne 10, 3) := by decide +kernel
theorem dX10_outcome_45 : decode cX10_outcome 45 = .ok (.aload_n 0, 1) := by decide +kernel
theorem dX10_outcome_46 : decode cX10_outcome 46 = .ok (.getfield 70, 3) := by decide +kernel
theorem dX10_outcome_49 : decode cX10_outcome 49 = .ok (.goto 7, 3) := by decide +kernel
theorem dX10_outcome_52 : decode cX10_outcome 52 = .ok (.aload_n 0, 1) := by decide +kernel
theorem dX10_outcome_53 : decode cX10_outcome 53 = .ok (.getfield 73, 3) := by decide +kernel
theorem dX10_outcome_56 : decode cX10_outcome 56 = .ok (.ireturn, 1) := by decide +kernel
theorem dX10_bestWithin_0 : decode cX10_bestWithin 0 = .ok (.aload_n 0, 1) := by decide +kernel
theorem dX10_bestWithin_1 : decode cX10_bestWithin 1 = .ok (.getfield 37, 3) := by decide +kernel
theorem dX10_bestWithin_4 : decode cX10_bestWithin 4 = .ok (.invokevirtual 49, 3) := by decide +kernel
theorem dX10_bestWithin_7 : decode cX10_bestWithin 7 = .ok (.aload_n 0, 1) := by decide +kernel
theorem dX10_bestWithin_8 : decode cX10_bestWithin 8 = .ok (.aload_n 0, 1) := by decide +kernel
theorem dX10_bestWithin_9 : decode cX10_bestWithin 9 = .ok (.getfield 25, 3) := by decide +kernel
theorem dX10_bestWithin_12 : decode cX10_bestWithin 12 = .ok (.aload_n 0, 1) := by decide +kernel
theorem dX10_bestWithin_13 : decode cX10_bestWithin 13 = .ok (.getfield 33, 3) := by decide +kernel
theorem dX10_bestWithin_16 : decode cX10_bestWithin 16 = .ok (.getfield 54, 3) := by decide +kernel
theorem dX10_bestWithin_19 : decode cX10_bestWithin 19 = .ok (.invokevirtual 59, 3) := by decide +kernel
theorem dX10_bestWithin_22 : decode cX10_bestWithin 22 = .ok (.putfield 64, 3) := by decide +kernel
theorem dX10_bestWithin_25 : decode cX10_bestWithin 25 = .ok (.aload_n 0, 1) := by decide +kernel
theorem dX10_bestWithin_26 : decode cX10_bestWithin 26 = .ok (.iconst 0, 1) := by decide +kernel
theorem dX10_bestWithin_27 : decode cX10_bestWithin 27 = .ok (.invokevirtual 66, 3) := by decide +kernel
theorem dX10_bestWithin_30 : decode cX10_bestWithin 30 = .ok (.iconst 0, 1) := by decide +kernel
theorem dX10_bestWithin_31 : decode cX10_bestWithin 31 = .ok (.istore_n 2, 1) := by decide +kernel
theorem dX10_bestWithin_32 : decode cX10_bestWithin 32 = .ok (.aload_n 0, 1) := by decide +kernel
theorem dX10_bestWithin_33 : decode cX10_bestWithin 33 = .ok (.getfield 70, 3) := by decide +kernel
theorem dX10_bestWithin_36 : decode cX10_bestWithin 36 = .ok (.istore_n 3, 1) := by decide +kernel
theorem dX10_bestWithin_37 : decode cX10_bestWithin 37 = .ok (.aload_n 0, 1) := by decide +kernel
theorem dX10_bestWithin_38 : decode cX10_bestWithin 38 = .ok (.getfield 73, 3) := by decide +kernel
theorem dX10_bestWithin_41 : decode cX10_bestWithin 41 = .ok (.istore 4, 2) := by decide +kernel
theorem dX10_bestWithin_43 : decode cX10_bestWithin 43 = .ok (.iconst 1, 1) := by decide +kernel
theorem dX10_bestWithin_44 : decode cX10_bestWithin 44 = .ok (.istore 5, 2) := by decide +kernel
theorem dX10_bestWithin_46 : decode cX10_bestWithin 46 = .ok (.iload 5, 2) := by decide +kernel
theorem dX10_bestWithin_48 : decode cX10_bestWithin 48 = .ok (.aload_n 0, 1) := by decide +kernel
theorem dX10_bestWithin_49 : decode cX10_bestWithin 49 = .ok (.invokevirtual 76, 3) := by decide +kernel
theorem dX10_bestWithin_52 : decode cX10_bestWithin 52 = .ok (.if_icmp .gt 86, 3) := by decide +kernel
theorem dX10_bestWithin_55 : decode cX10_bestWithin 55 = .ok (.aload_n 0, 1) := by decide +kernel
theorem dX10_bestWithin_56 : decode cX10_bestWithin 56 = .ok (.iload 5, 2) := by decide +kernel
theorem dX10_bestWithin_58 : decode cX10_bestWithin 58 = .ok (.invokevirtual 45, 3) := by decide +kernel
theorem dX10_bestWithin_61 : decode cX10_bestWithin 61 = .ok (.iload_n 1, 1) := by decide +kernel
theorem dX10_bestWithin_62 : decode cX10_bestWithin 62 = .ok (.if_icmp .le 6, 3) := by decide +kernel
theorem dX10_bestWithin_65 : decode cX10_bestWithin 65 = .ok (.goto 67, 3) := by decide +kernel
theorem dX10_bestWithin_68 : decode cX10_bestWithin 68 = .ok (.aload_n 0, 1) := by decide +kernel
theorem dX10_bestWithin_69 : decode cX10_bestWithin 69 = .ok (.iload 5, 2) := by decide +kernel
theorem dX10_bestWithin_71 : decode cX10_bestWithin 71 = .ok (.invokevirtual 66, 3) := by decide +kernel
theorem dX10_bestWithin_74 : decode cX10_bestWithin 74 = .ok (.aload_n 0, 1) := by decide +kernel
theorem dX10_bestWithin_75 : decode cX10_bestWithin 75 = .ok (.getfield 70, 3) := by decide +kernel
theorem dX10_bestWithin_78 : decode cX10_bestWithin 78 = .ok (.iload_n 3, 1) := by decide +kernel
theorem dX10_bestWithin_79 : decode cX10_bestWithin 79 = .ok (.if_icmp .gt 39, 3) := by decide +kernel
theorem dX10_bestWithin_82 : decode cX10_bestWithin 82 = .ok (.aload_n 0, 1) := by decide +kernel
theorem dX10_bestWithin_83 : decode cX10_bestWithin 83 = .ok (.getfield 70, 3) := by decide +kernel
theorem dX10_bestWithin_86 : decode cX10_bestWithin 86 = .ok (.iload_n 3, 1) := by decide +kernel
theorem dX10_bestWithin_87 : decode cX10_bestWithin 87 = .ok (.if_icmp .ne 45, 3) := by decide +kernel
theorem dX10_bestWithin_90 : decode cX10_bestWithin 90 = .ok (.aload_n 0, 1) := by decide +kernel
theorem dX10_bestWithin_91 : decode cX10_bestWithin 91 = .ok (.getfield 73, 3) := by decide +kernel
theorem dX10_bestWithin_94 : decode cX10_bestWithin 94 = .ok (.iload 4, 2) := by decide +kernel
theorem dX10_bestWithin_96 : decode cX10_bestWithin 96 = .ok (.if_icmp .gt 22, 3) := by decide +kernel
theorem dX10_bestWithin_99 : decode cX10_bestWithin 99 = .ok (.aload_n 0, 1) := by decide +kernel
theorem dX10_bestWithin_100 : decode cX10_bestWithin 100 = .ok (.getfield 73, 3) := by decide +kernel
theorem dX10_bestWithin_103 : decode cX10_bestWithin 103 = .ok (.iload 4, 2) := by decide +kernel
theorem dX10_bestWithin_105 : decode cX10_bestWithin 105 = .ok (.if_icmp .ne 27, 3) := by decide +kernel
theorem dX10_bestWithin_108 : decode cX10_bestWithin 108 = .ok (.aload_n 0, 1) := by decide +kernel
theorem dX10_bestWithin_109 : decode cX10_bestWithin 109 = .ok (.iload 5, 2) := by decide +kernel
theorem dX10_bestWithin_111 : decode cX10_bestWithin 111 = .ok (.iload_n 2, 1) := by decide +kernel
theorem dX10_bestWithin_112 : decode cX10_bestWithin 112 = .ok (.invokevirtual 80, 3) := by decide +kernel
theorem dX10_bestWithin_115 : decode cX10_bestWithin 115 = .ok (.ifCond .eq 17, 3) := by decide +kernel
theorem dX10_bestWithin_118 : decode cX10_bestWithin 118 = .ok (.iload 5, 2) := by decide +kernel
theorem dX10_bestWithin_120 : decode cX10_bestWithin 120 = .ok (.istore_n 2, 1) := by decide +kernel
theorem dX10_bestWithin_121 : decode cX10_bestWithin 121 = .ok (.aload_n 0, 1) := by decide +kernel
theorem dX10_bestWithin_122 : decode cX10_bestWithin 122 = .ok (.getfield 70, 3) := by decide +kernel
theorem dX10_bestWithin_125 : decode cX10_bestWithin 125 = .ok (.istore_n 3, 1) := by decide +kernel
theorem dX10_bestWithin_126 : decode cX10_bestWithin 126 = .ok (.aload_n 0, 1) := by decide +kernel
theorem dX10_bestWithin_127 : decode cX10_bestWithin 127 = .ok (.getfield 73, 3) := by decide +kernel
theorem dX10_bestWithin_130 : decode cX10_bestWithin 130 = .ok (.istore 4, 2) := by decide +kernel
theorem dX10_bestWithin_132 : decode cX10_bestWithin 132 = .ok (.iinc 5 1, 3) := by decide +kernel
theorem dX10_bestWithin_135 : decode cX10_bestWithin 135 = .ok (.goto (-89), 3) := by decide +kernel
theorem dX10_bestWithin_138 : decode cX10_bestWithin 138 = .ok (.iload_n 2, 1) := by decide +kernel
theorem dX10_bestWithin_139 : decode cX10_bestWithin 139 = .ok (.ireturn, 1) := by decide +kernel
theorem dX10_isCheaper_0 : decode cX10_isCheaper 0 = .ok (.aload_n 0, 1) := by decide +kernel
theorem dX10_isCheaper_1 : decode cX10_isCheaper 1 = .ok (.iload_n 2, 1) := by decide +kernel
theorem dX10_isCheaper_2 : decode cX10_isCheaper 2 = .ok (.invokevirtual 45, 3) := by decide +kernel
theorem dX10_isCheaper_5 : decode cX10_isCheaper 5 = .ok (.aload_n 0, 1) := by decide +kernel
theorem dX10_isCheaper_6 : decode cX10_isCheaper 6 = .ok (.iload_n 1, 1) := by decide +kernel
theorem dX10_isCheaper_7 : decode cX10_isCheaper 7 = .ok (.invokevirtual 45, 3) := by decide +kernel
theorem dX10_isCheaper_10 : decode cX10_isCheaper 10 = .ok (.isub, 1) := by decide +kernel
theorem dX10_isCheaper_11 : decode cX10_isCheaper 11 = .ok (.istore_n 3, 1) := by decide +kernel
theorem dX10_isCheaper_12 : decode cX10_isCheaper 12 = .ok (.iload_n 3, 1) := by decide +kernel
theorem dX10_isCheaper_13 : decode cX10_isCheaper 13 = .ok (.ifCond .gt 18, 3) := by decide +kernel
theorem dX10_isCheaper_16 : decode cX10_isCheaper 16 = .ok (.iload_n 3, 1) := by decide +kernel
theorem dX10_isCheaper_17 : decode cX10_isCheaper 17 = .ok (.ifCond .ne 18, 3) := by decide +kernel
theorem dX10_isCheaper_20 : decode cX10_isCheaper 20 = .ok (.iload_n 1, 1) := by decide +kernel
theorem dX10_isCheaper_21 : decode cX10_isCheaper 21 = .ok (.invokestatic 84, 3) := by decide +kernel
theorem dX10_isCheaper_24 : decode cX10_isCheaper 24 = .ok (.iload_n 2, 1) := by decide +kernel
theorem dX10_isCheaper_25 : decode cX10_isCheaper 25 = .ok (.invokestatic 84, 3) := by decide +kernel
theorem dX10_isCheaper_28 : decode cX10_isCheaper 28 = .ok (.if_icmp .ge 7, 3) := by decide +kernel
theorem dX10_isCheaper_31 : decode cX10_isCheaper 31 = .ok (.iconst 1, 1) := by decide +kernel
theorem dX10_isCheaper_32 : decode cX10_isCheaper 32 = .ok (.goto 4, 3) := by decide +kernel
theorem dX10_isCheaper_35 : decode cX10_isCheaper 35 = .ok (.iconst 0, 1) := by decide +kernel
theorem dX10_isCheaper_36 : decode cX10_isCheaper 36 = .ok (.ireturn, 1) := by decide +kernel
theorem dX10_priceOf_0 : decode cX10_priceOf 0 = .ok (.iconst 0, 1) := by decide +kernel
theorem dX10_priceOf_1 : decode cX10_priceOf 1 = .ok (.istore_n 2, 1) := by decide +kernel
theorem dX10_priceOf_2 : decode cX10_priceOf 2 = .ok (.iconst 0, 1) := by decide +kernel
theorem dX10_priceOf_3 : decode cX10_priceOf 3 = .ok (.istore_n 3, 1) := by decide +kernel
theorem dX10_priceOf_4 : decode cX10_priceOf 4 = .ok (.iload_n 3, 1) := by decide +kernel
theorem dX10_priceOf_5 : decode cX10_priceOf 5 = .ok (.aload_n 0, 1) := by decide +kernel
theorem dX10_priceOf_6 : decode cX10_priceOf 6 = .ok (.getfield 41, 3) := by decide +kernel
theorem dX10_priceOf_9 : decode cX10_priceOf 9 = .ok (.if_icmp .ge 26, 3) := by decide +kernel
theorem dX10_priceOf_12 : decode cX10_priceOf 12 = .ok (.iload_n 1, 1) := by decide +kernel
theorem dX10_priceOf_13 : decode cX10_priceOf 13 = .ok (.iload_n 3, 1) := by decide +kernel
theorem dX10_priceOf_14 : decode cX10_priceOf 14 = .ok (.ishr, 1) := by decide +kernel
theorem dX10_priceOf_15 : decode cX10_priceOf 15 = .ok (.iconst 1, 1) := by decide +kernel
theorem dX10_priceOf_16 : decode cX10_priceOf 16 = .ok (.iand, 1) := by decide +kernel
theorem dX10_priceOf_17 : decode cX10_priceOf 17 = .ok (.ifCond .eq 12, 3) := by decide +kernel
theorem dX10_priceOf_20 : decode cX10_priceOf 20 = .ok (.iload_n 2, 1) := by decide +kernel
theorem dX10_priceOf_21 : decode cX10_priceOf 21 = .ok (.aload_n 0, 1) := by decide +kernel
theorem dX10_priceOf_22 : decode cX10_priceOf 22 = .ok (.getfield 19, 3) := by decide +kernel
theorem dX10_priceOf_25 : decode cX10_priceOf 25 = .ok (.iload_n 3, 1) := by decide +kernel
theorem dX10_priceOf_26 : decode cX10_priceOf 26 = .ok (.iaload, 1) := by decide +kernel
theorem dX10_priceOf_27 : decode cX10_priceOf 27 = .ok (.iadd, 1) := by decide +kernel
theorem dX10_priceOf_28 : decode cX10_priceOf 28 = .ok (.istore_n 2, 1) := by decide +kernel
theorem dX10_priceOf_29 : decode cX10_priceOf 29 = .ok (.iinc 3 1, 3) := by decide +kernel
theorem dX10_priceOf_32 : decode cX10_priceOf 32 = .ok (.goto (-28), 3) := by decide +kernel
theorem dX10_priceOf_35 : decode cX10_priceOf 35 = .ok (.iload_n 2, 1) := by decide +kernel
theorem dX10_priceOf_36 : decode cX10_priceOf 36 = .ok (.ireturn, 1) := by decide +kernel
theorem dX10_goThrough_0 : decode cX10_goThrough 0 = .ok (.iconst 0, 1) := by decide +kernel
theorem dX10_goThrough_1 : decode cX10_goThrough 1 = .ok (.istore_n 2, 1) := by decide +kernel
theorem dX10_goThrough_2 : decode cX10_goThrough 2 = .ok (.iload_n 2, 1) := by decide +kernel
theorem dX10_goThrough_3 : decode cX10_goThrough 3 = .ok (.bipush 6, 2) := by decide +kernel
theorem dX10_goThrough_5 : decode cX10_goThrough 5 = .ok (.if_icmp .ge 16, 3) := by decide +kernel
theorem dX10_goThrough_8 : decode cX10_goThrough 8 = .ok (.aload_n 0, 1) := by decide +kernel
theorem dX10_goThrough_9 : decode cX10_goThrough 9 = .ok (.getfield 22, 3) := by decide +kernel
theorem dX10_goThrough_12 : decode cX10_goThrough 12 = .ok (.iload_n 2, 1) := by decide +kernel
theorem dX10_goThrough_13 : decode cX10_goThrough 13 = .ok (.iconst 0, 1) := by decide +kernel
theorem dX10_goThrough_14 : decode cX10_goThrough 14 = .ok (.iastore, 1) := by decide +kernel
theorem dX10_goThrough_15 : decode cX10_goThrough 15 = .ok (.iinc 2 1, 3) := by decide +kernel
theorem dX10_goThrough_18 : decode cX10_goThrough 18 = .ok (.goto (-16), 3) := by decide +kernel
theorem dX10_goThrough_21 : decode cX10_goThrough 21 = .ok (.aload_n 0, 1) := by decide +kernel
theorem dX10_goThrough_22 : decode cX10_goThrough 22 = .ok (.iconst 0, 1) := by decide +kernel
theorem dX10_goThrough_23 : decode cX10_goThrough 23 = .ok (.putfield 70, 3) := by decide +kernel
theorem dX10_goThrough_26 : decode cX10_goThrough 26 = .ok (.lconst 0, 1) := by decide +kernel
theorem dX10_goThrough_27 : decode cX10_goThrough 27 = .ok (.lstore_n 2, 1) := by decide +kernel
theorem dX10_goThrough_28 : decode cX10_goThrough 28 = .ok (.iconst 0, 1) := by decide +kernel
theorem dX10_goThrough_29 : decode cX10_goThrough 29 = .ok (.istore 4, 2) := by decide +kernel
theorem dX10_goThrough_31 : decode cX10_goThrough 31 = .ok (.iload 4, 2) := by decide +kernel
theorem dX10_goThrough_33 : decode cX10_goThrough 33 = .ok (.aload_n 0, 1) := by decide +kernel
theorem dX10_goThrough_34 : decode cX10_goThrough 34 = .ok (.getfield 41, 3) := by decide +kernel
theorem dX10_goThrough_37 : decode cX10_goThrough 37 = .ok (.if_icmp .ge 109, 3) := by decide +kernel
theorem dX10_goThrough_40 : decode cX10_goThrough 40 = .ok (.iload_n 1, 1) := by decide +kernel
theorem dX10_goThrough_41 : decode cX10_goThrough 41 = .ok (.iload 4, 2) := by decide +kernel
theorem dX10_goThrough_43 : decode cX10_goThrough 43 = .ok (.ishr, 1) := by decide +kernel
theorem dX10_goThrough_44 : decode cX10_goThrough 44 = .ok (.iconst 1, 1) := by decide +kernel
theorem dX10_goThrough_45 : decode cX10_goThrough 45 = .ok (.iand, 1) := by decide +kernel
theorem dX10_goThrough_46 : decode cX10_goThrough 46 = .ok (.ifCond .ne 6, 3) := by decide +kernel
theorem dX10_goThrough_49 : decode cX10_goThrough 49 = .ok (.goto 91, 3) := by decide +kernel
theorem dX10_goThrough_52 : decode cX10_goThrough 52 = .ok (.aload_n 0, 1) := by decide +kernel
theorem dX10_goThrough_53 : decode cX10_goThrough 53 = .ok (.getfield 11, 3) := by decide +kernel
theorem dX10_goThrough_56 : decode cX10_goThrough 56 = .ok (.iload 4, 2) := by decide +kernel
theorem dX10_goThrough_58 : decode cX10_goThrough 58 = .ok (.baload, 1) := by decide +kernel
theorem dX10_goThrough_59 : decode cX10_goThrough 59 = .ok (.ifCond .ne 22, 3) := by decide +kernel
theorem dX10_goThrough_62 : decode cX10_goThrough 62 = .ok (.aload_n 0, 1) := by decide +kernel
theorem dX10_goThrough_63 : decode cX10_goThrough 63 = .ok (.getfield 22, 3) := by decide +kernel
theorem dX10_goThrough_66 : decode cX10_goThrough 66 = .ok (.aload_n 0, 1) := by decide +kernel
theorem dX10_goThrough_67 : decode cX10_goThrough 67 = .ok (.getfield 15, 3) := by decide +kernel
theorem dX10_goThrough_70 : decode cX10_goThrough 70 = .ok (.iload 4, 2) := by decide +kernel
theorem dX10_goThrough_72 : decode cX10_goThrough 72 = .ok (.iaload, 1) := by decide +kernel
theorem dX10_goThrough_73 : decode cX10_goThrough 73 = .ok (.dup2, 1) := by decide +kernel
theorem dX10_goThrough_74 : decode cX10_goThrough 74 = .ok (.iaload, 1) := by decide +kernel
theorem dX10_goThrough_75 : decode cX10_goThrough 75 = .ok (.iconst 1, 1) := by decide +kernel
theorem dX10_goThrough_76 : decode cX10_goThrough 76 = .ok (.iadd, 1) := by decide +kernel
theorem dX10_goThrough_77 : decode cX10_goThrough 77 = .ok (.iastore, 1) := by decide +kernel
theorem dX10_goThrough_78 : decode cX10_goThrough 78 = .ok (.goto 62, 3) := by decide +kernel
theorem dX10_goThrough_81 : decode cX10_goThrough 81 = .ok (.lload_n 2, 1) := by decide +kernel
theorem dX10_goThrough_82 : decode cX10_goThrough 82 = .ok (.aload_n 0, 1) := by decide +kernel
theorem dX10_goThrough_83 : decode cX10_goThrough 83 = .ok (.getfield 15, 3) := by decide +kernel
theorem dX10_goThrough_86 : decode cX10_goThrough 86 = .ok (.iload 4, 2) := by decide +kernel
theorem dX10_goThrough_88 : decode cX10_goThrough 88 = .ok (.iaload, 1) := by decide +kernel
theorem dX10_goThrough_89 : decode cX10_goThrough 89 = .ok (.lshr, 1) := by decide +kernel
theorem dX10_goThrough_90 : decode cX10_goThrough 90 = .ok (.lconst 1, 1) := by decide +kernel
theorem dX10_goThrough_91 : decode cX10_goThrough 91 = .ok (.land, 1) := by decide +kernel
theorem dX10_goThrough_92 : decode cX10_goThrough 92 = .ok (.lconst 0, 1) := by decide +kernel
theorem dX10_goThrough_93 : decode cX10_goThrough 93 = .ok (.lcmp, 1) := by decide +kernel
theorem dX10_goThrough_94 : decode cX10_goThrough 94 = .ok (.ifCond .ne 46, 3) := by decide +kernel
theorem dX10_goThrough_97 : decode cX10_goThrough 97 = .ok (.aload_n 0, 1) := by decide +kernel
theorem dX10_goThrough_98 : decode cX10_goThrough 98 = .ok (.aload_n 0, 1) := by decide +kernel
theorem dX10_goThrough_99 : decode cX10_goThrough 99 = .ok (.getfield 29, 3) := by decide +kernel
theorem dX10_goThrough_102 : decode cX10_goThrough 102 = .ok (.aload_n 0, 1) := by decide +kernel
theorem dX10_goThrough_103 : decode cX10_goThrough 103 = .ok (.getfield 15, 3) := by decide +kernel
theorem dX10_goThrough_106 : decode cX10_goThrough 106 = .ok (.iload 4, 2) := by decide +kernel
theorem dX10_goThrough_108 : decode cX10_goThrough 108 = .ok (.iaload, 1) := by decide +kernel
theorem dX10_goThrough_109 : decode cX10_goThrough 109 = .ok (.invokevirtual 89, 3) := by decide +kernel
theorem dX10_goThrough_112 : decode cX10_goThrough 112 = .ok (.invokevirtual 95, 3) := by decide +kernel
theorem dX10_goThrough_115 : decode cX10_goThrough 115 = .ok (.ifCond .eq 25, 3) := by decide +kernel
theorem dX10_goThrough_118 : decode cX10_goThrough 118 = .ok (.lload_n 2, 1) := by decide +kernel
theorem dX10_goThrough_119 : decode cX10_goThrough 119 = .ok (.lconst 1, 1) := by decide +kernel
theorem dX10_goThrough_120 : decode cX10_goThrough 120 = .ok (.aload_n 0, 1) := by decide +kernel
theorem dX10_goThrough_121 : decode cX10_goThrough 121 = .ok (.getfield 15, 3) := by decide +kernel
theorem dX10_goThrough_124 : decode cX10_goThrough 124 = .ok (.iload 4, 2) := by decide +kernel
theorem dX10_goThrough_126 : decode cX10_goThrough 126 = .ok (.iaload, 1) := by decide +kernel
theorem dX10_goThrough_127 : decode cX10_goThrough 127 = .ok (.lshl, 1) := by decide +kernel
theorem dX10_goThrough_128 : decode cX10_goThrough 128 = .ok (.lor, 1) := by decide +kernel
theorem dX10_goThrough_129 : decode cX10_goThrough 129 = .ok (.lstore_n 2, 1) := by decide +kernel
theorem dX10_goThrough_130 : decode cX10_goThrough 130 = .ok (.aload_n 0, 1) := by decide +kernel
theorem dX10_goThrough_131 : decode cX10_goThrough 131 = .ok (.dup, 1) := by decide +kernel
theorem dX10_goThrough_132 : decode cX10_goThrough 132 = .ok (.getfield 70, 3) := by decide +kernel
theorem dX10_goThrough_135 : decode cX10_goThrough 135 = .ok (.iconst 1, 1) := by decide +kernel
theorem dX10_goThrough_136 : decode cX10_goThrough 136 = .ok (.iadd, 1) := by decide +kernel
theorem dX10_goThrough_137 : decode cX10_goThrough 137 = .ok (.putfield 70, 3) := by decide +kernel
theorem dX10_goThrough_140 : decode cX10_goThrough 140 = .ok (.iinc 4 1, 3) := by decide +kernel
theorem dX10_goThrough_143 : decode cX10_goThrough 143 = .ok (.goto (-112), 3) := by decide +kernel
theorem dX10_goThrough_146 : decode cX10_goThrough 146 = .ok (.aload_n 0, 1) := by decide +kernel
theorem dX10_goThrough_147 : decode cX10_goThrough 147 = .ok (.aload_n 0, 1) := by decide +kernel
theorem dX10_goThrough_148 : decode cX10_goThrough 148 = .ok (.getfield 70, 3) := by decide +kernel
theorem dX10_goThrough_151 : decode cX10_goThrough 151 = .ok (.ineg, 1) := by decide +kernel
theorem dX10_goThrough_152 : decode cX10_goThrough 152 = .ok (.putfield 73, 3) := by decide +kernel
theorem dX10_goThrough_155 : decode cX10_goThrough 155 = .ok (.iconst 0, 1) := by decide +kernel
theorem dX10_goThrough_156 : decode cX10_goThrough 156 = .ok (.istore 4, 2) := by decide +kernel
theorem dX10_goThrough_158 : decode cX10_goThrough 158 = .ok (.iload 4, 2) := by decide +kernel
theorem dX10_goThrough_160 : decode cX10_goThrough 160 = .ok (.bipush 6, 2) := by decide +kernel
theorem dX10_goThrough_162 : decode cX10_goThrough 162 = .ok (.if_icmp .ge 34, 3) := by decide +kernel
theorem dX10_goThrough_165 : decode cX10_goThrough 165 = .ok (.aload_n 0, 1) := by decide +kernel
theorem dX10_goThrough_166 : decode cX10_goThrough 166 = .ok (.dup, 1) := by decide +kernel
theorem dX10_goThrough_167 : decode cX10_goThrough 167 = .ok (.getfield 73, 3) := by decide +kernel
theorem dX10_goThrough_170 : decode cX10_goThrough 170 = .ok (.aload_n 0, 1) := by decide +kernel
theorem dX10_goThrough_171 : decode cX10_goThrough 171 = .ok (.getfield 37, 3) := by decide +kernel
theorem dX10_goThrough_174 : decode cX10_goThrough 174 = .ok (.iload 4, 2) := by decide +kernel
theorem dX10_goThrough_176 : decode cX10_goThrough 176 = .ok (.aload_n 0, 1) := by decide +kernel
theorem dX10_goThrough_177 : decode cX10_goThrough 177 = .ok (.getfield 22, 3) := by decide +kernel
theorem dX10_goThrough_180 : decode cX10_goThrough 180 = .ok (.iload 4, 2) := by decide +kernel
theorem dX10_goThrough_182 : decode cX10_goThrough 182 = .ok (.iaload, 1) := by decide +kernel
theorem dX10_goThrough_183 : decode cX10_goThrough 183 = .ok (.invokevirtual 99, 3) := by decide +kernel
theorem dX10_goThrough_186 : decode cX10_goThrough 186 = .ok (.iadd, 1) := by decide +kernel
theorem dX10_goThrough_187 : decode cX10_goThrough 187 = .ok (.putfield 73, 3) := by decide +kernel
theorem dX10_goThrough_190 : decode cX10_goThrough 190 = .ok (.iinc 4 1, 3) := by decide +kernel
theorem dX10_goThrough_193 : decode cX10_goThrough 193 = .ok (.goto (-35), 3) := by decide +kernel
theorem dX10_goThrough_196 : decode cX10_goThrough 196 = .ok (.return_, 1) := by decide +kernel
theorem dX10_arrives_0 : decode cX10_arrives 0 = .ok (.aload_n 1, 1) := by decide +kernel
theorem dX10_arrives_1 : decode cX10_arrives 1 = .ok (.invokevirtual 103, 3) := by decide +kernel
theorem dX10_arrives_4 : decode cX10_arrives 4 = .ok (.ifCond .eq 13, 3) := by decide +kernel
theorem dX10_arrives_7 : decode cX10_arrives 7 = .ok (.aload_n 1, 1) := by decide +kernel
theorem dX10_arrives_8 : decode cX10_arrives 8 = .ok (.getfield 109, 3) := by decide +kernel
theorem dX10_arrives_11 : decode cX10_arrives 11 = .ok (.invokestatic 112, 3) := by decide +kernel
theorem dX10_arrives_14 : decode cX10_arrives 14 = .ok (.ifCond .ne 5, 3) := by decide +kernel
theorem dX10_arrives_17 : decode cX10_arrives 17 = .ok (.iconst 0, 1) := by decide +kernel
theorem dX10_arrives_18 : decode cX10_arrives 18 = .ok (.ireturn, 1) := by decide +kernel
theorem dX10_arrives_19 : decode cX10_arrives 19 = .ok (.aload_n 1, 1) := by decide +kernel
theorem dX10_arrives_20 : decode cX10_arrives 20 = .ok (.aload_n 0, 1) := by decide +kernel
theorem dX10_arrives_21 : decode cX10_arrives 21 = .ok (.getfield 22, 3) := by decide +kernel
theorem dX10_arrives_24 : decode cX10_arrives 24 = .ok (.aload_n 1, 1) := by decide +kernel
theorem dX10_arrives_25 : decode cX10_arrives 25 = .ok (.getfield 109, 3) := by decide +kernel
theorem dX10_arrives_28 : decode cX10_arrives 28 = .ok (.iaload, 1) := by decide +kernel
theorem dX10_arrives_29 : decode cX10_arrives 29 = .ok (.invokevirtual 116, 3) := by decide +kernel
theorem dX10_arrives_32 : decode cX10_arrives 32 = .ok (.istore_n 2, 1) := by decide +kernel
theorem dX10_arrives_33 : decode cX10_arrives 33 = .ok (.aload_n 0, 1) := by decide +kernel
theorem dX10_arrives_34 : decode cX10_arrives 34 = .ok (.getfield 25, 3) := by decide +kernel
theorem dX10_arrives_37 : decode cX10_arrives 37 = .ok (.aload_n 1, 1) := by decide +kernel
theorem dX10_arrives_38 : decode cX10_arrives 38 = .ok (.getfield 119, 3) := by decide +kernel
theorem dX10_arrives_41 : decode cX10_arrives 41 = .ok (.iload_n 2, 1) := by decide +kernel
theorem dX10_arrives_42 : decode cX10_arrives 42 = .ok (.aload_n 0, 1) := by decide +kernel
theorem dX10_arrives_43 : decode cX10_arrives 43 = .ok (.getfield 64, 3) := by decide +kernel
theorem dX10_arrives_46 : decode cX10_arrives 46 = .ok (.aload_n 0, 1) := by decide +kernel
theorem dX10_arrives_47 : decode cX10_arrives 47 = .ok (.getfield 33, 3) := by decide +kernel
theorem dX10_arrives_50 : decode cX10_arrives 50 = .ok (.getfield 54, 3) := by decide +kernel
theorem dX10_arrives_53 : decode cX10_arrives 53 = .ok (.invokevirtual 122, 3) := by decide +kernel
theorem dX10_arrives_56 : decode cX10_arrives 56 = .ok (.ifCond .ne 7, 3) := by decide +kernel
theorem dX10_arrives_59 : decode cX10_arrives 59 = .ok (.iconst 1, 1) := by decide +kernel
theorem dX10_arrives_60 : decode cX10_arrives 60 = .ok (.goto 4, 3) := by decide +kernel
theorem dX10_arrives_63 : decode cX10_arrives 63 = .ok (.iconst 0, 1) := by decide +kernel
theorem dX10_arrives_64 : decode cX10_arrives 64 = .ok (.ireturn, 1) := by decide +kernel
theorem dX11_init_0 : decode cX11_init 0 = .ok (.aload_n 0, 1) := by decide +kernel
theorem dX11_init_1 : decode cX11_init 1 = .ok (.invokespecial 1, 3) := by decide +kernel
theorem dX11_init_4 : decode cX11_init 4 = .ok (.aload_n 0, 1) := by decide +kernel
theorem dX11_init_5 : decode cX11_init 5 = .ok (.new 7, 3) := by decide +kernel
theorem dX11_init_8 : decode cX11_init 8 = .ok (.dup, 1) := by decide +kernel
theorem dX11_init_9 : decode cX11_init 9 = .ok (.invokespecial 9, 3) := by decide +kernel
theorem dX11_init_12 : decode cX11_init 12 = .ok (.putfield 10, 3) := by decide +kernel
theorem dX11_init_15 : decode cX11_init 15 = .ok (.aload_n 0, 1) := by decide +kernel
theorem dX11_init_16 : decode cX11_init 16 = .ok (.new 16, 3) := by decide +kernel
theorem dX11_init_19 : decode cX11_init 19 = .ok (.dup, 1) := by decide +kernel
theorem dX11_init_20 : decode cX11_init 20 = .ok (.invokespecial 18, 3) := by decide +kernel
theorem dX11_init_23 : decode cX11_init 23 = .ok (.putfield 19, 3) := by decide +kernel
theorem dX11_init_26 : decode cX11_init 26 = .ok (.aload_n 0, 1) := by decide +kernel
theorem dX11_init_27 : decode cX11_init 27 = .ok (.new 23, 3) := by decide +kernel
theorem dX11_init_30 : decode cX11_init 30 = .ok (.dup, 1) := by decide +kernel
theorem dX11_init_31 : decode cX11_init 31 = .ok (.invokespecial 25, 3) := by decide +kernel
theorem dX11_init_34 : decode cX11_init 34 = .ok (.putfield 26, 3) := by decide +kernel
theorem dX11_init_37 : decode cX11_init 37 = .ok (.aload_n 0, 1) := by decide +kernel
theorem dX11_init_38 : decode cX11_init 38 = .ok (.new 30, 3) := by decide +kernel
theorem dX11_init_41 : decode cX11_init 41 = .ok (.dup, 1) := by decide +kernel
theorem dX11_init_42 : decode cX11_init 42 = .ok (.aload_n 0, 1) := by decide +kernel
theorem dX11_init_43 : decode cX11_init 43 = .ok (.getfield 19, 3) := by decide +kernel
theorem dX11_init_46 : decode cX11_init 46 = .ok (.aload_n 0, 1) := by decide +kernel
theorem dX11_init_47 : decode cX11_init 47 = .ok (.getfield 26, 3) := by decide +kernel
theorem dX11_init_50 : decode cX11_init 50 = .ok (.aload_n 0, 1) := by decide +kernel
theorem dX11_init_51 : decode cX11_init 51 = .ok (.getfield 10, 3) := by decide +kernel
theorem dX11_init_54 : decode cX11_init 54 = .ok (.invokespecial 32, 3) := by decide +kernel
theorem dX11_init_57 : decode cX11_init 57 = .ok (.putfield 35, 3) := by decide +kernel
theorem dX11_init_60 : decode cX11_init 60 = .ok (.aload_n 0, 1) := by decide +kernel
theorem dX11_init_61 : decode cX11_init 61 = .ok (.new 39, 3) := by decide +kernel
theorem dX11_init_64 : decode cX11_init 64 = .ok (.dup, 1) := by decide +kernel
theorem dX11_init_65 : decode cX11_init 65 = .ok (.invokespecial 41, 3) := by decide +kernel
theorem dX11_init_68 : decode cX11_init 68 = .ok (.putfield 42, 3) := by decide +kernel
theorem dX11_init_71 : decode cX11_init 71 = .ok (.aload_n 0, 1) := by decide +kernel
theorem dX11_init_72 : decode cX11_init 72 = .ok (.new 46, 3) := by decide +kernel
theorem dX11_init_75 : decode cX11_init 75 = .ok (.dup, 1) := by decide +kernel
theorem dX11_init_76 : decode cX11_init 76 = .ok (.aload_n 0, 1) := by decide +kernel
theorem dX11_init_77 : decode cX11_init 77 = .ok (.getfield 19, 3) := by decide +kernel
theorem dX11_init_80 : decode cX11_init 80 = .ok (.aload_n 0, 1) := by decide +kernel
theorem dX11_init_81 : decode cX11_init 81 = .ok (.getfield 26, 3) := by decide +kernel
theorem dX11_init_84 : decode cX11_init 84 = .ok (.aload_n 0, 1) := by decide +kernel
theorem dX11_init_85 : decode cX11_init 85 = .ok (.getfield 10, 3) := by decide +kernel
theorem dX11_init_88 : decode cX11_init 88 = .ok (.invokespecial 48, 3) := by decide +kernel
theorem dX11_init_91 : decode cX11_init 91 = .ok (.putfield 49, 3) := by decide +kernel
theorem dX11_init_94 : decode cX11_init 94 = .ok (.aload_n 0, 1) := by decide +kernel
theorem dX11_init_95 : decode cX11_init 95 = .ok (.new 53, 3) := by decide +kernel
theorem dX11_init_98 : decode cX11_init 98 = .ok (.dup, 1) := by decide +kernel
theorem dX11_init_99 : decode cX11_init 99 = .ok (.aload_n 0, 1) := by decide +kernel
theorem dX11_init_100 : decode cX11_init 100 = .ok (.getfield 19, 3) := by decide +kernel
theorem dX11_init_103 : decode cX11_init 103 = .ok (.aload_n 0, 1) := by decide +kernel
theorem dX11_init_104 : decode cX11_init 104 = .ok (.getfield 26, 3) := by decide +kernel
theorem dX11_init_107 : decode cX11_init 107 = .ok (.aload_n 0, 1) := by decide +kernel
theorem dX11_init_108 : decode cX11_init 108 = .ok (.getfield 10, 3) := by decide +kernel
theorem dX11_init_111 : decode cX11_init 111 = .ok (.aload_n 0, 1) := by decide +kernel
theorem dX11_init_112 : decode cX11_init 112 = .ok (.getfield 49, 3) := by decide +kernel
theorem dX11_init_115 : decode cX11_init 115 = .ok (.invokespecial 55, 3) := by decide +kernel
theorem dX11_init_118 : decode cX11_init 118 = .ok (.putfield 58, 3) := by decide +kernel
theorem dX11_init_121 : decode cX11_init 121 = .ok (.aload_n 0, 1) := by decide +kernel
theorem dX11_init_122 : decode cX11_init 122 = .ok (.new 62, 3) := by decide +kernel
theorem dX11_init_125 : decode cX11_init 125 = .ok (.dup, 1) := by decide +kernel
theorem dX11_init_126 : decode cX11_init 126 = .ok (.aload_n 0, 1) := by decide +kernel
theorem dX11_init_127 : decode cX11_init 127 = .ok (.getfield 26, 3) := by decide +kernel
theorem dX11_init_130 : decode cX11_init 130 = .ok (.aload_n 0, 1) := by decide +kernel
theorem dX11_init_131 : decode cX11_init 131 = .ok (.getfield 10, 3) := by decide +kernel
theorem dX11_init_134 : decode cX11_init 134 = .ok (.invokespecial 64, 3) := by decide +kernel
theorem dX11_init_137 : decode cX11_init 137 = .ok (.putfield 67, 3) := by decide +kernel
theorem dX11_init_140 : decode cX11_init 140 = .ok (.aload_n 0, 1) := by decide +kernel
theorem dX11_init_141 : decode cX11_init 141 = .ok (.iconst 4, 1) := by decide +kernel
theorem dX11_init_142 : decode cX11_init 142 = .ok (.anewarray 71, 3) := by decide +kernel
theorem dX11_init_145 : decode cX11_init 145 = .ok (.putfield 73, 3) := by decide +kernel
theorem dX11_init_148 : decode cX11_init 148 = .ok (.iconst 0, 1) := by decide +kernel
theorem dX11_init_149 : decode cX11_init 149 = .ok (.istore_n 1, 1) := by decide +kernel
theorem dX11_init_150 : decode cX11_init 150 = .ok (.iload_n 1, 1) := by decide +kernel
theorem dX11_init_151 : decode cX11_init 151 = .ok (.iconst 4, 1) := by decide +kernel
theorem dX11_init_152 : decode cX11_init 152 = .ok (.if_icmp .ge 22, 3) := by decide +kernel
theorem dX11_init_155 : decode cX11_init 155 = .ok (.aload_n 0, 1) := by decide +kernel
theorem dX11_init_156 : decode cX11_init 156 = .ok (.getfield 73, 3) := by decide +kernel
theorem dX11_init_159 : decode cX11_init 159 = .ok (.iload_n 1, 1) := by decide +kernel
theorem dX11_init_160 : decode cX11_init 160 = .ok (.new 71, 3) := by decide +kernel
theorem dX11_init_163 : decode cX11_init 163 = .ok (.dup, 1) := by decide +kernel
theorem dX11_init_164 : decode cX11_init 164 = .ok (.invokespecial 77, 3) := by decide +kernel
theorem dX11_init_167 : decode cX11_init 167 = .ok (.aastore, 1) := by decide +kernel
theorem dX11_init_168 : decode cX11_init 168 = .ok (.iinc 1 1, 3) := by decide +kernel
theorem dX11_init_171 : decode cX11_init 171 = .ok (.goto (-21), 3) := by decide +kernel
theorem dX11_init_174 : decode cX11_init 174 = .ok (.return_, 1) := by decide +kernel
theorem dX11_pass_0 : decode cX11_pass 0 = .ok (.iload_n 1, 1) := by decide +kernel
theorem dX11_pass_1 : decode cX11_pass 1 = .ok (.iconst 1, 1) := by decide +kernel
theorem dX11_pass_2 : decode cX11_pass 2 = .ok (.bipush 100, 2) := by decide +kernel
theorem dX11_pass_4 : decode cX11_pass 4 = .ok (.invokestatic 78, 3) := by decide +kernel
theorem dX11_pass_7 : decode cX11_pass 7 = .ok (.ifCond .eq 18, 3) := by decide +kernel
theorem dX11_pass_10 : decode cX11_pass 10 = .ok (.aload_n 0, 1) := by decide +kernel
theorem dX11_pass_11 : decode cX11_pass 11 = .ok (.getfield 10, 3) := by decide +kernel
theorem dX11_pass_14 : decode cX11_pass 14 = .ok (.getfield 82, 3) := by decide +kernel
theorem dX11_pass_17 : decode cX11_pass 17 = .ok (.iload_n 1, 1) := by decide +kernel
theorem dX11_pass_18 : decode cX11_pass 18 = .ok (.iadd, 1) := by decide +kernel
theorem dX11_pass_19 : decode cX11_pass 19 = .ok (.sipush 399, 3) := by decide +kernel
theorem dX11_pass_22 : decode cX11_pass 22 = .ok (.if_icmp .le 6, 3) := by decide +kernel
theorem dX11_pass_25 : decode cX11_pass 25 = .ok (.bipush (-2), 2) := by decide +kernel
theorem dX11_pass_27 : decode cX11_pass 27 = .ok (.ireturn, 1) := by decide +kernel
theorem dX11_pass_28 : decode cX11_pass 28 = .ok (.aload_n 0, 1) := by decide +kernel
theorem dX11_pass_29 : decode cX11_pass 29 = .ok (.getfield 10, 3) := by decide +kernel
theorem dX11_pass_32 : decode cX11_pass 32 = .ok (.dup, 1) := by decide +kernel
theorem dX11_pass_33 : decode cX11_pass 33 = .ok (.getfield 82, 3) := by decide +kernel
theorem dX11_pass_36 : decode cX11_pass 36 = .ok (.iload_n 1, 1) := by decide +kernel
theorem dX11_pass_37 : decode cX11_pass 37 = .ok (.iadd, 1) := by decide +kernel
theorem dX11_pass_38 : decode cX11_pass 38 = .ok (.putfield 82, 3) := by decide +kernel
theorem dX11_pass_41 : decode cX11_pass 41 = .ok (.aload_n 0, 1) := by decide +kernel
theorem dX11_pass_42 : decode cX11_pass 42 = .ok (.getfield 10, 3) := by decide +kernel
theorem dX11_pass_45 : decode cX11_pass 45 = .ok (.getfield 82, 3) := by decide +kernel
theorem dX11_pass_48 : decode cX11_pass 48 = .ok (.ireturn, 1) := by decide +kernel
theorem dX11_person_0 : decode cX11_person 0 = .ok (.iload_n 1, 1) := by decide +kernel
theorem dX11_person_1 : decode cX11_person 1 = .ok (.invokestatic 86, 3) := by decide +kernel
theorem dX11_person_4 : decode cX11_person 4 = .ok (.ifCond .eq 49, 3) := by decide +kernel
theorem dX11_person_7 : decode cX11_person 7 = .ok (.iload_n 2, 1) := by decide +kernel
theorem dX11_person_8 : decode cX11_person 8 = .ok (.invokestatic 90, 3) := by decide +kernel
theorem dX11_person_11 : decode cX11_person 11 = .ok (.ifCond .eq 42, 3) := by decide +kernel
theorem dX11_person_14 : decode cX11_person 14 = .ok (.iload_n 3, 1) := by decide +kernel
theorem dX11_person_15 : decode cX11_person 15 = .ok (.iconst 0, 1) := by decide +kernel
theorem dX11_person_16 : decode cX11_person 16 = .ok (.bipush 20, 2) := by decide +kernel
theorem dX11_person_18 : decode cX11_person 18 = .ok (.invokestatic 78, 3) := by decide +kernel
theorem dX11_person_21 : decode cX11_person 21 = .ok (.ifCond .eq 32, 3) := by decide +kernel
theorem dX11_person_24 : decode cX11_person 24 = .ok (.iload 4, 2) := by decide +kernel
theorem dX11_person_26 : decode cX11_person 26 = .ok (.iconst 0, 1) := by decide +kernel
theorem dX11_person_27 : decode cX11_person 27 = .ok (.bipush 9, 2) := by decide +kernel
theorem dX11_person_29 : decode cX11_person 29 = .ok (.invokestatic 78, 3) := by decide +kernel
theorem dX11_person_32 : decode cX11_person 32 = .ok (.ifCond .eq 21, 3) := by decide +kernel
theorem dX11_person_35 : decode cX11_person 35 = .ok (.iload 5, 2) := by decide +kernel
theorem dX11_person_37 : decode cX11_person 37 = .ok (.iconst (-1), 1) := by decide +kernel
theorem dX11_person_38 : decode cX11_person 38 = .ok (.if_icmp .eq 18, 3) := by decide +kernel
theorem dX11_person_41 : decode cX11_person 41 = .ok (.aload_n 0, 1) := by decide +kernel
theorem dX11_person_42 : decode cX11_person 42 = .ok (.getfield 26, 3) := by decide +kernel
theorem dX11_person_45 : decode cX11_person 45 = .ok (.iload 5, 2) := by decide +kernel
theorem dX11_person_47 : decode cX11_person 47 = .ok (.invokevirtual 93, 3) := by decide +kernel
theorem dX11_person_50 : decode cX11_person 50 = .ok (.ifCond .ne 6, 3) := by decide +kernel
theorem dX11_person_53 : decode cX11_person 53 = .ok (.bipush (-2), 2) := by decide +kernel
theorem dX11_person_55 : decode cX11_person 55 = .ok (.ireturn, 1) := by decide +kernel
theorem dX11_person_56 : decode cX11_person 56 = .ok (.aload_n 0, 1) := by decide +kernel
theorem dX11_person_57 : decode cX11_person 57 = .ok (.getfield 26, 3) := by decide +kernel
theorem dX11_person_60 : decode cX11_person 60 = .ok (.invokevirtual 96, 3) := by decide +kernel
theorem dX11_person_63 : decode cX11_person 63 = .ok (.ifCond .eq 6, 3) := by decide +kernel
theorem dX11_person_66 : decode cX11_person 66 = .ok (.bipush (-4), 2) := by decide +kernel
theorem dX11_person_68 : decode cX11_person 68 = .ok (.ireturn, 1) := by decide +kernel
theorem dX11_person_69 : decode cX11_person 69 = .ok (.aload_n 0, 1) := by decide +kernel
theorem dX11_person_70 : decode cX11_person 70 = .ok (.getfield 26, 3) := by decide +kernel
theorem dX11_person_73 : decode cX11_person 73 = .ok (.iload_n 1, 1) := by decide +kernel
theorem dX11_person_74 : decode cX11_person 74 = .ok (.iload_n 2, 1) := by decide +kernel
theorem dX11_person_75 : decode cX11_person 75 = .ok (.iload_n 3, 1) := by decide +kernel
theorem dX11_person_76 : decode cX11_person 76 = .ok (.iload 4, 2) := by decide +kernel
theorem dX11_person_78 : decode cX11_person 78 = .ok (.iload 5, 2) := by decide +kernel
theorem dX11_person_80 : decode cX11_person 80 = .ok (.invokevirtual 100, 3) := by decide +kernel
theorem dX11_person_83 : decode cX11_person 83 = .ok (.ireturn, 1) := by decide +kernel
theorem dX11_about_0 : decode cX11_about 0 = .ok (.aload_n 0, 1) := by decide +kernel
theorem dX11_about_1 : decode cX11_about 1 = .ok (.getfield 26, 3) := by decide +kernel
theorem dX11_about_4 : decode cX11_about 4 = .ok (.iload_n 1, 1) := by decide +kernel
theorem dX11_about_5 : decode cX11_about 5 = .ok (.invokevirtual 93, 3) := by decide +kernel
theorem dX11_about_8 : decode cX11_about 8 = .ok (.ifCond .eq 13, 3) := by decide +kernel
theorem dX11_about_11 : decode cX11_about 11 = .ok (.iload_n 2, 1) := by decide +kernel
theorem dX11_about_12 : decode cX11_about 12 = .ok (.iconst 0, 1) := by decide +kernel
theorem dX11_about_13 : decode cX11_about 13 = .ok (.bipush 7, 2) := by decide +kernel
theorem dX11_about_15 : decode cX11_about 15 = .ok (.invokestatic 78, 3) := by decide +kernel
theorem dX11_about_18 : decode cX11_about 18 = .ok (.ifCond .ne 6, 3) := by decide +kernel
theorem dX11_about_21 : decode cX11_about 21 = .ok (.bipush (-2), 2) := by decide +kernel
theorem dX11_about_23 : decode cX11_about 23 = .ok (.ireturn, 1) := by decide +kernel
theorem dX11_about_24 : decode cX11_about 24 = .ok (.iload_n 2, 1) := by decide +kernel
theorem dX11_about_25 : decode cX11_about 25 = .ok (.bipush 7, 2) := by decide +kernel
theorem dX11_about_27 : decode cX11_about 27 = .ok (.if_icmp .ne 14, 3) := by decide +kernel
theorem dX11_about_30 : decode cX11_about 30 = .ok (.aload_n 0, 1) := by decide +kernel
theorem dX11_about_31 : decode cX11_about 31 = .ok (.getfield 35, 3) := by decide +kernel
theorem dX11_about_34 : decode cX11_about 34 = .ok (.iload_n 1, 1) := by decide +kernel
theorem dX11_about_35 : decode cX11_about 35 = .ok (.invokevirtual 104, 3) := by decide +kernel
theorem dX11_about_38 : decode cX11_about 38 = .ok (.goto 15, 3) := by decide +kernel
theorem dX11_about_41 : decode cX11_about 41 = .ok (.aload_n 0, 1) := by decide +kernel
theorem dX11_about_42 : decode cX11_about 42 = .ok (.getfield 26, 3) := by decide +kernel
theorem dX11_about_45 : decode cX11_about 45 = .ok (.iload_n 1, 1) := by decide +kernel
theorem dX11_about_46 : decode cX11_about 46 = .ok (.invokevirtual 108, 3) := by decide +kernel
theorem dX11_about_49 : decode cX11_about 49 = .ok (.iload_n 2, 1) := by decide +kernel
theorem dX11_about_50 : decode cX11_about 50 = .ok (.invokevirtual 112, 3) := by decide +kernel
theorem dX11_about_53 : decode cX11_about 53 = .ok (.ireturn, 1) := by decide +kernel
theorem dX11_put_0 : decode cX11_put 0 = .ok (.aload_n 0, 1) := by decide +kernel
theorem dX11_put_1 : decode cX11_put 1 = .ok (.getfield 26, 3) := by decide +kernel
theorem dX11_put_4 : decode cX11_put 4 = .ok (.iload_n 1, 1) := by decide +kernel
theorem dX11_put_5 : decode cX11_put 5 = .ok (.invokevirtual 93, 3) := by decide +kernel
theorem dX11_put_8 : decode cX11_put 8 = .ok (.ifCond .eq 12, 3) := by decide +kernel
theorem dX11_put_11 : decode cX11_put 11 = .ok (.iload_n 2, 1) := by decide +kernel
theorem dX11_put_12 : decode cX11_put 12 = .ok (.iconst 2, 1) := by decide +kernel
theorem dX11_put_13 : decode cX11_put 13 = .ok (.iconst 4, 1) := by decide +kernel
theorem dX11_put_14 : decode cX11_put 14 = .ok (.invokestatic 78, 3) := by decide +kernel
theorem dX11_put_17 : decode cX11_put 17 = .ok (.ifCond .ne 6, 3) := by decide +kernel
theorem dX11_put_20 : decode cX11_put 20 = .ok (.bipush (-2), 2) := by decide +kernel
theorem dX11_put_22 : decode cX11_put 22 = .ok (.ireturn, 1) := by decide +kernel
theorem dX11_put_23 : decode cX11_put 23 = .ok (.aload_n 0, 1) := by decide +kernel
theorem dX11_put_24 : decode cX11_put 24 = .ok (.getfield 26, 3) := by decide +kernel
theorem dX11_put_27 : decode cX11_put 27 = .ok (.iload_n 1, 1) := by decide +kernel
theorem dX11_put_28 : decode cX11_put 28 = .ok (.invokevirtual 108, 3) := by decide +kernel
theorem dX11_put_31 : decode cX11_put 31 = .ok (.astore_n 3, 1) := by decide +kernel
theorem dX11_put_32 : decode cX11_put 32 = .ok (.aload_n 3, 1) := by decide +kernel
theorem dX11_put_33 : decode cX11_put 33 = .ok (.invokevirtual 117, 3) := by decide +kernel
theorem dX11_put_36 : decode cX11_put 36 = .ok (.ifCond .eq 16, 3) := by decide +kernel
theorem dX11_put_39 : decode cX11_put 39 = .ok (.iload_n 2, 1) := by decide +kernel
theorem dX11_put_40 : decode cX11_put 40 = .ok (.iconst 2, 1) := by decide +kernel
theorem dX11_put_41 : decode cX11_put 41 = .ok (.if_icmp .ne 14, 3) := by decide +kernel
theorem dX11_put_44 : decode cX11_put 44 = .ok (.aload_n 3, 1) := by decide +kernel
theorem dX11_put_45 : decode cX11_put 45 = .ok (.getfield 120, 3) := by decide +kernel
theorem dX11_put_48 : decode cX11_put 48 = .ok (.iconst 1, 1) := by decide +kernel
theorem dX11_put_49 : decode cX11_put 49 = .ok (.if_icmp .eq 6, 3) := by decide +kernel
theorem dX11_put_52 : decode cX11_put 52 = .ok (.bipush (-3), 2) := by decide +kernel
theorem dX11_put_54 : decode cX11_put 54 = .ok (.ireturn, 1) := by decide +kernel
theorem dX11_put_55 : decode cX11_put 55 = .ok (.aload_n 3, 1) := by decide +kernel
theorem dX11_put_56 : decode cX11_put 56 = .ok (.getfield 120, 3) := by decide +kernel
theorem dX11_put_59 : decode cX11_put 59 = .ok (.istore 4, 2) := by decide +kernel
theorem dX11_put_61 : decode cX11_put 61 = .ok (.aload_n 3, 1) := by decide +kernel
theorem dX11_put_62 : decode cX11_put 62 = .ok (.iload_n 2, 1) := by decide +kernel
theorem dX11_put_63 : decode cX11_put 63 = .ok (.invokevirtual 123, 3) := by decide +kernel
theorem dX11_put_66 : decode cX11_put 66 = .ok (.iload 4, 2) := by decide +kernel
theorem dX11_put_68 : decode cX11_put 68 = .ok (.ireturn, 1) := by decide +kernel
theorem dX11_move_0 : decode cX11_move 0 = .ok (.aload_n 0, 1) := by decide +kernel
theorem dX11_move_1 : decode cX11_move 1 = .ok (.getfield 26, 3) := by decide +kernel
theorem dX11_move_4 : decode cX11_move 4 = .ok (.iload_n 1, 1) := by decide +kernel
theorem dX11_move_5 : decode cX11_move 5 = .ok (.invokevirtual 93, 3) := by decide +kernel
theorem dX11_move_8 : decode cX11_move 8 = .ok (.ifCond .eq 25, 3) := by decide +kernel
theorem dX11_move_11 : decode cX11_move 11 = .ok (.iload_n 2, 1) := by decide +kernel
theorem dX11_move_12 : decode cX11_move 12 = .ok (.invokestatic 86, 3) := by decide +kernel
theorem dX11_move_15 : decode cX11_move 15 = .ok (.ifCond .eq 18, 3) := by decide +kernel
theorem dX11_move_18 : decode cX11_move 18 = .ok (.aload_n 0, 1) := by decide +kernel
theorem dX11_move_19 : decode cX11_move 19 = .ok (.getfield 26, 3) := by decide +kernel
theorem dX11_move_22 : decode cX11_move 22 = .ok (.iload_n 1, 1) := by decide +kernel
theorem dX11_move_23 : decode cX11_move 23 = .ok (.invokevirtual 108, 3) := by decide +kernel
theorem dX11_move_26 : decode cX11_move 26 = .ok (.getfield 127, 3) := by decide +kernel
theorem dX11_move_29 : decode cX11_move 29 = .ok (.iload_n 2, 1) := by decide +kernel
theorem dX11_move_30 : decode cX11_move 30 = .ok (.if_icmp .ne 6, 3) := by decide +kernel
theorem dX11_move_33 : decode cX11_move 33 = .ok (.bipush (-2), 2) := by decide +kernel
theorem dX11_move_35 : decode cX11_move 35 = .ok (.ireturn, 1) := by decide +kernel
theorem dX11_move_36 : decode cX11_move 36 = .ok (.aload_n 0, 1) := by decide +kernel
theorem dX11_move_37 : decode cX11_move 37 = .ok (.getfield 26, 3) := by decide +kernel
theorem dX11_move_40 : decode cX11_move 40 = .ok (.iload_n 1, 1) := by decide +kernel
theorem dX11_move_41 : decode cX11_move 41 = .ok (.invokevirtual 108, 3) := by decide +kernel
theorem dX11_move_44 : decode cX11_move 44 = .ok (.astore_n 3, 1) := by decide +kernel
theorem dX11_move_45 : decode cX11_move 45 = .ok (.aload_n 3, 1) := by decide +kernel
theorem dX11_move_46 : decode cX11_move 46 = .ok (.invokevirtual 117, 3) := by decide +kernel
theorem dX11_move_49 : decode cX11_move 49 = .ok (.ifCond .ne 6, 3) := by decide +kernel
theorem dX11_move_52 : decode cX11_move 52 = .ok (.bipush (-3), 2) := by decide +kernel
theorem dX11_move_54 : decode cX11_move 54 = .ok (.ireturn, 1) := by decide +kernel
theorem dX11_move_55 : decode cX11_move 55 = .ok (.aload_n 3, 1) := by decide +kernel
theorem dX11_move_56 : decode cX11_move 56 = .ok (.getfield 127, 3) := by decide +kernel
theorem dX11_move_59 : decode cX11_move 59 = .ok (.istore 4, 2) := by decide +kernel
theorem dX11_move_61 : decode cX11_move 61 = .ok (.aload_n 3, 1) := by decide +kernel
theorem dX11_move_62 : decode cX11_move 62 = .ok (.iload_n 2, 1) := by decide +kernel
theorem dX11_move_63 : decode cX11_move 63 = .ok (.putfield 127, 3) := by decide +kernel
theorem dX11_move_66 : decode cX11_move 66 = .ok (.iload 4, 2) := by decide +kernel
theorem dX11_move_68 : decode cX11_move 68 = .ok (.ireturn, 1) := by decide +kernel
theorem dX11_harsh_0 : decode cX11_harsh 0 = .ok (.aload_n 0, 1) := by decide +kernel
theorem dX11_harsh_1 : decode cX11_harsh 1 = .ok (.getfield 26, 3) := by decide +kernel
theorem dX11_harsh_4 : decode cX11_harsh 4 = .ok (.iload_n 1, 1) := by decide +kernel
theorem dX11_harsh_5 : decode cX11_harsh 5 = .ok (.invokevirtual 93, 3) := by decide +kernel
theorem dX11_harsh_8 : decode cX11_harsh 8 = .ok (.ifCond .eq 13, 3) := by decide +kernel
theorem dX11_harsh_11 : decode cX11_harsh 11 = .ok (.iload_n 2, 1) := by decide +kernel
theorem dX11_harsh_12 : decode cX11_harsh 12 = .ok (.iconst 0, 1) := by decide +kernel
theorem dX11_harsh_13 : decode cX11_harsh 13 = .ok (.bipush 9, 2) := by decide +kernel
theorem dX11_harsh_15 : decode cX11_harsh 15 = .ok (.invokestatic 78, 3) := by decide +kernel
theorem dX11_harsh_18 : decode cX11_harsh 18 = .ok (.ifCond .ne 6, 3) := by decide +kernel
theorem dX11_harsh_21 : decode cX11_harsh 21 = .ok (.bipush (-2), 2) := by decide +kernel
theorem dX11_harsh_23 : decode cX11_harsh 23 = .ok (.ireturn, 1) := by decide +kernel
theorem dX11_harsh_24 : decode cX11_harsh 24 = .ok (.aload_n 0, 1) := by decide +kernel
theorem dX11_harsh_25 : decode cX11_harsh 25 = .ok (.getfield 26, 3) := by decide +kernel
theorem dX11_harsh_28 : decode cX11_harsh 28 = .ok (.iload_n 1, 1) := by decide +kernel
theorem dX11_harsh_29 : decode cX11_harsh 29 = .ok (.invokevirtual 108, 3) := by decide +kernel
theorem dX11_harsh_32 : decode cX11_harsh 32 = .ok (.astore_n 3, 1) := by decide +kernel
theorem dX11_harsh_33 : decode cX11_harsh 33 = .ok (.aload_n 3, 1) := by decide +kernel
theorem dX11_harsh_34 : decode cX11_harsh 34 = .ok (.getfield 130, 3) := by decide +kernel
theorem dX11_harsh_37 : decode cX11_harsh 37 = .ok (.istore 4, 2) := by decide +kernel
theorem dX11_harsh_39 : decode cX11_harsh 39 = .ok (.aload_n 3, 1) := by decide +kernel
theorem dX11_harsh_40 : decode cX11_harsh 40 = .ok (.iload_n 2, 1) := by decide +kernel
theorem dX11_harsh_41 : decode cX11_harsh 41 = .ok (.putfield 130, 3) := by decide +kernel
theorem dX11_harsh_44 : decode cX11_harsh 44 = .ok (.iload 4, 2) := by decide +kernel
theorem dX11_harsh_46 : decode cX11_harsh 46 = .ok (.ireturn, 1) := by decide +kernel
theorem dX11_roll_0 : decode cX11_roll 0 = .ok (.iload_n 1, 1) := by decide +kernel
theorem dX11_roll_1 : decode cX11_roll 1 = .ok (.iconst (-1), 1) := by decide +kernel
theorem dX11_roll_2 : decode cX11_roll 2 = .ok (.if_icmp .eq 10, 3) := by decide +kernel
theorem dX11_roll_5 : decode cX11_roll 5 = .ok (.iload_n 1, 1) := by decide +kernel
theorem dX11_roll_6 : decode cX11_roll 6 = .ok (.invokestatic 86, 3) := by decide +kernel
theorem dX11_roll_9 : decode cX11_roll 9 = .ok (.ifCond .eq 24, 3) := by decide +kernel
theorem dX11_roll_12 : decode cX11_roll 12 = .ok (.iload_n 2, 1) := by decide +kernel
theorem dX11_roll_13 : decode cX11_roll 13 = .ok (.iconst (-1), 1) := by decide +kernel
theorem dX11_roll_14 : decode cX11_roll 14 = .ok (.if_icmp .eq 10, 3) := by decide +kernel
theorem dX11_roll_17 : decode cX11_roll 17 = .ok (.iload_n 2, 1) := by decide +kernel
theorem dX11_roll_18 : decode cX11_roll 18 = .ok (.invokestatic 90, 3) := by decide +kernel
theorem dX11_roll_21 : decode cX11_roll 21 = .ok (.ifCond .eq 12, 3) := by decide +kernel
theorem dX11_roll_24 : decode cX11_roll 24 = .ok (.iload_n 3, 1) := by decide +kernel
theorem dX11_roll_25 : decode cX11_roll 25 = .ok (.iconst 0, 1) := by decide +kernel
theorem dX11_roll_26 : decode cX11_roll 26 = .ok (.iconst 2, 1) := by decide +kernel
theorem dX11_roll_27 : decode cX11_roll 27 = .ok (.invokestatic 78, 3) := by decide +kernel
theorem dX11_roll_30 : decode cX11_roll 30 = .ok (.ifCond .ne 6, 3) := by decide +kernel
theorem dX11_roll_33 : decode cX11_roll 33 = .ok (.bipush (-2), 2) := by decide +kernel
theorem dX11_roll_35 : decode cX11_roll 35 = .ok (.ireturn, 1) := by decide +kernel
theorem dX11_roll_36 : decode cX11_roll 36 = .ok (.aload_n 0, 1) := by decide +kernel
theorem dX11_roll_37 : decode cX11_roll 37 = .ok (.getfield 26, 3) := by decide +kernel
theorem dX11_roll_40 : decode cX11_roll 40 = .ok (.iload_n 1, 1) := by decide +kernel
theorem dX11_roll_41 : decode cX11_roll 41 = .ok (.iload_n 2, 1) := by decide +kernel
theorem dX11_roll_42 : decode cX11_roll 42 = .ok (.iload_n 3, 1) := by decide +kernel
theorem dX11_roll_43 : decode cX11_roll 43 = .ok (.invokevirtual 133, 3) := by decide +kernel
theorem dX11_roll_46 : decode cX11_roll 46 = .ok (.ireturn, 1) := by decide +kernel
theorem dX11_type_0 : decode cX11_type 0 = .ok (.iload_n 1, 1) := by decide +kernel
theorem dX11_type_1 : decode cX11_type 1 = .ok (.iconst 0, 1) := by decide +kernel
theorem dX11_type_2 : decode cX11_type 2 = .ok (.sipush 255, 3) := by decide +kernel
theorem dX11_type_5 : decode cX11_type 5 = .ok (.invokestatic 78, 3) := by decide +kernel
theorem dX11_type_8 : decode cX11_type 8 = .ok (.ifCond .ne 6, 3) := by decide +kernel
theorem dX11_type_11 : decode cX11_type 11 = .ok (.bipush (-2), 2) := by decide +kernel
theorem dX11_type_13 : decode cX11_type 13 = .ok (.ireturn, 1) := by decide +kernel
theorem dX11_type_14 : decode cX11_type 14 = .ok (.aload_n 0, 1) := by decide +kernel
theorem dX11_type_15 : decode cX11_type 15 = .ok (.getfield 19, 3) := by decide +kernel
theorem dX11_type_18 : decode cX11_type 18 = .ok (.invokevirtual 137, 3) := by decide +kernel
theorem dX11_type_21 : decode cX11_type 21 = .ok (.ifCond .eq 6, 3) := by decide +kernel
theorem dX11_type_24 : decode cX11_type 24 = .ok (.bipush (-4), 2) := by decide +kernel
theorem dX11_type_26 : decode cX11_type 26 = .ok (.ireturn, 1) := by decide +kernel
theorem dX11_type_27 : decode cX11_type 27 = .ok (.aload_n 0, 1) := by decide +kernel
theorem dX11_type_28 : decode cX11_type 28 = .ok (.getfield 19, 3) := by decide +kernel
theorem dX11_type_31 : decode cX11_type 31 = .ok (.iload_n 1, 1) := by decide +kernel
theorem dX11_type_32 : decode cX11_type 32 = .ok (.invokevirtual 138, 3) := by decide +kernel
theorem dX11_type_35 : decode cX11_type 35 = .ok (.istore_n 2, 1) := by decide +kernel
theorem dX11_type_36 : decode cX11_type 36 = .ok (.aload_n 0, 1) := by decide +kernel
theorem dX11_type_37 : decode cX11_type 37 = .ok (.getfield 35, 3) := by decide +kernel
theorem dX11_type_40 : decode cX11_type 40 = .ok (.invokevirtual 141, 3) := by decide +kernel
theorem dX11_type_43 : decode cX11_type 43 = .ok (.iload_n 2, 1) := by decide +kernel
theorem dX11_type_44 : decode cX11_type 44 = .ok (.ireturn, 1) := by decide +kernel
theorem dX11_wipe_0 : decode cX11_wipe 0 = .ok (.aload_n 0, 1) := by decide +kernel
theorem dX11_wipe_1 : decode cX11_wipe 1 = .ok (.getfield 19, 3) := by decide +kernel
theorem dX11_wipe_4 : decode cX11_wipe 4 = .ok (.invokevirtual 144, 3) := by decide +kernel
theorem dX11_wipe_7 : decode cX11_wipe 7 = .ok (.istore_n 1, 1) := by decide +kernel
theorem dX11_wipe_8 : decode cX11_wipe 8 = .ok (.aload_n 0, 1) := by decide +kernel
theorem dX11_wipe_9 : decode cX11_wipe 9 = .ok (.getfield 35, 3) := by decide +kernel
theorem dX11_wipe_12 : decode cX11_wipe 12 = .ok (.invokevirtual 141, 3) := by decide +kernel
theorem dX11_wipe_15 : decode cX11_wipe 15 = .ok (.iload_n 1, 1) := by decide +kernel
theorem dX11_wipe_16 : decode cX11_wipe 16 = .ok (.ireturn, 1) := by decide +kernel
theorem dX11_fault_0 : decode cX11_fault 0 = .ok (.aload_n 0, 1) := by decide +kernel
theorem dX11_fault_1 : decode cX11_fault 1 = .ok (.getfield 19, 3) := by decide +kernel
theorem dX11_fault_4 : decode cX11_fault 4 = .ok (.getfield 148, 3) := by decide +kernel
theorem dX11_fault_7 : decode cX11_fault 7 = .ok (.ireturn, 1) := by decide +kernel
theorem dX11_right_0 : decode cX11_right 0 = .ok (.iload_n 1, 1) := by decide +kernel
theorem dX11_right_1 : decode cX11_right 1 = .ok (.iconst 0, 1) := by decide +kernel
theorem dX11_right_2 : decode cX11_right 2 = .ok (.bipush 19, 2) := by decide +kernel
theorem dX11_right_4 : decode cX11_right 4 = .ok (.invokestatic 78, 3) := by decide +kernel
theorem dX11_right_7 : decode cX11_right 7 = .ok (.ifCond .eq 10, 3) := by decide +kernel
theorem dX11_right_10 : decode cX11_right 10 = .ok (.iload_n 2, 1) := by decide +kernel
theorem dX11_right_11 : decode cX11_right 11 = .ok (.invokestatic 151, 3) := by decide +kernel
theorem dX11_right_14 : decode cX11_right 14 = .ok (.ifCond .ne 6, 3) := by decide +kernel
theorem dX11_right_17 : decode cX11_right 17 = .ok (.bipush (-2), 2) := by decide +kernel
theorem dX11_right_19 : decode cX11_right 19 = .ok (.ireturn, 1) := by decide +kernel
theorem dX11_right_20 : decode cX11_right 20 = .ok (.aload_n 0, 1) := by decide +kernel
theorem dX11_right_21 : decode cX11_right 21 = .ok (.getfield 19, 3) := by decide +kernel
theorem dX11_right_24 : decode cX11_right 24 = .ok (.iload_n 1, 1) := by decide +kernel
theorem dX11_right_25 : decode cX11_right 25 = .ok (.iload_n 2, 1) := by decide +kernel
theorem dX11_right_26 : decode cX11_right 26 = .ok (.invokevirtual 154, 3) := by decide +kernel
theorem dX11_right_29 : decode cX11_right 29 = .ok (.ireturn, 1) := by decide +kernel
theorem dX11_law_0 : decode cX11_law 0 = .ok (.iload_n 1, 1) := by decide +kernel
theorem dX11_law_1 : decode cX11_law 1 = .ok (.iconst 0, 1) := by decide +kernel
theorem dX11_law_2 : decode cX11_law 2 = .ok (.iconst 3, 1) := by decide +kernel
theorem dX11_law_3 : decode cX11_law 3 = .ok (.invokestatic 78, 3) := by decide +kernel
theorem dX11_law_6 : decode cX11_law 6 = .ok (.ifCond .eq 10, 3) := by decide +kernel
theorem dX11_law_9 : decode cX11_law 9 = .ok (.iload_n 2, 1) := by decide +kernel
theorem dX11_law_10 : decode cX11_law 10 = .ok (.invokestatic 151, 3) := by decide +kernel
theorem dX11_law_13 : decode cX11_law 13 = .ok (.ifCond .ne 6, 3) := by decide +kernel
theorem dX11_law_16 : decode cX11_law 16 = .ok (.bipush (-2), 2) := by decide +kernel
theorem dX11_law_18 : decode cX11_law 18 = .ok (.ireturn, 1) := by decide +kernel
theorem dX11_law_19 : decode cX11_law 19 = .ok (.aload_n 0, 1) := by decide +kernel
theorem dX11_law_20 : decode cX11_law 20 = .ok (.getfield 19, 3) := by decide +kernel
theorem dX11_law_23 : decode cX11_law 23 = .ok (.bipush 20, 2) := by decide +kernel
theorem dX11_law_25 : decode cX11_law 25 = .ok (.iload_n 1, 1) := by decide +kernel
theorem dX11_law_26 : decode cX11_law 26 = .ok (.iadd, 1) := by decide +kernel
theorem dX11_law_27 : decode cX11_law 27 = .ok (.iload_n 2, 1) := by decide +kernel
theorem dX11_law_28 : decode cX11_law 28 = .ok (.invokevirtual 154, 3) := by decide +kernel
theorem dX11_law_31 : decode cX11_law 31 = .ok (.ireturn, 1) := by decide +kernel
theorem dX11_why_0 : decode cX11_why 0 = .ok (.iload_n 1, 1) := by decide +kernel
theorem dX11_why_1 : decode cX11_why 1 = .ok (.iconst 0, 1) := by decide +kernel
theorem dX11_why_2 : decode cX11_why 2 = .ok (.bipush 23, 2) := by decide +kernel
theorem dX11_why_4 : decode cX11_why 4 = .ok (.invokestatic 78, 3) := by decide +kernel
theorem dX11_why_7 : decode cX11_why 7 = .ok (.ifCond .eq 10, 3) := by decide +kernel
theorem dX11_why_10 : decode cX11_why 10 = .ok (.iload_n 2, 1) := by decide +kernel
theorem dX11_why_11 : decode cX11_why 11 = .ok (.invokestatic 151, 3) := by decide +kernel
theorem dX11_why_14 : decode cX11_why 14 = .ok (.ifCond .ne 6, 3) := by decide +kernel
theorem dX11_why_17 : decode cX11_why 17 = .ok (.bipush (-2), 2) := by decide +kernel
theorem dX11_why_19 : decode cX11_why 19 = .ok (.ireturn, 1) := by decide +kernel
theorem dX11_why_20 : decode cX11_why 20 = .ok (.aload_n 0, 1) := by decide +kernel
theorem dX11_why_21 : decode cX11_why 21 = .ok (.getfield 19, 3) := by decide +kernel
theorem dX11_why_24 : decode cX11_why 24 = .ok (.iload_n 1, 1) := by decide +kernel
theorem dX11_why_25 : decode cX11_why 25 = .ok (.iload_n 2, 1) := by decide +kernel
theorem dX11_why_26 : decode cX11_why 26 = .ok (.invokevirtual 158, 3) := by decide +kernel
theorem dX11_why_29 : decode cX11_why 29 = .ok (.ireturn, 1) := by decide +kernel
theorem dX11_form_0 : decode cX11_form 0 = .ok (.aload_n 0, 1) := by decide +kernel
theorem dX11_form_1 : decode cX11_form 1 = .ok (.getfield 26, 3) := by decide +kernel
theorem dX11_form_4 : decode cX11_form 4 = .ok (.iload_n 1, 1) := by decide +kernel
theorem dX11_form_5 : decode cX11_form 5 = .ok (.invokevirtual 93, 3) := by decide +kernel
theorem dX11_form_8 : decode cX11_form 8 = .ok (.ifCond .eq 10, 3) := by decide +kernel
theorem dX11_form_11 : decode cX11_form 11 = .ok (.iload_n 2, 1) := by decide +kernel
theorem dX11_form_12 : decode cX11_form 12 = .ok (.invokestatic 161, 3) := by decide +kernel
theorem dX11_form_15 : decode cX11_form 15 = .ok (.ifCond .ne 6, 3) := by decide +kernel
theorem dX11_form_18 : decode cX11_form 18 = .ok (.bipush (-2), 2) := by decide +kernel
theorem dX11_form_20 : decode cX11_form 20 = .ok (.ireturn, 1) := by decide +kernel
theorem dX11_form_21 : decode cX11_form 21 = .ok (.aload_n 0, 1) := by decide +kernel
theorem dX11_form_22 : decode cX11_form 22 = .ok (.getfield 73, 3) := by decide +kernel
theorem dX11_form_25 : decode cX11_form 25 = .ok (.iload_n 2, 1) := by decide +kernel
theorem dX11_form_26 : decode cX11_form 26 = .ok (.aaload, 1) := by decide +kernel
theorem dX11_form_27 : decode cX11_form 27 = .ok (.invokevirtual 164, 3) := by decide +kernel
theorem dX11_form_30 : decode cX11_form 30 = .ok (.ifCond .eq 9, 3) := by decide +kernel
theorem dX11_form_33 : decode cX11_form 33 = .ok (.aload_n 0, 1) := by decide +kernel
theorem dX11_form_34 : decode cX11_form 34 = .ok (.iconst 1, 1) := by decide +kernel
theorem dX11_form_35 : decode cX11_form 35 = .ok (.invokevirtual 167, 3) := by decide +kernel
theorem dX11_form_38 : decode cX11_form 38 = .ok (.ireturn, 1) := by decide +kernel
theorem dX11_form_39 : decode cX11_form 39 = .ok (.aload_n 0, 1) := by decide +kernel
theorem dX11_form_40 : decode cX11_form 40 = .ok (.getfield 26, 3) := by decide +kernel
theorem dX11_form_43 : decode cX11_form 43 = .ok (.iload_n 1, 1) := by decide +kernel
theorem dX11_form_44 : decode cX11_form 44 = .ok (.invokevirtual 108, 3) := by decide +kernel
theorem dX11_form_47 : decode cX11_form 47 = .ok (.invokevirtual 170, 3) := by decide +kernel
theorem dX11_form_50 : decode cX11_form 50 = .ok (.ifCond .ne 6, 3) := by decide +kernel
theorem dX11_form_53 : decode cX11_form 53 = .ok (.bipush (-3), 2) := by decide +kernel
theorem dX11_form_55 : decode cX11_form 55 = .ok (.ireturn, 1) := by decide +kernel
theorem dX11_form_56 : decode cX11_form 56 = .ok (.aload_n 0, 1) := by decide +kernel
theorem dX11_form_57 : decode cX11_form 57 = .ok (.getfield 35, 3) := by decide +kernel
theorem dX11_form_60 : decode cX11_form 60 = .ok (.invokevirtual 173, 3) := by decide +kernel
theorem dX11_form_63 : decode cX11_form 63 = .ok (.ifCond .eq 6, 3) := by decide +kernel
theorem dX11_form_66 : decode cX11_form 66 = .ok (.bipush (-4), 2) := by decide +kernel
theorem dX11_form_68 : decode cX11_form 68 = .ok (.ireturn, 1) := by decide +kernel
theorem dX11_form_69 : decode cX11_form 69 = .ok (.aload_n 0, 1) := by decide +kernel
theorem dX11_form_70 : decode cX11_form 70 = .ok (.getfield 35, 3) := by decide +kernel
theorem dX11_form_73 : decode cX11_form 73 = .ok (.iload_n 1, 1) := by decide +kernel
theorem dX11_form_74 : decode cX11_form 74 = .ok (.aload_n 0, 1) := by decide +kernel
theorem dX11_form_75 : decode cX11_form 75 = .ok (.getfield 73, 3) := by decide +kernel
theorem dX11_form_78 : decode cX11_form 78 = .ok (.iload_n 2, 1) := by decide +kernel
theorem dX11_form_79 : decode cX11_form 79 = .ok (.aaload, 1) := by decide +kernel
theorem dX11_form_80 : decode cX11_form 80 = .ok (.invokevirtual 174, 3) := by decide +kernel
theorem dX11_form_83 : decode cX11_form 83 = .ok (.ireturn, 1) := by decide +kernel
theorem dX11_read_0 : decode cX11_read 0 = .ok (.aload_n 0, 1) := by decide +kernel
theorem dX11_read_1 : decode cX11_read 1 = .ok (.getfield 35, 3) := by decide +kernel
theorem dX11_read_4 : decode cX11_read 4 = .ok (.iload_n 1, 1) := by decide +kernel
theorem dX11_read_5 : decode cX11_read 5 = .ok (.invokevirtual 178, 3) := by decide +kernel
theorem dX11_read_8 : decode cX11_read 8 = .ok (.ifCond .eq 24, 3) := by decide +kernel
theorem dX11_read_11 : decode cX11_read 11 = .ok (.iload_n 2, 1) := by decide +kernel
theorem dX11_read_12 : decode cX11_read 12 = .ok (.invokestatic 179, 3) := by decide +kernel
theorem dX11_read_15 : decode cX11_read 15 = .ok (.ifCond .eq 17, 3) := by decide +kernel
theorem dX11_read_18 : decode cX11_read 18 = .ok (.iload_n 3, 1) := by decide +kernel
theorem dX11_read_19 : decode cX11_read 19 = .ok (.ifCond .ne 16, 3) := by decide +kernel
theorem dX11_read_22 : decode cX11_read 22 = .ok (.iload 4, 2) := by decide +kernel
theorem dX11_read_24 : decode cX11_read 24 = .ok (.iconst 0, 1) := by decide +kernel
theorem dX11_read_25 : decode cX11_read 25 = .ok (.iconst 4, 1) := by decide +kernel
theorem dX11_read_26 : decode cX11_read 26 = .ok (.invokestatic 78, 3) := by decide +kernel
theorem dX11_read_29 : decode cX11_read 29 = .ok (.ifCond .ne 6, 3) := by decide +kernel
theorem dX11_read_32 : decode cX11_read 32 = .ok (.bipush (-2), 2) := by decide +kernel
theorem dX11_read_34 : decode cX11_read 34 = .ok (.ireturn, 1) := by decide +kernel
theorem dX11_read_35 : decode cX11_read 35 = .ok (.aload_n 0, 1) := by decide +kernel
theorem dX11_read_36 : decode cX11_read 36 = .ok (.getfield 35, 3) := by decide +kernel
theorem dX11_read_39 : decode cX11_read 39 = .ok (.iload_n 1, 1) := by decide +kernel
theorem dX11_read_40 : decode cX11_read 40 = .ok (.iload_n 2, 1) := by decide +kernel
theorem dX11_read_41 : decode cX11_read 41 = .ok (.iload_n 3, 1) := by decide +kernel
theorem dX11_read_42 : decode cX11_read 42 = .ok (.iload 4, 2) := by decide +kernel
theorem dX11_read_44 : decode cX11_read 44 = .ok (.invokevirtual 182, 3) := by decide +kernel
theorem dX11_read_47 : decode cX11_read 47 = .ok (.ireturn, 1) := by decide +kernel
theorem dX11_formIs_0 : decode cX11_formIs 0 = .ok (.aload_n 0, 1) := by decide +kernel
theorem dX11_formIs_1 : decode cX11_formIs 1 = .ok (.getfield 35, 3) := by decide +kernel
theorem dX11_formIs_4 : decode cX11_formIs 4 = .ok (.iload_n 1, 1) := by decide +kernel
theorem dX11_formIs_5 : decode cX11_formIs 5 = .ok (.invokevirtual 178, 3) := by decide +kernel
theorem dX11_formIs_8 : decode cX11_formIs 8 = .ok (.ifCond .eq 13, 3) := by decide +kernel
theorem dX11_formIs_11 : decode cX11_formIs 11 = .ok (.iload_n 2, 1) := by decide +kernel
theorem dX11_formIs_12 : decode cX11_formIs 12 = .ok (.iconst 0, 1) := by decide +kernel
theorem dX11_formIs_13 : decode cX11_formIs 13 = .ok (.bipush 11, 2) := by decide +kernel
theorem dX11_formIs_15 : decode cX11_formIs 15 = .ok (.invokestatic 78, 3) := by decide +kernel
theorem dX11_formIs_18 : decode cX11_formIs 18 = .ok (.ifCond .ne 6, 3) := by decide +kernel
theorem dX11_formIs_21 : decode cX11_formIs 21 = .ok (.bipush (-2), 2) := by decide +kernel
theorem dX11_formIs_23 : decode cX11_formIs 23 = .ok (.ireturn, 1) := by decide +kernel
theorem dX11_formIs_24 : decode cX11_formIs 24 = .ok (.aload_n 0, 1) := by decide +kernel
theorem dX11_formIs_25 : decode cX11_formIs 25 = .ok (.getfield 35, 3) := by decide +kernel
theorem dX11_formIs_28 : decode cX11_formIs 28 = .ok (.iload_n 1, 1) := by decide +kernel
theorem dX11_formIs_29 : decode cX11_formIs 29 = .ok (.invokevirtual 186, 3) := by decide +kernel
theorem dX11_formIs_32 : decode cX11_formIs 32 = .ok (.ifCond .ne 6, 3) := by decide +kernel
theorem dX11_formIs_35 : decode cX11_formIs 35 = .ok (.bipush (-3), 2) := by decide +kernel
theorem dX11_formIs_37 : decode cX11_formIs 37 = .ok (.ireturn, 1) := by decide +kernel
theorem dX11_formIs_38 : decode cX11_formIs 38 = .ok (.aload_n 0, 1) := by decide +kernel
theorem dX11_formIs_39 : decode cX11_formIs 39 = .ok (.getfield 35, 3) := by decide +kernel
theorem dX11_formIs_42 : decode cX11_formIs 42 = .ok (.iload_n 1, 1) := by decide +kernel
theorem dX11_formIs_43 : decode cX11_formIs 43 = .ok (.iload_n 2, 1) := by decide +kernel
theorem dX11_formIs_44 : decode cX11_formIs 44 = .ok (.invokevirtual 189, 3) := by decide +kernel
theorem dX11_formIs_47 : decode cX11_formIs 47 = .ok (.ireturn, 1) := by decide +kernel
theorem dX11_answer_0 : decode cX11_answer 0 = .ok (.aload_n 0, 1) := by decide +kernel
theorem dX11_answer_1 : decode cX11_answer 1 = .ok (.getfield 35, 3) := by decide +kernel
theorem dX11_answer_4 : decode cX11_answer 4 = .ok (.iload_n 1, 1) := by decide +kernel
theorem dX11_answer_5 : decode cX11_answer 5 = .ok (.invokevirtual 178, 3) := by decide +kernel
theorem dX11_answer_8 : decode cX11_answer 8 = .ok (.ifCond .eq 13, 3) := by decide +kernel
theorem dX11_answer_11 : decode cX11_answer 11 = .ok (.iload_n 2, 1) := by decide +kernel
theorem dX11_answer_12 : decode cX11_answer 12 = .ok (.iconst 0, 1) := by decide +kernel
theorem dX11_answer_13 : decode cX11_answer 13 = .ok (.bipush 19, 2) := by decide +kernel
theorem dX11_answer_15 : decode cX11_answer 15 = .ok (.invokestatic 78, 3) := by decide +kernel
theorem dX11_answer_18 : decode cX11_answer 18 = .ok (.ifCond .ne 6, 3) := by decide +kernel
theorem dX11_answer_21 : decode cX11_answer 21 = .ok (.bipush (-2), 2) := by decide +kernel
theorem dX11_answer_23 : decode cX11_answer 23 = .ok (.ireturn, 1) := by decide +kernel
theorem dX11_answer_24 : decode cX11_answer 24 = .ok (.aload_n 0, 1) := by decide +kernel
theorem dX11_answer_25 : decode cX11_answer 25 = .ok (.getfield 35, 3) := by decide +kernel
theorem dX11_answer_28 : decode cX11_answer 28 = .ok (.iload_n 1, 1) := by decide +kernel
theorem dX11_answer_29 : decode cX11_answer 29 = .ok (.invokevirtual 186, 3) := by decide +kernel
theorem dX11_answer_32 : decode cX11_answer 32 = .ok (.ifCond .ne 6, 3) := by decide +kernel
theorem dX11_answer_35 : decode cX11_answer 35 = .ok (.bipush (-3), 2) := by decide +kernel
theorem dX11_answer_37 : decode cX11_answer 37 = .ok (.ireturn, 1) := by decide +kernel
theorem dX11_answer_38 : decode cX11_answer 38 = .ok (.aload_n 0, 1) := by decide +kernel
theorem dX11_answer_39 : decode cX11_answer 39 = .ok (.getfield 35, 3) := by decide +kernel
theorem dX11_answer_42 : decode cX11_answer 42 = .ok (.iload_n 1, 1) := by decide +kernel
theorem dX11_answer_43 : decode cX11_answer 43 = .ok (.iload_n 2, 1) := by decide +kernel
theorem dX11_answer_44 : decode cX11_answer 44 = .ok (.invokevirtual 191, 3) := by decide +kernel
theorem dX11_answer_47 : decode cX11_answer 47 = .ok (.ireturn, 1) := by decide +kernel
theorem dX11_parted_0 : decode cX11_parted 0 = .ok (.iload_n 1, 1) := by decide +kernel
theorem dX11_parted_1 : decode cX11_parted 1 = .ok (.iconst (-1), 1) := by decide +kernel
theorem dX11_parted_2 : decode cX11_parted 2 = .ok (.if_icmp .eq 10, 3) := by decide +kernel
theorem dX11_parted_5 : decode cX11_parted 5 = .ok (.iload_n 1, 1) := by decide +kernel
theorem dX11_parted_6 : decode cX11_parted 6 = .ok (.invokestatic 90, 3) := by decide +kernel
theorem dX11_parted_9 : decode cX11_parted 9 = .ok (.ifCond .eq 12, 3) := by decide +kernel
theorem dX11_parted_12 : decode cX11_parted 12 = .ok (.iload_n 2, 1) := by decide +kernel
theorem dX11_parted_13 : decode cX11_parted 13 = .ok (.iconst 0, 1) := by decide +kernel
theorem dX11_parted_14 : decode cX11_parted 14 = .ok (.iconst 2, 1) := by decide +kernel
theorem dX11_parted_15 : decode cX11_parted 15 = .ok (.invokestatic 78, 3) := by decide +kernel
theorem dX11_parted_18 : decode cX11_parted 18 = .ok (.ifCond .ne 6, 3) := by decide +kernel
theorem dX11_parted_21 : decode cX11_parted 21 = .ok (.bipush (-2), 2) := by decide +kernel
theorem dX11_parted_23 : decode cX11_parted 23 = .ok (.ireturn, 1) := by decide +kernel
theorem dX11_parted_24 : decode cX11_parted 24 = .ok (.aload_n 0, 1) := by decide +kernel
theorem dX11_parted_25 : decode cX11_parted 25 = .ok (.getfield 35, 3) := by decide +kernel
theorem dX11_parted_28 : decode cX11_parted 28 = .ok (.iload_n 1, 1) := by decide +kernel
theorem dX11_parted_29 : decode cX11_parted 29 = .ok (.iload_n 2, 1) := by decide +kernel
theorem dX11_parted_30 : decode cX11_parted 30 = .ok (.invokevirtual 194, 3) := by decide +kernel
theorem dX11_parted_33 : decode cX11_parted 33 = .ok (.ireturn, 1) := by decide +kernel
theorem dX11_asOf_0 : decode cX11_asOf 0 = .ok (.iload_n 1, 1) := by decide +kernel
theorem dX11_asOf_1 : decode cX11_asOf 1 = .ok (.iconst (-1), 1) := by decide +kernel
theorem dX11_asOf_2 : decode cX11_asOf 2 = .ok (.if_icmp .eq 21, 3) := by decide +kernel
theorem dX11_asOf_5 : decode cX11_asOf 5 = .ok (.iload_n 1, 1) := by decide +kernel
theorem dX11_asOf_6 : decode cX11_asOf 6 = .ok (.iconst 0, 1) := by decide +kernel
theorem dX11_asOf_7 : decode cX11_asOf 7 = .ok (.aload_n 0, 1) := by decide +kernel
theorem dX11_asOf_8 : decode cX11_asOf 8 = .ok (.getfield 10, 3) := by decide +kernel
theorem dX11_asOf_11 : decode cX11_asOf 11 = .ok (.getfield 82, 3) := by decide +kernel
theorem dX11_asOf_14 : decode cX11_asOf 14 = .ok (.invokestatic 78, 3) := by decide +kernel
theorem dX11_asOf_17 : decode cX11_asOf 17 = .ok (.ifCond .ne 6, 3) := by decide +kernel
theorem dX11_asOf_20 : decode cX11_asOf 20 = .ok (.bipush (-2), 2) := by decide +kernel
theorem dX11_asOf_22 : decode cX11_asOf 22 = .ok (.ireturn, 1) := by decide +kernel
theorem dX11_asOf_23 : decode cX11_asOf 23 = .ok (.aload_n 0, 1) := by decide +kernel
theorem dX11_asOf_24 : decode cX11_asOf 24 = .ok (.getfield 10, 3) := by decide +kernel
theorem dX11_asOf_27 : decode cX11_asOf 27 = .ok (.getfield 197, 3) := by decide +kernel
theorem dX11_asOf_30 : decode cX11_asOf 30 = .ok (.istore_n 2, 1) := by decide +kernel
theorem dX11_asOf_31 : decode cX11_asOf 31 = .ok (.aload_n 0, 1) := by decide +kernel
theorem dX11_asOf_32 : decode cX11_asOf 32 = .ok (.getfield 10, 3) := by decide +kernel
theorem dX11_asOf_35 : decode cX11_asOf 35 = .ok (.iload_n 1, 1) := by decide +kernel
theorem dX11_asOf_36 : decode cX11_asOf 36 = .ok (.putfield 197, 3) := by decide +kernel
theorem dX11_asOf_39 : decode cX11_asOf 39 = .ok (.iload_n 2, 1) := by decide +kernel
theorem dX11_asOf_40 : decode cX11_asOf 40 = .ok (.ireturn, 1) := by decide +kernel
theorem dX11_rules_0 : decode cX11_rules 0 = .ok (.iload_n 1, 1) := by decide +kernel
theorem dX11_rules_1 : decode cX11_rules 1 = .ok (.invokestatic 179, 3) := by decide +kernel
theorem dX11_rules_4 : decode cX11_rules 4 = .ok (.ifCond .eq 14, 3) := by decide +kernel
theorem dX11_rules_7 : decode cX11_rules 7 = .ok (.aload_n 0, 1) := by decide +kernel
theorem dX11_rules_8 : decode cX11_rules 8 = .ok (.getfield 35, 3) := by decide +kernel
theorem dX11_rules_11 : decode cX11_rules 11 = .ok (.iload_n 1, 1) := by decide +kernel
theorem dX11_rules_12 : decode cX11_rules 12 = .ok (.invokevirtual 200, 3) := by decide +kernel
theorem dX11_rules_15 : decode cX11_rules 15 = .ok (.goto 5, 3) := by decide +kernel
theorem dX11_rules_18 : decode cX11_rules 18 = .ok (.bipush (-2), 2) := by decide +kernel
theorem dX11_rules_20 : decode cX11_rules 20 = .ok (.ireturn, 1) := by decide +kernel
theorem dX11_rule_0 : decode cX11_rule 0 = .ok (.iload_n 1, 1) := by decide +kernel
theorem dX11_rule_1 : decode cX11_rule 1 = .ok (.invokestatic 179, 3) := by decide +kernel
theorem dX11_rule_4 : decode cX11_rule 4 = .ok (.ifCond .eq 7, 3) := by decide +kernel
theorem dX11_rule_7 : decode cX11_rule 7 = .ok (.iload_n 2, 1) := by decide +kernel
theorem dX11_rule_8 : decode cX11_rule 8 = .ok (.ifCond .ge 6, 3) := by decide +kernel
theorem dX11_rule_11 : decode cX11_rule 11 = .ok (.bipush (-2), 2) := by decide +kernel
theorem dX11_rule_13 : decode cX11_rule 13 = .ok (.ireturn, 1) := by decide +kernel
theorem dX11_rule_14 : decode cX11_rule 14 = .ok (.aload_n 0, 1) := by decide +kernel
theorem dX11_rule_15 : decode cX11_rule 15 = .ok (.getfield 35, 3) := by decide +kernel
theorem dX11_rule_18 : decode cX11_rule 18 = .ok (.iload_n 1, 1) := by decide +kernel
theorem dX11_rule_19 : decode cX11_rule 19 = .ok (.iload_n 2, 1) := by decide +kernel
theorem dX11_rule_20 : decode cX11_rule 20 = .ok (.invokevirtual 203, 3) := by decide +kernel
theorem dX11_rule_23 : decode cX11_rule 23 = .ok (.ireturn, 1) := by decide +kernel
theorem dX11_unlike_0 : decode cX11_unlike 0 = .ok (.iload_n 1, 1) := by decide +kernel
theorem dX11_unlike_1 : decode cX11_unlike 1 = .ok (.invokestatic 179, 3) := by decide +kernel
theorem dX11_unlike_4 : decode cX11_unlike 4 = .ok (.ifCond .eq 14, 3) := by decide +kernel
theorem dX11_unlike_7 : decode cX11_unlike 7 = .ok (.aload_n 0, 1) := by decide +kernel
theorem dX11_unlike_8 : decode cX11_unlike 8 = .ok (.getfield 35, 3) := by decide +kernel
theorem dX11_unlike_11 : decode cX11_unlike 11 = .ok (.iload_n 1, 1) := by decide +kernel
theorem dX11_unlike_12 : decode cX11_unlike 12 = .ok (.invokevirtual 206, 3) := by decide +kernel
theorem dX11_unlike_15 : decode cX11_unlike 15 = .ok (.goto 5, 3) := by decide +kernel
theorem dX11_unlike_18 : decode cX11_unlike 18 = .ok (.bipush (-2), 2) := by decide +kernel
theorem dX11_unlike_20 : decode cX11_unlike 20 = .ok (.ireturn, 1) := by decide +kernel
theorem dX11_proves_0 : decode cX11_proves 0 = .ok (.iload_n 1, 1) := by decide +kernel
theorem dX11_proves_1 : decode cX11_proves 1 = .ok (.invokestatic 179, 3) := by decide +kernel
theorem dX11_proves_4 : decode cX11_proves 4 = .ok (.ifCond .eq 14, 3) := by decide +kernel
theorem dX11_proves_7 : decode cX11_proves 7 = .ok (.aload_n 0, 1) := by decide +kernel
theorem dX11_proves_8 : decode cX11_proves 8 = .ok (.getfield 35, 3) := by decide +kernel
theorem dX11_proves_11 : decode cX11_proves 11 = .ok (.iload_n 1, 1) := by decide +kernel
theorem dX11_proves_12 : decode cX11_proves 12 = .ok (.invokevirtual 209, 3) := by decide +kernel
theorem dX11_proves_15 : decode cX11_proves 15 = .ok (.goto 5, 3) := by decide +kernel
theorem dX11_proves_18 : decode cX11_proves 18 = .ok (.bipush (-2), 2) := by decide +kernel
theorem dX11_proves_20 : decode cX11_proves 20 = .ok (.ireturn, 1) := by decide +kernel
theorem dX11_minutes_0 : decode cX11_minutes 0 = .ok (.iload_n 1, 1) := by decide +kernel
theorem dX11_minutes_1 : decode cX11_minutes 1 = .ok (.invokestatic 179, 3) := by decide +kernel
theorem dX11_minutes_4 : decode cX11_minutes 4 = .ok (.ifCond .eq 20, 3) := by decide +kernel
theorem dX11_minutes_7 : decode cX11_minutes 7 = .ok (.iload_n 2, 1) := by decide +kernel
theorem dX11_minutes_8 : decode cX11_minutes 8 = .ok (.invokestatic 90, 3) := by decide +kernel
theorem dX11_minutes_11 : decode cX11_minutes 11 = .ok (.ifCond .eq 13, 3) := by decide +kernel
theorem dX11_minutes_14 : decode cX11_minutes 14 = .ok (.iload_n 3, 1) := by decide +kernel
theorem dX11_minutes_15 : decode cX11_minutes 15 = .ok (.iconst 1, 1) := by decide +kernel
theorem dX11_minutes_16 : decode cX11_minutes 16 = .ok (.bipush 120, 2) := by decide +kernel
theorem dX11_minutes_18 : decode cX11_minutes 18 = .ok (.invokestatic 78, 3) := by decide +kernel
theorem dX11_minutes_21 : decode cX11_minutes 21 = .ok (.ifCond .ne 6, 3) := by decide +kernel
theorem dX11_minutes_24 : decode cX11_minutes 24 = .ok (.bipush (-2), 2) := by decide +kernel
theorem dX11_minutes_26 : decode cX11_minutes 26 = .ok (.ireturn, 1) := by decide +kernel
theorem dX11_minutes_27 : decode cX11_minutes 27 = .ok (.aload_n 0, 1) := by decide +kernel
theorem dX11_minutes_28 : decode cX11_minutes 28 = .ok (.getfield 42, 3) := by decide +kernel
theorem dX11_minutes_31 : decode cX11_minutes 31 = .ok (.iload_n 1, 1) := by decide +kernel
theorem dX11_minutes_32 : decode cX11_minutes 32 = .ok (.iload_n 2, 1) := by decide +kernel
theorem dX11_minutes_33 : decode cX11_minutes 33 = .ok (.iload_n 3, 1) := by decide +kernel
theorem dX11_minutes_34 : decode cX11_minutes 34 = .ok (.invokevirtual 212, 3) := by decide +kernel
theorem dX11_minutes_37 : decode cX11_minutes 37 = .ok (.ireturn, 1) := by decide +kernel
theorem dX11_office_0 : decode cX11_office 0 = .ok (.iload_n 1, 1) := by decide +kernel
theorem dX11_office_1 : decode cX11_office 1 = .ok (.iconst 0, 1) := by decide +kernel
theorem dX11_office_2 : decode cX11_office 2 = .ok (.bipush 127, 2) := by decide +kernel
theorem dX11_office_4 : decode cX11_office 4 = .ok (.invokestatic 78, 3) := by decide +kernel
theorem dX11_office_7 : decode cX11_office 7 = .ok (.ifCond .eq 30, 3) := by decide +kernel
theorem dX11_office_10 : decode cX11_office 10 = .ok (.iload_n 2, 1) := by decide +kernel
theorem dX11_office_11 : decode cX11_office 11 = .ok (.iconst 0, 1) := by decide +kernel
theorem dX11_office_12 : decode cX11_office 12 = .ok (.sipush 1439, 3) := by decide +kernel
theorem dX11_office_15 : decode cX11_office 15 = .ok (.invokestatic 78, 3) := by decide +kernel
theorem dX11_office_18 : decode cX11_office 18 = .ok (.ifCond .eq 19, 3) := by decide +kernel
theorem dX11_office_21 : decode cX11_office 21 = .ok (.iload_n 3, 1) := by decide +kernel
theorem dX11_office_22 : decode cX11_office 22 = .ok (.iconst 0, 1) := by decide +kernel
theorem dX11_office_23 : decode cX11_office 23 = .ok (.sipush 1439, 3) := by decide +kernel
theorem dX11_office_26 : decode cX11_office 26 = .ok (.invokestatic 78, 3) := by decide +kernel
theorem dX11_office_29 : decode cX11_office 29 = .ok (.ifCond .eq 8, 3) := by decide +kernel
theorem dX11_office_32 : decode cX11_office 32 = .ok (.iload_n 2, 1) := by decide +kernel
theorem dX11_office_33 : decode cX11_office 33 = .ok (.iload_n 3, 1) := by decide +kernel
theorem dX11_office_34 : decode cX11_office 34 = .ok (.if_icmp .lt 6, 3) := by decide +kernel
theorem dX11_office_37 : decode cX11_office 37 = .ok (.bipush (-2), 2) := by decide +kernel
theorem dX11_office_39 : decode cX11_office 39 = .ok (.ireturn, 1) := by decide +kernel
theorem dX11_office_40 : decode cX11_office 40 = .ok (.aload_n 0, 1) := by decide +kernel
theorem dX11_office_41 : decode cX11_office 41 = .ok (.getfield 42, 3) := by decide +kernel
theorem dX11_office_44 : decode cX11_office 44 = .ok (.iload_n 1, 1) := by decide +kernel
theorem dX11_office_45 : decode cX11_office 45 = .ok (.iload_n 2, 1) := by decide +kernel
theorem dX11_office_46 : decode cX11_office 46 = .ok (.iload_n 3, 1) := by decide +kernel
theorem dX11_office_47 : decode cX11_office 47 = .ok (.invokevirtual 215, 3) := by decide +kernel
theorem dX11_office_50 : decode cX11_office 50 = .ok (.iconst 1, 1) := by decide +kernel
theorem dX11_office_51 : decode cX11_office 51 = .ok (.ireturn, 1) := by decide +kernel
theorem dX11_stand_0 : decode cX11_stand 0 = .ok (.aload_n 0, 1) := by decide +kernel
theorem dX11_stand_1 : decode cX11_stand 1 = .ok (.getfield 26, 3) := by decide +kernel
theorem dX11_stand_4 : decode cX11_stand 4 = .ok (.iload_n 1, 1) := by decide +kernel
theorem dX11_stand_5 : decode cX11_stand 5 = .ok (.invokevirtual 93, 3) := by decide +kernel
theorem dX11_stand_8 : decode cX11_stand 8 = .ok (.ifCond .eq 26, 3) := by decide +kernel
theorem dX11_stand_11 : decode cX11_stand 11 = .ok (.iload_n 2, 1) := by decide +kernel
theorem dX11_stand_12 : decode cX11_stand 12 = .ok (.iconst 0, 1) := by decide +kernel
theorem dX11_stand_13 : decode cX11_stand 13 = .ok (.sipush 1439, 3) := by decide +kernel
theorem dX11_stand_16 : decode cX11_stand 16 = .ok (.invokestatic 78, 3) := by decide +kernel
theorem dX11_stand_19 : decode cX11_stand 19 = .ok (.ifCond .eq 15, 3) := by decide +kernel
theorem dX11_stand_22 : decode cX11_stand 22 = .ok (.aload_n 0, 1) := by decide +kernel
theorem dX11_stand_23 : decode cX11_stand 23 = .ok (.getfield 42, 3) := by decide +kernel
theorem dX11_stand_26 : decode cX11_stand 26 = .ok (.iload_n 1, 1) := by decide +kernel
theorem dX11_stand_27 : decode cX11_stand 27 = .ok (.invokevirtual 219, 3) := by decide +kernel
theorem dX11_stand_30 : decode cX11_stand 30 = .ok (.iconst (-1), 1) := by decide +kernel
theorem dX11_stand_31 : decode cX11_stand 31 = .ok (.if_icmp .eq 6, 3) := by decide +kernel
theorem dX11_stand_34 : decode cX11_stand 34 = .ok (.bipush (-2), 2) := by decide +kernel
theorem dX11_stand_36 : decode cX11_stand 36 = .ok (.ireturn, 1) := by decide +kernel
theorem dX11_stand_37 : decode cX11_stand 37 = .ok (.aload_n 0, 1) := by decide +kernel
theorem dX11_stand_38 : decode cX11_stand 38 = .ok (.getfield 42, 3) := by decide +kernel
theorem dX11_stand_41 : decode cX11_stand 41 = .ok (.invokevirtual 222, 3) := by decide +kernel
theorem dX11_stand_44 : decode cX11_stand 44 = .ok (.ifCond .eq 6, 3) := by decide +kernel
theorem dX11_stand_47 : decode cX11_stand 47 = .ok (.bipush (-4), 2) := by decide +kernel
theorem dX11_stand_49 : decode cX11_stand 49 = .ok (.ireturn, 1) := by decide +kernel
theorem dX11_stand_50 : decode cX11_stand 50 = .ok (.aload_n 0, 1) := by decide +kernel
theorem dX11_stand_51 : decode cX11_stand 51 = .ok (.getfield 42, 3) := by decide +kernel
theorem dX11_stand_54 : decode cX11_stand 54 = .ok (.iload_n 1, 1) := by decide +kernel
theorem dX11_stand_55 : decode cX11_stand 55 = .ok (.aload_n 0, 1) := by decide +kernel
theorem dX11_stand_56 : decode cX11_stand 56 = .ok (.getfield 26, 3) := by decide +kernel
theorem dX11_stand_59 : decode cX11_stand 59 = .ok (.iload_n 1, 1) := by decide +kernel
theorem dX11_stand_60 : decode cX11_stand 60 = .ok (.invokevirtual 108, 3) := by decide +kernel
theorem dX11_stand_63 : decode cX11_stand 63 = .ok (.getfield 223, 3) := by decide +kernel
theorem dX11_stand_66 : decode cX11_stand 66 = .ok (.iload_n 2, 1) := by decide +kernel
theorem dX11_stand_67 : decode cX11_stand 67 = .ok (.invokevirtual 226, 3) := by decide +kernel
theorem dX11_stand_70 : decode cX11_stand 70 = .ok (.ireturn, 1) := by decide +kernel
theorem dX11_leave_0 : decode cX11_leave 0 = .ok (.aload_n 0, 1) := by decide +kernel
theorem dX11_leave_1 : decode cX11_leave 1 = .ok (.getfield 42, 3) := by decide +kernel
theorem dX11_leave_4 : decode cX11_leave 4 = .ok (.invokevirtual 229, 3) := by decide +kernel
theorem dX11_leave_7 : decode cX11_leave 7 = .ok (.ireturn, 1) := by decide +kernel
theorem dX11_sees_0 : decode cX11_sees 0 = .ok (.iload_n 1, 1) := by decide +kernel
theorem dX11_sees_1 : decode cX11_sees 1 = .ok (.invokestatic 179, 3) := by decide +kernel
theorem dX11_sees_4 : decode cX11_sees 4 = .ok (.ifCond .eq 10, 3) := by decide +kernel
theorem dX11_sees_7 : decode cX11_sees 7 = .ok (.iload_n 2, 1) := by decide +kernel
theorem dX11_sees_8 : decode cX11_sees 8 = .ok (.invokestatic 151, 3) := by decide +kernel
theorem dX11_sees_11 : decode cX11_sees 11 = .ok (.ifCond .ne 6, 3) := by decide +kernel
theorem dX11_sees_14 : decode cX11_sees 14 = .ok (.bipush (-2), 2) := by decide +kernel
theorem dX11_sees_16 : decode cX11_sees 16 = .ok (.ireturn, 1) := by decide +kernel
theorem dX11_sees_17 : decode cX11_sees 17 = .ok (.aload_n 0, 1) := by decide +kernel
theorem dX11_sees_18 : decode cX11_sees 18 = .ok (.getfield 42, 3) := by decide +kernel
theorem dX11_sees_21 : decode cX11_sees 21 = .ok (.iload_n 1, 1) := by decide +kernel
theorem dX11_sees_22 : decode cX11_sees 22 = .ok (.iload_n 2, 1) := by decide +kernel
theorem dX11_sees_23 : decode cX11_sees 23 = .ok (.invokevirtual 232, 3) := by decide +kernel
theorem dX11_sees_26 : decode cX11_sees 26 = .ok (.ireturn, 1) := by decide +kernel
theorem dX11_begun_0 : decode cX11_begun 0 = .ok (.iload_n 1, 1) := by decide +kernel
theorem dX11_begun_1 : decode cX11_begun 1 = .ok (.invokestatic 179, 3) := by decide +kernel
theorem dX11_begun_4 : decode cX11_begun 4 = .ok (.ifCond .eq 22, 3) := by decide +kernel
theorem dX11_begun_7 : decode cX11_begun 7 = .ok (.iload_n 2, 1) := by decide +kernel
theorem dX11_begun_8 : decode cX11_begun 8 = .ok (.invokestatic 151, 3) := by decide +kernel
theorem dX11_begun_11 : decode cX11_begun 11 = .ok (.ifCond .eq 15, 3) := by decide +kernel
theorem dX11_begun_14 : decode cX11_begun 14 = .ok (.aload_n 0, 1) := by decide +kernel
theorem dX11_begun_15 : decode cX11_begun 15 = .ok (.getfield 42, 3) := by decide +kernel
theorem dX11_begun_18 : decode cX11_begun 18 = .ok (.iload_n 3, 1) := by decide +kernel
theorem dX11_begun_19 : decode cX11_begun 19 = .ok (.invokevirtual 219, 3) := by decide +kernel
theorem dX11_begun_22 : decode cX11_begun 22 = .ok (.iconst (-1), 1) := by decide +kernel
theorem dX11_begun_23 : decode cX11_begun 23 = .ok (.if_icmp .ne 6, 3) := by decide +kernel
theorem dX11_begun_26 : decode cX11_begun 26 = .ok (.bipush (-2), 2) := by decide +kernel
theorem dX11_begun_28 : decode cX11_begun 28 = .ok (.ireturn, 1) := by decide +kernel
theorem dX11_begun_29 : decode cX11_begun 29 = .ok (.aload_n 0, 1) := by decide +kernel
theorem dX11_begun_30 : decode cX11_begun 30 = .ok (.getfield 42, 3) := by decide +kernel
theorem dX11_begun_33 : decode cX11_begun 33 = .ok (.iload_n 1, 1) := by decide +kernel
theorem dX11_begun_34 : decode cX11_begun 34 = .ok (.iload_n 2, 1) := by decide +kernel
theorem dX11_begun_35 : decode cX11_begun 35 = .ok (.iload_n 3, 1) := by decide +kernel
theorem dX11_begun_36 : decode cX11_begun 36 = .ok (.invokevirtual 235, 3) := by decide +kernel
theorem dX11_begun_39 : decode cX11_begun 39 = .ok (.ireturn, 1) := by decide +kernel
theorem dX11_teach_0 : decode cX11_teach 0 = .ok (.iload_n 1, 1) := by decide +kernel
theorem dX11_teach_1 : decode cX11_teach 1 = .ok (.invokestatic 86, 3) := by decide +kernel
theorem dX11_teach_4 : decode cX11_teach 4 = .ok (.ifCond .eq 14, 3) := by decide +kernel
theorem dX11_teach_7 : decode cX11_teach 7 = .ok (.aload_n 0, 1) := by decide +kernel
theorem dX11_teach_8 : decode cX11_teach 8 = .ok (.getfield 49, 3) := by decide +kernel
theorem dX11_teach_11 : decode cX11_teach 11 = .ok (.iload_n 1, 1) := by decide +kernel
theorem dX11_teach_12 : decode cX11_teach 12 = .ok (.invokevirtual 238, 3) := by decide +kernel
theorem dX11_teach_15 : decode cX11_teach 15 = .ok (.goto 5, 3) := by decide +kernel
theorem dX11_teach_18 : decode cX11_teach 18 = .ok (.bipush (-2), 2) := by decide +kernel
theorem dX11_teach_20 : decode cX11_teach 20 = .ok (.ireturn, 1) := by decide +kernel
theorem dX11_ready_0 : decode cX11_ready 0 = .ok (.iload_n 1, 1) := by decide +kernel
theorem dX11_ready_1 : decode cX11_ready 1 = .ok (.iconst (-1), 1) := by decide +kernel
theorem dX11_ready_2 : decode cX11_ready 2 = .ok (.if_icmp .eq 10, 3) := by decide +kernel
theorem dX11_ready_5 : decode cX11_ready 5 = .ok (.iload_n 1, 1) := by decide +kernel
theorem dX11_ready_6 : decode cX11_ready 6 = .ok (.invokestatic 86, 3) := by decide +kernel
theorem dX11_ready_9 : decode cX11_ready 9 = .ok (.ifCond .eq 14, 3) := by decide +kernel
theorem dX11_ready_12 : decode cX11_ready 12 = .ok (.aload_n 0, 1) := by decide +kernel
theorem dX11_ready_13 : decode cX11_ready 13 = .ok (.getfield 49, 3) := by decide +kernel
theorem dX11_ready_16 : decode cX11_ready 16 = .ok (.iload_n 1, 1) := by decide +kernel
theorem dX11_ready_17 : decode cX11_ready 17 = .ok (.invokevirtual 241, 3) := by decide +kernel
theorem dX11_ready_20 : decode cX11_ready 20 = .ok (.goto 5, 3) := by decide +kernel
theorem dX11_ready_23 : decode cX11_ready 23 = .ok (.bipush (-2), 2) := by decide +kernel
theorem dX11_ready_25 : decode cX11_ready 25 = .ok (.ireturn, 1) := by decide +kernel
theorem dX11_helpers_0 : decode cX11_helpers 0 = .ok (.iload_n 1, 1) := by decide +kernel
theorem dX11_helpers_1 : decode cX11_helpers 1 = .ok (.iconst 0, 1) := by decide +kernel
theorem dX11_helpers_2 : decode cX11_helpers 2 = .ok (.bipush 12, 2) := by decide +kernel
theorem dX11_helpers_4 : decode cX11_helpers 4 = .ok (.invokestatic 78, 3) := by decide +kernel
theorem dX11_helpers_7 : decode cX11_helpers 7 = .ok (.ifCond .eq 15, 3) := by decide +kernel
theorem dX11_helpers_10 : decode cX11_helpers 10 = .ok (.iload_n 2, 1) := by decide +kernel
theorem dX11_helpers_11 : decode cX11_helpers 11 = .ok (.iconst (-1), 1) := by decide +kernel
theorem dX11_helpers_12 : decode cX11_helpers 12 = .ok (.if_icmp .eq 13, 3) := by decide +kernel
theorem dX11_helpers_15 : decode cX11_helpers 15 = .ok (.iload_n 2, 1) := by decide +kernel
theorem dX11_helpers_16 : decode cX11_helpers 16 = .ok (.invokestatic 86, 3) := by decide +kernel
theorem dX11_helpers_19 : decode cX11_helpers 19 = .ok (.ifCond .ne 6, 3) := by decide +kernel
theorem dX11_helpers_22 : decode cX11_helpers 22 = .ok (.bipush (-2), 2) := by decide +kernel
theorem dX11_helpers_24 : decode cX11_helpers 24 = .ok (.ireturn, 1) := by decide +kernel
theorem dX11_helpers_25 : decode cX11_helpers 25 = .ok (.aload_n 0, 1) := by decide +kernel
theorem dX11_helpers_26 : decode cX11_helpers 26 = .ok (.getfield 49, 3) := by decide +kernel
theorem dX11_helpers_29 : decode cX11_helpers 29 = .ok (.iload_n 1, 1) := by decide +kernel
theorem dX11_helpers_30 : decode cX11_helpers 30 = .ok (.iload_n 2, 1) := by decide +kernel
theorem dX11_helpers_31 : decode cX11_helpers 31 = .ok (.invokevirtual 244, 3) := by decide +kernel
theorem dX11_helpers_34 : decode cX11_helpers 34 = .ok (.ireturn, 1) := by decide +kernel
theorem dX11_list_0 : decode cX11_list 0 = .ok (.aload_n 0, 1) := by decide +kernel
theorem dX11_list_1 : decode cX11_list 1 = .ok (.getfield 67, 3) := by decide +kernel
theorem dX11_list_4 : decode cX11_list 4 = .ok (.invokevirtual 247, 3) := by decide +kernel
theorem dX11_list_7 : decode cX11_list 7 = .ok (.ifCond .eq 8, 3) := by decide +kernel
theorem dX11_list_10 : decode cX11_list 10 = .ok (.bipush (-4), 2) := by decide +kernel
theorem dX11_list_12 : decode cX11_list 12 = .ok (.goto 10, 3) := by decide +kernel
theorem dX11_list_15 : decode cX11_list 15 = .ok (.aload_n 0, 1) := by decide +kernel
theorem dX11_list_16 : decode cX11_list 16 = .ok (.getfield 67, 3) := by decide +kernel
theorem dX11_list_19 : decode cX11_list 19 = .ok (.invokevirtual 248, 3) := by decide +kernel
theorem dX11_list_22 : decode cX11_list 22 = .ok (.ireturn, 1) := by decide +kernel
theorem dX11_listIs_0 : decode cX11_listIs 0 = .ok (.aload_n 0, 1) := by decide +kernel
theorem dX11_listIs_1 : decode cX11_listIs 1 = .ok (.getfield 67, 3) := by decide +kernel
theorem dX11_listIs_4 : decode cX11_listIs 4 = .ok (.iload_n 1, 1) := by decide +kernel
theorem dX11_listIs_5 : decode cX11_listIs 5 = .ok (.invokevirtual 251, 3) := by decide +kernel
theorem dX11_listIs_8 : decode cX11_listIs 8 = .ok (.ifCond .eq 12, 3) := by decide +kernel
theorem dX11_listIs_11 : decode cX11_listIs 11 = .ok (.iload_n 2, 1) := by decide +kernel
theorem dX11_listIs_12 : decode cX11_listIs 12 = .ok (.iconst 0, 1) := by decide +kernel
theorem dX11_listIs_13 : decode cX11_listIs 13 = .ok (.iconst 3, 1) := by decide +kernel
theorem dX11_listIs_14 : decode cX11_listIs 14 = .ok (.invokestatic 78, 3) := by decide +kernel
theorem dX11_listIs_17 : decode cX11_listIs 17 = .ok (.ifCond .ne 6, 3) := by decide +kernel
theorem dX11_listIs_20 : decode cX11_listIs 20 = .ok (.bipush (-2), 2) := by decide +kernel
theorem dX11_listIs_22 : decode cX11_listIs 22 = .ok (.ireturn, 1) := by decide +kernel
theorem dX11_listIs_23 : decode cX11_listIs 23 = .ok (.aload_n 0, 1) := by decide +kernel
theorem dX11_listIs_24 : decode cX11_listIs 24 = .ok (.getfield 67, 3) := by decide +kernel
theorem dX11_listIs_27 : decode cX11_listIs 27 = .ok (.iload_n 1, 1) := by decide +kernel
theorem dX11_listIs_28 : decode cX11_listIs 28 = .ok (.iload_n 2, 1) := by decide +kernel
theorem dX11_listIs_29 : decode cX11_listIs 29 = .ok (.invokevirtual 252, 3) := by decide +kernel
theorem dX11_listIs_32 : decode cX11_listIs 32 = .ok (.ireturn, 1) := by decide +kernel
theorem dX11_ripe_0 : decode cX11_ripe 0 = .ok (.iload_n 1, 1) := by decide +kernel
theorem dX11_ripe_1 : decode cX11_ripe 1 = .ok (.iconst 1, 1) := by decide +kernel
theorem dX11_ripe_2 : decode cX11_ripe 2 = .ok (.bipush 30, 2) := by decide +kernel
theorem dX11_ripe_4 : decode cX11_ripe 4 = .ok (.invokestatic 78, 3) := by decide +kernel
theorem dX11_ripe_7 : decode cX11_ripe 7 = .ok (.ifCond .eq 22, 3) := by decide +kernel
theorem dX11_ripe_10 : decode cX11_ripe 10 = .ok (.iload_n 2, 1) := by decide +kernel
theorem dX11_ripe_11 : decode cX11_ripe 11 = .ok (.invokestatic 151, 3) := by decide +kernel
theorem dX11_ripe_14 : decode cX11_ripe 14 = .ok (.ifCond .eq 15, 3) := by decide +kernel
theorem dX11_ripe_17 : decode cX11_ripe 17 = .ok (.iload_n 3, 1) := by decide +kernel
theorem dX11_ripe_18 : decode cX11_ripe 18 = .ok (.invokestatic 151, 3) := by decide +kernel
theorem dX11_ripe_21 : decode cX11_ripe 21 = .ok (.ifCond .eq 8, 3) := by decide +kernel
theorem dX11_ripe_24 : decode cX11_ripe 24 = .ok (.iload_n 2, 1) := by decide +kernel
theorem dX11_ripe_25 : decode cX11_ripe 25 = .ok (.iload_n 3, 1) := by decide +kernel
theorem dX11_ripe_26 : decode cX11_ripe 26 = .ok (.if_icmp .le 6, 3) := by decide +kernel
theorem dX11_ripe_29 : decode cX11_ripe 29 = .ok (.bipush (-2), 2) := by decide +kernel
theorem dX11_ripe_31 : decode cX11_ripe 31 = .ok (.ireturn, 1) := by decide +kernel
theorem dX11_ripe_32 : decode cX11_ripe 32 = .ok (.aload_n 0, 1) := by decide +kernel
theorem dX11_ripe_33 : decode cX11_ripe 33 = .ok (.getfield 35, 3) := by decide +kernel
theorem dX11_ripe_36 : decode cX11_ripe 36 = .ok (.iload_n 1, 1) := by decide +kernel
theorem dX11_ripe_37 : decode cX11_ripe 37 = .ok (.iload_n 2, 1) := by decide +kernel
theorem dX11_ripe_38 : decode cX11_ripe 38 = .ok (.iload_n 3, 1) := by decide +kernel
theorem dX11_ripe_39 : decode cX11_ripe 39 = .ok (.invokevirtual 253, 3) := by decide +kernel
theorem dX11_ripe_42 : decode cX11_ripe 42 = .ok (.ireturn, 1) := by decide +kernel
theorem dX11_order_0 : decode cX11_order 0 = .ok (.iload_n 1, 1) := by decide +kernel
theorem dX11_order_1 : decode cX11_order 1 = .ok (.invokestatic 179, 3) := by decide +kernel
theorem dX11_order_4 : decode cX11_order 4 = .ok (.ifCond .eq 15, 3) := by decide +kernel
theorem dX11_order_7 : decode cX11_order 7 = .ok (.iload_n 2, 1) := by decide +kernel
theorem dX11_order_8 : decode cX11_order 8 = .ok (.iconst (-1), 1) := by decide +kernel
theorem dX11_order_9 : decode cX11_order 9 = .ok (.if_icmp .eq 13, 3) := by decide +kernel
theorem dX11_order_12 : decode cX11_order 12 = .ok (.iload_n 2, 1) := by decide +kernel
theorem dX11_order_13 : decode cX11_order 13 = .ok (.invokestatic 151, 3) := by decide +kernel
theorem dX11_order_16 : decode cX11_order 16 = .ok (.ifCond .ne 6, 3) := by decide +kernel
theorem dX11_order_19 : decode cX11_order 19 = .ok (.bipush (-2), 2) := by decide +kernel
theorem dX11_order_21 : decode cX11_order 21 = .ok (.ireturn, 1) := by decide +kernel
theorem dX11_order_22 : decode cX11_order 22 = .ok (.aload_n 0, 1) := by decide +kernel
theorem dX11_order_23 : decode cX11_order 23 = .ok (.getfield 35, 3) := by decide +kernel
theorem dX11_order_26 : decode cX11_order 26 = .ok (.iload_n 1, 1) := by decide +kernel
theorem dX11_order_27 : decode cX11_order 27 = .ok (.iload_n 2, 1) := by decide +kernel
theorem dX11_order_28 : decode cX11_order 28 = .ok (.invokevirtual 256, 3) := by decide +kernel
theorem dX11_order_31 : decode cX11_order 31 = .ok (.ireturn, 1) := by decide +kernel
theorem dX11_number_0 : decode cX11_number 0 = .ok (.iload_n 1, 1) := by decide +kernel
theorem dX11_number_1 : decode cX11_number 1 = .ok (.iconst 1, 1) := by decide +kernel
theorem dX11_number_2 : decode cX11_number 2 = .ok (.bipush 100, 2) := by decide +kernel
theorem dX11_number_4 : decode cX11_number 4 = .ok (.invokestatic 78, 3) := by decide +kernel
theorem dX11_number_7 : decode cX11_number 7 = .ok (.ifCond .eq 37, 3) := by decide +kernel
theorem dX11_number_10 : decode cX11_number 10 = .ok (.iload_n 2, 1) := by decide +kernel
theorem dX11_number_11 : decode cX11_number 11 = .ok (.iconst 1, 1) := by decide +kernel
theorem dX11_number_12 : decode cX11_number 12 = .ok (.sipush 1000, 3) := by decide +kernel
theorem dX11_number_15 : decode cX11_number 15 = .ok (.invokestatic 78, 3) := by decide +kernel
theorem dX11_number_18 : decode cX11_number 18 = .ok (.ifCond .eq 26, 3) := by decide +kernel
theorem dX11_number_21 : decode cX11_number 21 = .ok (.iload_n 3, 1) := by decide +kernel
theorem dX11_number_22 : decode cX11_number 22 = .ok (.iconst 0, 1) := by decide +kernel
theorem dX11_number_23 : decode cX11_number 23 = .ok (.bipush 100, 2) := by decide +kernel
theorem dX11_number_25 : decode cX11_number 25 = .ok (.invokestatic 78, 3) := by decide +kernel
theorem dX11_number_28 : decode cX11_number 28 = .ok (.ifCond .eq 16, 3) := by decide +kernel
theorem dX11_number_31 : decode cX11_number 31 = .ok (.iload_n 3, 1) := by decide +kernel
theorem dX11_number_32 : decode cX11_number 32 = .ok (.iload_n 2, 1) := by decide +kernel
theorem dX11_number_33 : decode cX11_number 33 = .ok (.if_icmp .ge 11, 3) := by decide +kernel
theorem dX11_number_36 : decode cX11_number 36 = .ok (.iload 4, 2) := by decide +kernel
theorem dX11_number_38 : decode cX11_number 38 = .ok (.invokestatic 151, 3) := by decide +kernel
theorem dX11_number_41 : decode cX11_number 41 = .ok (.ifCond .ne 6, 3) := by decide +kernel
theorem dX11_number_44 : decode cX11_number 44 = .ok (.bipush (-2), 2) := by decide +kernel
theorem dX11_number_46 : decode cX11_number 46 = .ok (.ireturn, 1) := by decide +kernel
theorem dX11_number_47 : decode cX11_number 47 = .ok (.aload_n 0, 1) := by decide +kernel
theorem dX11_number_48 : decode cX11_number 48 = .ok (.getfield 19, 3) := by decide +kernel
theorem dX11_number_51 : decode cX11_number 51 = .ok (.iload 4, 2) := by decide +kernel
theorem dX11_number_53 : decode cX11_number 53 = .ok (.invokevirtual 259, 3) := by decide +kernel
theorem dX11_number_56 : decode cX11_number 56 = .ok (.ifCond .ne 5, 3) := by decide +kernel
theorem dX11_number_59 : decode cX11_number 59 = .ok (.iconst 0, 1) := by decide +kernel
theorem dX11_number_60 : decode cX11_number 60 = .ok (.ireturn, 1) := by decide +kernel
theorem dX11_number_61 : decode cX11_number 61 = .ok (.bipush 100, 2) := by decide +kernel
theorem dX11_number_63 : decode cX11_number 63 = .ok (.aload_n 0, 1) := by decide +kernel
theorem dX11_number_64 : decode cX11_number 64 = .ok (.getfield 26, 3) := by decide +kernel
theorem dX11_number_67 : decode cX11_number 67 = .ok (.iconst (-1), 1) := by decide +kernel
theorem dX11_number_68 : decode cX11_number 68 = .ok (.iconst (-1), 1) := by decide +kernel
theorem dX11_number_69 : decode cX11_number 69 = .ok (.iconst 1, 1) := by decide +kernel
theorem dX11_number_70 : decode cX11_number 70 = .ok (.invokevirtual 133, 3) := by decide +kernel
theorem dX11_number_73 : decode cX11_number 73 = .ok (.imul, 1) := by decide +kernel
theorem dX11_number_74 : decode cX11_number 74 = .ok (.istore 5, 2) := by decide +kernel
theorem dX11_number_76 : decode cX11_number 76 = .ok (.iload 5, 2) := by decide +kernel
theorem dX11_number_78 : decode cX11_number 78 = .ok (.iload_n 1, 1) := by decide +kernel
theorem dX11_number_79 : decode cX11_number 79 = .ok (.iload_n 2, 1) := by decide +kernel
theorem dX11_number_80 : decode cX11_number 80 = .ok (.iload_n 3, 1) := by decide +kernel
theorem dX11_number_81 : decode cX11_number 81 = .ok (.isub, 1) := by decide +kernel
theorem dX11_number_82 : decode cX11_number 82 = .ok (.imul, 1) := by decide +kernel
theorem dX11_number_83 : decode cX11_number 83 = .ok (.if_icmp .ge 5, 3) := by decide +kernel
theorem dX11_number_86 : decode cX11_number 86 = .ok (.iconst 2, 1) := by decide +kernel
theorem dX11_number_87 : decode cX11_number 87 = .ok (.ireturn, 1) := by decide +kernel
theorem dX11_number_88 : decode cX11_number 88 = .ok (.iload 5, 2) := by decide +kernel
theorem dX11_number_90 : decode cX11_number 90 = .ok (.iload_n 1, 1) := by decide +kernel
theorem dX11_number_91 : decode cX11_number 91 = .ok (.iload_n 2, 1) := by decide +kernel
theorem dX11_number_92 : decode cX11_number 92 = .ok (.iload_n 3, 1) := by decide +kernel
theorem dX11_number_93 : decode cX11_number 93 = .ok (.iadd, 1) := by decide +kernel
theorem dX11_number_94 : decode cX11_number 94 = .ok (.imul, 1) := by decide +kernel
theorem dX11_number_95 : decode cX11_number 95 = .ok (.if_icmp .ge 7, 3) := by decide +kernel
theorem dX11_number_98 : decode cX11_number 98 = .ok (.iconst 1, 1) := by decide +kernel
theorem dX11_number_99 : decode cX11_number 99 = .ok (.goto 4, 3) := by decide +kernel
theorem dX11_number_102 : decode cX11_number 102 = .ok (.iconst 0, 1) := by decide +kernel
theorem dX11_number_103 : decode cX11_number 103 = .ok (.ireturn, 1) := by decide +kernel
theorem dX11_chosen_0 : decode cX11_chosen 0 = .ok (.iload_n 1, 1) := by decide +kernel
theorem dX11_chosen_1 : decode cX11_chosen 1 = .ok (.invokestatic 86, 3) := by decide +kernel
theorem dX11_chosen_4 : decode cX11_chosen 4 = .ok (.ifCond .eq 14, 3) := by decide +kernel
theorem dX11_chosen_7 : decode cX11_chosen 7 = .ok (.aload_n 0, 1) := by decide +kernel
theorem dX11_chosen_8 : decode cX11_chosen 8 = .ok (.getfield 26, 3) := by decide +kernel
theorem dX11_chosen_11 : decode cX11_chosen 11 = .ok (.iload_n 1, 1) := by decide +kernel
theorem dX11_chosen_12 : decode cX11_chosen 12 = .ok (.invokevirtual 262, 3) := by decide +kernel
theorem dX11_chosen_15 : decode cX11_chosen 15 = .ok (.goto 5, 3) := by decide +kernel
theorem dX11_chosen_18 : decode cX11_chosen 18 = .ok (.bipush (-2), 2) := by decide +kernel
theorem dX11_chosen_20 : decode cX11_chosen 20 = .ok (.ireturn, 1) := by decide +kernel
theorem dX11_changed_0 : decode cX11_changed 0 = .ok (.iload_n 1, 1) := by decide +kernel
theorem dX11_changed_1 : decode cX11_changed 1 = .ok (.invokestatic 86, 3) := by decide +kernel
theorem dX11_changed_4 : decode cX11_changed 4 = .ok (.ifCond .eq 14, 3) := by decide +kernel
theorem dX11_changed_7 : decode cX11_changed 7 = .ok (.aload_n 0, 1) := by decide +kernel
theorem dX11_changed_8 : decode cX11_changed 8 = .ok (.getfield 26, 3) := by decide +kernel
theorem dX11_changed_11 : decode cX11_changed 11 = .ok (.iload_n 1, 1) := by decide +kernel
theorem dX11_changed_12 : decode cX11_changed 12 = .ok (.invokevirtual 265, 3) := by decide +kernel
theorem dX11_changed_15 : decode cX11_changed 15 = .ok (.goto 5, 3) := by decide +kernel
theorem dX11_changed_18 : decode cX11_changed 18 = .ok (.bipush (-2), 2) := by decide +kernel
theorem dX11_changed_20 : decode cX11_changed 20 = .ok (.ireturn, 1) := by decide +kernel
theorem dX11_wins_0 : decode cX11_wins 0 = .ok (.iload_n 1, 1) := by decide +kernel
theorem dX11_wins_1 : decode cX11_wins 1 = .ok (.iconst 0, 1) := by decide +kernel
theorem dX11_wins_2 : decode cX11_wins 2 = .ok (.bipush 6, 2) := by decide +kernel
theorem dX11_wins_4 : decode cX11_wins 4 = .ok (.invokestatic 78, 3) := by decide +kernel
theorem dX11_wins_7 : decode cX11_wins 7 = .ok (.ifCond .eq 14, 3) := by decide +kernel
theorem dX11_wins_10 : decode cX11_wins 10 = .ok (.aload_n 0, 1) := by decide +kernel
theorem dX11_wins_11 : decode cX11_wins 11 = .ok (.getfield 26, 3) := by decide +kernel
theorem dX11_wins_14 : decode cX11_wins 14 = .ok (.iload_n 1, 1) := by decide +kernel
theorem dX11_wins_15 : decode cX11_wins 15 = .ok (.invokevirtual 268, 3) := by decide +kernel
theorem dX11_wins_18 : decode cX11_wins 18 = .ok (.goto 5, 3) := by decide +kernel
theorem dX11_wins_21 : decode cX11_wins 21 = .ok (.bipush (-2), 2) := by decide +kernel
theorem dX11_wins_23 : decode cX11_wins 23 = .ok (.ireturn, 1) := by decide +kernel
theorem dX11_choice_0 : decode cX11_choice 0 = .ok (.iload_n 1, 1) := by decide +kernel
theorem dX11_choice_1 : decode cX11_choice 1 = .ok (.ifCond .eq 17, 3) := by decide +kernel
theorem dX11_choice_4 : decode cX11_choice 4 = .ok (.aload_n 0, 1) := by decide +kernel
theorem dX11_choice_5 : decode cX11_choice 5 = .ok (.getfield 26, 3) := by decide +kernel
theorem dX11_choice_8 : decode cX11_choice 8 = .ok (.iload_n 2, 1) := by decide +kernel
theorem dX11_choice_9 : decode cX11_choice 9 = .ok (.invokevirtual 93, 3) := by decide +kernel
theorem dX11_choice_12 : decode cX11_choice 12 = .ok (.ifCond .eq 23, 3) := by decide +kernel
theorem dX11_choice_15 : decode cX11_choice 15 = .ok (.goto 10, 3) := by decide +kernel
theorem dX11_choice_18 : decode cX11_choice 18 = .ok (.iload_n 2, 1) := by decide +kernel
theorem dX11_choice_19 : decode cX11_choice 19 = .ok (.invokestatic 86, 3) := by decide +kernel
theorem dX11_choice_22 : decode cX11_choice 22 = .ok (.ifCond .eq 13, 3) := by decide +kernel
theorem dX11_choice_25 : decode cX11_choice 25 = .ok (.iload_n 3, 1) := by decide +kernel
theorem dX11_choice_26 : decode cX11_choice 26 = .ok (.iconst 0, 1) := by decide +kernel
theorem dX11_choice_27 : decode cX11_choice 27 = .ok (.bipush 100, 2) := by decide +kernel
theorem dX11_choice_29 : decode cX11_choice 29 = .ok (.invokestatic 78, 3) := by decide +kernel
theorem dX11_choice_32 : decode cX11_choice 32 = .ok (.ifCond .ne 6, 3) := by decide +kernel
theorem dX11_choice_35 : decode cX11_choice 35 = .ok (.bipush (-2), 2) := by decide +kernel
theorem dX11_choice_37 : decode cX11_choice 37 = .ok (.ireturn, 1) := by decide +kernel
theorem dX11_choice_38 : decode cX11_choice 38 = .ok (.aload_n 0, 1) := by decide +kernel
theorem dX11_choice_39 : decode cX11_choice 39 = .ok (.getfield 58, 3) := by decide +kernel
theorem dX11_choice_42 : decode cX11_choice 42 = .ok (.invokevirtual 271, 3) := by decide +kernel
theorem dX11_choice_45 : decode cX11_choice 45 = .ok (.ifCond .eq 6, 3) := by decide +kernel
theorem dX11_choice_48 : decode cX11_choice 48 = .ok (.bipush (-4), 2) := by decide +kernel
theorem dX11_choice_50 : decode cX11_choice 50 = .ok (.ireturn, 1) := by decide +kernel
theorem dX11_choice_51 : decode cX11_choice 51 = .ok (.aload_n 0, 1) := by decide +kernel
theorem dX11_choice_52 : decode cX11_choice 52 = .ok (.getfield 58, 3) := by decide +kernel
theorem dX11_choice_55 : decode cX11_choice 55 = .ok (.iload_n 1, 1) := by decide +kernel
theorem dX11_choice_56 : decode cX11_choice 56 = .ok (.iload_n 2, 1) := by decide +kernel
theorem dX11_choice_57 : decode cX11_choice 57 = .ok (.iload_n 3, 1) := by decide +kernel
theorem dX11_choice_58 : decode cX11_choice 58 = .ok (.invokevirtual 272, 3) := by decide +kernel
theorem dX11_choice_61 : decode cX11_choice 61 = .ok (.ireturn, 1) := by decide +kernel
theorem dX11_drop_0 : decode cX11_drop 0 = .ok (.aload_n 0, 1) := by decide +kernel
theorem dX11_drop_1 : decode cX11_drop 1 = .ok (.getfield 58, 3) := by decide +kernel
theorem dX11_drop_4 : decode cX11_drop 4 = .ok (.invokevirtual 276, 3) := by decide +kernel
theorem dX11_drop_7 : decode cX11_drop 7 = .ok (.ireturn, 1) := by decide +kernel
theorem dX11_judge_0 : decode cX11_judge 0 = .ok (.iload_n 1, 1) := by decide +kernel
theorem dX11_judge_1 : decode cX11_judge 1 = .ok (.iconst 0, 1) := by decide +kernel
theorem dX11_judge_2 : decode cX11_judge 2 = .ok (.aload_n 0, 1) := by decide +kernel
theorem dX11_judge_3 : decode cX11_judge 3 = .ok (.getfield 58, 3) := by decide +kernel
theorem dX11_judge_6 : decode cX11_judge 6 = .ok (.invokevirtual 277, 3) := by decide +kernel
theorem dX11_judge_9 : decode cX11_judge 9 = .ok (.invokestatic 78, 3) := by decide +kernel
theorem dX11_judge_12 : decode cX11_judge 12 = .ok (.ifCond .eq 12, 3) := by decide +kernel
theorem dX11_judge_15 : decode cX11_judge 15 = .ok (.iload_n 2, 1) := by decide +kernel
theorem dX11_judge_16 : decode cX11_judge 16 = .ok (.iconst 0, 1) := by decide +kernel
theorem dX11_judge_17 : decode cX11_judge 17 = .ok (.iconst 2, 1) := by decide +kernel
theorem dX11_judge_18 : decode cX11_judge 18 = .ok (.invokestatic 78, 3) := by decide +kernel
theorem dX11_judge_21 : decode cX11_judge 21 = .ok (.ifCond .ne 6, 3) := by decide +kernel
theorem dX11_judge_24 : decode cX11_judge 24 = .ok (.bipush (-2), 2) := by decide +kernel
theorem dX11_judge_26 : decode cX11_judge 26 = .ok (.ireturn, 1) := by decide +kernel
theorem dX11_judge_27 : decode cX11_judge 27 = .ok (.aload_n 0, 1) := by decide +kernel
theorem dX11_judge_28 : decode cX11_judge 28 = .ok (.getfield 58, 3) := by decide +kernel
theorem dX11_judge_31 : decode cX11_judge 31 = .ok (.iload_n 1, 1) := by decide +kernel
theorem dX11_judge_32 : decode cX11_judge 32 = .ok (.iload_n 2, 1) := by decide +kernel
theorem dX11_judge_33 : decode cX11_judge 33 = .ok (.invokevirtual 280, 3) := by decide +kernel
theorem dX11_judge_36 : decode cX11_judge 36 = .ok (.ireturn, 1) := by decide +kernel
theorem dX11_best_0 : decode cX11_best 0 = .ok (.iload_n 1, 1) := by decide +kernel
theorem dX11_best_1 : decode cX11_best 1 = .ok (.iconst 0, 1) := by decide +kernel
theorem dX11_best_2 : decode cX11_best 2 = .ok (.sipush 1000, 3) := by decide +kernel
theorem dX11_best_5 : decode cX11_best 5 = .ok (.invokestatic 78, 3) := by decide +kernel
theorem dX11_best_8 : decode cX11_best 8 = .ok (.ifCond .eq 14, 3) := by decide +kernel
theorem dX11_best_11 : decode cX11_best 11 = .ok (.aload_n 0, 1) := by decide +kernel
theorem dX11_best_12 : decode cX11_best 12 = .ok (.getfield 58, 3) := by decide +kernel
theorem dX11_best_15 : decode cX11_best 15 = .ok (.iload_n 1, 1) := by decide +kernel
theorem dX11_best_16 : decode cX11_best 16 = .ok (.invokevirtual 283, 3) := by decide +kernel
theorem dX11_best_19 : decode cX11_best 19 = .ok (.goto 5, 3) := by decide +kernel
theorem dX11_best_22 : decode cX11_best 22 = .ok (.bipush (-2), 2) := by decide +kernel
theorem dX11_best_24 : decode cX11_best 24 = .ok (.ireturn, 1) := by decide +kernel
theorem dX11_sheet_0 : decode cX11_sheet 0 = .ok (.iload_n 1, 1) := by decide +kernel
theorem dX11_sheet_1 : decode cX11_sheet 1 = .ok (.invokestatic 161, 3) := by decide +kernel
theorem dX11_sheet_4 : decode cX11_sheet 4 = .ok (.ifCond .eq 16, 3) := by decide +kernel
theorem dX11_sheet_7 : decode cX11_sheet 7 = .ok (.iload_n 2, 1) := by decide +kernel
theorem dX11_sheet_8 : decode cX11_sheet 8 = .ok (.invokestatic 286, 3) := by decide +kernel
theorem dX11_sheet_11 : decode cX11_sheet 11 = .ok (.ifCond .eq 9, 3) := by decide +kernel
theorem dX11_sheet_14 : decode cX11_sheet 14 = .ok (.iload_n 3, 1) := by decide +kernel
theorem dX11_sheet_15 : decode cX11_sheet 15 = .ok (.bipush 40, 2) := by decide +kernel
theorem dX11_sheet_17 : decode cX11_sheet 17 = .ok (.if_icmp .le 6, 3) := by decide +kernel
theorem dX11_sheet_20 : decode cX11_sheet 20 = .ok (.bipush (-2), 2) := by decide +kernel
theorem dX11_sheet_22 : decode cX11_sheet 22 = .ok (.ireturn, 1) := by decide +kernel
theorem dX11_sheet_23 : decode cX11_sheet 23 = .ok (.iload_n 3, 1) := by decide +kernel
theorem dX11_sheet_24 : decode cX11_sheet 24 = .ok (.ifCond .ge 9, 3) := by decide +kernel
theorem dX11_sheet_27 : decode cX11_sheet 27 = .ok (.aload_n 0, 1) := by decide +kernel
theorem dX11_sheet_28 : decode cX11_sheet 28 = .ok (.iconst 5, 1) := by decide +kernel
theorem dX11_sheet_29 : decode cX11_sheet 29 = .ok (.invokevirtual 167, 3) := by decide +kernel
theorem dX11_sheet_32 : decode cX11_sheet 32 = .ok (.ireturn, 1) := by decide +kernel
theorem dX11_sheet_33 : decode cX11_sheet 33 = .ok (.aload_n 0, 1) := by decide +kernel
theorem dX11_sheet_34 : decode cX11_sheet 34 = .ok (.getfield 73, 3) := by decide +kernel
theorem dX11_sheet_37 : decode cX11_sheet 37 = .ok (.iload_n 1, 1) := by decide +kernel
theorem dX11_sheet_38 : decode cX11_sheet 38 = .ok (.aaload, 1) := by decide +kernel
theorem dX11_sheet_39 : decode cX11_sheet 39 = .ok (.iload_n 2, 1) := by decide +kernel
theorem dX11_sheet_40 : decode cX11_sheet 40 = .ok (.iload_n 3, 1) := by decide +kernel
theorem dX11_sheet_41 : decode cX11_sheet 41 = .ok (.invokevirtual 289, 3) := by decide +kernel
theorem dX11_sheet_44 : decode cX11_sheet 44 = .ok (.iload_n 3, 1) := by decide +kernel
theorem dX11_sheet_45 : decode cX11_sheet 45 = .ok (.ireturn, 1) := by decide +kernel
theorem dX11_lose_0 : decode cX11_lose 0 = .ok (.iload_n 1, 1) := by decide +kernel
theorem dX11_lose_1 : decode cX11_lose 1 = .ok (.invokestatic 161, 3) := by decide +kernel
theorem dX11_lose_4 : decode cX11_lose 4 = .ok (.ifCond .ne 6, 3) := by decide +kernel
theorem dX11_lose_7 : decode cX11_lose 7 = .ok (.bipush (-2), 2) := by decide +kernel
theorem dX11_lose_9 : decode cX11_lose 9 = .ok (.ireturn, 1) := by decide +kernel
theorem dX11_lose_10 : decode cX11_lose 10 = .ok (.aload_n 0, 1) := by decide +kernel
theorem dX11_lose_11 : decode cX11_lose 11 = .ok (.getfield 73, 3) := by decide +kernel
theorem dX11_lose_14 : decode cX11_lose 14 = .ok (.iload_n 1, 1) := by decide +kernel
theorem dX11_lose_15 : decode cX11_lose 15 = .ok (.aaload, 1) := by decide +kernel
theorem dX11_lose_16 : decode cX11_lose 16 = .ok (.invokevirtual 164, 3) := by decide +kernel
theorem dX11_lose_19 : decode cX11_lose 19 = .ok (.ifCond .eq 11, 3) := by decide +kernel
theorem dX11_lose_22 : decode cX11_lose 22 = .ok (.aload_n 0, 1) := by decide +kernel
theorem dX11_lose_23 : decode cX11_lose 23 = .ok (.iconst 1, 1) := by decide +kernel
theorem dX11_lose_24 : decode cX11_lose 24 = .ok (.invokevirtual 167, 3) := by decide +kernel
theorem dX11_lose_27 : decode cX11_lose 27 = .ok (.goto 12, 3) := by decide +kernel
theorem dX11_lose_30 : decode cX11_lose 30 = .ok (.aload_n 0, 1) := by decide +kernel
theorem dX11_lose_31 : decode cX11_lose 31 = .ok (.getfield 73, 3) := by decide +kernel
theorem dX11_lose_34 : decode cX11_lose 34 = .ok (.iload_n 1, 1) := by decide +kernel
theorem dX11_lose_35 : decode cX11_lose 35 = .ok (.aaload, 1) := by decide +kernel
theorem dX11_lose_36 : decode cX11_lose 36 = .ok (.invokevirtual 293, 3) := by decide +kernel
theorem dX11_lose_39 : decode cX11_lose 39 = .ok (.ireturn, 1) := by decide +kernel
theorem dX11_lay_0 : decode cX11_lay 0 = .ok (.iload_n 1, 1) := by decide +kernel
theorem dX11_lay_1 : decode cX11_lay 1 = .ok (.invokestatic 161, 3) := by decide +kernel
theorem dX11_lay_4 : decode cX11_lay 4 = .ok (.ifCond .eq 10, 3) := by decide +kernel
theorem dX11_lay_7 : decode cX11_lay 7 = .ok (.iload_n 2, 1) := by decide +kernel
theorem dX11_lay_8 : decode cX11_lay 8 = .ok (.invokestatic 286, 3) := by decide +kernel
theorem dX11_lay_11 : decode cX11_lay 11 = .ok (.ifCond .ne 6, 3) := by decide +kernel
theorem dX11_lay_14 : decode cX11_lay 14 = .ok (.bipush (-2), 2) := by decide +kernel
theorem dX11_lay_16 : decode cX11_lay 16 = .ok (.ireturn, 1) := by decide +kernel
theorem dX11_lay_17 : decode cX11_lay 17 = .ok (.aload_n 0, 1) := by decide +kernel
theorem dX11_lay_18 : decode cX11_lay 18 = .ok (.getfield 73, 3) := by decide +kernel
theorem dX11_lay_21 : decode cX11_lay 21 = .ok (.iload_n 1, 1) := by decide +kernel
theorem dX11_lay_22 : decode cX11_lay 22 = .ok (.aaload, 1) := by decide +kernel
theorem dX11_lay_23 : decode cX11_lay 23 = .ok (.iload_n 2, 1) := by decide +kernel
theorem dX11_lay_24 : decode cX11_lay 24 = .ok (.iload_n 3, 1) := by decide +kernel
theorem dX11_lay_25 : decode cX11_lay 25 = .ok (.invokevirtual 296, 3) := by decide +kernel
theorem dX11_lay_28 : decode cX11_lay 28 = .ok (.istore 5, 2) := by decide +kernel
theorem dX11_lay_30 : decode cX11_lay 30 = .ok (.iload 5, 2) := by decide +kernel
theorem dX11_lay_32 : decode cX11_lay 32 = .ok (.ifCond .eq 10, 3) := by decide +kernel
theorem dX11_lay_35 : decode cX11_lay 35 = .ok (.aload_n 0, 1) := by decide +kernel
theorem dX11_lay_36 : decode cX11_lay 36 = .ok (.iload 5, 2) := by decide +kernel
theorem dX11_lay_38 : decode cX11_lay 38 = .ok (.invokevirtual 167, 3) := by decide +kernel
theorem dX11_lay_41 : decode cX11_lay 41 = .ok (.ireturn, 1) := by decide +kernel
theorem dX11_lay_42 : decode cX11_lay 42 = .ok (.aload_n 0, 1) := by decide +kernel
theorem dX11_lay_43 : decode cX11_lay 43 = .ok (.getfield 73, 3) := by decide +kernel
theorem dX11_lay_46 : decode cX11_lay 46 = .ok (.iload_n 1, 1) := by decide +kernel
theorem dX11_lay_47 : decode cX11_lay 47 = .ok (.aaload, 1) := by decide +kernel
theorem dX11_lay_48 : decode cX11_lay 48 = .ok (.iload_n 3, 1) := by decide +kernel
theorem dX11_lay_49 : decode cX11_lay 49 = .ok (.iload 4, 2) := by decide +kernel
theorem dX11_lay_51 : decode cX11_lay 51 = .ok (.invokevirtual 299, 3) := by decide +kernel
theorem dX11_lay_54 : decode cX11_lay 54 = .ok (.iconst 1, 1) := by decide +kernel
theorem dX11_lay_55 : decode cX11_lay 55 = .ok (.ireturn, 1) := by decide +kernel
theorem dX11_get_0 : decode cX11_get 0 = .ok (.iload_n 1, 1) := by decide +kernel
theorem dX11_get_1 : decode cX11_get 1 = .ok (.invokestatic 161, 3) := by decide +kernel
theorem dX11_get_4 : decode cX11_get 4 = .ok (.ifCond .eq 10, 3) := by decide +kernel
theorem dX11_get_7 : decode cX11_get 7 = .ok (.iload_n 2, 1) := by decide +kernel
theorem dX11_get_8 : decode cX11_get 8 = .ok (.invokestatic 286, 3) := by decide +kernel
theorem dX11_get_11 : decode cX11_get 11 = .ok (.ifCond .ne 7, 3) := by decide +kernel
theorem dX11_get_14 : decode cX11_get 14 = .ok (.ldc_w 302, 3) := by decide +kernel
theorem dX11_get_17 : decode cX11_get 17 = .ok (.ireturn, 1) := by decide +kernel
theorem dX11_get_18 : decode cX11_get 18 = .ok (.aload_n 0, 1) := by decide +kernel
theorem dX11_get_19 : decode cX11_get 19 = .ok (.getfield 73, 3) := by decide +kernel
theorem dX11_get_22 : decode cX11_get 22 = .ok (.iload_n 1, 1) := by decide +kernel
theorem dX11_get_23 : decode cX11_get 23 = .ok (.aaload, 1) := by decide +kernel
theorem dX11_get_24 : decode cX11_get 24 = .ok (.iload_n 2, 1) := by decide +kernel
theorem dX11_get_25 : decode cX11_get 25 = .ok (.iload_n 3, 1) := by decide +kernel
theorem dX11_get_26 : decode cX11_get 26 = .ok (.invokevirtual 296, 3) := by decide +kernel
theorem dX11_get_29 : decode cX11_get 29 = .ok (.istore 4, 2) := by decide +kernel
theorem dX11_get_31 : decode cX11_get 31 = .ok (.iload 4, 2) := by decide +kernel
theorem dX11_get_33 : decode cX11_get 33 = .ok (.ifCond .eq 14, 3) := by decide +kernel
theorem dX11_get_36 : decode cX11_get 36 = .ok (.aload_n 0, 1) := by decide +kernel
theorem dX11_get_37 : decode cX11_get 37 = .ok (.iload 4, 2) := by decide +kernel
theorem dX11_get_39 : decode cX11_get 39 = .ok (.invokevirtual 167, 3) := by decide +kernel
theorem dX11_get_42 : decode cX11_get 42 = .ok (.pop, 1) := by decide +kernel
theorem dX11_get_43 : decode cX11_get 43 = .ok (.ldc_w 302, 3) := by decide +kernel
theorem dX11_get_46 : decode cX11_get 46 = .ok (.ireturn, 1) := by decide +kernel
theorem dX11_get_47 : decode cX11_get 47 = .ok (.aload_n 0, 1) := by decide +kernel
theorem dX11_get_48 : decode cX11_get 48 = .ok (.getfield 73, 3) := by decide +kernel
theorem dX11_get_51 : decode cX11_get 51 = .ok (.iload_n 1, 1) := by decide +kernel
theorem dX11_get_52 : decode cX11_get 52 = .ok (.aaload, 1) := by decide +kernel
theorem dX11_get_53 : decode cX11_get 53 = .ok (.iload_n 3, 1) := by decide +kernel
theorem dX11_get_54 : decode cX11_get 54 = .ok (.invokevirtual 303, 3) := by decide +kernel
theorem dX11_get_57 : decode cX11_get 57 = .ok (.ireturn, 1) := by decide +kernel
theorem dX11_copy_0 : decode cX11_copy 0 = .ok (.iload_n 1, 1) := by decide +kernel
theorem dX11_copy_1 : decode cX11_copy 1 = .ok (.invokestatic 161, 3) := by decide +kernel
theorem dX11_copy_4 : decode cX11_copy 4 = .ok (.ifCond .eq 10, 3) := by decide +kernel
theorem dX11_copy_7 : decode cX11_copy 7 = .ok (.iload_n 3, 1) := by decide +kernel
theorem dX11_copy_8 : decode cX11_copy 8 = .ok (.invokestatic 161, 3) := by decide +kernel
theorem dX11_copy_11 : decode cX11_copy 11 = .ok (.ifCond .ne 6, 3) := by decide +kernel
theorem dX11_copy_14 : decode cX11_copy 14 = .ok (.bipush (-2), 2) := by decide +kernel
theorem dX11_copy_16 : decode cX11_copy 16 = .ok (.ireturn, 1) := by decide +kernel
theorem dX11_copy_17 : decode cX11_copy 17 = .ok (.aload_n 0, 1) := by decide +kernel
theorem dX11_copy_18 : decode cX11_copy 18 = .ok (.getfield 73, 3) := by decide +kernel
theorem dX11_copy_21 : decode cX11_copy 21 = .ok (.iload_n 1, 1) := by decide +kernel
theorem dX11_copy_22 : decode cX11_copy 22 = .ok (.aaload, 1) := by decide +kernel
theorem dX11_copy_23 : decode cX11_copy 23 = .ok (.astore 6, 2) := by decide +kernel
theorem dX11_copy_25 : decode cX11_copy 25 = .ok (.aload_n 0, 1) := by decide +kernel
theorem dX11_copy_26 : decode cX11_copy 26 = .ok (.getfield 73, 3) := by decide +kernel
theorem dX11_copy_29 : decode cX11_copy 29 = .ok (.iload_n 3, 1) := by decide +kernel
theorem dX11_copy_30 : decode cX11_copy 30 = .ok (.aaload, 1) := by decide +kernel
theorem dX11_copy_31 : decode cX11_copy 31 = .ok (.astore 7, 2) := by decide +kernel
theorem dX11_copy_33 : decode cX11_copy 33 = .ok (.aload 6, 2) := by decide +kernel
theorem dX11_copy_35 : decode cX11_copy 35 = .ok (.invokevirtual 164, 3) := by decide +kernel
theorem dX11_copy_38 : decode cX11_copy 38 = .ok (.ifCond .ne 11, 3) := by decide +kernel
theorem dX11_copy_41 : decode cX11_copy 41 = .ok (.aload 7, 2) := by decide +kernel
theorem dX11_copy_43 : decode cX11_copy 43 = .ok (.invokevirtual 164, 3) := by decide +kernel
theorem dX11_copy_46 : decode cX11_copy 46 = .ok (.ifCond .eq 9, 3) := by decide +kernel
theorem dX11_copy_49 : decode cX11_copy 49 = .ok (.aload_n 0, 1) := by decide +kernel
theorem dX11_copy_50 : decode cX11_copy 50 = .ok (.iconst 1, 1) := by decide +kernel
theorem dX11_copy_51 : decode cX11_copy 51 = .ok (.invokevirtual 167, 3) := by decide +kernel
theorem dX11_copy_54 : decode cX11_copy 54 = .ok (.ireturn, 1) := by decide +kernel
theorem dX11_copy_55 : decode cX11_copy 55 = .ok (.aload 6, 2) := by decide +kernel
theorem dX11_copy_57 : decode cX11_copy 57 = .ok (.getfield 306, 3) := by decide +kernel
theorem dX11_copy_60 : decode cX11_copy 60 = .ok (.aload 7, 2) := by decide +kernel
theorem dX11_copy_62 : decode cX11_copy 62 = .ok (.getfield 306, 3) := by decide +kernel
theorem dX11_copy_65 : decode cX11_copy 65 = .ok (.if_icmp .eq 9, 3) := by decide +kernel
theorem dX11_copy_68 : decode cX11_copy 68 = .ok (.aload_n 0, 1) := by decide +kernel
theorem dX11_copy_69 : decode cX11_copy 69 = .ok (.iconst 4, 1) := by decide +kernel
theorem dX11_copy_70 : decode cX11_copy 70 = .ok (.invokevirtual 167, 3) := by decide +kernel
theorem dX11_copy_73 : decode cX11_copy 73 = .ok (.ireturn, 1) := by decide +kernel
theorem dX11_copy_74 : decode cX11_copy 74 = .ok (.aload 6, 2) := by decide +kernel
theorem dX11_copy_76 : decode cX11_copy 76 = .ok (.iload_n 2, 1) := by decide +kernel
theorem dX11_copy_77 : decode cX11_copy 77 = .ok (.iload 5, 2) := by decide +kernel
theorem dX11_copy_79 : decode cX11_copy 79 = .ok (.invokevirtual 309, 3) := by decide +kernel
theorem dX11_copy_82 : decode cX11_copy 82 = .ok (.ifCond .eq 15, 3) := by decide +kernel
theorem dX11_copy_85 : decode cX11_copy 85 = .ok (.aload 7, 2) := by decide +kernel
theorem dX11_copy_87 : decode cX11_copy 87 = .ok (.iload 4, 2) := by decide +kernel
theorem dX11_copy_89 : decode cX11_copy 89 = .ok (.iload 5, 2) := by decide +kernel
theorem dX11_copy_91 : decode cX11_copy 91 = .ok (.invokevirtual 309, 3) := by decide +kernel
theorem dX11_copy_94 : decode cX11_copy 94 = .ok (.ifCond .ne 9, 3) := by decide +kernel
theorem dX11_copy_97 : decode cX11_copy 97 = .ok (.aload_n 0, 1) := by decide +kernel
theorem dX11_copy_98 : decode cX11_copy 98 = .ok (.iconst 2, 1) := by decide +kernel
theorem dX11_copy_99 : decode cX11_copy 99 = .ok (.invokevirtual 167, 3) := by decide +kernel
theorem dX11_copy_102 : decode cX11_copy 102 = .ok (.ireturn, 1) := by decide +kernel
theorem dX11_copy_103 : decode cX11_copy 103 = .ok (.aload 6, 2) := by decide +kernel
theorem dX11_copy_105 : decode cX11_copy 105 = .ok (.getfield 313, 3) := by decide +kernel
theorem dX11_copy_108 : decode cX11_copy 108 = .ok (.iload_n 2, 1) := by decide +kernel
theorem dX11_copy_109 : decode cX11_copy 109 = .ok (.aload 7, 2) := by decide +kernel
theorem dX11_copy_111 : decode cX11_copy 111 = .ok (.getfield 313, 3) := by decide +kernel
theorem dX11_copy_114 : decode cX11_copy 114 = .ok (.iload 4, 2) := by decide +kernel
theorem dX11_copy_116 : decode cX11_copy 116 = .ok (.iload 5, 2) := by decide +kernel
theorem dX11_copy_118 : decode cX11_copy 118 = .ok (.invokestatic 317, 3) := by decide +kernel
theorem dX11_copy_121 : decode cX11_copy 121 = .ok (.iconst 1, 1) := by decide +kernel
theorem dX11_copy_122 : decode cX11_copy 122 = .ok (.ireturn, 1) := by decide +kernel
theorem dX11_write_0 : decode cX11_write 0 = .ok (.iload_n 1, 1) := by decide +kernel
theorem dX11_write_1 : decode cX11_write 1 = .ok (.invokestatic 161, 3) := by decide +kernel
theorem dX11_write_4 : decode cX11_write 4 = .ok (.ifCond .ne 6, 3) := by decide +kernel
theorem dX11_write_7 : decode cX11_write 7 = .ok (.bipush (-2), 2) := by decide +kernel
theorem dX11_write_9 : decode cX11_write 9 = .ok (.ireturn, 1) := by decide +kernel
theorem dX11_write_10 : decode cX11_write 10 = .ok (.aload_n 0, 1) := by decide +kernel
theorem dX11_write_11 : decode cX11_write 11 = .ok (.getfield 73, 3) := by decide +kernel
theorem dX11_write_14 : decode cX11_write 14 = .ok (.iload_n 1, 1) := by decide +kernel
theorem dX11_write_15 : decode cX11_write 15 = .ok (.aaload, 1) := by decide +kernel
theorem dX11_write_16 : decode cX11_write 16 = .ok (.astore_n 2, 1) := by decide +kernel
theorem dX11_write_17 : decode cX11_write 17 = .ok (.aload_n 2, 1) := by decide +kernel
theorem dX11_write_18 : decode cX11_write 18 = .ok (.invokevirtual 164, 3) := by decide +kernel
theorem dX11_write_21 : decode cX11_write 21 = .ok (.ifCond .eq 9, 3) := by decide +kernel
theorem dX11_write_24 : decode cX11_write 24 = .ok (.aload_n 0, 1) := by decide +kernel
theorem dX11_write_25 : decode cX11_write 25 = .ok (.iconst 1, 1) := by decide +kernel
theorem dX11_write_26 : decode cX11_write 26 = .ok (.invokevirtual 167, 3) := by decide +kernel
theorem dX11_write_29 : decode cX11_write 29 = .ok (.ireturn, 1) := by decide +kernel
theorem dX11_write_30 : decode cX11_write 30 = .ok (.aload_n 2, 1) := by decide +kernel
theorem dX11_write_31 : decode cX11_write 31 = .ok (.getfield 323, 3) := by decide +kernel
theorem dX11_write_34 : decode cX11_write 34 = .ok (.bipush 20, 2) := by decide +kernel
theorem dX11_write_36 : decode cX11_write 36 = .ok (.invokestatic 326, 3) := by decide +kernel
theorem dX11_write_39 : decode cX11_write 39 = .ok (.istore_n 3, 1) := by decide +kernel
theorem dX11_write_40 : decode cX11_write 40 = .ok (.iconst 0, 1) := by decide +kernel
theorem dX11_write_41 : decode cX11_write 41 = .ok (.istore 4, 2) := by decide +kernel
theorem dX11_write_43 : decode cX11_write 43 = .ok (.iload 4, 2) := by decide +kernel
theorem dX11_write_45 : decode cX11_write 45 = .ok (.iload_n 3, 1) := by decide +kernel
theorem dX11_write_46 : decode cX11_write 46 = .ok (.if_icmp .ge 31, 3) := by decide +kernel
theorem dX11_write_49 : decode cX11_write 49 = .ok (.aload_n 2, 1) := by decide +kernel
theorem dX11_write_50 : decode cX11_write 50 = .ok (.iload 4, 2) := by decide +kernel
theorem dX11_write_52 : decode cX11_write 52 = .ok (.aload_n 0, 1) := by decide +kernel
theorem dX11_write_53 : decode cX11_write 53 = .ok (.getfield 19, 3) := by decide +kernel
theorem dX11_write_56 : decode cX11_write 56 = .ok (.iload 4, 2) := by decide +kernel
theorem dX11_write_58 : decode cX11_write 58 = .ok (.aload_n 0, 1) := by decide +kernel
theorem dX11_write_59 : decode cX11_write 59 = .ok (.getfield 10, 3) := by decide +kernel
theorem dX11_write_62 : decode cX11_write 62 = .ok (.getfield 82, 3) := by decide +kernel
theorem dX11_write_65 : decode cX11_write 65 = .ok (.invokevirtual 154, 3) := by decide +kernel
theorem dX11_write_68 : decode cX11_write 68 = .ok (.invokevirtual 299, 3) := by decide +kernel
theorem dX11_write_71 : decode cX11_write 71 = .ok (.iinc 4 1, 3) := by decide +kernel
theorem dX11_write_74 : decode cX11_write 74 = .ok (.goto (-31), 3) := by decide +kernel
theorem dX11_write_77 : decode cX11_write 77 = .ok (.iload_n 3, 1) := by decide +kernel
theorem dX11_write_78 : decode cX11_write 78 = .ok (.ireturn, 1) := by decide +kernel
theorem dX11_count_0 : decode cX11_count 0 = .ok (.iload_n 1, 1) := by decide +kernel
theorem dX11_count_1 : decode cX11_count 1 = .ok (.tableswitch 136 0 9 #[55, 63, 71, 82, 91, 99, 107, 115, 123, 131], 55) := by decide +kernel
theorem dX11_count_56 : decode cX11_count 56 = .ok (.aload_n 0, 1) := by decide +kernel
theorem dX11_count_57 : decode cX11_count 57 = .ok (.getfield 10, 3) := by decide +kernel
theorem dX11_count_60 : decode cX11_count 60 = .ok (.getfield 82, 3) := by decide +kernel
theorem dX11_count_63 : decode cX11_count 63 = .ok (.ireturn, 1) := by decide +kernel
theorem dX11_count_64 : decode cX11_count 64 = .ok (.aload_n 0, 1) := by decide +kernel
theorem dX11_count_65 : decode cX11_count 65 = .ok (.getfield 26, 3) := by decide +kernel
theorem dX11_count_68 : decode cX11_count 68 = .ok (.getfield 331, 3) := by decide +kernel
theorem dX11_count_71 : decode cX11_count 71 = .ok (.ireturn, 1) := by decide +kernel
theorem dX11_count_72 : decode cX11_count 72 = .ok (.aload_n 0, 1) := by decide +kernel
theorem dX11_count_73 : decode cX11_count 73 = .ok (.getfield 26, 3) := by decide +kernel
theorem dX11_count_76 : decode cX11_count 76 = .ok (.iconst (-1), 1) := by decide +kernel
theorem dX11_count_77 : decode cX11_count 77 = .ok (.iconst (-1), 1) := by decide +kernel
theorem dX11_count_78 : decode cX11_count 78 = .ok (.iconst 1, 1) := by decide +kernel
theorem dX11_count_79 : decode cX11_count 79 = .ok (.invokevirtual 133, 3) := by decide +kernel
theorem dX11_count_82 : decode cX11_count 82 = .ok (.ireturn, 1) := by decide +kernel
theorem dX11_count_83 : decode cX11_count 83 = .ok (.aload_n 0, 1) := by decide +kernel
theorem dX11_count_84 : decode cX11_count 84 = .ok (.getfield 35, 3) := by decide +kernel
theorem dX11_count_87 : decode cX11_count 87 = .ok (.iconst (-1), 1) := by decide +kernel
theorem dX11_count_88 : decode cX11_count 88 = .ok (.invokevirtual 104, 3) := by decide +kernel
theorem dX11_count_91 : decode cX11_count 91 = .ok (.ireturn, 1) := by decide +kernel
theorem dX11_count_92 : decode cX11_count 92 = .ok (.aload_n 0, 1) := by decide +kernel
theorem dX11_count_93 : decode cX11_count 93 = .ok (.getfield 35, 3) := by decide +kernel
theorem dX11_count_96 : decode cX11_count 96 = .ok (.invokevirtual 332, 3) := by decide +kernel
theorem dX11_count_99 : decode cX11_count 99 = .ok (.ireturn, 1) := by decide +kernel
theorem dX11_count_100 : decode cX11_count 100 = .ok (.aload_n 0, 1) := by decide +kernel
theorem dX11_count_101 : decode cX11_count 101 = .ok (.getfield 67, 3) := by decide +kernel
theorem dX11_count_104 : decode cX11_count 104 = .ok (.getfield 335, 3) := by decide +kernel
theorem dX11_count_107 : decode cX11_count 107 = .ok (.ireturn, 1) := by decide +kernel
theorem dX11_count_108 : decode cX11_count 108 = .ok (.aload_n 0, 1) := by decide +kernel
theorem dX11_count_109 : decode cX11_count 109 = .ok (.getfield 42, 3) := by decide +kernel
theorem dX11_count_112 : decode cX11_count 112 = .ok (.getfield 336, 3) := by decide +kernel
theorem dX11_count_115 : decode cX11_count 115 = .ok (.ireturn, 1) := by decide +kernel
theorem dX11_count_116 : decode cX11_count 116 = .ok (.aload_n 0, 1) := by decide +kernel
theorem dX11_count_117 : decode cX11_count 117 = .ok (.getfield 58, 3) := by decide +kernel
theorem dX11_count_120 : decode cX11_count 120 = .ok (.getfield 337, 3) := by decide +kernel
theorem dX11_count_123 : decode cX11_count 123 = .ok (.ireturn, 1) := by decide +kernel
theorem dX11_count_124 : decode cX11_count 124 = .ok (.aload_n 0, 1) := by decide +kernel
theorem dX11_count_125 : decode cX11_count 125 = .ok (.getfield 19, 3) := by decide +kernel
theorem dX11_count_128 : decode cX11_count 128 = .ok (.getfield 338, 3) := by decide +kernel
theorem dX11_count_131 : decode cX11_count 131 = .ok (.ireturn, 1) := by decide +kernel
theorem dX11_count_132 : decode cX11_count 132 = .ok (.aload_n 0, 1) := by decide +kernel
theorem dX11_count_133 : decode cX11_count 133 = .ok (.getfield 341, 3) := by decide +kernel
theorem dX11_count_136 : decode cX11_count 136 = .ok (.ireturn, 1) := by decide +kernel
theorem dX11_count_137 : decode cX11_count 137 = .ok (.bipush (-2), 2) := by decide +kernel
theorem dX11_count_139 : decode cX11_count 139 = .ok (.ireturn, 1) := by decide +kernel
theorem dX11_digest_0 : decode cX11_digest 0 = .ok (.ldc2_w 344, 3) := by decide +kernel
theorem dX11_digest_3 : decode cX11_digest 3 = .ok (.lstore_n 1, 1) := by decide +kernel
theorem dX11_digest_4 : decode cX11_digest 4 = .ok (.iconst 0, 1) := by decide +kernel
theorem dX11_digest_5 : decode cX11_digest 5 = .ok (.istore_n 3, 1) := by decide +kernel
theorem dX11_digest_6 : decode cX11_digest 6 = .ok (.iload_n 3, 1) := by decide +kernel
theorem dX11_digest_7 : decode cX11_digest 7 = .ok (.bipush 8, 2) := by decide +kernel
theorem dX11_digest_9 : decode cX11_digest 9 = .ok (.if_icmp .gt 22, 3) := by decide +kernel
theorem dX11_digest_12 : decode cX11_digest 12 = .ok (.ldc2_w 346, 3) := by decide +kernel
theorem dX11_digest_15 : decode cX11_digest 15 = .ok (.lload_n 1, 1) := by decide +kernel
theorem dX11_digest_16 : decode cX11_digest 16 = .ok (.lmul, 1) := by decide +kernel
theorem dX11_digest_17 : decode cX11_digest 17 = .ok (.aload_n 0, 1) := by decide +kernel
theorem dX11_digest_18 : decode cX11_digest 18 = .ok (.iload_n 3, 1) := by decide +kernel
theorem dX11_digest_19 : decode cX11_digest 19 = .ok (.invokevirtual 348, 3) := by decide +kernel
theorem dX11_digest_22 : decode cX11_digest 22 = .ok (.i2l, 1) := by decide +kernel
theorem dX11_digest_23 : decode cX11_digest 23 = .ok (.ladd, 1) := by decide +kernel
theorem dX11_digest_24 : decode cX11_digest 24 = .ok (.lstore_n 1, 1) := by decide +kernel
theorem dX11_digest_25 : decode cX11_digest 25 = .ok (.iinc 3 1, 3) := by decide +kernel
theorem dX11_digest_28 : decode cX11_digest 28 = .ok (.goto (-22), 3) := by decide +kernel
theorem dX11_digest_31 : decode cX11_digest 31 = .ok (.iconst 0, 1) := by decide +kernel
theorem dX11_digest_32 : decode cX11_digest 32 = .ok (.istore_n 3, 1) := by decide +kernel
theorem dX11_digest_33 : decode cX11_digest 33 = .ok (.iload_n 3, 1) := by decide +kernel
theorem dX11_digest_34 : decode cX11_digest 34 = .ok (.aload_n 0, 1) := by decide +kernel
theorem dX11_digest_35 : decode cX11_digest 35 = .ok (.getfield 26, 3) := by decide +kernel
theorem dX11_digest_38 : decode cX11_digest 38 = .ok (.getfield 331, 3) := by decide +kernel
theorem dX11_digest_41 : decode cX11_digest 41 = .ok (.if_icmp .ge 40, 3) := by decide +kernel
theorem dX11_digest_44 : decode cX11_digest 44 = .ok (.iconst 0, 1) := by decide +kernel
theorem dX11_digest_45 : decode cX11_digest 45 = .ok (.istore 4, 2) := by decide +kernel
theorem dX11_digest_47 : decode cX11_digest 47 = .ok (.iload 4, 2) := by decide +kernel
theorem dX11_digest_49 : decode cX11_digest 49 = .ok (.bipush 6, 2) := by decide +kernel
theorem dX11_digest_51 : decode cX11_digest 51 = .ok (.if_icmp .gt 24, 3) := by decide +kernel
theorem dX11_digest_54 : decode cX11_digest 54 = .ok (.ldc2_w 346, 3) := by decide +kernel
theorem dX11_digest_57 : decode cX11_digest 57 = .ok (.lload_n 1, 1) := by decide +kernel
theorem dX11_digest_58 : decode cX11_digest 58 = .ok (.lmul, 1) := by decide +kernel
theorem dX11_digest_59 : decode cX11_digest 59 = .ok (.aload_n 0, 1) := by decide +kernel
theorem dX11_digest_60 : decode cX11_digest 60 = .ok (.iload_n 3, 1) := by decide +kernel
theorem dX11_digest_61 : decode cX11_digest 61 = .ok (.iload 4, 2) := by decide +kernel
theorem dX11_digest_63 : decode cX11_digest 63 = .ok (.invokevirtual 351, 3) := by decide +kernel
theorem dX11_digest_66 : decode cX11_digest 66 = .ok (.i2l, 1) := by decide +kernel
theorem dX11_digest_67 : decode cX11_digest 67 = .ok (.ladd, 1) := by decide +kernel
theorem dX11_digest_68 : decode cX11_digest 68 = .ok (.lstore_n 1, 1) := by decide +kernel
theorem dX11_digest_69 : decode cX11_digest 69 = .ok (.iinc 4 1, 3) := by decide +kernel
theorem dX11_digest_72 : decode cX11_digest 72 = .ok (.goto (-25), 3) := by decide +kernel
theorem dX11_digest_75 : decode cX11_digest 75 = .ok (.iinc 3 1, 3) := by decide +kernel
theorem dX11_digest_78 : decode cX11_digest 78 = .ok (.goto (-45), 3) := by decide +kernel
theorem dX11_digest_81 : decode cX11_digest 81 = .ok (.iconst 0, 1) := by decide +kernel
theorem dX11_digest_82 : decode cX11_digest 82 = .ok (.istore_n 3, 1) := by decide +kernel
theorem dX11_digest_83 : decode cX11_digest 83 = .ok (.iload_n 3, 1) := by decide +kernel
theorem dX11_digest_84 : decode cX11_digest 84 = .ok (.aload_n 0, 1) := by decide +kernel
theorem dX11_digest_85 : decode cX11_digest 85 = .ok (.getfield 35, 3) := by decide +kernel
theorem dX11_digest_88 : decode cX11_digest 88 = .ok (.getfield 354, 3) := by decide +kernel
theorem dX11_digest_91 : decode cX11_digest 91 = .ok (.if_icmp .ge 67, 3) := by decide +kernel
theorem dX11_digest_94 : decode cX11_digest 94 = .ok (.ldc2_w 346, 3) := by decide +kernel
theorem dX11_digest_97 : decode cX11_digest 97 = .ok (.lload_n 1, 1) := by decide +kernel
theorem dX11_digest_98 : decode cX11_digest 98 = .ok (.lmul, 1) := by decide +kernel
theorem dX11_digest_99 : decode cX11_digest 99 = .ok (.aload_n 0, 1) := by decide +kernel
theorem dX11_digest_100 : decode cX11_digest 100 = .ok (.iload_n 3, 1) := by decide +kernel
theorem dX11_digest_101 : decode cX11_digest 101 = .ok (.iconst 3, 1) := by decide +kernel
theorem dX11_digest_102 : decode cX11_digest 102 = .ok (.invokevirtual 355, 3) := by decide +kernel
theorem dX11_digest_105 : decode cX11_digest 105 = .ok (.i2l, 1) := by decide +kernel
theorem dX11_digest_106 : decode cX11_digest 106 = .ok (.ladd, 1) := by decide +kernel
theorem dX11_digest_107 : decode cX11_digest 107 = .ok (.lstore_n 1, 1) := by decide +kernel
theorem dX11_digest_108 : decode cX11_digest 108 = .ok (.ldc2_w 346, 3) := by decide +kernel
theorem dX11_digest_111 : decode cX11_digest 111 = .ok (.lload_n 1, 1) := by decide +kernel
theorem dX11_digest_112 : decode cX11_digest 112 = .ok (.lmul, 1) := by decide +kernel
theorem dX11_digest_113 : decode cX11_digest 113 = .ok (.aload_n 0, 1) := by decide +kernel
theorem dX11_digest_114 : decode cX11_digest 114 = .ok (.iload_n 3, 1) := by decide +kernel
theorem dX11_digest_115 : decode cX11_digest 115 = .ok (.iconst 5, 1) := by decide +kernel
theorem dX11_digest_116 : decode cX11_digest 116 = .ok (.invokevirtual 355, 3) := by decide +kernel
theorem dX11_digest_119 : decode cX11_digest 119 = .ok (.i2l, 1) := by decide +kernel
theorem dX11_digest_120 : decode cX11_digest 120 = .ok (.ladd, 1) := by decide +kernel
theorem dX11_digest_121 : decode cX11_digest 121 = .ok (.lstore_n 1, 1) := by decide +kernel
theorem dX11_digest_122 : decode cX11_digest 122 = .ok (.ldc2_w 346, 3) := by decide +kernel
theorem dX11_digest_125 : decode cX11_digest 125 = .ok (.lload_n 1, 1) := by decide +kernel
theorem dX11_digest_126 : decode cX11_digest 126 = .ok (.lmul, 1) := by decide +kernel
theorem dX11_digest_127 : decode cX11_digest 127 = .ok (.aload_n 0, 1) := by decide +kernel
theorem dX11_digest_128 : decode cX11_digest 128 = .ok (.iload_n 3, 1) := by decide +kernel
theorem dX11_digest_129 : decode cX11_digest 129 = .ok (.bipush 8, 2) := by decide +kernel
theorem dX11_digest_131 : decode cX11_digest 131 = .ok (.invokevirtual 355, 3) := by decide +kernel
theorem dX11_digest_134 : decode cX11_digest 134 = .ok (.i2l, 1) := by decide +kernel
theorem dX11_digest_135 : decode cX11_digest 135 = .ok (.ladd, 1) := by decide +kernel
theorem dX11_digest_136 : decode cX11_digest 136 = .ok (.lstore_n 1, 1) := by decide +kernel
theorem dX11_digest_137 : decode cX11_digest 137 = .ok (.ldc2_w 346, 3) := by decide +kernel
theorem dX11_digest_140 : decode cX11_digest 140 = .ok (.lload_n 1, 1) := by decide +kernel
theorem dX11_digest_141 : decode cX11_digest 141 = .ok (.lmul, 1) := by decide +kernel
theorem dX11_digest_142 : decode cX11_digest 142 = .ok (.aload_n 0, 1) := by decide +kernel
theorem dX11_digest_143 : decode cX11_digest 143 = .ok (.iload_n 3, 1) := by decide +kernel
theorem dX11_digest_144 : decode cX11_digest 144 = .ok (.bipush 10, 2) := by decide +kernel
theorem dX11_digest_146 : decode cX11_digest 146 = .ok (.invokevirtual 355, 3) := by decide +kernel
theorem dX11_digest_149 : decode cX11_digest 149 = .ok (.i2l, 1) := by decide +kernel
theorem dX11_digest_150 : decode cX11_digest 150 = .ok (.ladd, 1) := by decide +kernel
theorem dX11_digest_151 : decode cX11_digest 151 = .ok (.lstore_n 1, 1) := by decide +kernel
theorem dX11_digest_152 : decode cX11_digest 152 = .ok (.iinc 3 1, 3) := by decide +kernel
theorem dX11_digest_155 : decode cX11_digest 155 = .ok (.goto (-72), 3) := by decide +kernel
theorem dX11_digest_158 : decode cX11_digest 158 = .ok (.iconst 0, 1) := by decide +kernel
theorem dX11_digest_159 : decode cX11_digest 159 = .ok (.istore_n 3, 1) := by decide +kernel
theorem dX11_digest_160 : decode cX11_digest 160 = .ok (.iload_n 3, 1) := by decide +kernel
theorem dX11_digest_161 : decode cX11_digest 161 = .ok (.iconst 4, 1) := by decide +kernel
theorem dX11_digest_162 : decode cX11_digest 162 = .ok (.if_icmp .ge 41, 3) := by decide +kernel
theorem dX11_digest_165 : decode cX11_digest 165 = .ok (.ldc2_w 346, 3) := by decide +kernel
theorem dX11_digest_168 : decode cX11_digest 168 = .ok (.lload_n 1, 1) := by decide +kernel
theorem dX11_digest_169 : decode cX11_digest 169 = .ok (.lmul, 1) := by decide +kernel
theorem dX11_digest_170 : decode cX11_digest 170 = .ok (.aload_n 0, 1) := by decide +kernel
theorem dX11_digest_171 : decode cX11_digest 171 = .ok (.getfield 35, 3) := by decide +kernel
theorem dX11_digest_174 : decode cX11_digest 174 = .ok (.iload_n 3, 1) := by decide +kernel
theorem dX11_digest_175 : decode cX11_digest 175 = .ok (.invokevirtual 200, 3) := by decide +kernel
theorem dX11_digest_178 : decode cX11_digest 178 = .ok (.i2l, 1) := by decide +kernel
theorem dX11_digest_179 : decode cX11_digest 179 = .ok (.ladd, 1) := by decide +kernel
theorem dX11_digest_180 : decode cX11_digest 180 = .ok (.lstore_n 1, 1) := by decide +kernel
theorem dX11_digest_181 : decode cX11_digest 181 = .ok (.ldc2_w 346, 3) := by decide +kernel
theorem dX11_digest_184 : decode cX11_digest 184 = .ok (.lload_n 1, 1) := by decide +kernel
theorem dX11_digest_185 : decode cX11_digest 185 = .ok (.lmul, 1) := by decide +kernel
theorem dX11_digest_186 : decode cX11_digest 186 = .ok (.aload_n 0, 1) := by decide +kernel
theorem dX11_digest_187 : decode cX11_digest 187 = .ok (.getfield 35, 3) := by decide +kernel
theorem dX11_digest_190 : decode cX11_digest 190 = .ok (.iload_n 3, 1) := by decide +kernel
theorem dX11_digest_191 : decode cX11_digest 191 = .ok (.invokevirtual 206, 3) := by decide +kernel
theorem dX11_digest_194 : decode cX11_digest 194 = .ok (.i2l, 1) := by decide +kernel
theorem dX11_digest_195 : decode cX11_digest 195 = .ok (.ladd, 1) := by decide +kernel
theorem dX11_digest_196 : decode cX11_digest 196 = .ok (.lstore_n 1, 1) := by decide +kernel
theorem dX11_digest_197 : decode cX11_digest 197 = .ok (.iinc 3 1, 3) := by decide +kernel
theorem dX11_digest_200 : decode cX11_digest 200 = .ok (.goto (-40), 3) := by decide +kernel
theorem dX11_digest_203 : decode cX11_digest 203 = .ok (.ldc2_w 346, 3) := by decide +kernel
theorem dX11_digest_206 : decode cX11_digest 206 = .ok (.lload_n 1, 1) := by decide +kernel
theorem dX11_digest_207 : decode cX11_digest 207 = .ok (.lmul, 1) := by decide +kernel
theorem dX11_digest_208 : decode cX11_digest 208 = .ok (.aload_n 0, 1) := by decide +kernel
theorem dX11_digest_209 : decode cX11_digest 209 = .ok (.invokevirtual 358, 3) := by decide +kernel
theorem dX11_digest_212 : decode cX11_digest 212 = .ok (.i2l, 1) := by decide +kernel
theorem dX11_digest_213 : decode cX11_digest 213 = .ok (.ladd, 1) := by decide +kernel
theorem dX11_digest_214 : decode cX11_digest 214 = .ok (.lstore_n 1, 1) := by decide +kernel
theorem dX11_digest_215 : decode cX11_digest 215 = .ok (.ldc2_w 346, 3) := by decide +kernel
theorem dX11_digest_218 : decode cX11_digest 218 = .ok (.lload_n 1, 1) := by decide +kernel
theorem dX11_digest_219 : decode cX11_digest 219 = .ok (.lmul, 1) := by decide +kernel
theorem dX11_digest_220 : decode cX11_digest 220 = .ok (.aload_n 0, 1) := by decide +kernel
theorem dX11_digest_221 : decode cX11_digest 221 = .ok (.iconst (-1), 1) := by decide +kernel
theorem dX11_digest_222 : decode cX11_digest 222 = .ok (.invokevirtual 361, 3) := by decide +kernel
theorem dX11_digest_225 : decode cX11_digest 225 = .ok (.i2l, 1) := by decide +kernel
theorem dX11_digest_226 : decode cX11_digest 226 = .ok (.ladd, 1) := by decide +kernel
theorem dX11_digest_227 : decode cX11_digest 227 = .ok (.lstore_n 1, 1) := by decide +kernel
theorem dX11_digest_228 : decode cX11_digest 228 = .ok (.iconst 0, 1) := by decide +kernel
theorem dX11_digest_229 : decode cX11_digest 229 = .ok (.istore_n 3, 1) := by decide +kernel
theorem dX11_digest_230 : decode cX11_digest 230 = .ok (.iload_n 3, 1) := by decide +kernel
theorem dX11_digest_231 : decode cX11_digest 231 = .ok (.bipush 6, 2) := by decide +kernel
theorem dX11_digest_233 : decode cX11_digest 233 = .ok (.if_icmp .ge 22, 3) := by decide +kernel
theorem dX11_digest_236 : decode cX11_digest 236 = .ok (.ldc2_w 346, 3) := by decide +kernel
theorem dX11_digest_239 : decode cX11_digest 239 = .ok (.lload_n 1, 1) := by decide +kernel
theorem dX11_digest_240 : decode cX11_digest 240 = .ok (.lmul, 1) := by decide +kernel
theorem dX11_digest_241 : decode cX11_digest 241 = .ok (.aload_n 0, 1) := by decide +kernel
theorem dX11_digest_242 : decode cX11_digest 242 = .ok (.iload_n 3, 1) := by decide +kernel
theorem dX11_digest_243 : decode cX11_digest 243 = .ok (.invokevirtual 364, 3) := by decide +kernel
theorem dX11_digest_246 : decode cX11_digest 246 = .ok (.i2l, 1) := by decide +kernel
theorem dX11_digest_247 : decode cX11_digest 247 = .ok (.ladd, 1) := by decide +kernel
theorem dX11_digest_248 : decode cX11_digest 248 = .ok (.lstore_n 1, 1) := by decide +kernel
theorem dX11_digest_249 : decode cX11_digest 249 = .ok (.iinc 3 1, 3) := by decide +kernel
theorem dX11_digest_252 : decode cX11_digest 252 = .ok (.goto (-22), 3) := by decide +kernel
theorem dX11_digest_255 : decode cX11_digest 255 = .ok (.ldc2_w 346, 3) := by decide +kernel
theorem dX11_digest_258 : decode cX11_digest 258 = .ok (.lload_n 1, 1) := by decide +kernel
theorem dX11_digest_259 : decode cX11_digest 259 = .ok (.lmul, 1) := by decide +kernel
theorem dX11_digest_260 : decode cX11_digest 260 = .ok (.aload_n 0, 1) := by decide +kernel
theorem dX11_digest_261 : decode cX11_digest 261 = .ok (.getfield 58, 3) := by decide +kernel
theorem dX11_digest_264 : decode cX11_digest 264 = .ok (.aload_n 0, 1) := by decide +kernel
theorem dX11_digest_265 : decode cX11_digest 265 = .ok (.getfield 58, 3) := by decide +kernel
theorem dX11_digest_268 : decode cX11_digest 268 = .ok (.invokevirtual 277, 3) := by decide +kernel
theorem dX11_digest_271 : decode cX11_digest 271 = .ok (.iconst 0, 1) := by decide +kernel
theorem dX11_digest_272 : decode cX11_digest 272 = .ok (.invokevirtual 280, 3) := by decide +kernel
theorem dX11_digest_275 : decode cX11_digest 275 = .ok (.i2l, 1) := by decide +kernel
theorem dX11_digest_276 : decode cX11_digest 276 = .ok (.ladd, 1) := by decide +kernel
theorem dX11_digest_277 : decode cX11_digest 277 = .ok (.lstore_n 1, 1) := by decide +kernel
theorem dX11_digest_278 : decode cX11_digest 278 = .ok (.ldc2_w 346, 3) := by decide +kernel
theorem dX11_digest_281 : decode cX11_digest 281 = .ok (.lload_n 1, 1) := by decide +kernel
theorem dX11_digest_282 : decode cX11_digest 282 = .ok (.lmul, 1) := by decide +kernel
theorem dX11_digest_283 : decode cX11_digest 283 = .ok (.aload_n 0, 1) := by decide +kernel
theorem dX11_digest_284 : decode cX11_digest 284 = .ok (.getfield 58, 3) := by decide +kernel
theorem dX11_digest_287 : decode cX11_digest 287 = .ok (.aload_n 0, 1) := by decide +kernel
theorem dX11_digest_288 : decode cX11_digest 288 = .ok (.getfield 58, 3) := by decide +kernel
theorem dX11_digest_291 : decode cX11_digest 291 = .ok (.invokevirtual 277, 3) := by decide +kernel
theorem dX11_digest_294 : decode cX11_digest 294 = .ok (.iconst 1, 1) := by decide +kernel
theorem dX11_digest_295 : decode cX11_digest 295 = .ok (.invokevirtual 280, 3) := by decide +kernel
theorem dX11_digest_298 : decode cX11_digest 298 = .ok (.i2l, 1) := by decide +kernel
theorem dX11_digest_299 : decode cX11_digest 299 = .ok (.ladd, 1) := by decide +kernel
theorem dX11_digest_300 : decode cX11_digest 300 = .ok (.lreturn, 1) := by decide +kernel
theorem dX11_found_0 : decode cX11_found 0 = .ok (.aload_n 0, 1) := by decide +kernel
theorem dX11_found_1 : decode cX11_found 1 = .ok (.iload_n 1, 1) := by decide +kernel
theorem dX11_found_2 : decode cX11_found 2 = .ok (.putfield 341, 3) := by decide +kernel
theorem dX11_found_5 : decode cX11_found 5 = .ok (.bipush (-10), 2) := by decide +kernel
theorem dX11_found_7 : decode cX11_found 7 = .ok (.iload_n 1, 1) := by decide +kernel
theorem dX11_found_8 : decode cX11_found 8 = .ok (.isub, 1) := by decide +kernel
theorem dX11_found_9 : decode cX11_found 9 = .ok (.ireturn, 1) := by decide +kernel
theorem dX11_within_0 : decode cX11_within 0 = .ok (.iload_n 0, 1) := by decide +kernel
theorem dX11_within_1 : decode cX11_within 1 = .ok (.iload_n 1, 1) := by decide +kernel
theorem dX11_within_2 : decode cX11_within 2 = .ok (.if_icmp .lt 12, 3) := by decide +kernel
theorem dX11_within_5 : decode cX11_within 5 = .ok (.iload_n 0, 1) := by decide +kernel
theorem dX11_within_6 : decode cX11_within 6 = .ok (.iload_n 2, 1) := by decide +kernel
theorem dX11_within_7 : decode cX11_within 7 = .ok (.if_icmp .gt 7, 3) := by decide +kernel
theorem dX11_within_10 : decode cX11_within 10 = .ok (.iconst 1, 1) := by decide +kernel
theorem dX11_within_11 : decode cX11_within 11 = .ok (.goto 4, 3) := by decide +kernel
theorem dX11_within_14 : decode cX11_within 14 = .ok (.iconst 0, 1) := by decide +kernel
theorem dX11_within_15 : decode cX11_within 15 = .ok (.ireturn, 1) := by decide +kernel
theorem dX11_isDay_0 : decode cX11_isDay 0 = .ok (.iload_n 0, 1) := by decide +kernel
theorem dX11_isDay_1 : decode cX11_isDay 1 = .ok (.iconst 0, 1) := by decide +kernel
theorem dX11_isDay_2 : decode cX11_isDay 2 = .ok (.sipush 399, 3) := by decide +kernel
theorem dX11_isDay_5 : decode cX11_isDay 5 = .ok (.invokestatic 78, 3) := by decide +kernel
theorem dX11_isDay_8 : decode cX11_isDay 8 = .ok (.ireturn, 1) := by decide +kernel
theorem dX11_isBeat_0 : decode cX11_isBeat 0 = .ok (.iload_n 0, 1) := by decide +kernel
theorem dX11_isBeat_1 : decode cX11_isBeat 1 = .ok (.iconst 0, 1) := by decide +kernel
theorem dX11_isBeat_2 : decode cX11_isBeat 2 = .ok (.iconst 5, 1) := by decide +kernel
theorem dX11_isBeat_3 : decode cX11_isBeat 3 = .ok (.invokestatic 78, 3) := by decide +kernel
theorem dX11_isBeat_6 : decode cX11_isBeat 6 = .ok (.ireturn, 1) := by decide +kernel
theorem dX11_isSort_0 : decode cX11_isSort 0 = .ok (.iload_n 0, 1) := by decide +kernel
theorem dX11_isSort_1 : decode cX11_isSort 1 = .ok (.iconst 0, 1) := by decide +kernel
theorem dX11_isSort_2 : decode cX11_isSort 2 = .ok (.iconst 1, 1) := by decide +kernel
theorem dX11_isSort_3 : decode cX11_isSort 3 = .ok (.invokestatic 78, 3) := by decide +kernel
theorem dX11_isSort_6 : decode cX11_isSort 6 = .ok (.ireturn, 1) := by decide +kernel
theorem dX11_isClerk_0 : decode cX11_isClerk 0 = .ok (.iload_n 0, 1) := by decide +kernel
theorem dX11_isClerk_1 : decode cX11_isClerk 1 = .ok (.iconst 0, 1) := by decide +kernel
theorem dX11_isClerk_2 : decode cX11_isClerk 2 = .ok (.iconst 3, 1) := by decide +kernel
theorem dX11_isClerk_3 : decode cX11_isClerk 3 = .ok (.invokestatic 78, 3) := by decide +kernel
theorem dX11_isClerk_6 : decode cX11_isClerk 6 = .ok (.ireturn, 1) := by decide +kernel
theorem dX11_isSheet_0 : decode cX11_isSheet 0 = .ok (.iload_n 0, 1) := by decide +kernel
theorem dX11_isSheet_1 : decode cX11_isSheet 1 = .ok (.iconst 0, 1) := by decide +kernel
theorem dX11_isSheet_2 : decode cX11_isSheet 2 = .ok (.iconst 3, 1) := by decide +kernel
theorem dX11_isSheet_3 : decode cX11_isSheet 3 = .ok (.invokestatic 78, 3) := by decide +kernel
theorem dX11_isSheet_6 : decode cX11_isSheet 6 = .ok (.ireturn, 1) := by decide +kernel
theorem dX11_isType_0 : decode cX11_isType 0 = .ok (.iload_n 0, 1) := by decide +kernel
theorem dX11_isType_1 : decode cX11_isType 1 = .ok (.iconst 0, 1) := by decide +kernel
theorem dX11_isType_2 : decode cX11_isType 2 = .ok (.iconst 2, 1) := by decide +kernel
theorem dX11_isType_3 : decode cX11_isType 3 = .ok (.invokestatic 78, 3) := by decide +kernel
theorem dX11_isType_6 : decode cX11_isType 6 = .ok (.ireturn, 1) := by decide +kernel
theorem dX12_init_0 : decode cX12_init 0 = .ok (.aload_n 0, 1) := by decide +kernel
theorem dX12_init_1 : decode cX12_init 1 = .ok (.invokespecial 1, 3) := by decide +kernel
theorem dX12_init_4 : decode cX12_init 4 = .ok (.aload_n 0, 1) := by decide +kernel
theorem dX12_init_5 : decode cX12_init 5 = .ok (.bipush 48, 2) := by decide +kernel
theorem dX12_init_7 : decode cX12_init 7 = .ok (.newarray .int, 2) := by decide +kernel
theorem dX12_init_9 : decode cX12_init 9 = .ok (.putfield 7, 3) := by decide +kernel
theorem dX12_init_12 : decode cX12_init 12 = .ok (.aload_n 0, 1) := by decide +kernel
theorem dX12_init_13 : decode cX12_init 13 = .ok (.bipush 48, 2) := by decide +kernel
theorem dX12_init_15 : decode cX12_init 15 = .ok (.newarray .int, 2) := by decide +kernel
theorem dX12_init_17 : decode cX12_init 17 = .ok (.putfield 13, 3) := by decide +kernel
theorem dX12_init_20 : decode cX12_init 20 = .ok (.aload_n 0, 1) := by decide +kernel
theorem dX12_init_21 : decode cX12_init 21 = .ok (.bipush 48, 2) := by decide +kernel
theorem dX12_init_23 : decode cX12_init 23 = .ok (.newarray .int, 2) := by decide +kernel
theorem dX12_init_25 : decode cX12_init 25 = .ok (.putfield 16, 3) := by decide +kernel
theorem dX12_init_28 : decode cX12_init 28 = .ok (.aload_n 0, 1) := by decide +kernel
theorem dX12_init_29 : decode cX12_init 29 = .ok (.bipush 48, 2) := by decide +kernel
theorem dX12_init_31 : decode cX12_init 31 = .ok (.newarray .int, 2) := by decide +kernel
theorem dX12_init_33 : decode cX12_init 33 = .ok (.putfield 19, 3) := by decide +kernel
theorem dX12_init_36 : decode cX12_init 36 = .ok (.aload_n 0, 1) := by decide +kernel
theorem dX12_init_37 : decode cX12_init 37 = .ok (.bipush 48, 2) := by decide +kernel
theorem dX12_init_39 : decode cX12_init 39 = .ok (.newarray .int, 2) := by decide +kernel
theorem dX12_init_41 : decode cX12_init 41 = .ok (.putfield 22, 3) := by decide +kernel
theorem dX12_init_44 : decode cX12_init 44 = .ok (.aload_n 0, 1) := by decide +kernel
theorem dX12_init_45 : decode cX12_init 45 = .ok (.bipush 48, 2) := by decide +kernel
theorem dX12_init_47 : decode cX12_init 47 = .ok (.newarray .int, 2) := by decide +kernel
theorem dX12_init_49 : decode cX12_init 49 = .ok (.putfield 25, 3) := by decide +kernel
theorem dX12_init_52 : decode cX12_init 52 = .ok (.aload_n 0, 1) := by decide +kernel
theorem dX12_init_53 : decode cX12_init 53 = .ok (.bipush 48, 2) := by decide +kernel
theorem dX12_init_55 : decode cX12_init 55 = .ok (.newarray .int, 2) := by decide +kernel
theorem dX12_init_57 : decode cX12_init 57 = .ok (.putfield 28, 3) := by decide +kernel
theorem dX12_init_60 : decode cX12_init 60 = .ok (.aload_n 0, 1) := by decide +kernel
theorem dX12_init_61 : decode cX12_init 61 = .ok (.sipush 200, 3) := by decide +kernel
theorem dX12_init_64 : decode cX12_init 64 = .ok (.newarray .int, 2) := by decide +kernel
theorem dX12_init_66 : decode cX12_init 66 = .ok (.putfield 31, 3) := by decide +kernel
theorem dX12_init_69 : decode cX12_init 69 = .ok (.aload_n 0, 1) := by decide +kernel
theorem dX12_init_70 : decode cX12_init 70 = .ok (.bipush 60, 2) := by decide +kernel
theorem dX12_init_72 : decode cX12_init 72 = .ok (.newarray .int, 2) := by decide +kernel
theorem dX12_init_74 : decode cX12_init 74 = .ok (.putfield 34, 3) := by decide +kernel
theorem dX12_init_77 : decode cX12_init 77 = .ok (.aload_n 0, 1) := by decide +kernel
theorem dX12_init_78 : decode cX12_init 78 = .ok (.bipush 60, 2) := by decide +kernel
theorem dX12_init_80 : decode cX12_init 80 = .ok (.newarray .int, 2) := by decide +kernel
theorem dX12_init_82 : decode cX12_init 82 = .ok (.putfield 37, 3) := by decide +kernel
theorem dX12_init_85 : decode cX12_init 85 = .ok (.aload_n 0, 1) := by decide +kernel
theorem dX12_init_86 : decode cX12_init 86 = .ok (.bipush 60, 2) := by decide +kernel
theorem dX12_init_88 : decode cX12_init 88 = .ok (.newarray .int, 2) := by decide +kernel
theorem dX12_init_90 : decode cX12_init 90 = .ok (.putfield 40, 3) := by decide +kernel
theorem dX12_init_93 : decode cX12_init 93 = .ok (.aload_n 0, 1) := by decide +kernel
theorem dX12_init_94 : decode cX12_init 94 = .ok (.bipush 60, 2) := by decide +kernel
theorem dX12_init_96 : decode cX12_init 96 = .ok (.newarray .int, 2) := by decide +kernel
theorem dX12_init_98 : decode cX12_init 98 = .ok (.putfield 43, 3) := by decide +kernel
theorem dX12_init_101 : decode cX12_init 101 = .ok (.aload_n 0, 1) := by decide +kernel
theorem dX12_init_102 : decode cX12_init 102 = .ok (.bipush 60, 2) := by decide +kernel
theorem dX12_init_104 : decode cX12_init 104 = .ok (.newarray .int, 2) := by decide +kernel
theorem dX12_init_106 : decode cX12_init 106 = .ok (.putfield 46, 3) := by decide +kernel
theorem dX12_init_109 : decode cX12_init 109 = .ok (.aload_n 0, 1) := by decide +kernel
theorem dX12_init_110 : decode cX12_init 110 = .ok (.bipush 60, 2) := by decide +kernel
theorem dX12_init_112 : decode cX12_init 112 = .ok (.newarray .int, 2) := by decide +kernel
theorem dX12_init_114 : decode cX12_init 114 = .ok (.putfield 49, 3) := by decide +kernel
theorem dX12_init_117 : decode cX12_init 117 = .ok (.aload_n 0, 1) := by decide +kernel
theorem dX12_init_118 : decode cX12_init 118 = .ok (.sipush 1200, 3) := by decide +kernel
theorem dX12_init_121 : decode cX12_init 121 = .ok (.newarray .int, 2) := by decide +kernel
theorem dX12_init_123 : decode cX12_init 123 = .ok (.putfield 52, 3) := by decide +kernel
theorem dX12_init_126 : decode cX12_init 126 = .ok (.aload_n 0, 1) := by decide +kernel
theorem dX12_init_127 : decode cX12_init 127 = .ok (.bipush 60, 2) := by decide +kernel
theorem dX12_init_129 : decode cX12_init 129 = .ok (.newarray .int, 2) := by decide +kernel
theorem dX12_init_131 : decode cX12_init 131 = .ok (.putfield 55, 3) := by decide +kernel
theorem dX12_init_134 : decode cX12_init 134 = .ok (.aload_n 0, 1) := by decide +kernel
theorem dX12_init_135 : decode cX12_init 135 = .ok (.bipush 60, 2) := by decide +kernel
theorem dX12_init_137 : decode cX12_init 137 = .ok (.newarray .int, 2) := by decide +kernel
theorem dX12_init_139 : decode cX12_init 139 = .ok (.putfield 58, 3) := by decide +kernel
theorem dX12_init_142 : decode cX12_init 142 = .ok (.aload_n 0, 1) := by decide +kernel
theorem dX12_init_143 : decode cX12_init 143 = .ok (.bipush 60, 2) := by decide +kernel
theorem dX12_init_145 : decode cX12_init 145 = .ok (.newarray .int, 2) := by decide +kernel
theorem dX12_init_147 : decode cX12_init 147 = .ok (.putfield 61, 3) := by decide +kernel
theorem dX12_init_150 : decode cX12_init 150 = .ok (.aload_n 0, 1) := by decide +kernel
theorem dX12_init_151 : decode cX12_init 151 = .ok (.bipush 60, 2) := by decide +kernel
theorem dX12_init_153 : decode cX12_init 153 = .ok (.newarray .int, 2) := by decide +kernel
theorem dX12_init_155 : decode cX12_init 155 = .ok (.putfield 64, 3) := by decide +kernel
theorem dX12_init_158 : decode cX12_init 158 = .ok (.aload_n 0, 1) := by decide +kernel
theorem dX12_init_159 : decode cX12_init 159 = .ok (.iconst (-1), 1) := by decide +kernel
theorem dX12_init_160 : decode cX12_init 160 = .ok (.putfield 67, 3) := by decide +kernel
theorem dX12_init_163 : decode cX12_init 163 = .ok (.aload_n 0, 1) := by decide +kernel
theorem dX12_init_164 : decode cX12_init 164 = .ok (.bipush 8, 2) := by decide +kernel
theorem dX12_init_166 : decode cX12_init 166 = .ok (.newarray .int, 2) := by decide +kernel
theorem dX12_init_168 : decode cX12_init 168 = .ok (.putfield 71, 3) := by decide +kernel
theorem dX12_init_171 : decode cX12_init 171 = .ok (.aload_n 0, 1) := by decide +kernel
theorem dX12_init_172 : decode cX12_init 172 = .ok (.iconst 1, 1) := by decide +kernel
theorem dX12_init_173 : decode cX12_init 173 = .ok (.putfield 74, 3) := by decide +kernel
theorem dX12_init_176 : decode cX12_init 176 = .ok (.aload_n 0, 1) := by decide +kernel
theorem dX12_init_177 : decode cX12_init 177 = .ok (.sipush 540, 3) := by decide +kernel
theorem dX12_init_180 : decode cX12_init 180 = .ok (.putfield 77, 3) := by decide +kernel
theorem dX12_init_183 : decode cX12_init 183 = .ok (.aload_n 0, 1) := by decide +kernel
theorem dX12_init_184 : decode cX12_init 184 = .ok (.sipush 1020, 3) := by decide +kernel
theorem dX12_init_187 : decode cX12_init 187 = .ok (.putfield 80, 3) := by decide +kernel
theorem dX12_init_190 : decode cX12_init 190 = .ok (.aload_n 0, 1) := by decide +kernel
theorem dX12_init_191 : decode cX12_init 191 = .ok (.bipush 24, 2) := by decide +kernel
theorem dX12_init_193 : decode cX12_init 193 = .ok (.newarray .int, 2) := by decide +kernel
theorem dX12_init_195 : decode cX12_init 195 = .ok (.putfield 83, 3) := by decide +kernel
theorem dX12_init_198 : decode cX12_init 198 = .ok (.aload_n 0, 1) := by decide +kernel
theorem dX12_init_199 : decode cX12_init 199 = .ok (.bipush 24, 2) := by decide +kernel
theorem dX12_init_201 : decode cX12_init 201 = .ok (.newarray .int, 2) := by decide +kernel
theorem dX12_init_203 : decode cX12_init 203 = .ok (.putfield 86, 3) := by decide +kernel
theorem dX12_init_206 : decode cX12_init 206 = .ok (.aload_n 0, 1) := by decide +kernel
theorem dX12_init_207 : decode cX12_init 207 = .ok (.bipush 24, 2) := by decide +kernel
theorem dX12_init_209 : decode cX12_init 209 = .ok (.newarray .int, 2) := by decide +kernel
theorem dX12_init_211 : decode cX12_init 211 = .ok (.putfield 89, 3) := by decide +kernel
theorem dX12_init_214 : decode cX12_init 214 = .ok (.aload_n 0, 1) := by decide +kernel
theorem dX12_init_215 : decode cX12_init 215 = .ok (.bipush 78, 2) := by decide +kernel
theorem dX12_init_217 : decode cX12_init 217 = .ok (.newarray .int, 2) := by decide +kernel
theorem dX12_init_219 : decode cX12_init 219 = .ok (.putfield 92, 3) := by decide +kernel
theorem dX12_init_222 : decode cX12_init 222 = .ok (.aload_n 0, 1) := by decide +kernel
theorem dX12_init_223 : decode cX12_init 223 = .ok (.bipush 6, 2) := by decide +kernel
theorem dX12_init_225 : decode cX12_init 225 = .ok (.newarray .int, 2) := by decide +kernel
theorem dX12_init_227 : decode cX12_init 227 = .ok (.putfield 95, 3) := by decide +kernel
theorem dX12_init_230 : decode cX12_init 230 = .ok (.aload_n 0, 1) := by decide +kernel
theorem dX12_init_231 : decode cX12_init 231 = .ok (.bipush 6, 2) := by decide +kernel
theorem dX12_init_233 : decode cX12_init 233 = .ok (.newarray .int, 2) := by decide +kernel
theorem dX12_init_235 : decode cX12_init 235 = .ok (.putfield 98, 3) := by decide +kernel
theorem dX12_init_238 : decode cX12_init 238 = .ok (.aload_n 0, 1) := by decide +kernel
theorem dX12_init_239 : decode cX12_init 239 = .ok (.bipush 120, 2) := by decide +kernel
theorem dX12_init_241 : decode cX12_init 241 = .ok (.newarray .int, 2) := by decide +kernel
theorem dX12_init_243 : decode cX12_init 243 = .ok (.putfield 101, 3) := by decide +kernel
theorem dX12_init_246 : decode cX12_init 246 = .ok (.aload_n 0, 1) := by decide +kernel
theorem dX12_init_247 : decode cX12_init 247 = .ok (.bipush 6, 2) := by decide +kernel
theorem dX12_init_249 : decode cX12_init 249 = .ok (.newarray .int, 2) := by decide +kernel
theorem dX12_init_251 : decode cX12_init 251 = .ok (.putfield 104, 3) := by decide +kernel
theorem dX12_init_254 : decode cX12_init 254 = .ok (.aload_n 0, 1) := by decide +kernel
theorem dX12_init_255 : decode cX12_init 255 = .ok (.bipush 48, 2) := by decide +kernel
theorem dX12_init_257 : decode cX12_init 257 = .ok (.newarray .boolean, 2) := by decide +kernel
theorem dX12_init_259 : decode cX12_init 259 = .ok (.putfield 107, 3) := by decide +kernel
theorem dX12_init_262 : decode cX12_init 262 = .ok (.aload_n 0, 1) := by decide +kernel
theorem dX12_init_263 : decode cX12_init 263 = .ok (.iconst 4, 1) := by decide +kernel
theorem dX12_init_264 : decode cX12_init 264 = .ok (.newarray .int, 2) := by decide +kernel
theorem dX12_init_266 : decode cX12_init 266 = .ok (.putfield 111, 3) := by decide +kernel
theorem dX12_init_269 : decode cX12_init 269 = .ok (.aload_n 0, 1) := by decide +kernel
theorem dX12_init_270 : decode cX12_init 270 = .ok (.bipush 8, 2) := by decide +kernel
theorem dX12_init_272 : decode cX12_init 272 = .ok (.newarray .boolean, 2) := by decide +kernel
theorem dX12_init_274 : decode cX12_init 274 = .ok (.putfield 114, 3) := by decide +kernel
theorem dX12_init_277 : decode cX12_init 277 = .ok (.aload_n 0, 1) := by decide +kernel
theorem dX12_init_278 : decode cX12_init 278 = .ok (.bipush 8, 2) := by decide +kernel
theorem dX12_init_280 : decode cX12_init 280 = .ok (.newarray .int, 2) := by decide +kernel
theorem dX12_init_282 : decode cX12_init 282 = .ok (.putfield 117, 3) := by decide +kernel
theorem dX12_init_285 : decode cX12_init 285 = .ok (.aload_n 0, 1) := by decide +kernel
theorem dX12_init_286 : decode cX12_init 286 = .ok (.bipush 8, 2) := by decide +kernel
theorem dX12_init_288 : decode cX12_init 288 = .ok (.newarray .int, 2) := by decide +kernel
theorem dX12_init_290 : decode cX12_init 290 = .ok (.putfield 120, 3) := by decide +kernel
theorem dX12_init_293 : decode cX12_init 293 = .ok (.aload_n 0, 1) := by decide +kernel
theorem dX12_init_294 : decode cX12_init 294 = .ok (.bipush 48, 2) := by decide +kernel
theorem dX12_init_296 : decode cX12_init 296 = .ok (.newarray .int, 2) := by decide +kernel
theorem dX12_init_298 : decode cX12_init 298 = .ok (.putfield 123, 3) := by decide +kernel
theorem dX12_init_301 : decode cX12_init 301 = .ok (.aload_n 0, 1) := by decide +kernel
theorem dX12_init_302 : decode cX12_init 302 = .ok (.bipush 48, 2) := by decide +kernel
theorem dX12_init_304 : decode cX12_init 304 = .ok (.newarray .boolean, 2) := by decide +kernel
theorem dX12_init_306 : decode cX12_init 306 = .ok (.putfield 126, 3) := by decide +kernel
theorem dX12_init_309 : decode cX12_init 309 = .ok (.aload_n 0, 1) := by decide +kernel
theorem dX12_init_310 : decode cX12_init 310 = .ok (.iconst 4, 1) := by decide +kernel
theorem dX12_init_311 : decode cX12_init 311 = .ok (.newarray .boolean, 2) := by decide +kernel
theorem dX12_init_313 : decode cX12_init 313 = .ok (.putfield 129, 3) := by decide +kernel
theorem dX12_init_316 : decode cX12_init 316 = .ok (.aload_n 0, 1) := by decide +kernel
theorem dX12_init_317 : decode cX12_init 317 = .ok (.iconst 4, 1) := by decide +kernel
theorem dX12_init_318 : decode cX12_init 318 = .ok (.newarray .int, 2) := by decide +kernel
theorem dX12_init_320 : decode cX12_init 320 = .ok (.putfield 132, 3) := by decide +kernel
theorem dX12_init_323 : decode cX12_init 323 = .ok (.aload_n 0, 1) := by decide +kernel
theorem dX12_init_324 : decode cX12_init 324 = .ok (.iconst 4, 1) := by decide +kernel
theorem dX12_init_325 : decode cX12_init 325 = .ok (.newarray .int, 2) := by decide +kernel
theorem dX12_init_327 : decode cX12_init 327 = .ok (.putfield 135, 3) := by decide +kernel
theorem dX12_init_330 : decode cX12_init 330 = .ok (.aload_n 0, 1) := by decide +kernel
theorem dX12_init_331 : decode cX12_init 331 = .ok (.sipush 160, 3) := by decide +kernel
theorem dX12_init_334 : decode cX12_init 334 = .ok (.newarray .int, 2) := by decide +kernel
theorem dX12_init_336 : decode cX12_init 336 = .ok (.putfield 138, 3) := by decide +kernel
theorem dX12_init_339 : decode cX12_init 339 = .ok (.aload_n 0, 1) := by decide +kernel
theorem dX12_init_340 : decode cX12_init 340 = .ok (.bipush 40, 2) := by decide +kernel
theorem dX12_init_342 : decode cX12_init 342 = .ok (.newarray .int, 2) := by decide +kernel
theorem dX12_init_344 : decode cX12_init 344 = .ok (.putfield 141, 3) := by decide +kernel
theorem dX12_init_347 : decode cX12_init 347 = .ok (.iconst 0, 1) := by decide +kernel
theorem dX12_init_348 : decode cX12_init 348 = .ok (.istore_n 1, 1) := by decide +kernel
theorem dX12_init_349 : decode cX12_init 349 = .ok (.iload_n 1, 1) := by decide +kernel
theorem dX12_init_350 : decode cX12_init 350 = .ok (.iconst 4, 1) := by decide +kernel
theorem dX12_init_351 : decode cX12_init 351 = .ok (.if_icmp .ge 38, 3) := by decide +kernel
theorem dX12_init_354 : decode cX12_init 354 = .ok (.aload_n 0, 1) := by decide +kernel
theorem dX12_init_355 : decode cX12_init 355 = .ok (.getfield 71, 3) := by decide +kernel
theorem dX12_init_358 : decode cX12_init 358 = .ok (.iconst 2, 1) := by decide +kernel
theorem dX12_init_359 : decode cX12_init 359 = .ok (.iload_n 1, 1) := by decide +kernel
theorem dX12_init_360 : decode cX12_init 360 = .ok (.imul, 1) := by decide +kernel
theorem dX12_init_361 : decode cX12_init 361 = .ok (.bipush 20, 2) := by decide +kernel
theorem dX12_init_363 : decode cX12_init 363 = .ok (.iastore, 1) := by decide +kernel
theorem dX12_init_364 : decode cX12_init 364 = .ok (.aload_n 0, 1) := by decide +kernel
theorem dX12_init_365 : decode cX12_init 365 = .ok (.getfield 71, 3) := by decide +kernel
theorem dX12_init_368 : decode cX12_init 368 = .ok (.iconst 2, 1) := by decide +kernel
theorem dX12_init_369 : decode cX12_init 369 = .ok (.iload_n 1, 1) := by decide +kernel
theorem dX12_init_370 : decode cX12_init 370 = .ok (.imul, 1) := by decide +kernel
theorem dX12_init_371 : decode cX12_init 371 = .ok (.iconst 1, 1) := by decide +kernel
theorem dX12_init_372 : decode cX12_init 372 = .ok (.iadd, 1) := by decide +kernel
theorem dX12_init_373 : decode cX12_init 373 = .ok (.bipush 20, 2) := by decide +kernel
theorem dX12_init_375 : decode cX12_init 375 = .ok (.iastore, 1) := by decide +kernel
theorem dX12_init_376 : decode cX12_init 376 = .ok (.aload_n 0, 1) := by decide +kernel
theorem dX12_init_377 : decode cX12_init 377 = .ok (.getfield 111, 3) := by decide +kernel
theorem dX12_init_380 : decode cX12_init 380 = .ok (.iload_n 1, 1) := by decide +kernel
theorem dX12_init_381 : decode cX12_init 381 = .ok (.iconst (-1), 1) := by decide +kernel
theorem dX12_init_382 : decode cX12_init 382 = .ok (.iastore, 1) := by decide +kernel
theorem dX12_init_383 : decode cX12_init 383 = .ok (.iinc 1 1, 3) := by decide +kernel
theorem dX12_init_386 : decode cX12_init 386 = .ok (.goto (-37), 3) := by decide +kernel
theorem dX12_init_389 : decode cX12_init 389 = .ok (.return_, 1) := by decide +kernel
theorem dX12_in_0 : decode cX12_in 0 = .ok (.iload_n 0, 1) := by decide +kernel
theorem dX12_in_1 : decode cX12_in 1 = .ok (.iload_n 1, 1) := by decide +kernel
theorem dX12_in_2 : decode cX12_in 2 = .ok (.if_icmp .lt 12, 3) := by decide +kernel
theorem dX12_in_5 : decode cX12_in 5 = .ok (.iload_n 0, 1) := by decide +kernel
theorem dX12_in_6 : decode cX12_in 6 = .ok (.iload_n 2, 1) := by decide +kernel
theorem dX12_in_7 : decode cX12_in 7 = .ok (.if_icmp .gt 7, 3) := by decide +kernel
theorem dX12_in_10 : decode cX12_in 10 = .ok (.iconst 1, 1) := by decide +kernel
theorem dX12_in_11 : decode cX12_in 11 = .ok (.goto 4, 3) := by decide +kernel
theorem dX12_in_14 : decode cX12_in 14 = .ok (.iconst 0, 1) := by decide +kernel
theorem dX12_in_15 : decode cX12_in 15 = .ok (.ireturn, 1) := by decide +kernel
theorem dX12_isDay_0 : decode cX12_isDay 0 = .ok (.iload_n 0, 1) := by decide +kernel
theorem dX12_isDay_1 : decode cX12_isDay 1 = .ok (.iconst 0, 1) := by decide +kernel
theorem dX12_isDay_2 : decode cX12_isDay 2 = .ok (.sipush 399, 3) := by decide +kernel
theorem dX12_isDay_5 : decode cX12_isDay 5 = .ok (.invokestatic 144, 3) := by decide +kernel
theorem dX12_isDay_8 : decode cX12_isDay 8 = .ok (.ireturn, 1) := by decide +kernel
theorem dX12_isBeat_0 : decode cX12_isBeat 0 = .ok (.iload_n 0, 1) := by decide +kernel
theorem dX12_isBeat_1 : decode cX12_isBeat 1 = .ok (.iconst 0, 1) := by decide +kernel
theorem dX12_isBeat_2 : decode cX12_isBeat 2 = .ok (.iconst 5, 1) := by decide +kernel
theorem dX12_isBeat_3 : decode cX12_isBeat 3 = .ok (.invokestatic 144, 3) := by decide +kernel
theorem dX12_isBeat_6 : decode cX12_isBeat 6 = .ok (.ireturn, 1) := by decide +kernel
theorem dX12_isPerson_0 : decode cX12_isPerson 0 = .ok (.iload_n 1, 1) := by decide +kernel
theorem dX12_isPerson_1 : decode cX12_isPerson 1 = .ok (.iconst 0, 1) := by decide +kernel
theorem dX12_isPerson_2 : decode cX12_isPerson 2 = .ok (.aload_n 0, 1) := by decide +kernel
theorem dX12_isPerson_3 : decode cX12_isPerson 3 = .ok (.getfield 148, 3) := by decide +kernel
theorem dX12_isPerson_6 : decode cX12_isPerson 6 = .ok (.iconst 1, 1) := by decide +kernel
theorem dX12_isPerson_7 : decode cX12_isPerson 7 = .ok (.isub, 1) := by decide +kernel
theorem dX12_isPerson_8 : decode cX12_isPerson 8 = .ok (.invokestatic 144, 3) := by decide +kernel
theorem dX12_isPerson_11 : decode cX12_isPerson 11 = .ok (.ireturn, 1) := by decide +kernel
theorem dX12_lives_0 : decode cX12_lives 0 = .ok (.aload_n 0, 1) := by decide +kernel
theorem dX12_lives_1 : decode cX12_lives 1 = .ok (.getfield 25, 3) := by decide +kernel
theorem dX12_lives_4 : decode cX12_lives 4 = .ok (.iload_n 1, 1) := by decide +kernel
theorem dX12_lives_5 : decode cX12_lives 5 = .ok (.iaload, 1) := by decide +kernel
theorem dX12_lives_6 : decode cX12_lives 6 = .ok (.iconst 3, 1) := by decide +kernel
theorem dX12_lives_7 : decode cX12_lives 7 = .ok (.if_icmp .ge 7, 3) := by decide +kernel
theorem dX12_lives_10 : decode cX12_lives 10 = .ok (.iconst 1, 1) := by decide +kernel
theorem dX12_lives_11 : decode cX12_lives 11 = .ok (.goto 4, 3) := by decide +kernel
theorem dX12_lives_14 : decode cX12_lives 14 = .ok (.iconst 0, 1) := by decide +kernel
theorem dX12_lives_15 : decode cX12_lives 15 = .ok (.ireturn, 1) := by decide +kernel
theorem dX12_isOff_0 : decode cX12_isOff 0 = .ok (.aload_n 0, 1) := by decide +kernel
theorem dX12_isOff_1 : decode cX12_isOff 1 = .ok (.getfield 25, 3) := by decide +kernel
theorem dX12_isOff_4 : decode cX12_isOff 4 = .ok (.iload_n 1, 1) := by decide +kernel
theorem dX12_isOff_5 : decode cX12_isOff 5 = .ok (.iaload, 1) := by decide +kernel
theorem dX12_isOff_6 : decode cX12_isOff 6 = .ok (.ifCond .eq 13, 3) := by decide +kernel
theorem dX12_isOff_9 : decode cX12_isOff 9 = .ok (.aload_n 0, 1) := by decide +kernel
theorem dX12_isOff_10 : decode cX12_isOff 10 = .ok (.getfield 25, 3) := by decide +kernel
theorem dX12_isOff_13 : decode cX12_isOff 13 = .ok (.iload_n 1, 1) := by decide +kernel
theorem dX12_isOff_14 : decode cX12_isOff 14 = .ok (.iaload, 1) := by decide +kernel
theorem dX12_isOff_15 : decode cX12_isOff 15 = .ok (.iconst 2, 1) := by decide +kernel
theorem dX12_isOff_16 : decode cX12_isOff 16 = .ok (.if_icmp .ne 7, 3) := by decide +kernel
theorem dX12_isOff_19 : decode cX12_isOff 19 = .ok (.iconst 1, 1) := by decide +kernel
theorem dX12_isOff_20 : decode cX12_isOff 20 = .ok (.goto 4, 3) := by decide +kernel
theorem dX12_isOff_23 : decode cX12_isOff 23 = .ok (.iconst 0, 1) := by decide +kernel
theorem dX12_isOff_24 : decode cX12_isOff 24 = .ok (.ireturn, 1) := by decide +kernel
theorem dX12_pass_0 : decode cX12_pass 0 = .ok (.iload_n 1, 1) := by decide +kernel
theorem dX12_pass_1 : decode cX12_pass 1 = .ok (.iconst 1, 1) := by decide +kernel
theorem dX12_pass_2 : decode cX12_pass 2 = .ok (.bipush 100, 2) := by decide +kernel
theorem dX12_pass_4 : decode cX12_pass 4 = .ok (.invokestatic 144, 3) := by decide +kernel
theorem dX12_pass_7 : decode cX12_pass 7 = .ok (.ifCond .eq 15, 3) := by decide +kernel
theorem dX12_pass_10 : decode cX12_pass 10 = .ok (.aload_n 0, 1) := by decide +kernel
theorem dX12_pass_11 : decode cX12_pass 11 = .ok (.getfield 151, 3) := by decide +kernel
theorem dX12_pass_14 : decode cX12_pass 14 = .ok (.iload_n 1, 1) := by decide +kernel
theorem dX12_pass_15 : decode cX12_pass 15 = .ok (.iadd, 1) := by decide +kernel
theorem dX12_pass_16 : decode cX12_pass 16 = .ok (.sipush 399, 3) := by decide +kernel
theorem dX12_pass_19 : decode cX12_pass 19 = .ok (.if_icmp .le 6, 3) := by decide +kernel
theorem dX12_pass_22 : decode cX12_pass 22 = .ok (.bipush (-2), 2) := by decide +kernel
theorem dX12_pass_24 : decode cX12_pass 24 = .ok (.ireturn, 1) := by decide +kernel
theorem dX12_pass_25 : decode cX12_pass 25 = .ok (.aload_n 0, 1) := by decide +kernel
theorem dX12_pass_26 : decode cX12_pass 26 = .ok (.dup, 1) := by decide +kernel
theorem dX12_pass_27 : decode cX12_pass 27 = .ok (.getfield 151, 3) := by decide +kernel
theorem dX12_pass_30 : decode cX12_pass 30 = .ok (.iload_n 1, 1) := by decide +kernel
theorem dX12_pass_31 : decode cX12_pass 31 = .ok (.iadd, 1) := by decide +kernel
theorem dX12_pass_32 : decode cX12_pass 32 = .ok (.putfield 151, 3) := by decide +kernel
theorem dX12_pass_35 : decode cX12_pass 35 = .ok (.aload_n 0, 1) := by decide +kernel
theorem dX12_pass_36 : decode cX12_pass 36 = .ok (.getfield 151, 3) := by decide +kernel
theorem dX12_pass_39 : decode cX12_pass 39 = .ok (.ireturn, 1) := by decide +kernel
theorem dX12_person_0 : decode cX12_person 0 = .ok (.iload_n 1, 1) := by decide +kernel
theorem dX12_person_1 : decode cX12_person 1 = .ok (.invokestatic 154, 3) := by decide +kernel
theorem dX12_person_4 : decode cX12_person 4 = .ok (.ifCond .eq 48, 3) := by decide +kernel
theorem dX12_person_7 : decode cX12_person 7 = .ok (.iload_n 2, 1) := by decide +kernel
theorem dX12_person_8 : decode cX12_person 8 = .ok (.iconst 0, 1) := by decide +kernel
theorem dX12_person_9 : decode cX12_person 9 = .ok (.iconst 1, 1) := by decide +kernel
theorem dX12_person_10 : decode cX12_person 10 = .ok (.invokestatic 144, 3) := by decide +kernel
theorem dX12_person_13 : decode cX12_person 13 = .ok (.ifCond .eq 39, 3) := by decide +kernel
theorem dX12_person_16 : decode cX12_person 16 = .ok (.iload_n 3, 1) := by decide +kernel
theorem dX12_person_17 : decode cX12_person 17 = .ok (.iconst 0, 1) := by decide +kernel
theorem dX12_person_18 : decode cX12_person 18 = .ok (.bipush 20, 2) := by decide +kernel
theorem dX12_person_20 : decode cX12_person 20 = .ok (.invokestatic 144, 3) := by decide +kernel
theorem dX12_person_23 : decode cX12_person 23 = .ok (.ifCond .eq 29, 3) := by decide +kernel
theorem dX12_person_26 : decode cX12_person 26 = .ok (.iload 4, 2) := by decide +kernel
theorem dX12_person_28 : decode cX12_person 28 = .ok (.iconst 0, 1) := by decide +kernel
theorem dX12_person_29 : decode cX12_person 29 = .ok (.bipush 9, 2) := by decide +kernel
theorem dX12_person_31 : decode cX12_person 31 = .ok (.invokestatic 144, 3) := by decide +kernel
theorem dX12_person_34 : decode cX12_person 34 = .ok (.ifCond .eq 18, 3) := by decide +kernel
theorem dX12_person_37 : decode cX12_person 37 = .ok (.iload 5, 2) := by decide +kernel
theorem dX12_person_39 : decode cX12_person 39 = .ok (.iconst (-1), 1) := by decide +kernel
theorem dX12_person_40 : decode cX12_person 40 = .ok (.aload_n 0, 1) := by decide +kernel
theorem dX12_person_41 : decode cX12_person 41 = .ok (.getfield 148, 3) := by decide +kernel
theorem dX12_person_44 : decode cX12_person 44 = .ok (.iconst 1, 1) := by decide +kernel
theorem dX12_person_45 : decode cX12_person 45 = .ok (.isub, 1) := by decide +kernel
theorem dX12_person_46 : decode cX12_person 46 = .ok (.invokestatic 144, 3) := by decide +kernel
theorem dX12_person_49 : decode cX12_person 49 = .ok (.ifCond .ne 6, 3) := by decide +kernel
theorem dX12_person_52 : decode cX12_person 52 = .ok (.bipush (-2), 2) := by decide +kernel
theorem dX12_person_54 : decode cX12_person 54 = .ok (.ireturn, 1) := by decide +kernel
theorem dX12_person_55 : decode cX12_person 55 = .ok (.aload_n 0, 1) := by decide +kernel
theorem dX12_person_56 : decode cX12_person 56 = .ok (.getfield 148, 3) := by decide +kernel
theorem dX12_person_59 : decode cX12_person 59 = .ok (.bipush 48, 2) := by decide +kernel
theorem dX12_person_61 : decode cX12_person 61 = .ok (.if_icmp .ne 6, 3) := by decide +kernel
theorem dX12_person_64 : decode cX12_person 64 = .ok (.bipush (-4), 2) := by decide +kernel
theorem dX12_person_66 : decode cX12_person 66 = .ok (.ireturn, 1) := by decide +kernel
theorem dX12_person_67 : decode cX12_person 67 = .ok (.aload_n 0, 1) := by decide +kernel
theorem dX12_person_68 : decode cX12_person 68 = .ok (.getfield 7, 3) := by decide +kernel
theorem dX12_person_71 : decode cX12_person 71 = .ok (.aload_n 0, 1) := by decide +kernel
theorem dX12_person_72 : decode cX12_person 72 = .ok (.getfield 148, 3) := by decide +kernel
theorem dX12_person_75 : decode cX12_person 75 = .ok (.iload_n 1, 1) := by decide +kernel
theorem dX12_person_76 : decode cX12_person 76 = .ok (.iastore, 1) := by decide +kernel
theorem dX12_person_77 : decode cX12_person 77 = .ok (.aload_n 0, 1) := by decide +kernel
theorem dX12_person_78 : decode cX12_person 78 = .ok (.getfield 13, 3) := by decide +kernel
theorem dX12_person_81 : decode cX12_person 81 = .ok (.aload_n 0, 1) := by decide +kernel
theorem dX12_person_82 : decode cX12_person 82 = .ok (.getfield 148, 3) := by decide +kernel
theorem dX12_person_85 : decode cX12_person 85 = .ok (.iload_n 2, 1) := by decide +kernel
theorem dX12_person_86 : decode cX12_person 86 = .ok (.iastore, 1) := by decide +kernel
theorem dX12_person_87 : decode cX12_person 87 = .ok (.aload_n 0, 1) := by decide +kernel
theorem dX12_person_88 : decode cX12_person 88 = .ok (.getfield 16, 3) := by decide +kernel
theorem dX12_person_91 : decode cX12_person 91 = .ok (.aload_n 0, 1) := by decide +kernel
theorem dX12_person_92 : decode cX12_person 92 = .ok (.getfield 148, 3) := by decide +kernel
theorem dX12_person_95 : decode cX12_person 95 = .ok (.iload_n 3, 1) := by decide +kernel
theorem dX12_person_96 : decode cX12_person 96 = .ok (.iastore, 1) := by decide +kernel
theorem dX12_person_97 : decode cX12_person 97 = .ok (.aload_n 0, 1) := by decide +kernel
theorem dX12_person_98 : decode cX12_person 98 = .ok (.getfield 19, 3) := by decide +kernel
theorem dX12_person_101 : decode cX12_person 101 = .ok (.aload_n 0, 1) := by decide +kernel
theorem dX12_person_102 : decode cX12_person 102 = .ok (.getfield 148, 3) := by decide +kernel
theorem dX12_person_105 : decode cX12_person 105 = .ok (.iload 4, 2) := by decide +kernel
theorem dX12_person_107 : decode cX12_person 107 = .ok (.iastore, 1) := by decide +kernel
theorem dX12_person_108 : decode cX12_person 108 = .ok (.aload_n 0, 1) := by decide +kernel
theorem dX12_person_109 : decode cX12_person 109 = .ok (.getfield 22, 3) := by decide +kernel
theorem dX12_person_112 : decode cX12_person 112 = .ok (.aload_n 0, 1) := by decide +kernel
theorem dX12_person_113 : decode cX12_person 113 = .ok (.getfield 148, 3) := by decide +kernel
theorem dX12_person_116 : decode cX12_person 116 = .ok (.iload 5, 2) := by decide +kernel
theorem dX12_person_118 : decode cX12_person 118 = .ok (.iastore, 1) := by decide +kernel
theorem dX12_person_119 : decode cX12_person 119 = .ok (.aload_n 0, 1) := by decide +kernel
theorem dX12_person_120 : decode cX12_person 120 = .ok (.dup, 1) := by decide +kernel
theorem dX12_person_121 : decode cX12_person 121 = .ok (.getfield 148, 3) := by decide +kernel
theorem dX12_person_124 : decode cX12_person 124 = .ok (.iconst 1, 1) := by decide +kernel
theorem dX12_person_125 : decode cX12_person 125 = .ok (.iadd, 1) := by decide +kernel
theorem dX12_person_126 : decode cX12_person 126 = .ok (.putfield 148, 3) := by decide +kernel
theorem dX12_person_129 : decode cX12_person 129 = .ok (.aload_n 0, 1) := by decide +kernel
theorem dX12_person_130 : decode cX12_person 130 = .ok (.getfield 148, 3) := by decide +kernel
theorem dX12_person_133 : decode cX12_person 133 = .ok (.iconst 1, 1) := by decide +kernel
theorem dX12_person_134 : decode cX12_person 134 = .ok (.isub, 1) := by decide +kernel
theorem dX12_person_135 : decode cX12_person 135 = .ok (.ireturn, 1) := by decide +kernel
theorem dX12_aboutOf_0 : decode cX12_aboutOf 0 = .ok (.iconst 0, 1) := by decide +kernel
theorem dX12_aboutOf_1 : decode cX12_aboutOf 1 = .ok (.istore_n 3, 1) := by decide +kernel
theorem dX12_aboutOf_2 : decode cX12_aboutOf 2 = .ok (.iload_n 2, 1) := by decide +kernel
theorem dX12_aboutOf_3 : decode cX12_aboutOf 3 = .ok (.tableswitch 154 0 7 #[45, 64, 71, 78, 85, 92, 99, 106], 45) := by decide +kernel
theorem dX12_aboutOf_48 : decode cX12_aboutOf 48 = .ok (.aload_n 0, 1) := by decide +kernel
theorem dX12_aboutOf_49 : decode cX12_aboutOf 49 = .ok (.iload_n 1, 1) := by decide +kernel
theorem dX12_aboutOf_50 : decode cX12_aboutOf 50 = .ok (.invokevirtual 158, 3) := by decide +kernel
theorem dX12_aboutOf_53 : decode cX12_aboutOf 53 = .ok (.ifCond .eq 12, 3) := by decide +kernel
theorem dX12_aboutOf_56 : decode cX12_aboutOf 56 = .ok (.aload_n 0, 1) := by decide +kernel
theorem dX12_aboutOf_57 : decode cX12_aboutOf 57 = .ok (.getfield 7, 3) := by decide +kernel
theorem dX12_aboutOf_60 : decode cX12_aboutOf 60 = .ok (.iload_n 1, 1) := by decide +kernel
theorem dX12_aboutOf_61 : decode cX12_aboutOf 61 = .ok (.iaload, 1) := by decide +kernel
theorem dX12_aboutOf_62 : decode cX12_aboutOf 62 = .ok (.goto 4, 3) := by decide +kernel
theorem dX12_aboutOf_65 : decode cX12_aboutOf 65 = .ok (.iconst (-1), 1) := by decide +kernel
theorem dX12_aboutOf_66 : decode cX12_aboutOf 66 = .ok (.ireturn, 1) := by decide +kernel
theorem dX12_aboutOf_67 : decode cX12_aboutOf 67 = .ok (.aload_n 0, 1) := by decide +kernel
theorem dX12_aboutOf_68 : decode cX12_aboutOf 68 = .ok (.getfield 13, 3) := by decide +kernel
theorem dX12_aboutOf_71 : decode cX12_aboutOf 71 = .ok (.iload_n 1, 1) := by decide +kernel
theorem dX12_aboutOf_72 : decode cX12_aboutOf 72 = .ok (.iaload, 1) := by decide +kernel
theorem dX12_aboutOf_73 : decode cX12_aboutOf 73 = .ok (.ireturn, 1) := by decide +kernel
theorem dX12_aboutOf_74 : decode cX12_aboutOf 74 = .ok (.aload_n 0, 1) := by decide +kernel
theorem dX12_aboutOf_75 : decode cX12_aboutOf 75 = .ok (.getfield 16, 3) := by decide +kernel
theorem dX12_aboutOf_78 : decode cX12_aboutOf 78 = .ok (.iload_n 1, 1) := by decide +kernel
theorem dX12_aboutOf_79 : decode cX12_aboutOf 79 = .ok (.iaload, 1) := by decide +kernel
theorem dX12_aboutOf_80 : decode cX12_aboutOf 80 = .ok (.ireturn, 1) := by decide +kernel
theorem dX12_aboutOf_81 : decode cX12_aboutOf 81 = .ok (.aload_n 0, 1) := by decide +kernel
theorem dX12_aboutOf_82 : decode cX12_aboutOf 82 = .ok (.getfield 19, 3) := by decide +kernel
theorem dX12_aboutOf_85 : decode cX12_aboutOf 85 = .ok (.iload_n 1, 1) := by decide +kernel
theorem dX12_aboutOf_86 : decode cX12_aboutOf 86 = .ok (.iaload, 1) := by decide +kernel
theorem dX12_aboutOf_87 : decode cX12_aboutOf 87 = .ok (.ireturn, 1) := by decide +kernel
theorem dX12_aboutOf_88 : decode cX12_aboutOf 88 = .ok (.aload_n 0, 1) := by decide +kernel
theorem dX12_aboutOf_89 : decode cX12_aboutOf 89 = .ok (.getfield 22, 3) := by decide +kernel
theorem dX12_aboutOf_92 : decode cX12_aboutOf 92 = .ok (.iload_n 1, 1) := by decide +kernel
theorem dX12_aboutOf_93 : decode cX12_aboutOf 93 = .ok (.iaload, 1) := by decide +kernel
theorem dX12_aboutOf_94 : decode cX12_aboutOf 94 = .ok (.ireturn, 1) := by decide +kernel
theorem dX12_aboutOf_95 : decode cX12_aboutOf 95 = .ok (.aload_n 0, 1) := by decide +kernel
theorem dX12_aboutOf_96 : decode cX12_aboutOf 96 = .ok (.getfield 25, 3) := by decide +kernel
theorem dX12_aboutOf_99 : decode cX12_aboutOf 99 = .ok (.iload_n 1, 1) := by decide +kernel
theorem dX12_aboutOf_100 : decode cX12_aboutOf 100 = .ok (.iaload, 1) := by decide +kernel
theorem dX12_aboutOf_101 : decode cX12_aboutOf 101 = .ok (.ireturn, 1) := by decide +kernel
theorem dX12_aboutOf_102 : decode cX12_aboutOf 102 = .ok (.aload_n 0, 1) := by decide +kernel
theorem dX12_aboutOf_103 : decode cX12_aboutOf 103 = .ok (.getfield 28, 3) := by decide +kernel
theorem dX12_aboutOf_106 : decode cX12_aboutOf 106 = .ok (.iload_n 1, 1) := by decide +kernel
theorem dX12_aboutOf_107 : decode cX12_aboutOf 107 = .ok (.iaload, 1) := by decide +kernel
theorem dX12_aboutOf_108 : decode cX12_aboutOf 108 = .ok (.ireturn, 1) := by decide +kernel
theorem dX12_aboutOf_109 : decode cX12_aboutOf 109 = .ok (.iconst 0, 1) := by decide +kernel
theorem dX12_aboutOf_110 : decode cX12_aboutOf 110 = .ok (.istore 4, 2) := by decide +kernel
theorem dX12_aboutOf_112 : decode cX12_aboutOf 112 = .ok (.iload 4, 2) := by decide +kernel
theorem dX12_aboutOf_114 : decode cX12_aboutOf 114 = .ok (.aload_n 0, 1) := by decide +kernel
theorem dX12_aboutOf_115 : decode cX12_aboutOf 115 = .ok (.getfield 161, 3) := by decide +kernel
theorem dX12_aboutOf_118 : decode cX12_aboutOf 118 = .ok (.if_icmp .ge 37, 3) := by decide +kernel
theorem dX12_aboutOf_121 : decode cX12_aboutOf 121 = .ok (.iload_n 3, 1) := by decide +kernel
theorem dX12_aboutOf_122 : decode cX12_aboutOf 122 = .ok (.aload_n 0, 1) := by decide +kernel
theorem dX12_aboutOf_123 : decode cX12_aboutOf 123 = .ok (.getfield 43, 3) := by decide +kernel
theorem dX12_aboutOf_126 : decode cX12_aboutOf 126 = .ok (.iload 4, 2) := by decide +kernel
theorem dX12_aboutOf_128 : decode cX12_aboutOf 128 = .ok (.iaload, 1) := by decide +kernel
theorem dX12_aboutOf_129 : decode cX12_aboutOf 129 = .ok (.iload_n 1, 1) := by decide +kernel
theorem dX12_aboutOf_130 : decode cX12_aboutOf 130 = .ok (.if_icmp .ne 16, 3) := by decide +kernel
theorem dX12_aboutOf_133 : decode cX12_aboutOf 133 = .ok (.aload_n 0, 1) := by decide +kernel
theorem dX12_aboutOf_134 : decode cX12_aboutOf 134 = .ok (.iload 4, 2) := by decide +kernel
theorem dX12_aboutOf_136 : decode cX12_aboutOf 136 = .ok (.invokevirtual 164, 3) := by decide +kernel
theorem dX12_aboutOf_139 : decode cX12_aboutOf 139 = .ok (.ifCond .eq 7, 3) := by decide +kernel
theorem dX12_aboutOf_142 : decode cX12_aboutOf 142 = .ok (.iconst 1, 1) := by decide +kernel
theorem dX12_aboutOf_143 : decode cX12_aboutOf 143 = .ok (.goto 4, 3) := by decide +kernel
theorem dX12_aboutOf_146 : decode cX12_aboutOf 146 = .ok (.iconst 0, 1) := by decide +kernel
theorem dX12_aboutOf_147 : decode cX12_aboutOf 147 = .ok (.iadd, 1) := by decide +kernel
theorem dX12_aboutOf_148 : decode cX12_aboutOf 148 = .ok (.istore_n 3, 1) := by decide +kernel
theorem dX12_aboutOf_149 : decode cX12_aboutOf 149 = .ok (.iinc 4 1, 3) := by decide +kernel
theorem dX12_aboutOf_152 : decode cX12_aboutOf 152 = .ok (.goto (-40), 3) := by decide +kernel
theorem dX12_aboutOf_155 : decode cX12_aboutOf 155 = .ok (.iload_n 3, 1) := by decide +kernel
theorem dX12_aboutOf_156 : decode cX12_aboutOf 156 = .ok (.ireturn, 1) := by decide +kernel
theorem dX12_aboutOf_157 : decode cX12_aboutOf 157 = .ok (.bipush (-2), 2) := by decide +kernel
theorem dX12_aboutOf_159 : decode cX12_aboutOf 159 = .ok (.ireturn, 1) := by decide +kernel
theorem dX12_about_0 : decode cX12_about 0 = .ok (.aload_n 0, 1) := by decide +kernel
theorem dX12_about_1 : decode cX12_about 1 = .ok (.iload_n 1, 1) := by decide +kernel
theorem dX12_about_2 : decode cX12_about 2 = .ok (.invokevirtual 167, 3) := by decide +kernel
theorem dX12_about_5 : decode cX12_about 5 = .ok (.ifCond .eq 12, 3) := by decide +kernel
theorem dX12_about_8 : decode cX12_about 8 = .ok (.aload_n 0, 1) := by decide +kernel
theorem dX12_about_9 : decode cX12_about 9 = .ok (.iload_n 1, 1) := by decide +kernel
theorem dX12_about_10 : decode cX12_about 10 = .ok (.iload_n 2, 1) := by decide +kernel
theorem dX12_about_11 : decode cX12_about 11 = .ok (.invokevirtual 170, 3) := by decide +kernel
theorem dX12_about_14 : decode cX12_about 14 = .ok (.goto 5, 3) := by decide +kernel
theorem dX12_about_17 : decode cX12_about 17 = .ok (.bipush (-2), 2) := by decide +kernel
theorem dX12_about_19 : decode cX12_about 19 = .ok (.ireturn, 1) := by decide +kernel
theorem dX12_put_0 : decode cX12_put 0 = .ok (.aload_n 0, 1) := by decide +kernel
theorem dX12_put_1 : decode cX12_put 1 = .ok (.iload_n 1, 1) := by decide +kernel
theorem dX12_put_2 : decode cX12_put 2 = .ok (.invokevirtual 167, 3) := by decide +kernel
theorem dX12_put_5 : decode cX12_put 5 = .ok (.ifCond .eq 12, 3) := by decide +kernel
theorem dX12_put_8 : decode cX12_put 8 = .ok (.iload_n 2, 1) := by decide +kernel
theorem dX12_put_9 : decode cX12_put 9 = .ok (.iconst 2, 1) := by decide +kernel
theorem dX12_put_10 : decode cX12_put 10 = .ok (.iconst 4, 1) := by decide +kernel
theorem dX12_put_11 : decode cX12_put 11 = .ok (.invokestatic 144, 3) := by decide +kernel
theorem dX12_put_14 : decode cX12_put 14 = .ok (.ifCond .ne 6, 3) := by decide +kernel
theorem dX12_put_17 : decode cX12_put 17 = .ok (.bipush (-2), 2) := by decide +kernel
theorem dX12_put_19 : decode cX12_put 19 = .ok (.ireturn, 1) := by decide +kernel
theorem dX12_put_20 : decode cX12_put 20 = .ok (.aload_n 0, 1) := by decide +kernel
theorem dX12_put_21 : decode cX12_put 21 = .ok (.iload_n 1, 1) := by decide +kernel
theorem dX12_put_22 : decode cX12_put 22 = .ok (.invokevirtual 158, 3) := by decide +kernel
theorem dX12_put_25 : decode cX12_put 25 = .ok (.ifCond .eq 18, 3) := by decide +kernel
theorem dX12_put_28 : decode cX12_put 28 = .ok (.iload_n 2, 1) := by decide +kernel
theorem dX12_put_29 : decode cX12_put 29 = .ok (.iconst 2, 1) := by decide +kernel
theorem dX12_put_30 : decode cX12_put 30 = .ok (.if_icmp .ne 16, 3) := by decide +kernel
theorem dX12_put_33 : decode cX12_put 33 = .ok (.aload_n 0, 1) := by decide +kernel
theorem dX12_put_34 : decode cX12_put 34 = .ok (.getfield 25, 3) := by decide +kernel
theorem dX12_put_37 : decode cX12_put 37 = .ok (.iload_n 1, 1) := by decide +kernel
theorem dX12_put_38 : decode cX12_put 38 = .ok (.iaload, 1) := by decide +kernel
theorem dX12_put_39 : decode cX12_put 39 = .ok (.iconst 1, 1) := by decide +kernel
theorem dX12_put_40 : decode cX12_put 40 = .ok (.if_icmp .eq 6, 3) := by decide +kernel
theorem dX12_put_43 : decode cX12_put 43 = .ok (.bipush (-3), 2) := by decide +kernel
theorem dX12_put_45 : decode cX12_put 45 = .ok (.ireturn, 1) := by decide +kernel
theorem dX12_put_46 : decode cX12_put 46 = .ok (.aload_n 0, 1) := by decide +kernel
theorem dX12_put_47 : decode cX12_put 47 = .ok (.getfield 25, 3) := by decide +kernel
theorem dX12_put_50 : decode cX12_put 50 = .ok (.iload_n 1, 1) := by decide +kernel
theorem dX12_put_51 : decode cX12_put 51 = .ok (.iaload, 1) := by decide +kernel
theorem dX12_put_52 : decode cX12_put 52 = .ok (.istore_n 3, 1) := by decide +kernel
theorem dX12_put_53 : decode cX12_put 53 = .ok (.aload_n 0, 1) := by decide +kernel
theorem dX12_put_54 : decode cX12_put 54 = .ok (.getfield 25, 3) := by decide +kernel
theorem dX12_put_57 : decode cX12_put 57 = .ok (.iload_n 1, 1) := by decide +kernel
theorem dX12_put_58 : decode cX12_put 58 = .ok (.iload_n 2, 1) := by decide +kernel
theorem dX12_put_59 : decode cX12_put 59 = .ok (.iastore, 1) := by decide +kernel
theorem dX12_put_60 : decode cX12_put 60 = .ok (.iload_n 3, 1) := by decide +kernel
theorem dX12_put_61 : decode cX12_put 61 = .ok (.ireturn, 1) := by decide +kernel
theorem dX12_move_0 : decode cX12_move 0 = .ok (.aload_n 0, 1) := by decide +kernel
theorem dX12_move_1 : decode cX12_move 1 = .ok (.iload_n 1, 1) := by decide +kernel
theorem dX12_move_2 : decode cX12_move 2 = .ok (.invokevirtual 167, 3) := by decide +kernel
theorem dX12_move_5 : decode cX12_move 5 = .ok (.ifCond .eq 28, 3) := by decide +kernel
theorem dX12_move_8 : decode cX12_move 8 = .ok (.iload_n 2, 1) := by decide +kernel
theorem dX12_move_9 : decode cX12_move 9 = .ok (.invokestatic 154, 3) := by decide +kernel
theorem dX12_move_12 : decode cX12_move 12 = .ok (.ifCond .eq 21, 3) := by decide +kernel
theorem dX12_move_15 : decode cX12_move 15 = .ok (.aload_n 0, 1) := by decide +kernel
theorem dX12_move_16 : decode cX12_move 16 = .ok (.iload_n 1, 1) := by decide +kernel
theorem dX12_move_17 : decode cX12_move 17 = .ok (.invokevirtual 158, 3) := by decide +kernel
theorem dX12_move_20 : decode cX12_move 20 = .ok (.ifCond .eq 16, 3) := by decide +kernel
theorem dX12_move_23 : decode cX12_move 23 = .ok (.aload_n 0, 1) := by decide +kernel
theorem dX12_move_24 : decode cX12_move 24 = .ok (.getfield 7, 3) := by decide +kernel
theorem dX12_move_27 : decode cX12_move 27 = .ok (.iload_n 1, 1) := by decide +kernel
theorem dX12_move_28 : decode cX12_move 28 = .ok (.iaload, 1) := by decide +kernel
theorem dX12_move_29 : decode cX12_move 29 = .ok (.iload_n 2, 1) := by decide +kernel
theorem dX12_move_30 : decode cX12_move 30 = .ok (.if_icmp .ne 6, 3) := by decide +kernel
theorem dX12_move_33 : decode cX12_move 33 = .ok (.bipush (-2), 2) := by decide +kernel
theorem dX12_move_35 : decode cX12_move 35 = .ok (.ireturn, 1) := by decide +kernel
theorem dX12_move_36 : decode cX12_move 36 = .ok (.aload_n 0, 1) := by decide +kernel
theorem dX12_move_37 : decode cX12_move 37 = .ok (.iload_n 1, 1) := by decide +kernel
theorem dX12_move_38 : decode cX12_move 38 = .ok (.invokevirtual 158, 3) := by decide +kernel
theorem dX12_move_41 : decode cX12_move 41 = .ok (.ifCond .ne 6, 3) := by decide +kernel
theorem dX12_move_44 : decode cX12_move 44 = .ok (.bipush (-3), 2) := by decide +kernel
theorem dX12_move_46 : decode cX12_move 46 = .ok (.ireturn, 1) := by decide +kernel
theorem dX12_move_47 : decode cX12_move 47 = .ok (.aload_n 0, 1) := by decide +kernel
theorem dX12_move_48 : decode cX12_move 48 = .ok (.getfield 7, 3) := by decide +kernel
theorem dX12_move_51 : decode cX12_move 51 = .ok (.iload_n 1, 1) := by decide +kernel
theorem dX12_move_52 : decode cX12_move 52 = .ok (.iaload, 1) := by decide +kernel
theorem dX12_move_53 : decode cX12_move 53 = .ok (.istore_n 3, 1) := by decide +kernel
theorem dX12_move_54 : decode cX12_move 54 = .ok (.aload_n 0, 1) := by decide +kernel
theorem dX12_move_55 : decode cX12_move 55 = .ok (.getfield 7, 3) := by decide +kernel
theorem dX12_move_58 : decode cX12_move 58 = .ok (.iload_n 1, 1) := by decide +kernel
theorem dX12_move_59 : decode cX12_move 59 = .ok (.iload_n 2, 1) := by decide +kernel
theorem dX12_move_60 : decode cX12_move 60 = .ok (.iastore, 1) := by decide +kernel
theorem dX12_move_61 : decode cX12_move 61 = .ok (.iload_n 3, 1) := by decide +kernel
theorem dX12_move_62 : decode cX12_move 62 = .ok (.ireturn, 1) := by decide +kernel
theorem dX12_harsh_0 : decode cX12_harsh 0 = .ok (.aload_n 0, 1) := by decide +kernel
theorem dX12_harsh_1 : decode cX12_harsh 1 = .ok (.iload_n 1, 1) := by decide +kernel
theorem dX12_harsh_2 : decode cX12_harsh 2 = .ok (.invokevirtual 167, 3) := by decide +kernel
theorem dX12_harsh_5 : decode cX12_harsh 5 = .ok (.ifCond .eq 13, 3) := by decide +kernel
theorem dX12_harsh_8 : decode cX12_harsh 8 = .ok (.iload_n 2, 1) := by decide +kernel
theorem dX12_harsh_9 : decode cX12_harsh 9 = .ok (.iconst 0, 1) := by decide +kernel
theorem dX12_harsh_10 : decode cX12_harsh 10 = .ok (.bipush 9, 2) := by decide +kernel
theorem dX12_harsh_12 : decode cX12_harsh 12 = .ok (.invokestatic 144, 3) := by decide +kernel
theorem dX12_harsh_15 : decode cX12_harsh 15 = .ok (.ifCond .ne 6, 3) := by decide +kernel
theorem dX12_harsh_18 : decode cX12_harsh 18 = .ok (.bipush (-2), 2) := by decide +kernel
theorem dX12_harsh_20 : decode cX12_harsh 20 = .ok (.ireturn, 1) := by decide +kernel
theorem dX12_harsh_21 : decode cX12_harsh 21 = .ok (.aload_n 0, 1) := by decide +kernel
theorem dX12_harsh_22 : decode cX12_harsh 22 = .ok (.getfield 28, 3) := by decide +kernel
theorem dX12_harsh_25 : decode cX12_harsh 25 = .ok (.iload_n 1, 1) := by decide +kernel
theorem dX12_harsh_26 : decode cX12_harsh 26 = .ok (.iaload, 1) := by decide +kernel
theorem dX12_harsh_27 : decode cX12_harsh 27 = .ok (.istore_n 3, 1) := by decide +kernel
theorem dX12_harsh_28 : decode cX12_harsh 28 = .ok (.aload_n 0, 1) := by decide +kernel
theorem dX12_harsh_29 : decode cX12_harsh 29 = .ok (.getfield 28, 3) := by decide +kernel
theorem dX12_harsh_32 : decode cX12_harsh 32 = .ok (.iload_n 1, 1) := by decide +kernel
theorem dX12_harsh_33 : decode cX12_harsh 33 = .ok (.iload_n 2, 1) := by decide +kernel
theorem dX12_harsh_34 : decode cX12_harsh 34 = .ok (.iastore, 1) := by decide +kernel
theorem dX12_harsh_35 : decode cX12_harsh 35 = .ok (.iload_n 3, 1) := by decide +kernel
theorem dX12_harsh_36 : decode cX12_harsh 36 = .ok (.ireturn, 1) := by decide +kernel
theorem dX12_rollOf_0 : decode cX12_rollOf 0 = .ok (.iconst 0, 1) := by decide +kernel
theorem dX12_rollOf_1 : decode cX12_rollOf 1 = .ok (.istore 4, 2) := by decide +kernel
theorem dX12_rollOf_3 : decode cX12_rollOf 3 = .ok (.iconst 0, 1) := by decide +kernel
theorem dX12_rollOf_4 : decode cX12_rollOf 4 = .ok (.istore 5, 2) := by decide +kernel
theorem dX12_rollOf_6 : decode cX12_rollOf 6 = .ok (.iload 5, 2) := by decide +kernel
theorem dX12_rollOf_8 : decode cX12_rollOf 8 = .ok (.aload_n 0, 1) := by decide +kernel
theorem dX12_rollOf_9 : decode cX12_rollOf 9 = .ok (.getfield 148, 3) := by decide +kernel
theorem dX12_rollOf_12 : decode cX12_rollOf 12 = .ok (.if_icmp .ge 62, 3) := by decide +kernel
theorem dX12_rollOf_15 : decode cX12_rollOf 15 = .ok (.iload 4, 2) := by decide +kernel
theorem dX12_rollOf_17 : decode cX12_rollOf 17 = .ok (.aload_n 0, 1) := by decide +kernel
theorem dX12_rollOf_18 : decode cX12_rollOf 18 = .ok (.getfield 25, 3) := by decide +kernel
theorem dX12_rollOf_21 : decode cX12_rollOf 21 = .ok (.iload 5, 2) := by decide +kernel
theorem dX12_rollOf_23 : decode cX12_rollOf 23 = .ok (.iaload, 1) := by decide +kernel
theorem dX12_rollOf_24 : decode cX12_rollOf 24 = .ok (.iload_n 3, 1) := by decide +kernel
theorem dX12_rollOf_25 : decode cX12_rollOf 25 = .ok (.if_icmp .ne 39, 3) := by decide +kernel
theorem dX12_rollOf_28 : decode cX12_rollOf 28 = .ok (.iload_n 1, 1) := by decide +kernel
theorem dX12_rollOf_29 : decode cX12_rollOf 29 = .ok (.iconst (-1), 1) := by decide +kernel
theorem dX12_rollOf_30 : decode cX12_rollOf 30 = .ok (.if_icmp .eq 14, 3) := by decide +kernel
theorem dX12_rollOf_33 : decode cX12_rollOf 33 = .ok (.aload_n 0, 1) := by decide +kernel
theorem dX12_rollOf_34 : decode cX12_rollOf 34 = .ok (.getfield 7, 3) := by decide +kernel
theorem dX12_rollOf_37 : decode cX12_rollOf 37 = .ok (.iload 5, 2) := by decide +kernel
theorem dX12_rollOf_39 : decode cX12_rollOf 39 = .ok (.iaload, 1) := by decide +kernel
theorem dX12_rollOf_40 : decode cX12_rollOf 40 = .ok (.iload_n 1, 1) := by decide +kernel
theorem dX12_rollOf_41 : decode cX12_rollOf 41 = .ok (.if_icmp .ne 23, 3) := by decide +kernel
theorem dX12_rollOf_44 : decode cX12_rollOf 44 = .ok (.iload_n 2, 1) := by decide +kernel
theorem dX12_rollOf_45 : decode cX12_rollOf 45 = .ok (.iconst (-1), 1) := by decide +kernel
theorem dX12_rollOf_46 : decode cX12_rollOf 46 = .ok (.if_icmp .eq 14, 3) := by decide +kernel
theorem dX12_rollOf_49 : decode cX12_rollOf 49 = .ok (.aload_n 0, 1) := by decide +kernel
theorem dX12_rollOf_50 : decode cX12_rollOf 50 = .ok (.getfield 13, 3) := by decide +kernel
theorem dX12_rollOf_53 : decode cX12_rollOf 53 = .ok (.iload 5, 2) := by decide +kernel
theorem dX12_rollOf_55 : decode cX12_rollOf 55 = .ok (.iaload, 1) := by decide +kernel
theorem dX12_rollOf_56 : decode cX12_rollOf 56 = .ok (.iload_n 2, 1) := by decide +kernel
theorem dX12_rollOf_57 : decode cX12_rollOf 57 = .ok (.if_icmp .ne 7, 3) := by decide +kernel
theorem dX12_rollOf_60 : decode cX12_rollOf 60 = .ok (.iconst 1, 1) := by decide +kernel
theorem dX12_rollOf_61 : decode cX12_rollOf 61 = .ok (.goto 4, 3) := by decide +kernel
theorem dX12_rollOf_64 : decode cX12_rollOf 64 = .ok (.iconst 0, 1) := by decide +kernel
theorem dX12_rollOf_65 : decode cX12_rollOf 65 = .ok (.iadd, 1) := by decide +kernel
theorem dX12_rollOf_66 : decode cX12_rollOf 66 = .ok (.istore 4, 2) := by decide +kernel
theorem dX12_rollOf_68 : decode cX12_rollOf 68 = .ok (.iinc 5 1, 3) := by decide +kernel
theorem dX12_rollOf_71 : decode cX12_rollOf 71 = .ok (.goto (-65), 3) := by decide +kernel
theorem dX12_rollOf_74 : decode cX12_rollOf 74 = .ok (.iload 4, 2) := by decide +kernel
theorem dX12_rollOf_76 : decode cX12_rollOf 76 = .ok (.ireturn, 1) := by decide +kernel
theorem dX12_roll_0 : decode cX12_roll 0 = .ok (.iload_n 1, 1) := by decide +kernel
theorem dX12_roll_1 : decode cX12_roll 1 = .ok (.iconst (-1), 1) := by decide +kernel
theorem dX12_roll_2 : decode cX12_roll 2 = .ok (.iconst 5, 1) := by decide +kernel
theorem dX12_roll_3 : decode cX12_roll 3 = .ok (.invokestatic 144, 3) := by decide +kernel
theorem dX12_roll_6 : decode cX12_roll 6 = .ok (.ifCond .eq 31, 3) := by decide +kernel
theorem dX12_roll_9 : decode cX12_roll 9 = .ok (.iload_n 2, 1) := by decide +kernel
theorem dX12_roll_10 : decode cX12_roll 10 = .ok (.iconst (-1), 1) := by decide +kernel
theorem dX12_roll_11 : decode cX12_roll 11 = .ok (.iconst 1, 1) := by decide +kernel
theorem dX12_roll_12 : decode cX12_roll 12 = .ok (.invokestatic 144, 3) := by decide +kernel
theorem dX12_roll_15 : decode cX12_roll 15 = .ok (.ifCond .eq 22, 3) := by decide +kernel
theorem dX12_roll_18 : decode cX12_roll 18 = .ok (.iload_n 3, 1) := by decide +kernel
theorem dX12_roll_19 : decode cX12_roll 19 = .ok (.iconst 0, 1) := by decide +kernel
theorem dX12_roll_20 : decode cX12_roll 20 = .ok (.iconst 2, 1) := by decide +kernel
theorem dX12_roll_21 : decode cX12_roll 21 = .ok (.invokestatic 144, 3) := by decide +kernel
theorem dX12_roll_24 : decode cX12_roll 24 = .ok (.ifCond .eq 13, 3) := by decide +kernel
theorem dX12_roll_27 : decode cX12_roll 27 = .ok (.aload_n 0, 1) := by decide +kernel
theorem dX12_roll_28 : decode cX12_roll 28 = .ok (.iload_n 1, 1) := by decide +kernel
theorem dX12_roll_29 : decode cX12_roll 29 = .ok (.iload_n 2, 1) := by decide +kernel
theorem dX12_roll_30 : decode cX12_roll 30 = .ok (.iload_n 3, 1) := by decide +kernel
theorem dX12_roll_31 : decode cX12_roll 31 = .ok (.invokevirtual 174, 3) := by decide +kernel
theorem dX12_roll_34 : decode cX12_roll 34 = .ok (.goto 5, 3) := by decide +kernel
theorem dX12_roll_37 : decode cX12_roll 37 = .ok (.bipush (-2), 2) := by decide +kernel
theorem dX12_roll_39 : decode cX12_roll 39 = .ok (.ireturn, 1) := by decide +kernel
theorem dX12_type_0 : decode cX12_type 0 = .ok (.iload_n 1, 1) := by decide +kernel
theorem dX12_type_1 : decode cX12_type 1 = .ok (.iconst 0, 1) := by decide +kernel
theorem dX12_type_2 : decode cX12_type 2 = .ok (.sipush 255, 3) := by decide +kernel
theorem dX12_type_5 : decode cX12_type 5 = .ok (.invokestatic 144, 3) := by decide +kernel
theorem dX12_type_8 : decode cX12_type 8 = .ok (.ifCond .ne 6, 3) := by decide +kernel
theorem dX12_type_11 : decode cX12_type 11 = .ok (.bipush (-2), 2) := by decide +kernel
theorem dX12_type_13 : decode cX12_type 13 = .ok (.ireturn, 1) := by decide +kernel
theorem dX12_type_14 : decode cX12_type 14 = .ok (.aload_n 0, 1) := by decide +kernel
theorem dX12_type_15 : decode cX12_type 15 = .ok (.getfield 178, 3) := by decide +kernel
theorem dX12_type_18 : decode cX12_type 18 = .ok (.sipush 200, 3) := by decide +kernel
theorem dX12_type_21 : decode cX12_type 21 = .ok (.if_icmp .ne 6, 3) := by decide +kernel
theorem dX12_type_24 : decode cX12_type 24 = .ok (.bipush (-4), 2) := by decide +kernel
theorem dX12_type_26 : decode cX12_type 26 = .ok (.ireturn, 1) := by decide +kernel
theorem dX12_type_27 : decode cX12_type 27 = .ok (.aload_n 0, 1) := by decide +kernel
theorem dX12_type_28 : decode cX12_type 28 = .ok (.getfield 31, 3) := by decide +kernel
theorem dX12_type_31 : decode cX12_type 31 = .ok (.aload_n 0, 1) := by decide +kernel
theorem dX12_type_32 : decode cX12_type 32 = .ok (.getfield 178, 3) := by decide +kernel
theorem dX12_type_35 : decode cX12_type 35 = .ok (.iload_n 1, 1) := by decide +kernel
theorem dX12_type_36 : decode cX12_type 36 = .ok (.iastore, 1) := by decide +kernel
theorem dX12_type_37 : decode cX12_type 37 = .ok (.aload_n 0, 1) := by decide +kernel
theorem dX12_type_38 : decode cX12_type 38 = .ok (.dup, 1) := by decide +kernel
theorem dX12_type_39 : decode cX12_type 39 = .ok (.getfield 178, 3) := by decide +kernel
theorem dX12_type_42 : decode cX12_type 42 = .ok (.iconst 1, 1) := by decide +kernel
theorem dX12_type_43 : decode cX12_type 43 = .ok (.iadd, 1) := by decide +kernel
theorem dX12_type_44 : decode cX12_type 44 = .ok (.putfield 178, 3) := by decide +kernel
theorem dX12_type_47 : decode cX12_type 47 = .ok (.aload_n 0, 1) := by decide +kernel
theorem dX12_type_48 : decode cX12_type 48 = .ok (.iconst 0, 1) := by decide +kernel
theorem dX12_type_49 : decode cX12_type 49 = .ok (.putfield 181, 3) := by decide +kernel
theorem dX12_type_52 : decode cX12_type 52 = .ok (.aload_n 0, 1) := by decide +kernel
theorem dX12_type_53 : decode cX12_type 53 = .ok (.getfield 178, 3) := by decide +kernel
theorem dX12_type_56 : decode cX12_type 56 = .ok (.ireturn, 1) := by decide +kernel
theorem dX12_wipe_0 : decode cX12_wipe 0 = .ok (.aload_n 0, 1) := by decide +kernel
theorem dX12_wipe_1 : decode cX12_wipe 1 = .ok (.getfield 178, 3) := by decide +kernel
theorem dX12_wipe_4 : decode cX12_wipe 4 = .ok (.istore_n 1, 1) := by decide +kernel
theorem dX12_wipe_5 : decode cX12_wipe 5 = .ok (.aload_n 0, 1) := by decide +kernel
theorem dX12_wipe_6 : decode cX12_wipe 6 = .ok (.iconst 0, 1) := by decide +kernel
theorem dX12_wipe_7 : decode cX12_wipe 7 = .ok (.putfield 178, 3) := by decide +kernel
theorem dX12_wipe_10 : decode cX12_wipe 10 = .ok (.aload_n 0, 1) := by decide +kernel
theorem dX12_wipe_11 : decode cX12_wipe 11 = .ok (.iconst 0, 1) := by decide +kernel
theorem dX12_wipe_12 : decode cX12_wipe 12 = .ok (.putfield 181, 3) := by decide +kernel
theorem dX12_wipe_15 : decode cX12_wipe 15 = .ok (.iload_n 1, 1) := by decide +kernel
theorem dX12_wipe_16 : decode cX12_wipe 16 = .ok (.ireturn, 1) := by decide +kernel
theorem dX12_byteAt_0 : decode cX12_byteAt 0 = .ok (.iload_n 1, 1) := by decide +kernel
theorem dX12_byteAt_1 : decode cX12_byteAt 1 = .ok (.aload_n 0, 1) := by decide +kernel
theorem dX12_byteAt_2 : decode cX12_byteAt 2 = .ok (.getfield 178, 3) := by decide +kernel
theorem dX12_byteAt_5 : decode cX12_byteAt 5 = .ok (.if_icmp .ge 12, 3) := by decide +kernel
theorem dX12_byteAt_8 : decode cX12_byteAt 8 = .ok (.aload_n 0, 1) := by decide +kernel
theorem dX12_byteAt_9 : decode cX12_byteAt 9 = .ok (.getfield 31, 3) := by decide +kernel
theorem dX12_byteAt_12 : decode cX12_byteAt 12 = .ok (.iload_n 1, 1) := by decide +kernel
theorem dX12_byteAt_13 : decode cX12_byteAt 13 = .ok (.iaload, 1) := by decide +kernel
theorem dX12_byteAt_14 : decode cX12_byteAt 14 = .ok (.goto 4, 3) := by decide +kernel
theorem dX12_byteAt_17 : decode cX12_byteAt 17 = .ok (.iconst (-1), 1) := by decide +kernel
theorem dX12_byteAt_18 : decode cX12_byteAt 18 = .ok (.ireturn, 1) := by decide +kernel
theorem dX12_figures_0 : decode cX12_figures 0 = .ok (.aload_n 0, 1) := by decide +kernel
theorem dX12_figures_1 : decode cX12_figures 1 = .ok (.getfield 185, 3) := by decide +kernel
theorem dX12_figures_4 : decode cX12_figures 4 = .ok (.istore 4, 2) := by decide +kernel
theorem dX12_figures_6 : decode cX12_figures 6 = .ok (.iconst 0, 1) := by decide +kernel
theorem dX12_figures_7 : decode cX12_figures 7 = .ok (.istore 5, 2) := by decide +kernel
theorem dX12_figures_9 : decode cX12_figures 9 = .ok (.aload_n 0, 1) := by decide +kernel
theorem dX12_figures_10 : decode cX12_figures 10 = .ok (.getfield 188, 3) := by decide +kernel
theorem dX12_figures_13 : decode cX12_figures 13 = .ok (.iconst (-1), 1) := by decide +kernel
theorem dX12_figures_14 : decode cX12_figures 14 = .ok (.if_icmp .ne 72, 3) := by decide +kernel
theorem dX12_figures_17 : decode cX12_figures 17 = .ok (.aload_n 0, 1) := by decide +kernel
theorem dX12_figures_18 : decode cX12_figures 18 = .ok (.getfield 185, 3) := by decide +kernel
theorem dX12_figures_21 : decode cX12_figures 21 = .ok (.iload 4, 2) := by decide +kernel
theorem dX12_figures_23 : decode cX12_figures 23 = .ok (.iload_n 1, 1) := by decide +kernel
theorem dX12_figures_24 : decode cX12_figures 24 = .ok (.iadd, 1) := by decide +kernel
theorem dX12_figures_25 : decode cX12_figures 25 = .ok (.if_icmp .ge 61, 3) := by decide +kernel
theorem dX12_figures_28 : decode cX12_figures 28 = .ok (.aload_n 0, 1) := by decide +kernel
theorem dX12_figures_29 : decode cX12_figures 29 = .ok (.aload_n 0, 1) := by decide +kernel
theorem dX12_figures_30 : decode cX12_figures 30 = .ok (.getfield 185, 3) := by decide +kernel
theorem dX12_figures_33 : decode cX12_figures 33 = .ok (.invokevirtual 191, 3) := by decide +kernel
theorem dX12_figures_36 : decode cX12_figures 36 = .ok (.bipush 48, 2) := by decide +kernel
theorem dX12_figures_38 : decode cX12_figures 38 = .ok (.if_icmp .lt 48, 3) := by decide +kernel
theorem dX12_figures_41 : decode cX12_figures 41 = .ok (.aload_n 0, 1) := by decide +kernel
theorem dX12_figures_42 : decode cX12_figures 42 = .ok (.aload_n 0, 1) := by decide +kernel
theorem dX12_figures_43 : decode cX12_figures 43 = .ok (.getfield 185, 3) := by decide +kernel
theorem dX12_figures_46 : decode cX12_figures 46 = .ok (.invokevirtual 191, 3) := by decide +kernel
theorem dX12_figures_49 : decode cX12_figures 49 = .ok (.bipush 57, 2) := by decide +kernel
theorem dX12_figures_51 : decode cX12_figures 51 = .ok (.if_icmp .gt 35, 3) := by decide +kernel
theorem dX12_figures_54 : decode cX12_figures 54 = .ok (.bipush 10, 2) := by decide +kernel
theorem dX12_figures_56 : decode cX12_figures 56 = .ok (.iload 5, 2) := by decide +kernel
theorem dX12_figures_58 : decode cX12_figures 58 = .ok (.imul, 1) := by decide +kernel
theorem dX12_figures_59 : decode cX12_figures 59 = .ok (.aload_n 0, 1) := by decide +kernel
theorem dX12_figures_60 : decode cX12_figures 60 = .ok (.aload_n 0, 1) := by decide +kernel
theorem dX12_figures_61 : decode cX12_figures 61 = .ok (.getfield 185, 3) := by decide +kernel
theorem dX12_figures_64 : decode cX12_figures 64 = .ok (.invokevirtual 191, 3) := by decide +kernel
theorem dX12_figures_67 : decode cX12_figures 67 = .ok (.iadd, 1) := by decide +kernel
theorem dX12_figures_68 : decode cX12_figures 68 = .ok (.bipush 48, 2) := by decide +kernel
theorem dX12_figures_70 : decode cX12_figures 70 = .ok (.isub, 1) := by decide +kernel
theorem dX12_figures_71 : decode cX12_figures 71 = .ok (.istore 5, 2) := by decide +kernel
theorem dX12_figures_73 : decode cX12_figures 73 = .ok (.aload_n 0, 1) := by decide +kernel
theorem dX12_figures_74 : decode cX12_figures 74 = .ok (.dup, 1) := by decide +kernel
theorem dX12_figures_75 : decode cX12_figures 75 = .ok (.getfield 185, 3) := by decide +kernel
theorem dX12_figures_78 : decode cX12_figures 78 = .ok (.iconst 1, 1) := by decide +kernel
theorem dX12_figures_79 : decode cX12_figures 79 = .ok (.iadd, 1) := by decide +kernel
theorem dX12_figures_80 : decode cX12_figures 80 = .ok (.putfield 185, 3) := by decide +kernel
theorem dX12_figures_83 : decode cX12_figures 83 = .ok (.goto (-74), 3) := by decide +kernel
theorem dX12_figures_86 : decode cX12_figures 86 = .ok (.aload_n 0, 1) := by decide +kernel
theorem dX12_figures_87 : decode cX12_figures 87 = .ok (.getfield 188, 3) := by decide +kernel
theorem dX12_figures_90 : decode cX12_figures 90 = .ok (.iconst (-1), 1) := by decide +kernel
theorem dX12_figures_91 : decode cX12_figures 91 = .ok (.if_icmp .ne 28, 3) := by decide +kernel
theorem dX12_figures_94 : decode cX12_figures 94 = .ok (.aload_n 0, 1) := by decide +kernel
theorem dX12_figures_95 : decode cX12_figures 95 = .ok (.getfield 185, 3) := by decide +kernel
theorem dX12_figures_98 : decode cX12_figures 98 = .ok (.iload 4, 2) := by decide +kernel
theorem dX12_figures_100 : decode cX12_figures 100 = .ok (.if_icmp .eq 13, 3) := by decide +kernel
theorem dX12_figures_103 : decode cX12_figures 103 = .ok (.iload 5, 2) := by decide +kernel
theorem dX12_figures_105 : decode cX12_figures 105 = .ok (.iload_n 2, 1) := by decide +kernel
theorem dX12_figures_106 : decode cX12_figures 106 = .ok (.iload_n 3, 1) := by decide +kernel
theorem dX12_figures_107 : decode cX12_figures 107 = .ok (.invokestatic 144, 3) := by decide +kernel
theorem dX12_figures_110 : decode cX12_figures 110 = .ok (.ifCond .ne 9, 3) := by decide +kernel
theorem dX12_figures_113 : decode cX12_figures 113 = .ok (.aload_n 0, 1) := by decide +kernel
theorem dX12_figures_114 : decode cX12_figures 114 = .ok (.iload 4, 2) := by decide +kernel
theorem dX12_figures_116 : decode cX12_figures 116 = .ok (.putfield 188, 3) := by decide +kernel
theorem dX12_figures_119 : decode cX12_figures 119 = .ok (.iload 5, 2) := by decide +kernel
theorem dX12_figures_121 : decode cX12_figures 121 = .ok (.ireturn, 1) := by decide +kernel
theorem dX12_readsPart_0 : decode cX12_readsPart 0 = .ok (.aload_n 0, 1) := by decide +kernel
theorem dX12_readsPart_1 : decode cX12_readsPart 1 = .ok (.aload_n 0, 1) := by decide +kernel
theorem dX12_readsPart_2 : decode cX12_readsPart 2 = .ok (.getfield 185, 3) := by decide +kernel
theorem dX12_readsPart_5 : decode cX12_readsPart 5 = .ok (.invokevirtual 191, 3) := by decide +kernel
theorem dX12_readsPart_8 : decode cX12_readsPart 8 = .ok (.istore_n 1, 1) := by decide +kernel
theorem dX12_readsPart_9 : decode cX12_readsPart 9 = .ok (.iload_n 1, 1) := by decide +kernel
theorem dX12_readsPart_10 : decode cX12_readsPart 10 = .ok (.bipush 113, 2) := by decide +kernel
theorem dX12_readsPart_12 : decode cX12_readsPart 12 = .ok (.if_icmp .ne 7, 3) := by decide +kernel
theorem dX12_readsPart_15 : decode cX12_readsPart 15 = .ok (.iconst 0, 1) := by decide +kernel
theorem dX12_readsPart_16 : decode cX12_readsPart 16 = .ok (.goto 48, 3) := by decide +kernel
theorem dX12_readsPart_19 : decode cX12_readsPart 19 = .ok (.iload_n 1, 1) := by decide +kernel
theorem dX12_readsPart_20 : decode cX12_readsPart 20 = .ok (.bipush 110, 2) := by decide +kernel
theorem dX12_readsPart_22 : decode cX12_readsPart 22 = .ok (.if_icmp .ne 8, 3) := by decide +kernel
theorem dX12_readsPart_25 : decode cX12_readsPart 25 = .ok (.bipush 20, 2) := by decide +kernel
theorem dX12_readsPart_27 : decode cX12_readsPart 27 = .ok (.goto 37, 3) := by decide +kernel
theorem dX12_readsPart_30 : decode cX12_readsPart 30 = .ok (.iload_n 1, 1) := by decide +kernel
theorem dX12_readsPart_31 : decode cX12_readsPart 31 = .ok (.bipush 107, 2) := by decide +kernel
theorem dX12_readsPart_33 : decode cX12_readsPart 33 = .ok (.if_icmp .ne 8, 3) := by decide +kernel
theorem dX12_readsPart_36 : decode cX12_readsPart 36 = .ok (.bipush 21, 2) := by decide +kernel
theorem dX12_readsPart_38 : decode cX12_readsPart 38 = .ok (.goto 26, 3) := by decide +kernel
theorem dX12_readsPart_41 : decode cX12_readsPart 41 = .ok (.iload_n 1, 1) := by decide +kernel
theorem dX12_readsPart_42 : decode cX12_readsPart 42 = .ok (.bipush 115, 2) := by decide +kernel
theorem dX12_readsPart_44 : decode cX12_readsPart 44 = .ok (.if_icmp .ne 8, 3) := by decide +kernel
theorem dX12_readsPart_47 : decode cX12_readsPart 47 = .ok (.bipush 22, 2) := by decide +kernel
theorem dX12_readsPart_49 : decode cX12_readsPart 49 = .ok (.goto 15, 3) := by decide +kernel
theorem dX12_readsPart_52 : decode cX12_readsPart 52 = .ok (.iload_n 1, 1) := by decide +kernel
theorem dX12_readsPart_53 : decode cX12_readsPart 53 = .ok (.bipush 119, 2) := by decide +kernel
