theorem dX3_has_0 : decode cX3_has 0 = .ok (.iload_n 1, 1) := by decide +kernel
theorem dX3_has_1 : decode cX3_has 1 = .ok (.ifCond .lt 15, 3) := by decide +kernel
theorem dX3_has_4 : decode cX3_has 4 = .ok (.iload_n 1, 1) := by decide +kernel
theorem dX3_has_5 : decode cX3_has 5 = .ok (.aload_n 0, 1) := by decide +kernel
theorem dX3_has_6 : decode cX3_has 6 = .ok (.getfield 25, 3) := by decide +kernel
theorem dX3_has_9 : decode cX3_has 9 = .ok (.if_icmp .ge 7, 3) := by decide +kernel
theorem dX3_has_16 : decode cX3_has 16 = .ok (.iconst 0, 1) := by decide +kernel
theorem dX3_has_17 : decode cX3_has 17 = .ok (.ireturn, 1) := by decide +kernel
theorem dX6_has_0 : decode cX6_has 0 = .ok (.iload_n 1, 1) := by decide +kernel
theorem dX6_has_1 : decode cX6_has 1 = .ok (.ifCond .lt 15, 3) := by decide +kernel
theorem dX6_has_4 : decode cX6_has 4 = .ok (.iload_n 1, 1) := by decide +kernel
theorem dX6_has_5 : decode cX6_has 5 = .ok (.aload_n 0, 1) := by decide +kernel
theorem dX6_has_6 : decode cX6_has 6 = .ok (.getfield 34, 3) := by decide +kernel
theorem dX6_has_9 : decode cX6_has 9 = .ok (.if_icmp .ge 7, 3) := by decide +kernel
theorem dX6_has_16 : decode cX6_has 16 = .ok (.iconst 0, 1) := by decide +kernel
theorem dX6_has_17 : decode cX6_has 17 = .ok (.ireturn, 1) := by decide +kernel
theorem dX9_hasDuel_0 : decode cX9_hasDuel 0 = .ok (.iload_n 1, 1) := by decide +kernel
theorem dX9_hasDuel_1 : decode cX9_hasDuel 1 = .ok (.ifCond .lt 15, 3) := by decide +kernel
theorem dX9_hasDuel_4 : decode cX9_hasDuel 4 = .ok (.iload_n 1, 1) := by decide +kernel
theorem dX9_hasDuel_5 : decode cX9_hasDuel 5 = .ok (.aload_n 0, 1) := by decide +kernel
theorem dX9_hasDuel_6 : decode cX9_hasDuel 6 = .ok (.getfield 63, 3) := by decide +kernel
theorem dX9_hasDuel_9 : decode cX9_hasDuel 9 = .ok (.if_icmp .ge 7, 3) := by decide +kernel
theorem dX9_hasDuel_16 : decode cX9_hasDuel 16 = .ok (.iconst 0, 1) := by decide +kernel
theorem dX9_hasDuel_17 : decode cX9_hasDuel 17 = .ok (.ireturn, 1) := by decide +kernel
theorem dX9_firstOpen_0 : decode cX9_firstOpen 0 = .ok (.iconst (-1), 1) := by decide +kernel
theorem dX9_firstOpen_1 : decode cX9_firstOpen 1 = .ok (.istore_n 1, 1) := by decide +kernel
theorem dX9_firstOpen_2 : decode cX9_firstOpen 2 = .ok (.iconst 0, 1) := by decide +kernel
theorem dX9_firstOpen_3 : decode cX9_firstOpen 3 = .ok (.istore_n 2, 1) := by decide +kernel
theorem dX9_firstOpen_4 : decode cX9_firstOpen 4 = .ok (.iload_n 2, 1) := by decide +kernel
theorem dX9_firstOpen_5 : decode cX9_firstOpen 5 = .ok (.aload_n 0, 1) := by decide +kernel
theorem dX9_firstOpen_6 : decode cX9_firstOpen 6 = .ok (.getfield 63, 3) := by decide +kernel
theorem dX9_firstOpen_9 : decode cX9_firstOpen 9 = .ok (.if_icmp .ge 39, 3) := by decide +kernel
theorem dX9_firstOpen_48 : decode cX9_firstOpen 48 = .ok (.iload_n 1, 1) := by decide +kernel
theorem dX9_firstOpen_49 : decode cX9_firstOpen 49 = .ok (.ireturn, 1) := by decide +kernel
theorem dX8_takeBack_0 : decode cX8_takeBack 0 = .ok (.iload_n 1, 1) := by decide +kernel
theorem dX8_takeBack_1 : decode cX8_takeBack 1 = .ok (.ifCond .lt 21, 3) := by decide +kernel
theorem dX8_takeBack_4 : decode cX8_takeBack 4 = .ok (.iload_n 1, 1) := by decide +kernel
theorem dX8_takeBack_5 : decode cX8_takeBack 5 = .ok (.aload_n 0, 1) := by decide +kernel
theorem dX8_takeBack_6 : decode cX8_takeBack 6 = .ok (.getfield 24, 3) := by decide +kernel
theorem dX8_takeBack_9 : decode cX8_takeBack 9 = .ok (.if_icmp .ge 13, 3) := by decide +kernel
theorem dX8_takeBack_22 : decode cX8_takeBack 22 = .ok (.iconst 0, 1) := by decide +kernel
theorem dX8_takeBack_23 : decode cX8_takeBack 23 = .ok (.ireturn, 1) := by decide +kernel
theorem dX1_clear_0 : decode cX1_clear 0 = .ok (.aload_n 0, 1) := by decide +kernel
theorem dX1_clear_1 : decode cX1_clear 1 = .ok (.iconst 0, 1) := by decide +kernel
theorem dX1_clear_2 : decode cX1_clear 2 = .ok (.putfield 15, 3) := by decide +kernel
theorem dX1_clear_5 : decode cX1_clear 5 = .ok (.return_, 1) := by decide +kernel
theorem dX8_clear_0 : decode cX8_clear 0 = .ok (.aload_n 0, 1) := by decide +kernel
theorem dX8_clear_1 : decode cX8_clear 1 = .ok (.iconst 0, 1) := by decide +kernel
theorem dX8_clear_2 : decode cX8_clear 2 = .ok (.putfield 24, 3) := by decide +kernel
theorem dX8_clear_5 : decode cX8_clear 5 = .ok (.return_, 1) := by decide +kernel
theorem dX11_isSide_0 : decode cX11_isSide 0 = .ok (.iload_n 0, 1) := by decide +kernel
theorem dX11_isSide_1 : decode cX11_isSide 1 = .ok (.ifCond .eq 8, 3) := by decide +kernel
theorem dX11_isSide_4 : decode cX11_isSide 4 = .ok (.iload_n 0, 1) := by decide +kernel
theorem dX11_isSide_5 : decode cX11_isSide 5 = .ok (.iconst 1, 1) := by decide +kernel
theorem dX11_isSide_6 : decode cX11_isSide 6 = .ok (.if_icmp .ne 7, 3) := by decide +kernel
theorem dX11_isSide_9 : decode cX11_isSide 9 = .ok (.iconst 1, 1) := by decide +kernel
theorem dX11_isSide_10 : decode cX11_isSide 10 = .ok (.goto 4, 3) := by decide +kernel
theorem dX11_isSide_13 : decode cX11_isSide 13 = .ok (.iconst 0, 1) := by decide +kernel
theorem dX11_isSide_14 : decode cX11_isSide 14 = .ok (.ireturn, 1) := by decide +kernel
theorem dX11_man_0 : decode cX11_man 0 = .ok (.aload_n 0, 1) := by decide +kernel
theorem dX11_man_1 : decode cX11_man 1 = .ok (.getfield 23, 3) := by decide +kernel
theorem dX11_man_4 : decode cX11_man 4 = .ok (.getfield 97, 3) := by decide +kernel
theorem dX11_man_7 : decode cX11_man 7 = .ok (.iload_n 1, 1) := by decide +kernel
theorem dX11_man_8 : decode cX11_man 8 = .ok (.invokevirtual 112, 3) := by decide +kernel
theorem dX11_man_11 : decode cX11_man 11 = .ok (.ifCond .ne 6, 3) := by decide +kernel
theorem dX11_man_14 : decode cX11_man 14 = .ok (.bipush (-2), 2) := by decide +kernel
theorem dX11_man_16 : decode cX11_man 16 = .ok (.ireturn, 1) := by decide +kernel
theorem dX11_duel_0 : decode cX11_duel 0 = .ok (.aload_n 0, 1) := by decide +kernel
theorem dX11_duel_1 : decode cX11_duel 1 = .ok (.getfield 32, 3) := by decide +kernel
theorem dX11_duel_4 : decode cX11_duel 4 = .ok (.aload_n 0, 1) := by decide +kernel
theorem dX11_duel_5 : decode cX11_duel 5 = .ok (.getfield 84, 3) := by decide +kernel
theorem dX11_duel_8 : decode cX11_duel 8 = .ok (.aaload, 1) := by decide +kernel
theorem dX11_duel_9 : decode cX11_duel 9 = .ok (.astore_n 3, 1) := by decide +kernel
theorem dX11_duel_10 : decode cX11_duel 10 = .ok (.aload_n 3, 1) := by decide +kernel
theorem dX11_duel_11 : decode cX11_duel 11 = .ok (.iload_n 1, 1) := by decide +kernel
theorem dX11_duel_12 : decode cX11_duel 12 = .ok (.invokevirtual 132, 3) := by decide +kernel
theorem dX11_duel_15 : decode cX11_duel 15 = .ok (.ifCond .ne 6, 3) := by decide +kernel
theorem dX11_duel_18 : decode cX11_duel 18 = .ok (.bipush (-2), 2) := by decide +kernel
theorem dX11_duel_20 : decode cX11_duel 20 = .ok (.ireturn, 1) := by decide +kernel
theorem dX11_reason_0 : decode cX11_reason 0 = .ok (.aload_n 0, 1) := by decide +kernel
theorem dX11_reason_1 : decode cX11_reason 1 = .ok (.getfield 23, 3) := by decide +kernel
theorem dX11_reason_4 : decode cX11_reason 4 = .ok (.getfield 157, 3) := by decide +kernel
theorem dX11_reason_7 : decode cX11_reason 7 = .ok (.astore_n 3, 1) := by decide +kernel
theorem dX11_reason_8 : decode cX11_reason 8 = .ok (.aload_n 3, 1) := by decide +kernel
theorem dX11_reason_9 : decode cX11_reason 9 = .ok (.iload_n 1, 1) := by decide +kernel
theorem dX11_reason_10 : decode cX11_reason 10 = .ok (.invokevirtual 161, 3) := by decide +kernel
theorem dX11_reason_13 : decode cX11_reason 13 = .ok (.ifCond .ne 6, 3) := by decide +kernel
theorem dX11_reason_16 : decode cX11_reason 16 = .ok (.bipush (-2), 2) := by decide +kernel
theorem dX11_reason_18 : decode cX11_reason 18 = .ok (.ireturn, 1) := by decide +kernel
theorem dX11_worth_0 : decode cX11_worth 0 = .ok (.aload_n 0, 1) := by decide +kernel
theorem dX11_worth_1 : decode cX11_worth 1 = .ok (.getfield 32, 3) := by decide +kernel
theorem dX11_worth_4 : decode cX11_worth 4 = .ok (.aload_n 0, 1) := by decide +kernel
theorem dX11_worth_5 : decode cX11_worth 5 = .ok (.getfield 84, 3) := by decide +kernel
theorem dX11_worth_8 : decode cX11_worth 8 = .ok (.aaload, 1) := by decide +kernel
theorem dX11_worth_9 : decode cX11_worth 9 = .ok (.astore 4, 2) := by decide +kernel
theorem dX11_worth_11 : decode cX11_worth 11 = .ok (.aload 4, 2) := by decide +kernel
theorem dX11_worth_13 : decode cX11_worth 13 = .ok (.iload_n 1, 1) := by decide +kernel
theorem dX11_worth_14 : decode cX11_worth 14 = .ok (.invokevirtual 132, 3) := by decide +kernel
theorem dX11_worth_17 : decode cX11_worth 17 = .ok (.ifCond .eq 28, 3) := by decide +kernel
theorem dX11_worth_45 : decode cX11_worth 45 = .ok (.iconst (-1), 1) := by decide +kernel
theorem dX11_worth_46 : decode cX11_worth 46 = .ok (.ireturn, 1) := by decide +kernel
theorem dX11_may_0 : decode cX11_may 0 = .ok (.aload_n 0, 1) := by decide +kernel
theorem dX11_may_1 : decode cX11_may 1 = .ok (.getfield 32, 3) := by decide +kernel
theorem dX11_may_4 : decode cX11_may 4 = .ok (.aload_n 0, 1) := by decide +kernel
theorem dX11_may_5 : decode cX11_may 5 = .ok (.getfield 84, 3) := by decide +kernel
theorem dX11_may_8 : decode cX11_may 8 = .ok (.aaload, 1) := by decide +kernel
theorem dX11_may_9 : decode cX11_may 9 = .ok (.astore_n 3, 1) := by decide +kernel
theorem dX11_may_10 : decode cX11_may 10 = .ok (.aload_n 3, 1) := by decide +kernel
theorem dX11_may_11 : decode cX11_may 11 = .ok (.iload_n 1, 1) := by decide +kernel
theorem dX11_may_12 : decode cX11_may 12 = .ok (.invokevirtual 132, 3) := by decide +kernel
theorem dX11_may_15 : decode cX11_may 15 = .ok (.ifCond .eq 10, 3) := by decide +kernel
theorem dX11_may_25 : decode cX11_may 25 = .ok (.iconst (-1), 1) := by decide +kernel
theorem dX11_may_26 : decode cX11_may 26 = .ok (.ireturn, 1) := by decide +kernel
theorem dX11_next_0 : decode cX11_next 0 = .ok (.aload_n 0, 1) := by decide +kernel
theorem dX11_next_1 : decode cX11_next 1 = .ok (.getfield 32, 3) := by decide +kernel
theorem dX11_next_4 : decode cX11_next 4 = .ok (.aload_n 0, 1) := by decide +kernel
theorem dX11_next_5 : decode cX11_next 5 = .ok (.getfield 84, 3) := by decide +kernel
theorem dX11_next_8 : decode cX11_next 8 = .ok (.aaload, 1) := by decide +kernel
theorem dX11_next_9 : decode cX11_next 9 = .ok (.astore_n 2, 1) := by decide +kernel
theorem dX11_next_10 : decode cX11_next 10 = .ok (.aload_n 2, 1) := by decide +kernel
theorem dX11_next_11 : decode cX11_next 11 = .ok (.invokevirtual 200, 3) := by decide +kernel
theorem dX11_next_14 : decode cX11_next 14 = .ok (.istore_n 3, 1) := by decide +kernel
theorem dX11_next_15 : decode cX11_next 15 = .ok (.iload_n 3, 1) := by decide +kernel
theorem dX11_next_16 : decode cX11_next 16 = .ok (.iconst (-1), 1) := by decide +kernel
theorem dX11_next_17 : decode cX11_next 17 = .ok (.if_icmp .ne 5, 3) := by decide +kernel
theorem dX11_next_20 : decode cX11_next 20 = .ok (.iconst (-1), 1) := by decide +kernel
theorem dX11_next_21 : decode cX11_next 21 = .ok (.ireturn, 1) := by decide +kernel
theorem dX11_heir_0 : decode cX11_heir 0 = .ok (.aload_n 0, 1) := by decide +kernel
theorem dX11_heir_1 : decode cX11_heir 1 = .ok (.getfield 23, 3) := by decide +kernel
theorem dX11_heir_4 : decode cX11_heir 4 = .ok (.getfield 97, 3) := by decide +kernel
theorem dX11_heir_7 : decode cX11_heir 7 = .ok (.iload_n 1, 1) := by decide +kernel
theorem dX11_heir_8 : decode cX11_heir 8 = .ok (.invokevirtual 112, 3) := by decide +kernel
theorem dX11_heir_11 : decode cX11_heir 11 = .ok (.ifCond .eq 23, 3) := by decide +kernel
theorem dX11_heir_34 : decode cX11_heir 34 = .ok (.iconst (-1), 1) := by decide +kernel
theorem dX11_heir_35 : decode cX11_heir 35 = .ok (.ireturn, 1) := by decide +kernel
theorem dX11_his_0 : decode cX11_his 0 = .ok (.aload_n 0, 1) := by decide +kernel
theorem dX11_his_1 : decode cX11_his 1 = .ok (.getfield 23, 3) := by decide +kernel
theorem dX11_his_4 : decode cX11_his 4 = .ok (.getfield 97, 3) := by decide +kernel
theorem dX11_his_7 : decode cX11_his 7 = .ok (.iload_n 1, 1) := by decide +kernel
theorem dX11_his_8 : decode cX11_his 8 = .ok (.invokevirtual 112, 3) := by decide +kernel
theorem dX11_his_11 : decode cX11_his 11 = .ok (.ifCond .ne 5, 3) := by decide +kernel
theorem dX11_his_14 : decode cX11_his 14 = .ok (.iconst (-1), 1) := by decide +kernel
theorem dX11_his_15 : decode cX11_his 15 = .ok (.ireturn, 1) := by decide +kernel
theorem dX11_comes_0 : decode cX11_comes 0 = .ok (.aload_n 0, 1) := by decide +kernel
theorem dX11_comes_1 : decode cX11_comes 1 = .ok (.getfield 23, 3) := by decide +kernel
theorem dX11_comes_4 : decode cX11_comes 4 = .ok (.getfield 97, 3) := by decide +kernel
theorem dX11_comes_7 : decode cX11_comes 7 = .ok (.astore_n 3, 1) := by decide +kernel
theorem dX11_comes_8 : decode cX11_comes 8 = .ok (.aload_n 3, 1) := by decide +kernel
theorem dX11_comes_9 : decode cX11_comes 9 = .ok (.iload_n 1, 1) := by decide +kernel
theorem dX11_comes_10 : decode cX11_comes 10 = .ok (.invokevirtual 112, 3) := by decide +kernel
theorem dX11_comes_13 : decode cX11_comes 13 = .ok (.ifCond .eq 11, 3) := by decide +kernel
theorem dX11_comes_24 : decode cX11_comes 24 = .ok (.iconst (-1), 1) := by decide +kernel
theorem dX11_comes_25 : decode cX11_comes 25 = .ok (.ireturn, 1) := by decide +kernel
theorem dX11_put_0 : decode cX11_put 0 = .ok (.aload_n 0, 1) := by decide +kernel
theorem dX11_put_1 : decode cX11_put 1 = .ok (.getfield 32, 3) := by decide +kernel
theorem dX11_put_4 : decode cX11_put 4 = .ok (.aload_n 0, 1) := by decide +kernel
theorem dX11_put_5 : decode cX11_put 5 = .ok (.getfield 84, 3) := by decide +kernel
theorem dX11_put_8 : decode cX11_put 8 = .ok (.aaload, 1) := by decide +kernel
theorem dX11_put_9 : decode cX11_put 9 = .ok (.astore 4, 2) := by decide +kernel
theorem dX11_put_11 : decode cX11_put 11 = .ok (.aload 4, 2) := by decide +kernel
theorem dX11_put_13 : decode cX11_put 13 = .ok (.iload_n 1, 1) := by decide +kernel
theorem dX11_put_14 : decode cX11_put 14 = .ok (.invokevirtual 132, 3) := by decide +kernel
theorem dX11_put_17 : decode cX11_put 17 = .ok (.ifCond .eq 24, 3) := by decide +kernel
theorem dX11_put_41 : decode cX11_put 41 = .ok (.iconst (-1), 1) := by decide +kernel
theorem dX11_put_42 : decode cX11_put 42 = .ok (.ireturn, 1) := by decide +kernel
theorem dX11_rent_0 : decode cX11_rent 0 = .ok (.aload_n 0, 1) := by decide +kernel
theorem dX11_rent_1 : decode cX11_rent 1 = .ok (.getfield 32, 3) := by decide +kernel
theorem dX11_rent_4 : decode cX11_rent 4 = .ok (.aload_n 0, 1) := by decide +kernel
theorem dX11_rent_5 : decode cX11_rent 5 = .ok (.getfield 84, 3) := by decide +kernel
theorem dX11_rent_8 : decode cX11_rent 8 = .ok (.aaload, 1) := by decide +kernel
theorem dX11_rent_9 : decode cX11_rent 9 = .ok (.astore_n 3, 1) := by decide +kernel
theorem dX11_rent_10 : decode cX11_rent 10 = .ok (.aload_n 0, 1) := by decide +kernel
theorem dX11_rent_11 : decode cX11_rent 11 = .ok (.getfield 23, 3) := by decide +kernel
theorem dX11_rent_14 : decode cX11_rent 14 = .ok (.getfield 97, 3) := by decide +kernel
theorem dX11_rent_17 : decode cX11_rent 17 = .ok (.iload_n 1, 1) := by decide +kernel
theorem dX11_rent_18 : decode cX11_rent 18 = .ok (.invokevirtual 112, 3) := by decide +kernel
theorem dX11_rent_21 : decode cX11_rent 21 = .ok (.ifCond .eq 25, 3) := by decide +kernel
theorem dX11_rent_46 : decode cX11_rent 46 = .ok (.iconst (-1), 1) := by decide +kernel
theorem dX11_rent_47 : decode cX11_rent 47 = .ok (.ireturn, 1) := by decide +kernel
theorem dX11_strike_0 : decode cX11_strike 0 = .ok (.aload_n 0, 1) := by decide +kernel
theorem dX11_strike_1 : decode cX11_strike 1 = .ok (.getfield 23, 3) := by decide +kernel
theorem dX11_strike_4 : decode cX11_strike 4 = .ok (.getfield 157, 3) := by decide +kernel
theorem dX11_strike_7 : decode cX11_strike 7 = .ok (.iload_n 1, 1) := by decide +kernel
theorem dX11_strike_8 : decode cX11_strike 8 = .ok (.invokevirtual 161, 3) := by decide +kernel
theorem dX11_strike_11 : decode cX11_strike 11 = .ok (.ifCond .eq 19, 3) := by decide +kernel
theorem dX11_strike_30 : decode cX11_strike 30 = .ok (.iconst 0, 1) := by decide +kernel
theorem dX11_strike_31 : decode cX11_strike 31 = .ok (.ireturn, 1) := by decide +kernel
theorem dX11_insult_0 : decode cX11_insult 0 = .ok (.aload_n 0, 1) := by decide +kernel
theorem dX11_insult_1 : decode cX11_insult 1 = .ok (.getfield 32, 3) := by decide +kernel
theorem dX11_insult_4 : decode cX11_insult 4 = .ok (.aload_n 0, 1) := by decide +kernel
theorem dX11_insult_5 : decode cX11_insult 5 = .ok (.getfield 84, 3) := by decide +kernel
theorem dX11_insult_8 : decode cX11_insult 8 = .ok (.aaload, 1) := by decide +kernel
theorem dX11_insult_9 : decode cX11_insult 9 = .ok (.astore_n 3, 1) := by decide +kernel
theorem dX11_insult_10 : decode cX11_insult 10 = .ok (.aload_n 0, 1) := by decide +kernel
theorem dX11_insult_11 : decode cX11_insult 11 = .ok (.getfield 23, 3) := by decide +kernel
theorem dX11_insult_14 : decode cX11_insult 14 = .ok (.getfield 97, 3) := by decide +kernel
theorem dX11_insult_17 : decode cX11_insult 17 = .ok (.iload_n 1, 1) := by decide +kernel
theorem dX11_insult_18 : decode cX11_insult 18 = .ok (.invokevirtual 112, 3) := by decide +kernel
theorem dX11_insult_21 : decode cX11_insult 21 = .ok (.ifCond .eq 31, 3) := by decide +kernel
theorem dX11_insult_52 : decode cX11_insult 52 = .ok (.iconst (-1), 1) := by decide +kernel
theorem dX11_insult_53 : decode cX11_insult 53 = .ok (.ireturn, 1) := by decide +kernel
theorem dX11_undo_0 : decode cX11_undo 0 = .ok (.aload_n 0, 1) := by decide +kernel
theorem dX11_undo_1 : decode cX11_undo 1 = .ok (.getfield 84, 3) := by decide +kernel
theorem dX11_undo_4 : decode cX11_undo 4 = .ok (.ifCond .ne 5, 3) := by decide +kernel
theorem dX11_undo_7 : decode cX11_undo 7 = .ok (.iconst 0, 1) := by decide +kernel
theorem dX11_undo_8 : decode cX11_undo 8 = .ok (.ireturn, 1) := by decide +kernel
theorem dX11_redo_0 : decode cX11_redo 0 = .ok (.aload_n 0, 1) := by decide +kernel
theorem dX11_redo_1 : decode cX11_redo 1 = .ok (.getfield 84, 3) := by decide +kernel
theorem dX11_redo_4 : decode cX11_redo 4 = .ok (.aload_n 0, 1) := by decide +kernel
theorem dX11_redo_5 : decode cX11_redo 5 = .ok (.getfield 87, 3) := by decide +kernel
theorem dX11_redo_8 : decode cX11_redo 8 = .ok (.if_icmp .lt 5, 3) := by decide +kernel
theorem dX11_redo_11 : decode cX11_redo 11 = .ok (.iconst 0, 1) := by decide +kernel
theorem dX11_redo_12 : decode cX11_redo 12 = .ok (.ireturn, 1) := by decide +kernel
theorem dX11_late_0 : decode cX11_late 0 = .ok (.aload_n 0, 1) := by decide +kernel
theorem dX11_late_1 : decode cX11_late 1 = .ok (.getfield 32, 3) := by decide +kernel
theorem dX11_late_4 : decode cX11_late 4 = .ok (.aload_n 0, 1) := by decide +kernel
theorem dX11_late_5 : decode cX11_late 5 = .ok (.getfield 84, 3) := by decide +kernel
theorem dX11_late_8 : decode cX11_late 8 = .ok (.aaload, 1) := by decide +kernel
theorem dX11_late_9 : decode cX11_late 9 = .ok (.astore_n 3, 1) := by decide +kernel
theorem dX11_late_10 : decode cX11_late 10 = .ok (.iload_n 2, 1) := by decide +kernel
theorem dX11_late_11 : decode cX11_late 11 = .ok (.ifCond .lt 25, 3) := by decide +kernel
theorem dX11_late_14 : decode cX11_late 14 = .ok (.iload_n 2, 1) := by decide +kernel
theorem dX11_late_15 : decode cX11_late 15 = .ok (.bipush 16, 2) := by decide +kernel
theorem dX11_late_17 : decode cX11_late 17 = .ok (.if_icmp .gt 19, 3) := by decide +kernel
theorem dX11_late_20 : decode cX11_late 20 = .ok (.aload_n 3, 1) := by decide +kernel
theorem dX11_late_21 : decode cX11_late 21 = .ok (.iload_n 1, 1) := by decide +kernel
theorem dX11_late_22 : decode cX11_late 22 = .ok (.invokevirtual 132, 3) := by decide +kernel
theorem dX11_late_25 : decode cX11_late 25 = .ok (.ifCond .eq 11, 3) := by decide +kernel
theorem dX11_late_36 : decode cX11_late 36 = .ok (.iconst (-1), 1) := by decide +kernel
theorem dX11_late_37 : decode cX11_late 37 = .ok (.ireturn, 1) := by decide +kernel
theorem dX11_last_0 : decode cX11_last 0 = .ok (.aload_n 0, 1) := by decide +kernel
theorem dX11_last_1 : decode cX11_last 1 = .ok (.getfield 32, 3) := by decide +kernel
theorem dX11_last_4 : decode cX11_last 4 = .ok (.aload_n 0, 1) := by decide +kernel
theorem dX11_last_5 : decode cX11_last 5 = .ok (.getfield 84, 3) := by decide +kernel
theorem dX11_last_8 : decode cX11_last 8 = .ok (.aaload, 1) := by decide +kernel
theorem dX11_last_9 : decode cX11_last 9 = .ok (.astore_n 3, 1) := by decide +kernel
theorem dX11_last_10 : decode cX11_last 10 = .ok (.iload_n 2, 1) := by decide +kernel
theorem dX11_last_11 : decode cX11_last 11 = .ok (.invokestatic 193, 3) := by decide +kernel
theorem dX11_last_14 : decode cX11_last 14 = .ok (.ifCond .eq 19, 3) := by decide +kernel
theorem dX11_last_17 : decode cX11_last 17 = .ok (.aload_n 3, 1) := by decide +kernel
theorem dX11_last_18 : decode cX11_last 18 = .ok (.iload_n 1, 1) := by decide +kernel
theorem dX11_last_19 : decode cX11_last 19 = .ok (.invokevirtual 132, 3) := by decide +kernel
theorem dX11_last_22 : decode cX11_last 22 = .ok (.ifCond .eq 11, 3) := by decide +kernel
theorem dX11_last_33 : decode cX11_last 33 = .ok (.iconst (-1), 1) := by decide +kernel
theorem dX11_last_34 : decode cX11_last 34 = .ok (.ireturn, 1) := by decide +kernel
theorem dX11_shun_0 : decode cX11_shun 0 = .ok (.aload_n 0, 1) := by decide +kernel
theorem dX11_shun_1 : decode cX11_shun 1 = .ok (.getfield 32, 3) := by decide +kernel
theorem dX11_shun_4 : decode cX11_shun 4 = .ok (.aload_n 0, 1) := by decide +kernel
theorem dX11_shun_5 : decode cX11_shun 5 = .ok (.getfield 84, 3) := by decide +kernel
theorem dX11_shun_8 : decode cX11_shun 8 = .ok (.aaload, 1) := by decide +kernel
theorem dX11_shun_9 : decode cX11_shun 9 = .ok (.astore_n 2, 1) := by decide +kernel
theorem dX11_shun_10 : decode cX11_shun 10 = .ok (.aload_n 0, 1) := by decide +kernel
theorem dX11_shun_11 : decode cX11_shun 11 = .ok (.getfield 23, 3) := by decide +kernel
theorem dX11_shun_14 : decode cX11_shun 14 = .ok (.getfield 97, 3) := by decide +kernel
theorem dX11_shun_17 : decode cX11_shun 17 = .ok (.iload_n 1, 1) := by decide +kernel
theorem dX11_shun_18 : decode cX11_shun 18 = .ok (.invokevirtual 112, 3) := by decide +kernel
theorem dX11_shun_21 : decode cX11_shun 21 = .ok (.ifCond .eq 20, 3) := by decide +kernel
theorem dX11_shun_41 : decode cX11_shun 41 = .ok (.iconst (-1), 1) := by decide +kernel
theorem dX11_shun_42 : decode cX11_shun 42 = .ok (.ireturn, 1) := by decide +kernel
theorem dX11_clash_0 : decode cX11_clash 0 = .ok (.aload_n 0, 1) := by decide +kernel
theorem dX11_clash_1 : decode cX11_clash 1 = .ok (.getfield 23, 3) := by decide +kernel
theorem dX11_clash_4 : decode cX11_clash 4 = .ok (.getfield 97, 3) := by decide +kernel
theorem dX11_clash_7 : decode cX11_clash 7 = .ok (.iload_n 1, 1) := by decide +kernel
theorem dX11_clash_8 : decode cX11_clash 8 = .ok (.invokevirtual 112, 3) := by decide +kernel
theorem dX11_clash_11 : decode cX11_clash 11 = .ok (.ifCond .ne 5, 3) := by decide +kernel
theorem dX11_clash_14 : decode cX11_clash 14 = .ok (.iconst (-1), 1) := by decide +kernel
theorem dX11_clash_15 : decode cX11_clash 15 = .ok (.ireturn, 1) := by decide +kernel
theorem dX11_lies_0 : decode cX11_lies 0 = .ok (.iload_n 1, 1) := by decide +kernel
theorem dX11_lies_1 : decode cX11_lies 1 = .ok (.ifCond .lt 26, 3) := by decide +kernel
theorem dX11_lies_4 : decode cX11_lies 4 = .ok (.iload_n 1, 1) := by decide +kernel
theorem dX11_lies_5 : decode cX11_lies 5 = .ok (.aload_n 0, 1) := by decide +kernel
theorem dX11_lies_6 : decode cX11_lies 6 = .ok (.getfield 63, 3) := by decide +kernel
theorem dX11_lies_9 : decode cX11_lies 9 = .ok (.getfield 307, 3) := by decide +kernel
theorem dX11_lies_12 : decode cX11_lies 12 = .ok (.if_icmp .ge 15, 3) := by decide +kernel
theorem dX11_lies_27 : decode cX11_lies 27 = .ok (.iconst (-1), 1) := by decide +kernel
theorem dX11_lies_28 : decode cX11_lies 28 = .ok (.ireturn, 1) := by decide +kernel
theorem dX11_log_0 : decode cX11_log 0 = .ok (.aload_n 0, 1) := by decide +kernel
theorem dX11_log_1 : decode cX11_log 1 = .ok (.getfield 32, 3) := by decide +kernel
theorem dX11_log_4 : decode cX11_log 4 = .ok (.aload_n 0, 1) := by decide +kernel
theorem dX11_log_5 : decode cX11_log 5 = .ok (.getfield 84, 3) := by decide +kernel
theorem dX11_log_8 : decode cX11_log 8 = .ok (.aaload, 1) := by decide +kernel
theorem dX11_log_9 : decode cX11_log 9 = .ok (.astore_n 3, 1) := by decide +kernel
theorem dX11_log_10 : decode cX11_log 10 = .ok (.iload_n 1, 1) := by decide +kernel
theorem dX11_log_11 : decode cX11_log 11 = .ok (.ifCond .lt 20, 3) := by decide +kernel
theorem dX11_log_14 : decode cX11_log 14 = .ok (.iload_n 1, 1) := by decide +kernel
theorem dX11_log_15 : decode cX11_log 15 = .ok (.aload_n 3, 1) := by decide +kernel
theorem dX11_log_16 : decode cX11_log 16 = .ok (.getfield 311, 3) := by decide +kernel
theorem dX11_log_19 : decode cX11_log 19 = .ok (.if_icmp .ge 12, 3) := by decide +kernel
theorem dX11_log_31 : decode cX11_log 31 = .ok (.iconst (-1), 1) := by decide +kernel
theorem dX11_log_32 : decode cX11_log 32 = .ok (.ireturn, 1) := by decide +kernel
theorem dX11_began_0 : decode cX11_began 0 = .ok (.aload_n 0, 1) := by decide +kernel
theorem dX11_began_1 : decode cX11_began 1 = .ok (.getfield 32, 3) := by decide +kernel
theorem dX11_began_4 : decode cX11_began 4 = .ok (.aload_n 0, 1) := by decide +kernel
theorem dX11_began_5 : decode cX11_began 5 = .ok (.getfield 84, 3) := by decide +kernel
theorem dX11_began_8 : decode cX11_began 8 = .ok (.aaload, 1) := by decide +kernel
theorem dX11_began_9 : decode cX11_began 9 = .ok (.astore_n 2, 1) := by decide +kernel
theorem dX11_began_10 : decode cX11_began 10 = .ok (.aload_n 2, 1) := by decide +kernel
theorem dX11_began_11 : decode cX11_began 11 = .ok (.iload_n 1, 1) := by decide +kernel
theorem dX11_began_12 : decode cX11_began 12 = .ok (.invokevirtual 132, 3) := by decide +kernel
theorem dX11_began_15 : decode cX11_began 15 = .ok (.ifCond .ne 6, 3) := by decide +kernel
theorem dX11_began_18 : decode cX11_began 18 = .ok (.bipush (-2), 2) := by decide +kernel
theorem dX11_began_20 : decode cX11_began 20 = .ok (.ireturn, 1) := by decide +kernel
theorem dX11_sight_0 : decode cX11_sight 0 = .ok (.aload_n 0, 1) := by decide +kernel
theorem dX11_sight_1 : decode cX11_sight 1 = .ok (.getfield 23, 3) := by decide +kernel
theorem dX11_sight_4 : decode cX11_sight 4 = .ok (.getfield 157, 3) := by decide +kernel
theorem dX11_sight_7 : decode cX11_sight 7 = .ok (.iload_n 1, 1) := by decide +kernel
theorem dX11_sight_8 : decode cX11_sight 8 = .ok (.invokevirtual 161, 3) := by decide +kernel
theorem dX11_sight_11 : decode cX11_sight 11 = .ok (.ifCond .eq 14, 3) := by decide +kernel
theorem dX11_sight_25 : decode cX11_sight 25 = .ok (.iconst (-1), 1) := by decide +kernel
theorem dX11_sight_26 : decode cX11_sight 26 = .ok (.ireturn, 1) := by decide +kernel
theorem dX11_untell_0 : decode cX11_untell 0 = .ok (.aload_n 0, 1) := by decide +kernel
theorem dX11_untell_1 : decode cX11_untell 1 = .ok (.getfield 49, 3) := by decide +kernel
theorem dX11_untell_4 : decode cX11_untell 4 = .ok (.iload_n 1, 1) := by decide +kernel
theorem dX11_untell_5 : decode cX11_untell 5 = .ok (.invokevirtual 320, 3) := by decide +kernel
theorem dX11_untell_8 : decode cX11_untell 8 = .ok (.ireturn, 1) := by decide +kernel
theorem dX11_back_0 : decode cX11_back 0 = .ok (.iload_n 1, 1) := by decide +kernel
theorem dX11_back_1 : decode cX11_back 1 = .ok (.ifCond .lt 19, 3) := by decide +kernel
theorem dX11_back_4 : decode cX11_back 4 = .ok (.iload_n 1, 1) := by decide +kernel
theorem dX11_back_5 : decode cX11_back 5 = .ok (.iconst 3, 1) := by decide +kernel
theorem dX11_back_6 : decode cX11_back 6 = .ok (.if_icmp .ge 14, 3) := by decide +kernel
theorem dX11_back_9 : decode cX11_back 9 = .ok (.aload_n 0, 1) := by decide +kernel
theorem dX11_back_10 : decode cX11_back 10 = .ok (.getfield 94, 3) := by decide +kernel
theorem dX11_back_13 : decode cX11_back 13 = .ok (.iload_n 1, 1) := by decide +kernel
theorem dX11_back_14 : decode cX11_back 14 = .ok (.ishr, 1) := by decide +kernel
theorem dX11_back_15 : decode cX11_back 15 = .ok (.iconst 1, 1) := by decide +kernel
theorem dX11_back_16 : decode cX11_back 16 = .ok (.iand, 1) := by decide +kernel
theorem dX11_back_17 : decode cX11_back 17 = .ok (.ifCond .ne 5, 3) := by decide +kernel
theorem dX11_back_20 : decode cX11_back 20 = .ok (.iconst (-1), 1) := by decide +kernel
theorem dX11_back_21 : decode cX11_back 21 = .ok (.ireturn, 1) := by decide +kernel
theorem dX11_life_0 : decode cX11_life 0 = .ok (.aload_n 0, 1) := by decide +kernel
theorem dX11_life_1 : decode cX11_life 1 = .ok (.getfield 63, 3) := by decide +kernel
theorem dX11_life_4 : decode cX11_life 4 = .ok (.invokevirtual 93, 3) := by decide +kernel
theorem dX11_life_7 : decode cX11_life 7 = .ok (.aload_n 0, 1) := by decide +kernel
theorem dX11_life_8 : decode cX11_life 8 = .ok (.getfield 32, 3) := by decide +kernel
theorem dX11_life_11 : decode cX11_life 11 = .ok (.aload_n 0, 1) := by decide +kernel
theorem dX11_life_12 : decode cX11_life 12 = .ok (.getfield 84, 3) := by decide +kernel
theorem dX11_life_15 : decode cX11_life 15 = .ok (.aaload, 1) := by decide +kernel
theorem dX11_life_16 : decode cX11_life 16 = .ok (.astore_n 2, 1) := by decide +kernel
theorem dX11_life_17 : decode cX11_life 17 = .ok (.aload_n 2, 1) := by decide +kernel
theorem dX11_life_18 : decode cX11_life 18 = .ok (.iload_n 1, 1) := by decide +kernel
theorem dX11_life_19 : decode cX11_life 19 = .ok (.invokevirtual 132, 3) := by decide +kernel
theorem dX11_life_22 : decode cX11_life 22 = .ok (.ifCond .eq 11, 3) := by decide +kernel
theorem dX11_life_33 : decode cX11_life 33 = .ok (.iconst (-1), 1) := by decide +kernel
theorem dX11_life_34 : decode cX11_life 34 = .ok (.ireturn, 1) := by decide +kernel
theorem dX11_hire_0 : decode cX11_hire 0 = .ok (.aload_n 0, 1) := by decide +kernel
theorem dX11_hire_1 : decode cX11_hire 1 = .ok (.getfield 63, 3) := by decide +kernel
theorem dX11_hire_4 : decode cX11_hire 4 = .ok (.invokevirtual 93, 3) := by decide +kernel
theorem dX11_hire_7 : decode cX11_hire 7 = .ok (.aload_n 0, 1) := by decide +kernel
theorem dX11_hire_8 : decode cX11_hire 8 = .ok (.getfield 32, 3) := by decide +kernel
theorem dX11_hire_11 : decode cX11_hire 11 = .ok (.aload_n 0, 1) := by decide +kernel
theorem dX11_hire_12 : decode cX11_hire 12 = .ok (.getfield 84, 3) := by decide +kernel
theorem dX11_hire_15 : decode cX11_hire 15 = .ok (.aaload, 1) := by decide +kernel
theorem dX11_hire_16 : decode cX11_hire 16 = .ok (.astore_n 3, 1) := by decide +kernel
theorem dX11_hire_17 : decode cX11_hire 17 = .ok (.iload_n 2, 1) := by decide +kernel
theorem dX11_hire_18 : decode cX11_hire 18 = .ok (.invokestatic 193, 3) := by decide +kernel
theorem dX11_hire_21 : decode cX11_hire 21 = .ok (.ifCond .eq 19, 3) := by decide +kernel
theorem dX11_hire_24 : decode cX11_hire 24 = .ok (.aload_n 3, 1) := by decide +kernel
theorem dX11_hire_25 : decode cX11_hire 25 = .ok (.iload_n 1, 1) := by decide +kernel
theorem dX11_hire_26 : decode cX11_hire 26 = .ok (.invokevirtual 132, 3) := by decide +kernel
theorem dX11_hire_29 : decode cX11_hire 29 = .ok (.ifCond .eq 11, 3) := by decide +kernel
theorem dX11_hire_40 : decode cX11_hire 40 = .ok (.iconst (-1), 1) := by decide +kernel
theorem dX11_hire_41 : decode cX11_hire 41 = .ok (.ireturn, 1) := by decide +kernel
theorem dX11_part_0 : decode cX11_part 0 = .ok (.aload_n 0, 1) := by decide +kernel
theorem dX11_part_1 : decode cX11_part 1 = .ok (.getfield 63, 3) := by decide +kernel
theorem dX11_part_4 : decode cX11_part 4 = .ok (.invokevirtual 93, 3) := by decide +kernel
theorem dX11_part_7 : decode cX11_part 7 = .ok (.aload_n 0, 1) := by decide +kernel
theorem dX11_part_8 : decode cX11_part 8 = .ok (.getfield 23, 3) := by decide +kernel
theorem dX11_part_11 : decode cX11_part 11 = .ok (.getfield 97, 3) := by decide +kernel
theorem dX11_part_14 : decode cX11_part 14 = .ok (.iload_n 1, 1) := by decide +kernel
theorem dX11_part_15 : decode cX11_part 15 = .ok (.invokevirtual 112, 3) := by decide +kernel
theorem dX11_part_18 : decode cX11_part 18 = .ok (.ifCond .ne 5, 3) := by decide +kernel
theorem dX11_part_21 : decode cX11_part 21 = .ok (.iconst (-1), 1) := by decide +kernel
theorem dX11_part_22 : decode cX11_part 22 = .ok (.ireturn, 1) := by decide +kernel
theorem dX11_falses_0 : decode cX11_falses 0 = .ok (.aload_n 0, 1) := by decide +kernel
theorem dX11_falses_1 : decode cX11_falses 1 = .ok (.getfield 63, 3) := by decide +kernel
theorem dX11_falses_4 : decode cX11_falses 4 = .ok (.invokevirtual 93, 3) := by decide +kernel
theorem dX11_falses_7 : decode cX11_falses 7 = .ok (.aload_n 0, 1) := by decide +kernel
theorem dX11_falses_8 : decode cX11_falses 8 = .ok (.getfield 32, 3) := by decide +kernel
theorem dX11_falses_11 : decode cX11_falses 11 = .ok (.aload_n 0, 1) := by decide +kernel
theorem dX11_falses_12 : decode cX11_falses 12 = .ok (.getfield 84, 3) := by decide +kernel
theorem dX11_falses_15 : decode cX11_falses 15 = .ok (.aaload, 1) := by decide +kernel
theorem dX11_falses_16 : decode cX11_falses 16 = .ok (.astore_n 2, 1) := by decide +kernel
theorem dX11_falses_17 : decode cX11_falses 17 = .ok (.iconst 0, 1) := by decide +kernel
theorem dX11_falses_18 : decode cX11_falses 18 = .ok (.istore_n 3, 1) := by decide +kernel
theorem dX11_falses_19 : decode cX11_falses 19 = .ok (.iconst 0, 1) := by decide +kernel
theorem dX11_falses_20 : decode cX11_falses 20 = .ok (.istore 4, 2) := by decide +kernel
theorem dX11_falses_22 : decode cX11_falses 22 = .ok (.iload 4, 2) := by decide +kernel
theorem dX11_falses_24 : decode cX11_falses 24 = .ok (.aload_n 2, 1) := by decide +kernel
theorem dX11_falses_25 : decode cX11_falses 25 = .ok (.getfield 311, 3) := by decide +kernel
theorem dX11_falses_28 : decode cX11_falses 28 = .ok (.if_icmp .ge 52, 3) := by decide +kernel
theorem dX11_falses_80 : decode cX11_falses 80 = .ok (.iload_n 3, 1) := by decide +kernel
theorem dX11_falses_81 : decode cX11_falses 81 = .ok (.ireturn, 1) := by decide +kernel
