theorem dX3_has_0 : decode cX3_has 0 = .ok (.iload_n 1, 1) := by decide +kernel
theorem dX3_has_1 : decode cX3_has 1 = .ok (.ifCond .lt 15, 3) := by decide +kernel
theorem dX3_has_4 : decode cX3_has 4 = .ok (.iload_n 1, 1) := by decide +kernel
theorem dX3_has_5 : decode cX3_has 5 = .ok (.aload_n 0, 1) := by decide +kernel
theorem dX3_has_6 : decode cX3_has 6 = .ok (.getfield 25, 3) := by decide +kernel
theorem dX3_has_9 : decode cX3_has 9 = .ok (.if_icmp .ge 7, 3) := by decide +kernel
theorem dX3_has_16 : decode cX3_has 16 = .ok (.iconst 0, 1) := by decide +kernel
theorem dX3_has_17 : decode cX3_has 17 = .ok (.ireturn, 1) := by decide +kernel
theorem dX6_has_0 : decode cX6_has 0 = .ok (.iload_n 1, 1) := by decide +kernel
theorem dX6_has_1 : decode cX6_has 1 = .ok (.ifCond .lt 15, 3) := by decide +kernel
theorem dX6_has_4 : decode cX6_has 4 = .ok (.iload_n 1, 1) := by decide +kernel
theorem dX6_has_5 : decode cX6_has 5 = .ok (.aload_n 0, 1) := by decide +kernel
theorem dX6_has_6 : decode cX6_has 6 = .ok (.getfield 34, 3) := by decide +kernel
theorem dX6_has_9 : decode cX6_has 9 = .ok (.if_icmp .ge 7, 3) := by decide +kernel
theorem dX6_has_16 : decode cX6_has 16 = .ok (.iconst 0, 1) := by decide +kernel
theorem dX6_has_17 : decode cX6_has 17 = .ok (.ireturn, 1) := by decide +kernel
theorem dX9_hasDuel_0 : decode cX9_hasDuel 0 = .ok (.iload_n 1, 1) := by decide +kernel
theorem dX9_hasDuel_1 : decode cX9_hasDuel 1 = .ok (.ifCond .lt 15, 3) := by decide +kernel
theorem dX9_hasDuel_4 : decode cX9_hasDuel 4 = .ok (.iload_n 1, 1) := by decide +kernel
theorem dX9_hasDuel_5 : decode cX9_hasDuel 5 = .ok (.aload_n 0, 1) := by decide +kernel
theorem dX9_hasDuel_6 : decode cX9_hasDuel 6 = .ok (.getfield 63, 3) := by decide +kernel
theorem dX9_hasDuel_9 : decode cX9_hasDuel 9 = .ok (.if_icmp .ge 7, 3) := by decide +kernel
theorem dX9_hasDuel_16 : decode cX9_hasDuel 16 = .ok (.iconst 0, 1) := by decide +kernel
theorem dX9_hasDuel_17 : decode cX9_hasDuel 17 = .ok (.ireturn, 1) := by decide +kernel
theorem dX9_firstOpen_0 : decode cX9_firstOpen 0 = .ok (.iconst (-1), 1) := by decide +kernel
theorem dX9_firstOpen_1 : decode cX9_firstOpen 1 = .ok (.istore_n 1, 1) := by decide +kernel
theorem dX9_firstOpen_2 : decode cX9_firstOpen 2 = .ok (.iconst 0, 1) := by decide +kernel
theorem dX9_firstOpen_3 : decode cX9_firstOpen 3 = .ok (.istore_n 2, 1) := by decide +kernel
theorem dX9_firstOpen_4 : decode cX9_firstOpen 4 = .ok (.iload_n 2, 1) := by decide +kernel
theorem dX9_firstOpen_5 : decode cX9_firstOpen 5 = .ok (.aload_n 0, 1) := by decide +kernel
theorem dX9_firstOpen_6 : decode cX9_firstOpen 6 = .ok (.getfield 63, 3) := by decide +kernel
theorem dX9_firstOpen_9 : decode cX9_firstOpen 9 = .ok (.if_icmp .ge 39, 3) := by decide +kernel
theorem dX9_firstOpen_48 : decode cX9_firstOpen 48 = .ok (.iload_n 1, 1) := by decide +kernel
theorem dX9_firstOpen_49 : decode cX9_firstOpen 49 = .ok (.ireturn, 1) := by decide +kernel
theorem dX8_takeBack_0 : decode cX8_takeBack 0 = .ok (.iload_n 1, 1) := by decide +kernel
theorem dX8_takeBack_1 : decode cX8_takeBack 1 = .ok (.ifCond .lt 21, 3) := by decide +kernel
theorem dX8_takeBack_4 : decode cX8_takeBack 4 = .ok (.iload_n 1, 1) := by decide +kernel
theorem dX8_takeBack_5 : decode cX8_takeBack 5 = .ok (.aload_n 0, 1) := by decide +kernel
theorem dX8_takeBack_6 : decode cX8_takeBack 6 = .ok (.getfield 24, 3) := by decide +kernel
theorem dX8_takeBack_9 : decode cX8_takeBack 9 = .ok (.if_icmp .ge 13, 3) := by decide +kernel
theorem dX8_takeBack_22 : decode cX8_takeBack 22 = .ok (.iconst 0, 1) := by decide +kernel
theorem dX8_takeBack_23 : decode cX8_takeBack 23 = .ok (.ireturn, 1) := by decide +kernel
theorem dX1_clear_0 : decode cX1_clear 0 = .ok (.aload_n 0, 1) := by decide +kernel
theorem dX1_clear_1 : decode cX1_clear 1 = .ok (.iconst 0, 1) := by decide +kernel
theorem dX1_clear_2 : decode cX1_clear 2 = .ok (.putfield 15, 3) := by decide +kernel
theorem dX1_clear_5 : decode cX1_clear 5 = .ok (.return_, 1) := by decide +kernel
theorem dX8_clear_0 : decode cX8_clear 0 = .ok (.aload_n 0, 1) := by decide +kernel
theorem dX8_clear_1 : decode cX8_clear 1 = .ok (.iconst 0, 1) := by decide +kernel
theorem dX8_clear_2 : decode cX8_clear 2 = .ok (.putfield 24, 3) := by decide +kernel
theorem dX8_clear_5 : decode cX8_clear 5 = .ok (.return_, 1) := by decide +kernel
theorem dX11_isSide_0 : decode cX11_isSide 0 = .ok (.iload_n 0, 1) := by decide +kernel
theorem dX11_isSide_1 : decode cX11_isSide 1 = .ok (.ifCond .eq 8, 3) := by decide +kernel
theorem dX11_isSide_4 : decode cX11_isSide 4 = .ok (.iload_n 0, 1) := by decide +kernel
theorem dX11_isSide_5 : decode cX11_isSide 5 = .ok (.iconst 1, 1) := by decide +kernel
theorem dX11_isSide_6 : decode cX11_isSide 6 = .ok (.if_icmp .ne 7, 3) := by decide +kernel
theorem dX11_isSide_9 : decode cX11_isSide 9 = .ok (.iconst 1, 1) := by decide +kernel
theorem dX11_isSide_10 : decode cX11_isSide 10 = .ok (.goto 4, 3) := by decide +kernel
theorem dX11_isSide_13 : decode cX11_isSide 13 = .ok (.iconst 0, 1) := by decide +kernel
theorem dX11_isSide_14 : decode cX11_isSide 14 = .ok (.ireturn, 1) := by decide +kernel
theorem dX11_man_0 : decode cX11_man 0 = .ok (.aload_n 0, 1) := by decide +kernel
theorem dX11_man_1 : decode cX11_man 1 = .ok (.getfield 23, 3) := by decide +kernel
theorem dX11_man_4 : decode cX11_man 4 = .ok (.getfield 97, 3) := by decide +kernel
theorem dX11_man_7 : decode cX11_man 7 = .ok (.iload_n 1, 1) := by decide +kernel
theorem dX11_man_8 : decode cX11_man 8 = .ok (.invokevirtual 112, 3) := by decide +kernel
theorem dX11_man_11 : decode cX11_man 11 = .ok (.ifCond .ne 6, 3) := by decide +kernel
theorem dX11_man_14 : decode cX11_man 14 = .ok (.bipush (-2), 2) := by decide +kernel
theorem dX11_man_16 : decode cX11_man 16 = .ok (.ireturn, 1) := by decide +kernel
theorem dX11_duel_0 : decode cX11_duel 0 = .ok (.aload_n 0, 1) := by decide +kernel
theorem dX11_duel_1 : decode cX11_duel 1 = .ok (.getfield 32, 3) := by decide +kernel
theorem dX11_duel_4 : decode cX11_duel 4 = .ok (.aload_n 0, 1) := by decide +kernel
theorem dX11_duel_5 : decode cX11_duel 5 = .ok (.getfield 84, 3) := by decide +kernel
theorem dX11_duel_8 : decode cX11_duel 8 = .ok (.aaload, 1) := by decide +kernel
theorem dX11_duel_9 : decode cX11_duel 9 = .ok (.astore_n 3, 1) := by decide +kernel
theorem dX11_duel_10 : decode cX11_duel 10 = .ok (.aload_n 3, 1) := by decide +kernel
theorem dX11_duel_11 : decode cX11_duel 11 = .ok (.iload_n 1, 1) := by decide +kernel
theorem dX11_duel_12 : decode cX11_duel 12 = .ok (.invokevirtual 132, 3) := by decide +kernel
theorem dX11_duel_15 : decode cX11_duel 15 = .ok (.ifCond .ne 6, 3) := by decide +kernel
theorem dX11_duel_18 : decode cX11_duel 18 = .ok (.bipush (-2), 2) := by decide +kernel
theorem dX11_duel_20 : decode cX11_duel 20 = .ok (.ireturn, 1) := by decide +kernel
theorem dX11_reason_0 : decode cX11_reason 0 = .ok (.aload_n 0, 1) := by decide +kernel
theorem dX11_reason_1 : decode cX11_reason 1 = .ok (.getfield 23, 3) := by decide +kernel
theorem dX11_reason_4 : decode cX11_reason 4 = .ok (.getfield 157, 3) := by decide +kernel
theorem dX11_reason_7 : decode cX11_reason 7 = .ok (.astore_n 3, 1) := by decide +kernel
theorem dX11_reason_8 : decode cX11_reason 8 = .ok (.aload_n 3, 1) := by decide +kernel
theorem dX11_reason_9 : decode cX11_reason 9 = .ok (.iload_n 1, 1) := by decide +kernel
theorem dX11_reason_10 : decode cX11_reason 10 = .ok (.invokevirtual 161, 3) := by decide +kernel
theorem dX11_reason_13 : decode cX11_reason 13 = .ok (.ifCond .ne 6, 3) := by decide +kernel
theorem dX11_reason_16 : decode cX11_reason 16 = .ok (.bipush (-2), 2) := by decide +kernel
theorem dX11_reason_18 : decode cX11_reason 18 = .ok (.ireturn, 1) := by decide +kernel
theorem dX11_worth_0 : decode cX11_worth 0 = .ok (.aload_n 0, 1) := by decide +kernel
theorem dX11_worth_1 : decode cX11_worth 1 = .ok (.getfield 32, 3) := by decide +kernel
theorem dX11_worth_4 : decode cX11_worth 4 = .ok (.aload_n 0, 1) := by decide +kernel
theorem dX11_worth_5 : decode cX11_worth 5 = .ok (.getfield 84, 3) := by decide +kernel
theorem dX11_worth_8 : decode cX11_worth 8 = .ok (.aaload, 1) := by decide +kernel
theorem dX11_worth_9 : decode cX11_worth 9 = .ok (.astore 4, 2) := by decide +kernel
theorem dX11_worth_11 : decode cX11_worth 11 = .ok (.aload 4, 2) := by decide +kernel
theorem dX11_worth_13 : decode cX11_worth 13 = .ok (.iload_n 1, 1) := by decide +kernel
theorem dX11_worth_14 : decode cX11_worth 14 = .ok (.invokevirtual 132, 3) := by decide +kernel
theorem dX11_worth_17 : decode cX11_worth 17 = .ok (.ifCond .eq 28, 3) := by decide +kernel
theorem dX11_worth_45 : decode cX11_worth 45 = .ok (.iconst (-1), 1) := by decide +kernel
theorem dX11_worth_46 : decode cX11_worth 46 = .ok (.ireturn, 1) := by decide +kernel
theorem dX11_may_0 : decode cX11_may 0 = .ok (.aload_n 0, 1) := by decide +kernel
theorem dX11_may_1 : decode cX11_may 1 = .ok (.getfield 32, 3) := by decide +kernel
theorem dX11_may_4 : decode cX11_may 4 = .ok (.aload_n 0, 1) := by decide +kernel
theorem dX11_may_5 : decode cX11_may 5 = .ok (.getfield 84, 3) := by decide +kernel
theorem dX11_may_8 : decode cX11_may 8 = .ok (.aaload, 1) := by decide +kernel
theorem dX11_may_9 : decode cX11_may 9 = .ok (.astore_n 3, 1) := by decide +kernel
theorem dX11_may_10 : decode cX11_may 10 = .ok (.aload_n 3, 1) := by decide +kernel
theorem dX11_may_11 : decode cX11_may 11 = .ok (.iload_n 1, 1) := by decide +kernel
theorem dX11_may_12 : decode cX11_may 12 = .ok (.invokevirtual 132, 3) := by decide +kernel
theorem dX11_may_15 : decode cX11_may 15 = .ok (.ifCond .eq 10, 3) := by decide +kernel
theorem dX11_may_25 : decode cX11_may 25 = .ok (.iconst (-1), 1) := by decide +kernel
theorem dX11_may_26 : decode cX11_may 26 = .ok (.ireturn, 1) := by decide +kernel
theorem dX11_next_0 : decode cX11_next 0 = .ok (.aload_n 0, 1) := by decide +kernel
theorem dX11_next_1 : decode cX11_next 1 = .ok (.getfield 32, 3) := by decide +kernel
theorem dX11_next_4 : decode cX11_next 4 = .ok (.aload_n 0, 1) := by decide +kernel
theorem dX11_next_5 : decode cX11_next 5 = .ok (.getfield 84, 3) := by decide +kernel
theorem dX11_next_8 : decode cX11_next 8 = .ok (.aaload, 1) := by decide +kernel
theorem dX11_next_9 : decode cX11_next 9 = .ok (.astore_n 2, 1) := by decide +kernel
theorem dX11_next_10 : decode cX11_next 10 = .ok (.aload_n 2, 1) := by decide +kernel
theorem dX11_next_11 : decode cX11_next 11 = .ok (.invokevirtual 200, 3) := by decide +kernel
theorem dX11_next_14 : decode cX11_next 14 = .ok (.istore_n 3, 1) := by decide +kernel
theorem dX11_next_15 : decode cX11_next 15 = .ok (.iload_n 3, 1) := by decide +kernel
theorem dX11_next_16 : decode cX11_next 16 = .ok (.iconst (-1), 1) := by decide +kernel
theorem dX11_next_17 : decode cX11_next 17 = .ok (.if_icmp .ne 5, 3) := by decide +kernel
theorem dX11_next_20 : decode cX11_next 20 = .ok (.iconst (-1), 1) := by decide +kernel
theorem dX11_next_21 : decode cX11_next 21 = .ok (.ireturn, 1) := by decide +kernel
theorem dX11_heir_0 : decode cX11_heir 0 = .ok (.aload_n 0, 1) := by decide +kernel
theorem dX11_heir_1 : decode cX11_heir 1 = .ok (.getfield 23, 3) := by decide +kernel
theorem dX11_heir_4 : decode cX11_heir 4 = .ok (.getfield 97, 3) := by decide +kernel
theorem dX11_heir_7 : decode cX11_heir 7 = .ok (.iload_n 1, 1) := by decide +kernel
theorem dX11_heir_8 : decode cX11_heir 8 = .ok (.invokevirtual 112, 3) := by decide +kernel
theorem dX11_heir_11 : decode cX11_heir 11 = .ok (.ifCond .eq 23, 3) := by decide +kernel
theorem dX11_heir_34 : decode cX11_heir 34 = .ok (.iconst (-1), 1) := by decide +kernel
theorem dX11_heir_35 : decode cX11_heir 35 = .ok (.ireturn, 1) := by decide +kernel
theorem dX11_his_0 : decode cX11_his 0 = .ok (.aload_n 0, 1) := by decide +kernel
theorem dX11_his_1 : decode cX11_his 1 = .ok (.getfield 23, 3) := by decide +kernel
theorem dX11_his_4 : decode cX11_his 4 = .ok (.getfield 97, 3) := by decide +kernel
theorem dX11_his_7 : decode cX11_his 7 = .ok (.iload_n 1, 1) := by decide +kernel
theorem dX11_his_8 : decode cX11_his 8 = .ok (.invokevirtual 112, 3) := by decide +kernel
theorem dX11_his_11 : decode cX11_his 11 = .ok (.ifCond .ne 5, 3) := by decide +kernel
theorem dX11_his_14 : decode cX11_his 14 = .ok (.iconst (-1), 1) := by decide +kernel
theorem dX11_his_15 : decode cX11_his 15 = .ok (.ireturn, 1) := by decide +kernel
theorem dX11_comes_0 : decode cX11_comes 0 = .ok (.aload_n 0, 1) := by decide +kernel
theorem dX11_comes_1 : decode cX11_comes 1 = .ok (.getfield 23, 3) := by decide +kernel
theorem dX11_comes_4 : decode cX11_comes 4 = .ok (.getfield 97, 3) := by decide +kernel
theorem dX11_comes_7 : decode cX11_comes 7 = .ok (.astore_n 3, 1) := by decide +kernel
theorem dX11_comes_8 : decode cX11_comes 8 = .ok (.aload_n 3, 1) := by decide +kernel
theorem dX11_comes_9 : decode cX11_comes 9 = .ok (.iload_n 1, 1) := by decide +kernel
theorem dX11_comes_10 : decode cX11_comes 10 = .ok (.invokevirtual 112, 3) := by decide +kernel
theorem dX11_comes_13 : decode cX11_comes 13 = .ok (.ifCond .eq 11, 3) := by decide +kernel
theorem dX11_comes_24 : decode cX11_comes 24 = .ok (.iconst (-1), 1) := by decide +kernel
theorem dX11_comes_25 : decode cX11_comes 25 = .ok (.ireturn, 1) := by decide +kernel
theorem dX11_put_0 : decode cX11_put 0 = .ok (.aload_n 0, 1) := by decide +kernel
theorem dX11_put_1 : decode cX11_put 1 = .ok (.getfield 32, 3) := by decide +kernel
theorem dX11_put_4 : decode cX11_put 4 = .ok (.aload_n 0, 1) := by decide +kernel
theorem dX11_put_5 : decode cX11_put 5 = .ok (.getfield 84, 3) := by decide +kernel
theorem dX11_put_8 : decode cX11_put 8 = .ok (.aaload, 1) := by decide +kernel
theorem dX11_put_9 : decode cX11_put 9 = .ok (.astore 4, 2) := by decide +kernel
theorem dX11_put_11 : decode cX11_put 11 = .ok (.aload 4, 2) := by decide +kernel
theorem dX11_put_13 : decode cX11_put 13 = .ok (.iload_n 1, 1) := by decide +kernel
theorem dX11_put_14 : decode cX11_put 14 = .ok (.invokevirtual 132, 3) := by decide +kernel
theorem dX11_put_17 : decode cX11_put 17 = .ok (.ifCond .eq 24, 3) := by decide +kernel
theorem dX11_put_41 : decode cX11_put 41 = .ok (.iconst (-1), 1) := by decide +kernel
theorem dX11_put_42 : decode cX11_put 42 = .ok (.ireturn, 1) := by decide +kernel
theorem dX11_rent_0 : decode cX11_rent 0 = .ok (.aload_n 0, 1) := by decide +kernel
theorem dX11_rent_1 : decode cX11_rent 1 = .ok (.getfield 32, 3) := by decide +kernel
theorem dX11_rent_4 : decode cX11_rent 4 = .ok (.aload_n 0, 1) := by decide +kernel
theorem dX11_rent_5 : decode cX11_rent 5 = .ok (.getfield 84, 3) := by decide +kernel
theorem dX11_rent_8 : decode cX11_rent 8 = .ok (.aaload, 1) := by decide +kernel
theorem dX11_rent_9 : decode cX11_rent 9 = .ok (.astore_n 3, 1) := by decide +kernel
theorem dX11_rent_10 : decode cX11_rent 10 = .ok (.aload_n 0, 1) := by decide +kernel
theorem dX11_rent_11 : decode cX11_rent 11 = .ok (.getfield 23, 3) := by decide +kernel
theorem dX11_rent_14 : decode cX11_rent 14 = .ok (.getfield 97, 3) := by decide +kernel
theorem dX11_rent_17 : decode cX11_rent 17 = .ok (.iload_n 1, 1) := by decide +kernel
theorem dX11_rent_18 : decode cX11_rent 18 = .ok (.invokevirtual 112, 3) := by decide +kernel
theorem dX11_rent_21 : decode cX11_rent 21 = .ok (.ifCond .eq 25, 3) := by decide +kernel
theorem dX11_rent_46 : decode cX11_rent 46 = .ok (.iconst (-1), 1) := by decide +kernel
theorem dX11_rent_47 : decode cX11_rent 47 = .ok (.ireturn, 1) := by decide +kernel
theorem dX11_strike_0 : decode cX11_strike 0 = .ok (.aload_n 0, 1) := by decide +kernel
theorem dX11_strike_1 : decode cX11_strike 1 = .ok (.getfield 23, 3) := by decide +kernel
theorem dX11_strike_4 : decode cX11_strike 4 = .ok (.getfield 157, 3) := by decide +kernel
theorem dX11_strike_7 : decode cX11_strike 7 = .ok (.iload_n 1, 1) := by decide +kernel
theorem dX11_strike_8 : decode cX11_strike 8 = .ok (.invokevirtual 161, 3) := by decide +kernel
theorem dX11_strike_11 : decode cX11_strike 11 = .ok (.ifCond .eq 19, 3) := by decide +kernel
theorem dX11_strike_30 : decode cX11_strike 30 = .ok (.iconst 0, 1) := by decide +kernel
theorem dX11_strike_31 : decode cX11_strike 31 = .ok (.ireturn, 1) := by decide +kernel
theorem dX11_insult_0 : decode cX11_insult 0 = .ok (.aload_n 0, 1) := by decide +kernel
theorem dX11_insult_1 : decode cX11_insult 1 = .ok (.getfield 32, 3) := by decide +kernel
theorem dX11_insult_4 : decode cX11_insult 4 = .ok (.aload_n 0, 1) := by decide +kernel
theorem dX11_insult_5 : decode cX11_insult 5 = .ok (.getfield 84, 3) := by decide +kernel
theorem dX11_insult_8 : decode cX11_insult 8 = .ok (.aaload, 1) := by decide +kernel
theorem dX11_insult_9 : decode cX11_insult 9 = .ok (.astore_n 3, 1) := by decide +kernel
theorem dX11_insult_10 : decode cX11_insult 10 = .ok (.aload_n 0, 1) := by decide +kernel
theorem dX11_insult_11 : decode cX11_insult 11 = .ok (.getfield 23, 3) := by decide +kernel
theorem dX11_insult_14 : decode cX11_insult 14 = .ok (.getfield 97, 3) := by decide +kernel
theorem dX11_insult_17 : decode cX11_insult 17 = .ok (.iload_n 1, 1) := by decide +kernel
theorem dX11_insult_18 : decode cX11_insult 18 = .ok (.invokevirtual 112, 3) := by decide +kernel
theorem dX11_insult_21 : decode cX11_insult 21 = .ok (.ifCond .eq 31, 3) := by decide +kernel
theorem dX11_insult_52 : decode cX11_insult 52 = .ok (.iconst (-1), 1) := by decide +kernel
theorem dX11_insult_53 : decode cX11_insult 53 = .ok (.ireturn, 1) := by decide +kernel
theorem dX11_undo_0 : decode cX11_undo 0 = .ok (.aload_n 0, 1) := by decide +kernel
theorem dX11_undo_1 : decode cX11_undo 1 = .ok (.getfield 84, 3) := by decide +kernel
theorem dX11_undo_4 : decode cX11_undo 4 = .ok (.ifCond .ne 5, 3) := by decide +kernel
theorem dX11_undo_7 : decode cX11_undo 7 = .ok (.iconst 0, 1) := by decide +kernel
theorem dX11_undo_8 : decode cX11_undo 8 = .ok (.ireturn, 1) := by decide +kernel
theorem dX11_redo_0 : decode cX11_redo 0 = .ok (.aload_n 0, 1) := by decide +kernel
theorem dX11_redo_1 : decode cX11_redo 1 = .ok (.getfield 84, 3) := by decide +kernel
theorem dX11_redo_4 : decode cX11_redo 4 = .ok (.aload_n 0, 1) := by decide +kernel
theorem dX11_redo_5 : decode cX11_redo 5 = .ok (.getfield 87, 3) := by decide +kernel
theorem dX11_redo_8 : decode cX11_redo 8 = .ok (.if_icmp .lt 5, 3) := by decide +kernel
theorem dX11_redo_11 : decode cX11_redo 11 = .ok (.iconst 0, 1) := by decide +kernel
theorem dX11_redo_12 : decode cX11_redo 12 = .ok (.ireturn, 1) := by decide +kernel
theorem dX11_late_0 : decode cX11_late 0 = .ok (.aload_n 0, 1) := by decide +kernel
theorem dX11_late_1 : decode cX11_late 1 = .ok (.getfield 32, 3) := by decide +kernel
theorem dX11_late_4 : decode cX11_late 4 = .ok (.aload_n 0, 1) := by decide +kernel
theorem dX11_late_5 : decode cX11_late 5 = .ok (.getfield 84, 3) := by decide +kernel
theorem dX11_late_8 : decode cX11_late 8 = .ok (.aaload, 1) := by decide +kernel
theorem dX11_late_9 : decode cX11_late 9 = .ok (.astore_n 3, 1) := by decide +kernel
theorem dX11_late_10 : decode cX11_late 10 = .ok (.iload_n 2, 1) := by decide +kernel
theorem dX11_late_11 : decode cX11_late 11 = .ok (.ifCond .lt 25, 3) := by decide +kernel
theorem dX11_late_14 : decode cX11_late 14 = .ok (.iload_n 2, 1) := by decide +kernel
theorem dX11_late_15 : decode cX11_late 15 = .ok (.bipush 16, 2) := by decide +kernel
theorem dX11_late_17 : decode cX11_late 17 = .ok (.if_icmp .gt 19, 3) := by decide +kernel
theorem dX11_late_20 : decode cX11_late 20 = .ok (.aload_n 3, 1) := by decide +kernel
theorem dX11_late_21 : decode cX11_late 21 = .ok (.iload_n 1, 1) := by decide +kernel
theorem dX11_late_22 : decode cX11_late 22 = .ok (.invokevirtual 132, 3) := by decide +kernel
theorem dX11_late_25 : decode cX11_late 25 = .ok (.ifCond .eq 11, 3) := by decide +kernel
theorem dX11_late_36 : decode cX11_late 36 = .ok (.iconst (-1), 1) := by decide +kernel
theorem dX11_late_37 : decode cX11_late 37 = .ok (.ireturn, 1) := by decide +kernel
theorem dX11_last_0 : decode cX11_last 0 = .ok (.aload_n 0, 1) := by decide +kernel
theorem dX11_last_1 : decode cX11_last 1 = .ok (.getfield 32, 3) := by decide +kernel
theorem dX11_last_4 : decode cX11_last 4 = .ok (.aload_n 0, 1) := by decide +kernel
theorem dX11_last_5 : decode cX11_last 5 = .ok (.getfield 84, 3) := by decide +kernel
theorem dX11_last_8 : decode cX11_last 8 = .ok (.aaload, 1) := by decide +kernel
theorem dX11_last_9 : decode cX11_last 9 = .ok (.astore_n 3, 1) := by decide +kernel
theorem dX11_last_10 : decode cX11_last 10 = .ok (.iload_n 2, 1) := by decide +kernel
theorem dX11_last_11 : decode cX11_last 11 = .ok (.invokestatic 193, 3) := by decide +kernel
theorem dX11_last_14 : decode cX11_last 14 = .ok (.ifCond .eq 19, 3) := by decide +kernel
theorem dX11_last_17 : decode cX11_last 17 = .ok (.aload_n 3, 1) := by decide +kernel
theorem dX11_last_18 : decode cX11_last 18 = .ok (.iload_n 1, 1) := by decide +kernel
theorem dX11_last_19 : decode cX11_last 19 = .ok (.invokevirtual 132, 3) := by decide +kernel
theorem dX11_last_22 : decode cX11_last 22 = .ok (.ifCond .eq 11, 3) := by decide +kernel
theorem dX11_last_33 : decode cX11_last 33 = .ok (.iconst (-1), 1) := by decide +kernel
theorem dX11_last_34 : decode cX11_last 34 = .ok (.ireturn, 1) := by decide +kernel
theorem dX11_shun_0 : decode cX11_shun 0 = .ok (.aload_n 0, 1) := by decide +kernel
theorem dX11_shun_1 : decode cX11_shun 1 = .ok (.getfield 32, 3) := by decide +kernel
theorem dX11_shun_4 : decode cX11_shun 4 = .ok (.aload_n 0, 1) := by decide +kernel
theorem dX11_shun_5 : decode cX11_shun 5 = .ok (.getfield 84, 3) := by decide +kernel
theorem dX11_shun_8 : decode cX11_shun 8 = .ok (.aaload, 1) := by decide +kernel
theorem dX11_shun_9 : decode cX11_shun 9 = .ok (.astore_n 2, 1) := by decide +kernel
theorem dX11_shun_10 : decode cX11_shun 10 = .ok (.aload_n 0, 1) := by decide +kernel
theorem dX11_shun_11 : decode cX11_shun 11 = .ok (.getfield 23, 3) := by decide +kernel
theorem dX11_shun_14 : decode cX11_shun 14 = .ok (.getfield 97, 3) := by decide +kernel
theorem dX11_shun_17 : decode cX11_shun 17 = .ok (.iload_n 1, 1) := by decide +kernel
theorem dX11_shun_18 : decode cX11_shun 18 = .ok (.invokevirtual 112, 3) := by decide +kernel
theorem dX11_shun_21 : decode cX11_shun 21 = .ok (.ifCond .eq 20, 3) := by decide +kernel
theorem dX11_shun_41 : decode cX11_shun 41 = .ok (.iconst (-1), 1) := by decide +kernel
theorem dX11_shun_42 : decode cX11_shun 42 = .ok (.ireturn, 1) := by decide +kernel
theorem dX11_clash_0 : decode cX11_clash 0 = .ok (.aload_n 0, 1) := by decide +kernel
theorem dX11_clash_1 : decode cX11_clash 1 = .ok (.getfield 23, 3) := by decide +kernel
theorem dX11_clash_4 : decode cX11_clash 4 = .ok (.getfield 97, 3) := by decide +kernel
theorem dX11_clash_7 : decode cX11_clash 7 = .ok (.iload_n 1, 1) := by decide +kernel
theorem dX11_clash_8 : decode cX11_clash 8 = .ok (.invokevirtual 112, 3) := by decide +kernel
theorem dX11_clash_11 : decode cX11_clash 11 = .ok (.ifCond .ne 5, 3) := by decide +kernel
theorem dX11_clash_14 : decode cX11_clash 14 = .ok (.iconst (-1), 1) := by decide +kernel
theorem dX11_clash_15 : decode cX11_clash 15 = .ok (.ireturn, 1) := by decide +kernel
theorem dX11_lies_0 : decode cX11_lies 0 = .ok (.iload_n 1, 1) := by decide +kernel
theorem dX11_lies_1 : decode cX11_lies 1 = .ok (.ifCond .lt 26, 3) := by decide +kernel
theorem dX11_lies_4 : decode cX11_lies 4 = .ok (.iload_n 1, 1) := by decide +kernel
theorem dX11_lies_5 : decode cX11_lies 5 = .ok (.aload_n 0, 1) := by decide +kernel
theorem dX11_lies_6 : decode cX11_lies 6 = .ok (.getfield 63, 3) := by decide +kernel
theorem dX11_lies_9 : decode cX11_lies 9 = .ok (.getfield 307, 3) := by decide +kernel
theorem dX11_lies_12 : decode cX11_lies 12 = .ok (.if_icmp .ge 15, 3) := by decide +kernel
theorem dX11_lies_27 : decode cX11_lies 27 = .ok (.iconst (-1), 1) := by decide +kernel
theorem dX11_lies_28 : decode cX11_lies 28 = .ok (.ireturn, 1) := by decide +kernel
theorem dX11_log_0 : decode cX11_log 0 = .ok (.aload_n 0, 1) := by decide +kernel
theorem dX11_log_1 : decode cX11_log 1 = .ok (.getfield 32, 3) := by decide +kernel
theorem dX11_log_4 : decode cX11_log 4 = .ok (.aload_n 0, 1) := by decide +kernel
theorem dX11_log_5 : decode cX11_log 5 = .ok (.getfield 84, 3) := by decide +kernel
theorem dX11_log_8 : decode cX11_log 8 = .ok (.aaload, 1) := by decide +kernel
theorem dX11_log_9 : decode cX11_log 9 = .ok (.astore_n 3, 1) := by decide +kernel
theorem dX11_log_10 : decode cX11_log 10 = .ok (.iload_n 1, 1) := by decide +kernel
theorem dX11_log_11 : decode cX11_log 11 = .ok (.ifCond .lt 20, 3) := by decide +kernel
theorem dX11_log_14 : decode cX11_log 14 = .ok (.iload_n 1, 1) := by decide +kernel
theorem dX11_log_15 : decode cX11_log 15 = .ok (.aload_n 3, 1) := by decide +kernel
theorem dX11_log_16 : decode cX11_log 16 = .ok (.getfield 311, 3) := by decide +kernel
theorem dX11_log_19 : decode cX11_log 19 = .ok (.if_icmp .ge 12, 3) := by decide +kernel
theorem dX11_log_31 : decode cX11_log 31 = .ok (.iconst (-1), 1) := by decide +kernel
theorem dX11_log_32 : decode cX11_log 32 = .ok (.ireturn, 1) := by decide +kernel
theorem dX11_began_0 : decode cX11_began 0 = .ok (.aload_n 0, 1) := by decide +kernel
theorem dX11_began_1 : decode cX11_began 1 = .ok (.getfield 32, 3) := by decide +kernel
theorem dX11_began_4 : decode cX11_began 4 = .ok (.aload_n 0, 1) := by decide +kernel
theorem dX11_began_5 : decode cX11_began 5 = .ok (.getfield 84, 3) := by decide +kernel
theorem dX11_began_8 : decode cX11_began 8 = .ok (.aaload, 1) := by decide +kernel
theorem dX11_began_9 : decode cX11_began 9 = .ok (.astore_n 2, 1) := by decide +kernel
theorem dX11_began_10 : decode cX11_began 10 = .ok (.aload_n 2, 1) := by decide +kernel
theorem dX11_began_11 : decode cX11_began 11 = .ok (.iload_n 1, 1) := by decide +kernel
theorem dX11_began_12 : decode cX11_began 12 = .ok (.invokevirtual 132, 3) := by decide +kernel
theorem dX11_began_15 : decode cX11_began 15 = .ok (.ifCond .ne 6, 3) := by decide +kernel
theorem dX11_began_18 : decode cX11_began 18 = .ok (.bipush (-2), 2) := by decide +kernel
theorem dX11_began_20 : decode cX11_began 20 = .ok (.ireturn, 1) := by decide +kernel
theorem dX11_sight_0 : decode cX11_sight 0 = .ok (.aload_n 0, 1) := by decide +kernel
theorem dX11_sight_1 : decode cX11_sight 1 = .ok (.getfield 23, 3) := by decide +kernel
theorem dX11_sight_4 : decode cX11_sight 4 = .ok (.getfield 157, 3) := by decide +kernel
theorem dX11_sight_7 : decode cX11_sight 7 = .ok (.iload_n 1, 1) := by decide +kernel
theorem dX11_sight_8 : decode cX11_sight 8 = .ok (.invokevirtual 161, 3) := by decide +kernel
theorem dX11_sight_11 : decode cX11_sight 11 = .ok (.ifCond .eq 14, 3) := by decide +kernel
theorem dX11_sight_25 : decode cX11_sight 25 = .ok (.iconst (-1), 1) := by decide +kernel
theorem dX11_sight_26 : decode cX11_sight 26 = .ok (.ireturn, 1) := by decide +kernel
theorem dX11_untell_0 : decode cX11_untell 0 = .ok (.aload_n 0, 1) := by decide +kernel
theorem dX11_untell_1 : decode cX11_untell 1 = .ok (.getfield 49, 3) := by decide +kernel
theorem dX11_untell_4 : decode cX11_untell 4 = .ok (.iload_n 1, 1) := by decide +kernel
theorem dX11_untell_5 : decode cX11_untell 5 = .ok (.invokevirtual 320, 3) := by decide +kernel
theorem dX11_untell_8 : decode cX11_untell 8 = .ok (.ireturn, 1) := by decide +kernel
theorem dX11_back_0 : decode cX11_back 0 = .ok (.iload_n 1, 1) := by decide +kernel
theorem dX11_back_1 : decode cX11_back 1 = .ok (.ifCond .lt 19, 3) := by decide +kernel
theorem dX11_back_4 : decode cX11_back 4 = .ok (.iload_n 1, 1) := by decide +kernel
theorem dX11_back_5 : decode cX11_back 5 = .ok (.iconst 3, 1) := by decide +kernel
theorem dX11_back_6 : decode cX11_back 6 = .ok (.if_icmp .ge 14, 3) := by decide +kernel
theorem dX11_back_9 : decode cX11_back 9 = .ok (.aload_n 0, 1) := by decide +kernel
theorem dX11_back_10 : decode cX11_back 10 = .ok (.getfield 94, 3) := by decide +kernel
theorem dX11_back_13 : decode cX11_back 13 = .ok (.iload_n 1, 1) := by decide +kernel
theorem dX11_back_14 : decode cX11_back 14 = .ok (.ishr, 1) := by decide +kernel
theorem dX11_back_15 : decode cX11_back 15 = .ok (.iconst 1, 1) := by decide +kernel
theorem dX11_back_16 : decode cX11_back 16 = .ok (.iand, 1) := by decide +kernel
theorem dX11_back_17 : decode cX11_back 17 = .ok (.ifCond .ne 5, 3) := by decide +kernel
theorem dX11_back_20 : decode cX11_back 20 = .ok (.iconst (-1), 1) := by decide +kernel
theorem dX11_back_21 : decode cX11_back 21 = .ok (.ireturn, 1) := by decide +kernel
theorem dX11_life_0 : decode cX11_life 0 = .ok (.aload_n 0, 1) := by decide +kernel
theorem dX11_life_1 : decode cX11_life 1 = .ok (.getfield 63, 3) := by decide +kernel
theorem dX11_life_4 : decode cX11_life 4 = .ok (.invokevirtual 93, 3) := by decide +kernel
theorem dX11_life_7 : decode cX11_life 7 = .ok (.aload_n 0, 1) := by decide +kernel
theorem dX11_life_8 : decode cX11_life 8 = .ok (.getfield 32, 3) := by decide +kernel
theorem dX11_life_11 : decode cX11_life 11 = .ok (.aload_n 0, 1) := by decide +kernel
theorem dX11_life_12 : decode cX11_life 12 = .ok (.getfield 84, 3) := by decide +kernel
theorem dX11_life_15 : decode cX11_life 15 = .ok (.aaload, 1) := by decide +kernel
theorem dX11_life_16 : decode cX11_life 16 = .ok (.astore_n 2, 1) := by decide +kernel
theorem dX11_life_17 : decode cX11_life 17 = .ok (.aload_n 2, 1) := by decide +kernel
theorem dX11_life_18 : decode cX11_life 18 = .ok (.iload_n 1, 1) := by decide +kernel
theorem dX11_life_19 : decode cX11_life 19 = .ok (.invokevirtual 132, 3) := by decide +kernel
theorem dX11_life_22 : decode cX11_life 22 = .ok (.ifCond .eq 11, 3) := by decide +kernel
theorem dX11_life_33 : decode cX11_life 33 = .ok (.iconst (-1), 1) := by decide +kernel
theorem dX11_life_34 : decode cX11_life 34 = .ok (.ireturn, 1) := by decide +kernel
theorem dX11_hire_0 : decode cX11_hire 0 = .ok (.aload_n 0, 1) := by decide +kernel
theorem dX11_hire_1 : decode cX11_hire 1 = .ok (.getfield 63, 3) := by decide +kernel
theorem dX11_hire_4 : decode cX11_hire 4 = .ok (.invokevirtual 93, 3) := by decide +kernel
theorem dX11_hire_7 : decode cX11_hire 7 = .ok (.aload_n 0, 1) := by decide +kernel
theorem dX11_hire_8 : decode cX11_hire 8 = .ok (.getfield 32, 3) := by decide +kernel
theorem dX11_hire_11 : decode cX11_hire 11 = .ok (.aload_n 0, 1) := by decide +kernel
theorem dX11_hire_12 : decode cX11_hire 12 = .ok (.getfield 84, 3) := by decide +kernel
theorem dX11_hire_15 : decode cX11_hire 15 = .ok (.aaload, 1) := by decide +kernel
theorem dX11_hire_16 : decode cX11_hire 16 = .ok (.astore_n 3, 1) := by decide +kernel
theorem dX11_hire_17 : decode cX11_hire 17 = .ok (.iload_n 2, 1) := by decide +kernel
theorem dX11_hire_18 : decode cX11_hire 18 = .ok (.invokestatic 193, 3) := by decide +kernel
theorem dX11_hire_21 : decode cX11_hire 21 = .ok (.ifCond .eq 19, 3) := by decide +kernel
theorem dX11_hire_24 : decode cX11_hire 24 = .ok (.aload_n 3, 1) := by decide +kernel
theorem dX11_hire_25 : decode cX11_hire 25 = .ok (.iload_n 1, 1) := by decide +kernel
theorem dX11_hire_26 : decode cX11_hire 26 = .ok (.invokevirtual 132, 3) := by decide +kernel
theorem dX11_hire_29 : decode cX11_hire 29 = .ok (.ifCond .eq 11, 3) := by decide +kernel
theorem dX11_hire_40 : decode cX11_hire 40 = .ok (.iconst (-1), 1) := by decide +kernel
theorem dX11_hire_41 : decode cX11_hire 41 = .ok (.ireturn, 1) := by decide +kernel
theorem dX11_part_0 : decode cX11_part 0 = .ok (.aload_n 0, 1) := by decide +kernel
theorem dX11_part_1 : decode cX11_part 1 = .ok (.getfield 63, 3) := by decide +kernel
theorem dX11_part_4 : decode cX11_part 4 = .ok (.invokevirtual 93, 3) := by decide +kernel
theorem dX11_part_7 : decode cX11_part 7 = .ok (.aload_n 0, 1) := by decide +kernel
theorem dX11_part_8 : decode cX11_part 8 = .ok (.getfield 23, 3) := by decide +kernel
theorem dX11_part_11 : decode cX11_part 11 = .ok (.getfield 97, 3) := by decide +kernel
theorem dX11_part_14 : decode cX11_part 14 = .ok (.iload_n 1, 1) := by decide +kernel
theorem dX11_part_15 : decode cX11_part 15 = .ok (.invokevirtual 112, 3) := by decide +kernel
theorem dX11_part_18 : decode cX11_part 18 = .ok (.ifCond .ne 5, 3) := by decide +kernel
theorem dX11_part_21 : decode cX11_part 21 = .ok (.iconst (-1), 1) := by decide +kernel
theorem dX11_part_22 : decode cX11_part 22 = .ok (.ireturn, 1) := by decide +kernel
theorem dX11_falses_0 : decode cX11_falses 0 = .ok (.aload_n 0, 1) := by decide +kernel
theorem dX11_falses_1 : decode cX11_falses 1 = .ok (.getfield 63, 3) := by decide +kernel
theorem dX11_falses_4 : decode cX11_falses 4 = .ok (.invokevirtual 93, 3) := by decide +kernel
theorem dX11_falses_7 : decode cX11_falses 7 = .ok (.aload_n 0, 1) := by decide +kernel
theorem dX11_falses_8 : decode cX11_falses 8 = .ok (.getfield 32, 3) := by decide +kernel
theorem dX11_falses_11 : decode cX11_falses 11 = .ok (.aload_n 0, 1) := by decide +kernel
theorem dX11_falses_12 : decode cX11_falses 12 = .ok (.getfield 84, 3) := by decide +kernel
theorem dX11_falses_15 : decode cX11_falses 15 = .ok (.aaload, 1) := by decide +kernel
theorem dX11_falses_16 : decode cX11_falses 16 = .ok (.astore_n 2, 1) := by decide +kernel
theorem dX11_falses_17 : decode cX11_falses 17 = .ok (.iconst 0, 1) := by decide +kernel
theorem dX11_falses_18 : decode cX11_falses 18 = .ok (.istore_n 3, 1) := by decide +kernel
theorem dX11_falses_19 : decode cX11_falses 19 = .ok (.iconst 0, 1) := by decide +kernel
theorem dX11_falses_20 : decode cX11_falses 20 = .ok (.istore 4, 2) := by decide +kernel
theorem dX11_falses_22 : decode cX11_falses 22 = .ok (.iload 4, 2) := by decide +kernel
theorem dX11_falses_24 : decode cX11_falses 24 = .ok (.aload_n 2, 1) := by decide +kernel
theorem dX11_falses_25 : decode cX11_falses 25 = .ok (.getfield 311, 3) := by decide +kernel
theorem dX11_falses_28 : decode cX11_falses 28 = .ok (.if_icmp .ge 52, 3) := by decide +kernel
theorem dX11_falses_80 : decode cX11_falses 80 = .ok (.iload_n 3, 1) := by decide +kernel
theorem dX11_falses_81 : decode cX11_falses 81 = .ok (.ireturn, 1) := by decide +kernel
theorem dJ7_fill_53178_0 : decode cJ7_fill_53178 0 = .ok (.iconst 0, 1) := by decide +kernel
theorem dJ7_fill_53178_1 : decode cJ7_fill_53178 1 = .ok (.istore_n 2, 1) := by decide +kernel
theorem dJ7_fill_53178_2 : decode cJ7_fill_53178 2 = .ok (.aload_n 0, 1) := by decide +kernel
theorem dJ7_fill_53178_3 : decode cJ7_fill_53178 3 = .ok (.arraylength, 1) := by decide +kernel
theorem dJ7_fill_53178_4 : decode cJ7_fill_53178 4 = .ok (.istore_n 3, 1) := by decide +kernel
theorem dJ7_fill_53178_5 : decode cJ7_fill_53178 5 = .ok (.iload_n 2, 1) := by decide +kernel
theorem dJ7_fill_53178_6 : decode cJ7_fill_53178 6 = .ok (.iload_n 3, 1) := by decide +kernel
theorem dJ7_fill_53178_7 : decode cJ7_fill_53178 7 = .ok (.if_icmp .ge 13, 3) := by decide +kernel
theorem dJ7_fill_53178_10 : decode cJ7_fill_53178 10 = .ok (.aload_n 0, 1) := by decide +kernel
theorem dJ7_fill_53178_11 : decode cJ7_fill_53178 11 = .ok (.iload_n 2, 1) := by decide +kernel
theorem dJ7_fill_53178_12 : decode cJ7_fill_53178 12 = .ok (.iload_n 1, 1) := by decide +kernel
theorem dJ7_fill_53178_13 : decode cJ7_fill_53178 13 = .ok (.iastore, 1) := by decide +kernel
theorem dJ7_fill_53178_14 : decode cJ7_fill_53178 14 = .ok (.iinc 2 1, 3) := by decide +kernel
theorem dJ7_fill_53178_17 : decode cJ7_fill_53178 17 = .ok (.goto (-12), 3) := by decide +kernel
theorem dJ7_fill_53178_20 : decode cJ7_fill_53178 20 = .ok (.return_, 1) := by decide +kernel
theorem dX0_clear_0 : decode cX0_clear 0 = .ok (.aload_n 0, 1) := by decide +kernel
theorem dX0_clear_1 : decode cX0_clear 1 = .ok (.iconst 0, 1) := by decide +kernel
theorem dX0_clear_2 : decode cX0_clear 2 = .ok (.putfield 25, 3) := by decide +kernel
theorem dX0_clear_5 : decode cX0_clear 5 = .ok (.aload_n 0, 1) := by decide +kernel
theorem dX0_clear_6 : decode cX0_clear 6 = .ok (.iconst 0, 1) := by decide +kernel
theorem dX0_clear_7 : decode cX0_clear 7 = .ok (.putfield 29, 3) := by decide +kernel
theorem dX0_clear_10 : decode cX0_clear 10 = .ok (.aload_n 0, 1) := by decide +kernel
theorem dX0_clear_11 : decode cX0_clear 11 = .ok (.iconst 0, 1) := by decide +kernel
theorem dX0_clear_12 : decode cX0_clear 12 = .ok (.putfield 32, 3) := by decide +kernel
theorem dX0_clear_15 : decode cX0_clear 15 = .ok (.return_, 1) := by decide +kernel
theorem dX2_clear_0 : decode cX2_clear 0 = .ok (.aload_n 0, 1) := by decide +kernel
theorem dX2_clear_1 : decode cX2_clear 1 = .ok (.getfield 12, 3) := by decide +kernel
theorem dX2_clear_4 : decode cX2_clear 4 = .ok (.iconst 0, 1) := by decide +kernel
theorem dX2_clear_5 : decode cX2_clear 5 = .ok (.putfield 46, 3) := by decide +kernel
theorem dX2_clear_8 : decode cX2_clear 8 = .ok (.aload_n 0, 1) := by decide +kernel
theorem dX2_clear_9 : decode cX2_clear 9 = .ok (.getfield 21, 3) := by decide +kernel
theorem dX2_clear_12 : decode cX2_clear 12 = .ok (.invokevirtual 49, 3) := by decide +kernel
theorem dX2_clear_15 : decode cX2_clear 15 = .ok (.aload_n 0, 1) := by decide +kernel
theorem dX2_clear_16 : decode cX2_clear 16 = .ok (.getfield 28, 3) := by decide +kernel
theorem dX2_clear_19 : decode cX2_clear 19 = .ok (.iconst 0, 1) := by decide +kernel
theorem dX2_clear_20 : decode cX2_clear 20 = .ok (.putfield 52, 3) := by decide +kernel
theorem dX2_clear_23 : decode cX2_clear 23 = .ok (.aload_n 0, 1) := by decide +kernel
theorem dX2_clear_24 : decode cX2_clear 24 = .ok (.iconst 0, 1) := by decide +kernel
theorem dX2_clear_25 : decode cX2_clear 25 = .ok (.putfield 53, 3) := by decide +kernel
theorem dX2_clear_28 : decode cX2_clear 28 = .ok (.aload_n 0, 1) := by decide +kernel
theorem dX2_clear_29 : decode cX2_clear 29 = .ok (.bipush 9, 2) := by decide +kernel
theorem dX2_clear_31 : decode cX2_clear 31 = .ok (.putfield 39, 3) := by decide +kernel
theorem dX2_clear_34 : decode cX2_clear 34 = .ok (.aload_n 0, 1) := by decide +kernel
theorem dX2_clear_35 : decode cX2_clear 35 = .ok (.iconst 0, 1) := by decide +kernel
theorem dX2_clear_36 : decode cX2_clear 36 = .ok (.putfield 56, 3) := by decide +kernel
theorem dX2_clear_39 : decode cX2_clear 39 = .ok (.aload_n 0, 1) := by decide +kernel
theorem dX2_clear_40 : decode cX2_clear 40 = .ok (.getfield 43, 3) := by decide +kernel
theorem dX2_clear_43 : decode cX2_clear 43 = .ok (.iconst 0, 1) := by decide +kernel
theorem dX2_clear_44 : decode cX2_clear 44 = .ok (.invokestatic 59, 3) := by decide +kernel
theorem dX2_clear_47 : decode cX2_clear 47 = .ok (.return_, 1) := by decide +kernel
theorem dX9_begin_0 : decode cX9_begin 0 = .ok (.aload_n 0, 1) := by decide +kernel
theorem dX9_begin_1 : decode cX9_begin 1 = .ok (.iconst 0, 1) := by decide +kernel
theorem dX9_begin_2 : decode cX9_begin 2 = .ok (.putfield 33, 3) := by decide +kernel
theorem dX9_begin_5 : decode cX9_begin 5 = .ok (.aload_n 0, 1) := by decide +kernel
theorem dX9_begin_6 : decode cX9_begin 6 = .ok (.aload_n 1, 1) := by decide +kernel
theorem dX9_begin_7 : decode cX9_begin 7 = .ok (.getfield 37, 3) := by decide +kernel
theorem dX9_begin_10 : decode cX9_begin 10 = .ok (.putfield 42, 3) := by decide +kernel
theorem dX9_begin_13 : decode cX9_begin 13 = .ok (.aload_n 0, 1) := by decide +kernel
theorem dX9_begin_14 : decode cX9_begin 14 = .ok (.iconst 1, 1) := by decide +kernel
theorem dX9_begin_15 : decode cX9_begin 15 = .ok (.aload_n 1, 1) := by decide +kernel
theorem dX9_begin_16 : decode cX9_begin 16 = .ok (.getfield 45, 3) := by decide +kernel
theorem dX9_begin_19 : decode cX9_begin 19 = .ok (.getfield 49, 3) := by decide +kernel
theorem dX9_begin_22 : decode cX9_begin 22 = .ok (.ishl, 1) := by decide +kernel
theorem dX9_begin_23 : decode cX9_begin 23 = .ok (.iconst 1, 1) := by decide +kernel
theorem dX9_begin_24 : decode cX9_begin 24 = .ok (.isub, 1) := by decide +kernel
theorem dX9_begin_25 : decode cX9_begin 25 = .ok (.putfield 54, 3) := by decide +kernel
theorem dX9_begin_28 : decode cX9_begin 28 = .ok (.aload_n 0, 1) := by decide +kernel
theorem dX9_begin_29 : decode cX9_begin 29 = .ok (.iconst 0, 1) := by decide +kernel
theorem dX9_begin_30 : decode cX9_begin 30 = .ok (.putfield 57, 3) := by decide +kernel
theorem dX9_begin_33 : decode cX9_begin 33 = .ok (.aload_n 0, 1) := by decide +kernel
theorem dX9_begin_34 : decode cX9_begin 34 = .ok (.iconst 0, 1) := by decide +kernel
theorem dX9_begin_35 : decode cX9_begin 35 = .ok (.putfield 60, 3) := by decide +kernel
theorem dX9_begin_38 : decode cX9_begin 38 = .ok (.aload_n 0, 1) := by decide +kernel
theorem dX9_begin_39 : decode cX9_begin 39 = .ok (.iconst 0, 1) := by decide +kernel
theorem dX9_begin_40 : decode cX9_begin 40 = .ok (.putfield 63, 3) := by decide +kernel
theorem dX9_begin_43 : decode cX9_begin 43 = .ok (.aload_n 0, 1) := by decide +kernel
theorem dX9_begin_44 : decode cX9_begin 44 = .ok (.iconst 0, 1) := by decide +kernel
theorem dX9_begin_45 : decode cX9_begin 45 = .ok (.putfield 66, 3) := by decide +kernel
theorem dX9_begin_48 : decode cX9_begin 48 = .ok (.aload_n 1, 1) := by decide +kernel
theorem dX9_begin_49 : decode cX9_begin 49 = .ok (.getfield 45, 3) := by decide +kernel
theorem dX9_begin_52 : decode cX9_begin 52 = .ok (.getfield 69, 3) := by decide +kernel
theorem dX9_begin_55 : decode cX9_begin 55 = .ok (.iconst 0, 1) := by decide +kernel
theorem dX9_begin_56 : decode cX9_begin 56 = .ok (.aload_n 0, 1) := by decide +kernel
theorem dX9_begin_57 : decode cX9_begin 57 = .ok (.getfield 9, 3) := by decide +kernel
theorem dX9_begin_60 : decode cX9_begin 60 = .ok (.iconst 0, 1) := by decide +kernel
theorem dX9_begin_61 : decode cX9_begin 61 = .ok (.bipush 6, 2) := by decide +kernel
theorem dX9_begin_63 : decode cX9_begin 63 = .ok (.invokestatic 70, 3) := by decide +kernel
theorem dX9_begin_66 : decode cX9_begin 66 = .ok (.aload_n 0, 1) := by decide +kernel
theorem dX9_begin_67 : decode cX9_begin 67 = .ok (.getfield 15, 3) := by decide +kernel
theorem dX9_begin_70 : decode cX9_begin 70 = .ok (.iconst 0, 1) := by decide +kernel
theorem dX9_begin_71 : decode cX9_begin 71 = .ok (.invokestatic 76, 3) := by decide +kernel
theorem dX9_begin_74 : decode cX9_begin 74 = .ok (.iconst 0, 1) := by decide +kernel
theorem dX9_begin_75 : decode cX9_begin 75 = .ok (.istore_n 2, 1) := by decide +kernel
theorem dX9_begin_76 : decode cX9_begin 76 = .ok (.iload_n 2, 1) := by decide +kernel
theorem dX9_begin_77 : decode cX9_begin 77 = .ok (.aload_n 1, 1) := by decide +kernel
theorem dX9_begin_78 : decode cX9_begin 78 = .ok (.getfield 82, 3) := by decide +kernel
theorem dX9_begin_81 : decode cX9_begin 81 = .ok (.if_icmp .ge 37, 3) := by decide +kernel
theorem dX9_begin_118 : decode cX9_begin 118 = .ok (.return_, 1) := by decide +kernel
theorem dX9_copy_0 : decode cX9_copy 0 = .ok (.aload_n 0, 1) := by decide +kernel
theorem dX9_copy_1 : decode cX9_copy 1 = .ok (.aload_n 1, 1) := by decide +kernel
theorem dX9_copy_2 : decode cX9_copy 2 = .ok (.getfield 33, 3) := by decide +kernel
theorem dX9_copy_5 : decode cX9_copy 5 = .ok (.putfield 33, 3) := by decide +kernel
theorem dX9_copy_8 : decode cX9_copy 8 = .ok (.aload_n 0, 1) := by decide +kernel
theorem dX9_copy_9 : decode cX9_copy 9 = .ok (.aload_n 1, 1) := by decide +kernel
theorem dX9_copy_10 : decode cX9_copy 10 = .ok (.getfield 42, 3) := by decide +kernel
theorem dX9_copy_13 : decode cX9_copy 13 = .ok (.putfield 42, 3) := by decide +kernel
theorem dX9_copy_16 : decode cX9_copy 16 = .ok (.aload_n 0, 1) := by decide +kernel
theorem dX9_copy_17 : decode cX9_copy 17 = .ok (.aload_n 1, 1) := by decide +kernel
theorem dX9_copy_18 : decode cX9_copy 18 = .ok (.getfield 54, 3) := by decide +kernel
theorem dX9_copy_21 : decode cX9_copy 21 = .ok (.putfield 54, 3) := by decide +kernel
theorem dX9_copy_24 : decode cX9_copy 24 = .ok (.aload_n 0, 1) := by decide +kernel
theorem dX9_copy_25 : decode cX9_copy 25 = .ok (.aload_n 1, 1) := by decide +kernel
theorem dX9_copy_26 : decode cX9_copy 26 = .ok (.getfield 57, 3) := by decide +kernel
theorem dX9_copy_29 : decode cX9_copy 29 = .ok (.putfield 57, 3) := by decide +kernel
theorem dX9_copy_32 : decode cX9_copy 32 = .ok (.aload_n 0, 1) := by decide +kernel
theorem dX9_copy_33 : decode cX9_copy 33 = .ok (.aload_n 1, 1) := by decide +kernel
theorem dX9_copy_34 : decode cX9_copy 34 = .ok (.getfield 60, 3) := by decide +kernel
theorem dX9_copy_37 : decode cX9_copy 37 = .ok (.putfield 60, 3) := by decide +kernel
theorem dX9_copy_40 : decode cX9_copy 40 = .ok (.aload_n 0, 1) := by decide +kernel
theorem dX9_copy_41 : decode cX9_copy 41 = .ok (.aload_n 1, 1) := by decide +kernel
theorem dX9_copy_42 : decode cX9_copy 42 = .ok (.getfield 63, 3) := by decide +kernel
theorem dX9_copy_45 : decode cX9_copy 45 = .ok (.putfield 63, 3) := by decide +kernel
theorem dX9_copy_48 : decode cX9_copy 48 = .ok (.aload_n 0, 1) := by decide +kernel
theorem dX9_copy_49 : decode cX9_copy 49 = .ok (.aload_n 1, 1) := by decide +kernel
theorem dX9_copy_50 : decode cX9_copy 50 = .ok (.getfield 66, 3) := by decide +kernel
theorem dX9_copy_53 : decode cX9_copy 53 = .ok (.putfield 66, 3) := by decide +kernel
theorem dX9_copy_56 : decode cX9_copy 56 = .ok (.aload_n 1, 1) := by decide +kernel
theorem dX9_copy_57 : decode cX9_copy 57 = .ok (.getfield 9, 3) := by decide +kernel
theorem dX9_copy_60 : decode cX9_copy 60 = .ok (.iconst 0, 1) := by decide +kernel
theorem dX9_copy_61 : decode cX9_copy 61 = .ok (.aload_n 0, 1) := by decide +kernel
theorem dX9_copy_62 : decode cX9_copy 62 = .ok (.getfield 9, 3) := by decide +kernel
theorem dX9_copy_65 : decode cX9_copy 65 = .ok (.iconst 0, 1) := by decide +kernel
theorem dX9_copy_66 : decode cX9_copy 66 = .ok (.bipush 6, 2) := by decide +kernel
theorem dX9_copy_68 : decode cX9_copy 68 = .ok (.invokestatic 70, 3) := by decide +kernel
theorem dX9_copy_71 : decode cX9_copy 71 = .ok (.aload_n 1, 1) := by decide +kernel
theorem dX9_copy_72 : decode cX9_copy 72 = .ok (.getfield 15, 3) := by decide +kernel
theorem dX9_copy_75 : decode cX9_copy 75 = .ok (.iconst 0, 1) := by decide +kernel
theorem dX9_copy_76 : decode cX9_copy 76 = .ok (.aload_n 0, 1) := by decide +kernel
theorem dX9_copy_77 : decode cX9_copy 77 = .ok (.getfield 15, 3) := by decide +kernel
theorem dX9_copy_80 : decode cX9_copy 80 = .ok (.iconst 0, 1) := by decide +kernel
theorem dX9_copy_81 : decode cX9_copy 81 = .ok (.bipush 6, 2) := by decide +kernel
theorem dX9_copy_83 : decode cX9_copy 83 = .ok (.invokestatic 70, 3) := by decide +kernel
theorem dX9_copy_86 : decode cX9_copy 86 = .ok (.aload_n 1, 1) := by decide +kernel
theorem dX9_copy_87 : decode cX9_copy 87 = .ok (.getfield 18, 3) := by decide +kernel
theorem dX9_copy_90 : decode cX9_copy 90 = .ok (.iconst 0, 1) := by decide +kernel
theorem dX9_copy_91 : decode cX9_copy 91 = .ok (.aload_n 0, 1) := by decide +kernel
theorem dX9_copy_92 : decode cX9_copy 92 = .ok (.getfield 18, 3) := by decide +kernel
theorem dX9_copy_95 : decode cX9_copy 95 = .ok (.iconst 0, 1) := by decide +kernel
theorem dX9_copy_96 : decode cX9_copy 96 = .ok (.bipush 8, 2) := by decide +kernel
theorem dX9_copy_98 : decode cX9_copy 98 = .ok (.invokestatic 70, 3) := by decide +kernel
theorem dX9_copy_101 : decode cX9_copy 101 = .ok (.aload_n 1, 1) := by decide +kernel
theorem dX9_copy_102 : decode cX9_copy 102 = .ok (.getfield 21, 3) := by decide +kernel
theorem dX9_copy_105 : decode cX9_copy 105 = .ok (.iconst 0, 1) := by decide +kernel
theorem dX9_copy_106 : decode cX9_copy 106 = .ok (.aload_n 0, 1) := by decide +kernel
theorem dX9_copy_107 : decode cX9_copy 107 = .ok (.getfield 21, 3) := by decide +kernel
theorem dX9_copy_110 : decode cX9_copy 110 = .ok (.iconst 0, 1) := by decide +kernel
theorem dX9_copy_111 : decode cX9_copy 111 = .ok (.bipush 8, 2) := by decide +kernel
theorem dX9_copy_113 : decode cX9_copy 113 = .ok (.invokestatic 70, 3) := by decide +kernel
theorem dX9_copy_116 : decode cX9_copy 116 = .ok (.aload_n 1, 1) := by decide +kernel
theorem dX9_copy_117 : decode cX9_copy 117 = .ok (.getfield 24, 3) := by decide +kernel
theorem dX9_copy_120 : decode cX9_copy 120 = .ok (.iconst 0, 1) := by decide +kernel
theorem dX9_copy_121 : decode cX9_copy 121 = .ok (.aload_n 0, 1) := by decide +kernel
theorem dX9_copy_122 : decode cX9_copy 122 = .ok (.getfield 24, 3) := by decide +kernel
theorem dX9_copy_125 : decode cX9_copy 125 = .ok (.iconst 0, 1) := by decide +kernel
theorem dX9_copy_126 : decode cX9_copy 126 = .ok (.bipush 8, 2) := by decide +kernel
theorem dX9_copy_128 : decode cX9_copy 128 = .ok (.invokestatic 70, 3) := by decide +kernel
theorem dX9_copy_131 : decode cX9_copy 131 = .ok (.aload_n 1, 1) := by decide +kernel
theorem dX9_copy_132 : decode cX9_copy 132 = .ok (.getfield 27, 3) := by decide +kernel
theorem dX9_copy_135 : decode cX9_copy 135 = .ok (.iconst 0, 1) := by decide +kernel
theorem dX9_copy_136 : decode cX9_copy 136 = .ok (.aload_n 0, 1) := by decide +kernel
theorem dX9_copy_137 : decode cX9_copy 137 = .ok (.getfield 27, 3) := by decide +kernel
theorem dX9_copy_140 : decode cX9_copy 140 = .ok (.iconst 0, 1) := by decide +kernel
theorem dX9_copy_141 : decode cX9_copy 141 = .ok (.bipush 16, 2) := by decide +kernel
theorem dX9_copy_143 : decode cX9_copy 143 = .ok (.invokestatic 70, 3) := by decide +kernel
theorem dX9_copy_146 : decode cX9_copy 146 = .ok (.aload_n 1, 1) := by decide +kernel
theorem dX9_copy_147 : decode cX9_copy 147 = .ok (.getfield 30, 3) := by decide +kernel
theorem dX9_copy_150 : decode cX9_copy 150 = .ok (.iconst 0, 1) := by decide +kernel
theorem dX9_copy_151 : decode cX9_copy 151 = .ok (.aload_n 0, 1) := by decide +kernel
theorem dX9_copy_152 : decode cX9_copy 152 = .ok (.getfield 30, 3) := by decide +kernel
theorem dX9_copy_155 : decode cX9_copy 155 = .ok (.iconst 0, 1) := by decide +kernel
theorem dX9_copy_156 : decode cX9_copy 156 = .ok (.aload_n 1, 1) := by decide +kernel
theorem dX9_copy_157 : decode cX9_copy 157 = .ok (.getfield 66, 3) := by decide +kernel
theorem dX9_copy_160 : decode cX9_copy 160 = .ok (.invokestatic 70, 3) := by decide +kernel
theorem dX9_copy_163 : decode cX9_copy 163 = .ok (.return_, 1) := by decide +kernel
theorem dX9_passDay_0 : decode cX9_passDay 0 = .ok (.aload_n 0, 1) := by decide +kernel
theorem dX9_passDay_1 : decode cX9_passDay 1 = .ok (.dup, 1) := by decide +kernel
theorem dX9_passDay_2 : decode cX9_passDay 2 = .ok (.getfield 33, 3) := by decide +kernel
theorem dX9_passDay_5 : decode cX9_passDay 5 = .ok (.iconst 1, 1) := by decide +kernel
theorem dX9_passDay_6 : decode cX9_passDay 6 = .ok (.iadd, 1) := by decide +kernel
theorem dX9_passDay_7 : decode cX9_passDay 7 = .ok (.putfield 33, 3) := by decide +kernel
theorem dX9_passDay_10 : decode cX9_passDay 10 = .ok (.iconst 0, 1) := by decide +kernel
theorem dX9_passDay_11 : decode cX9_passDay 11 = .ok (.istore_n 2, 1) := by decide +kernel
theorem dX9_passDay_12 : decode cX9_passDay 12 = .ok (.iload_n 2, 1) := by decide +kernel
theorem dX9_passDay_13 : decode cX9_passDay 13 = .ok (.aload_n 1, 1) := by decide +kernel
theorem dX9_passDay_14 : decode cX9_passDay 14 = .ok (.getfield 45, 3) := by decide +kernel
theorem dX9_passDay_17 : decode cX9_passDay 17 = .ok (.getfield 49, 3) := by decide +kernel
theorem dX9_passDay_20 : decode cX9_passDay 20 = .ok (.if_icmp .ge 39, 3) := by decide +kernel
theorem dX9_passDay_59 : decode cX9_passDay 59 = .ok (.iconst 0, 1) := by decide +kernel
theorem dX9_passDay_60 : decode cX9_passDay 60 = .ok (.istore_n 2, 1) := by decide +kernel
theorem dX9_passDay_61 : decode cX9_passDay 61 = .ok (.iload_n 2, 1) := by decide +kernel
theorem dX9_passDay_62 : decode cX9_passDay 62 = .ok (.aload_n 0, 1) := by decide +kernel
theorem dX9_passDay_63 : decode cX9_passDay 63 = .ok (.getfield 63, 3) := by decide +kernel
theorem dX9_passDay_66 : decode cX9_passDay 66 = .ok (.if_icmp .ge 36, 3) := by decide +kernel
theorem dX9_passDay_102 : decode cX9_passDay 102 = .ok (.return_, 1) := by decide +kernel
theorem dX10_advance_0 : decode cX10_advance 0 = .ok (.aload_n 0, 1) := by decide +kernel
theorem dX10_advance_1 : decode cX10_advance 1 = .ok (.getfield 44, 3) := by decide +kernel
theorem dX10_advance_4 : decode cX10_advance 4 = .ok (.aload_n 0, 1) := by decide +kernel
theorem dX10_advance_5 : decode cX10_advance 5 = .ok (.getfield 41, 3) := by decide +kernel
theorem dX10_advance_8 : decode cX10_advance 8 = .ok (.if_icmp .ge 31, 3) := by decide +kernel
theorem dX10_advance_39 : decode cX10_advance 39 = .ok (.aload_n 0, 1) := by decide +kernel
theorem dX10_advance_40 : decode cX10_advance 40 = .ok (.aload_n 0, 1) := by decide +kernel
theorem dX10_advance_41 : decode cX10_advance 41 = .ok (.getfield 44, 3) := by decide +kernel
theorem dX10_advance_44 : decode cX10_advance 44 = .ok (.putfield 54, 3) := by decide +kernel
theorem dX10_advance_47 : decode cX10_advance 47 = .ok (.aload_n 0, 1) := by decide +kernel
theorem dX10_advance_48 : decode cX10_advance 48 = .ok (.iconst 0, 1) := by decide +kernel
theorem dX10_advance_49 : decode cX10_advance 49 = .ok (.putfield 57, 3) := by decide +kernel
theorem dX10_advance_52 : decode cX10_advance 52 = .ok (.aload_n 0, 1) := by decide +kernel
theorem dX10_advance_53 : decode cX10_advance 53 = .ok (.lconst 0, 1) := by decide +kernel
theorem dX10_advance_54 : decode cX10_advance 54 = .ok (.putfield 60, 3) := by decide +kernel
theorem dX10_advance_57 : decode cX10_advance 57 = .ok (.aload_n 0, 1) := by decide +kernel
theorem dX10_advance_58 : decode cX10_advance 58 = .ok (.getfield 44, 3) := by decide +kernel
theorem dX10_advance_61 : decode cX10_advance 61 = .ok (.aload_n 0, 1) := by decide +kernel
theorem dX10_advance_62 : decode cX10_advance 62 = .ok (.getfield 41, 3) := by decide +kernel
theorem dX10_advance_65 : decode cX10_advance 65 = .ok (.if_icmp .lt 11, 3) := by decide +kernel
theorem dX10_advance_68 : decode cX10_advance 68 = .ok (.aload_n 0, 1) := by decide +kernel
theorem dX10_advance_69 : decode cX10_advance 69 = .ok (.iconst 0, 1) := by decide +kernel
theorem dX10_advance_70 : decode cX10_advance 70 = .ok (.putfield 64, 3) := by decide +kernel
theorem dX10_advance_73 : decode cX10_advance 73 = .ok (.goto 51, 3) := by decide +kernel
theorem dX10_advance_124 : decode cX10_advance 124 = .ok (.return_, 1) := by decide +kernel
theorem dX10_open_0 : decode cX10_open 0 = .ok (.aload_n 0, 1) := by decide +kernel
theorem dX10_open_1 : decode cX10_open 1 = .ok (.aload_n 1, 1) := by decide +kernel
theorem dX10_open_2 : decode cX10_open 2 = .ok (.putfield 31, 3) := by decide +kernel
theorem dX10_open_5 : decode cX10_open 5 = .ok (.aload_n 0, 1) := by decide +kernel
theorem dX10_open_6 : decode cX10_open 6 = .ok (.aload_n 1, 1) := by decide +kernel
theorem dX10_open_7 : decode cX10_open 7 = .ok (.ifnonnull 7, 3) := by decide +kernel
theorem dX10_open_14 : decode cX10_open 14 = .ok (.iload_n 2, 1) := by decide +kernel
theorem dX10_open_15 : decode cX10_open 15 = .ok (.aload_n 1, 1) := by decide +kernel
theorem dX10_open_16 : decode cX10_open 16 = .ok (.arraylength, 1) := by decide +kernel
theorem dX10_open_17 : decode cX10_open 17 = .ok (.invokestatic 35, 3) := by decide +kernel
theorem dX10_open_20 : decode cX10_open 20 = .ok (.putfield 41, 3) := by decide +kernel
theorem dX10_open_23 : decode cX10_open 23 = .ok (.aload_n 0, 1) := by decide +kernel
theorem dX10_open_24 : decode cX10_open 24 = .ok (.iconst 0, 1) := by decide +kernel
theorem dX10_open_25 : decode cX10_open 25 = .ok (.putfield 44, 3) := by decide +kernel
theorem dX10_open_28 : decode cX10_open 28 = .ok (.aload_n 0, 1) := by decide +kernel
theorem dX10_open_29 : decode cX10_open 29 = .ok (.invokevirtual 47, 3) := by decide +kernel
theorem dX10_open_32 : decode cX10_open 32 = .ok (.return_, 1) := by decide +kernel
theorem dX5_read_0 : decode cX5_read 0 = .ok (.aload_n 0, 1) := by decide +kernel
theorem dX5_read_1 : decode cX5_read 1 = .ok (.iconst 0, 1) := by decide +kernel
theorem dX5_read_2 : decode cX5_read 2 = .ok (.putfield 22, 3) := by decide +kernel
theorem dX5_read_5 : decode cX5_read 5 = .ok (.aload_n 0, 1) := by decide +kernel
theorem dX5_read_6 : decode cX5_read 6 = .ok (.iconst (-1), 1) := by decide +kernel
theorem dX5_read_7 : decode cX5_read 7 = .ok (.putfield 9, 3) := by decide +kernel
theorem dX5_read_10 : decode cX5_read 10 = .ok (.aload_n 0, 1) := by decide +kernel
theorem dX5_read_11 : decode cX5_read 11 = .ok (.aload_n 3, 1) := by decide +kernel
theorem dX5_read_12 : decode cX5_read 12 = .ok (.putfield 25, 3) := by decide +kernel
theorem dX5_read_15 : decode cX5_read 15 = .ok (.aload_n 0, 1) := by decide +kernel
theorem dX5_read_16 : decode cX5_read 16 = .ok (.getfield 25, 3) := by decide +kernel
theorem dX5_read_19 : decode cX5_read 19 = .ok (.invokevirtual 29, 3) := by decide +kernel
theorem dX5_read_22 : decode cX5_read 22 = .ok (.aload_n 0, 1) := by decide +kernel
theorem dX5_read_23 : decode cX5_read 23 = .ok (.iconst 0, 1) := by decide +kernel
theorem dX5_read_24 : decode cX5_read 24 = .ok (.putfield 34, 3) := by decide +kernel
theorem dX5_read_27 : decode cX5_read 27 = .ok (.aload_n 0, 1) := by decide +kernel
theorem dX5_read_28 : decode cX5_read 28 = .ok (.iconst 0, 1) := by decide +kernel
theorem dX5_read_29 : decode cX5_read 29 = .ok (.putfield 38, 3) := by decide +kernel
theorem dX5_read_32 : decode cX5_read 32 = .ok (.aload_n 0, 1) := by decide +kernel
theorem dX5_read_33 : decode cX5_read 33 = .ok (.getfield 18, 3) := by decide +kernel
theorem dX5_read_36 : decode cX5_read 36 = .ok (.aload_n 1, 1) := by decide +kernel
theorem dX5_read_37 : decode cX5_read 37 = .ok (.iload_n 2, 1) := by decide +kernel
theorem dX5_read_38 : decode cX5_read 38 = .ok (.invokevirtual 41, 3) := by decide +kernel
theorem dX5_read_41 : decode cX5_read 41 = .ok (.iconst 0, 1) := by decide +kernel
theorem dX5_read_42 : decode cX5_read 42 = .ok (.istore 4, 2) := by decide +kernel
theorem dX5_read_44 : decode cX5_read 44 = .ok (.iload 4, 2) := by decide +kernel
theorem dX5_read_46 : decode cX5_read 46 = .ok (.sipush 1600, 3) := by decide +kernel
theorem dX5_read_49 : decode cX5_read 49 = .ok (.if_icmp .gt 197, 3) := by decide +kernel
theorem dX5_read_52 : decode cX5_read 52 = .ok (.aload_n 0, 1) := by decide +kernel
theorem dX5_read_53 : decode cX5_read 53 = .ok (.getfield 18, 3) := by decide +kernel
theorem dX5_read_56 : decode cX5_read 56 = .ok (.getfield 45, 3) := by decide +kernel
theorem dX5_read_59 : decode cX5_read 59 = .ok (.ifCond .eq 187, 3) := by decide +kernel
theorem dX5_read_246 : decode cX5_read 246 = .ok (.iconst 1, 1) := by decide +kernel
theorem dX5_read_247 : decode cX5_read 247 = .ok (.ireturn, 1) := by decide +kernel
theorem dX11_code_0 : decode cX11_code 0 = .ok (.aload_n 0, 1) := by decide +kernel
theorem dX11_code_1 : decode cX11_code 1 = .ok (.getfield 16, 3) := by decide +kernel
theorem dX11_code_4 : decode cX11_code 4 = .ok (.aload_n 0, 1) := by decide +kernel
theorem dX11_code_5 : decode cX11_code 5 = .ok (.getfield 9, 3) := by decide +kernel
theorem dX11_code_8 : decode cX11_code 8 = .ok (.aload_n 0, 1) := by decide +kernel
theorem dX11_code_9 : decode cX11_code 9 = .ok (.getfield 72, 3) := by decide +kernel
theorem dX11_code_12 : decode cX11_code 12 = .ok (.aload_n 0, 1) := by decide +kernel
theorem dX11_code_13 : decode cX11_code 13 = .ok (.getfield 27, 3) := by decide +kernel
theorem dX11_code_16 : decode cX11_code 16 = .ok (.invokevirtual 80, 3) := by decide +kernel
theorem dX11_code_19 : decode cX11_code 19 = .ok (.ifCond .ne 5, 3) := by decide +kernel
theorem dX11_code_24 : decode cX11_code 24 = .ok (.aload_n 0, 1) := by decide +kernel
theorem dX11_code_25 : decode cX11_code 25 = .ok (.getfield 27, 3) := by decide +kernel
theorem dX11_code_28 : decode cX11_code 28 = .ok (.astore_n 1, 1) := by decide +kernel
theorem dX11_code_29 : decode cX11_code 29 = .ok (.aload_n 0, 1) := by decide +kernel
theorem dX11_code_30 : decode cX11_code 30 = .ok (.aload_n 0, 1) := by decide +kernel
theorem dX11_code_31 : decode cX11_code 31 = .ok (.getfield 23, 3) := by decide +kernel
theorem dX11_code_34 : decode cX11_code 34 = .ok (.putfield 27, 3) := by decide +kernel
theorem dX11_code_37 : decode cX11_code 37 = .ok (.aload_n 0, 1) := by decide +kernel
theorem dX11_code_38 : decode cX11_code 38 = .ok (.aload_n 1, 1) := by decide +kernel
theorem dX11_code_39 : decode cX11_code 39 = .ok (.putfield 23, 3) := by decide +kernel
theorem dX11_code_42 : decode cX11_code 42 = .ok (.aload_n 0, 1) := by decide +kernel
theorem dX11_code_43 : decode cX11_code 43 = .ok (.iconst 0, 1) := by decide +kernel
theorem dX11_code_44 : decode cX11_code 44 = .ok (.putfield 72, 3) := by decide +kernel
theorem dX11_code_47 : decode cX11_code 47 = .ok (.aload_n 0, 1) := by decide +kernel
theorem dX11_code_48 : decode cX11_code 48 = .ok (.iconst 0, 1) := by decide +kernel
theorem dX11_code_49 : decode cX11_code 49 = .ok (.putfield 84, 3) := by decide +kernel
theorem dX11_code_52 : decode cX11_code 52 = .ok (.aload_n 0, 1) := by decide +kernel
theorem dX11_code_53 : decode cX11_code 53 = .ok (.iconst 0, 1) := by decide +kernel
theorem dX11_code_54 : decode cX11_code 54 = .ok (.putfield 87, 3) := by decide +kernel
theorem dX11_code_57 : decode cX11_code 57 = .ok (.aload_n 0, 1) := by decide +kernel
theorem dX11_code_58 : decode cX11_code 58 = .ok (.getfield 32, 3) := by decide +kernel
theorem dX11_code_61 : decode cX11_code 61 = .ok (.iconst 0, 1) := by decide +kernel
theorem dX11_code_62 : decode cX11_code 62 = .ok (.aaload, 1) := by decide +kernel
theorem dX11_code_63 : decode cX11_code 63 = .ok (.aload_n 0, 1) := by decide +kernel
theorem dX11_code_64 : decode cX11_code 64 = .ok (.getfield 23, 3) := by decide +kernel
theorem dX11_code_67 : decode cX11_code 67 = .ok (.invokevirtual 68, 3) := by decide +kernel
theorem dX11_code_70 : decode cX11_code 70 = .ok (.aload_n 0, 1) := by decide +kernel
theorem dX11_code_71 : decode cX11_code 71 = .ok (.getfield 49, 3) := by decide +kernel
theorem dX11_code_74 : decode cX11_code 74 = .ok (.invokevirtual 90, 3) := by decide +kernel
theorem dX11_code_77 : decode cX11_code 77 = .ok (.aload_n 0, 1) := by decide +kernel
theorem dX11_code_78 : decode cX11_code 78 = .ok (.getfield 63, 3) := by decide +kernel
theorem dX11_code_81 : decode cX11_code 81 = .ok (.invokevirtual 93, 3) := by decide +kernel
theorem dX11_code_84 : decode cX11_code 84 = .ok (.aload_n 0, 1) := by decide +kernel
theorem dX11_code_85 : decode cX11_code 85 = .ok (.iconst 0, 1) := by decide +kernel
theorem dX11_code_86 : decode cX11_code 86 = .ok (.putfield 94, 3) := by decide +kernel
theorem dX11_code_89 : decode cX11_code 89 = .ok (.aload_n 0, 1) := by decide +kernel
theorem dX11_code_90 : decode cX11_code 90 = .ok (.getfield 23, 3) := by decide +kernel
theorem dX11_code_93 : decode cX11_code 93 = .ok (.getfield 97, 3) := by decide +kernel
theorem dX11_code_96 : decode cX11_code 96 = .ok (.getfield 101, 3) := by decide +kernel
theorem dX11_code_99 : decode cX11_code 99 = .ok (.ireturn, 1) := by decide +kernel
theorem dX11_end_0 : decode cX11_end 0 = .ok (.iload_n 1, 1) := by decide +kernel
theorem dX11_end_1 : decode cX11_end 1 = .ok (.ifCond .lt 11, 3) := by decide +kernel
theorem dX11_end_4 : decode cX11_end 4 = .ok (.iload_n 1, 1) := by decide +kernel
theorem dX11_end_5 : decode cX11_end 5 = .ok (.aload_n 0, 1) := by decide +kernel
theorem dX11_end_6 : decode cX11_end 6 = .ok (.getfield 72, 3) := by decide +kernel
theorem dX11_end_9 : decode cX11_end 9 = .ok (.if_icmp .le 5, 3) := by decide +kernel
theorem dX11_end_12 : decode cX11_end 12 = .ok (.iconst (-1), 1) := by decide +kernel
theorem dX11_end_13 : decode cX11_end 13 = .ok (.ireturn, 1) := by decide +kernel
theorem dX11_end_14 : decode cX11_end 14 = .ok (.aload_n 0, 1) := by decide +kernel
theorem dX11_end_15 : decode cX11_end 15 = .ok (.iload_n 1, 1) := by decide +kernel
theorem dX11_end_16 : decode cX11_end 16 = .ok (.putfield 72, 3) := by decide +kernel
theorem dX11_end_19 : decode cX11_end 19 = .ok (.iload_n 1, 1) := by decide +kernel
theorem dX11_end_20 : decode cX11_end 20 = .ok (.ireturn, 1) := by decide +kernel
theorem dX11_fault_0 : decode cX11_fault 0 = .ok (.iload_n 1, 1) := by decide +kernel
theorem dX11_fault_1 : decode cX11_fault 1 = .ok (.lookupswitch 43 #[(0, 27), (1, 35)], 27) := by decide +kernel
theorem dX11_fault_28 : decode cX11_fault 28 = .ok (.aload_n 0, 1) := by decide +kernel
theorem dX11_fault_29 : decode cX11_fault 29 = .ok (.getfield 16, 3) := by decide +kernel
theorem dX11_fault_32 : decode cX11_fault 32 = .ok (.getfield 106, 3) := by decide +kernel
theorem dX11_fault_35 : decode cX11_fault 35 = .ok (.ireturn, 1) := by decide +kernel
theorem dX11_fault_36 : decode cX11_fault 36 = .ok (.aload_n 0, 1) := by decide +kernel
theorem dX11_fault_37 : decode cX11_fault 37 = .ok (.getfield 16, 3) := by decide +kernel
theorem dX11_fault_40 : decode cX11_fault 40 = .ok (.getfield 109, 3) := by decide +kernel
theorem dX11_fault_43 : decode cX11_fault 43 = .ok (.ireturn, 1) := by decide +kernel
theorem dX11_fault_44 : decode cX11_fault 44 = .ok (.iconst (-1), 1) := by decide +kernel
theorem dX11_fault_45 : decode cX11_fault 45 = .ok (.ireturn, 1) := by decide +kernel
theorem dX11_later_0 : decode cX11_later 0 = .ok (.iload_n 1, 1) := by decide +kernel
theorem dX11_later_1 : decode cX11_later 1 = .ok (.ifCond .lt 25, 3) := by decide +kernel
theorem dX11_later_4 : decode cX11_later 4 = .ok (.iload_n 1, 1) := by decide +kernel
theorem dX11_later_5 : decode cX11_later 5 = .ok (.sipush 1000, 3) := by decide +kernel
theorem dX11_later_8 : decode cX11_later 8 = .ok (.if_icmp .gt 18, 3) := by decide +kernel
theorem dX11_later_11 : decode cX11_later 11 = .ok (.aload_n 0, 1) := by decide +kernel
theorem dX11_later_12 : decode cX11_later 12 = .ok (.getfield 49, 3) := by decide +kernel
theorem dX11_later_15 : decode cX11_later 15 = .ok (.getfield 323, 3) := by decide +kernel
theorem dX11_later_18 : decode cX11_later 18 = .ok (.iload_n 1, 1) := by decide +kernel
theorem dX11_later_19 : decode cX11_later 19 = .ok (.iadd, 1) := by decide +kernel
theorem dX11_later_20 : decode cX11_later 20 = .ok (.ldc_w 326, 3) := by decide +kernel
theorem dX11_later_23 : decode cX11_later 23 = .ok (.if_icmp .le 5, 3) := by decide +kernel
theorem dX11_later_26 : decode cX11_later 26 = .ok (.iconst (-1), 1) := by decide +kernel
theorem dX11_later_27 : decode cX11_later 27 = .ok (.ireturn, 1) := by decide +kernel
theorem dX11_later_28 : decode cX11_later 28 = .ok (.aload_n 0, 1) := by decide +kernel
theorem dX11_later_29 : decode cX11_later 29 = .ok (.getfield 49, 3) := by decide +kernel
theorem dX11_later_32 : decode cX11_later 32 = .ok (.dup, 1) := by decide +kernel
theorem dX11_later_33 : decode cX11_later 33 = .ok (.getfield 323, 3) := by decide +kernel
theorem dX11_later_36 : decode cX11_later 36 = .ok (.iload_n 1, 1) := by decide +kernel
theorem dX11_later_37 : decode cX11_later 37 = .ok (.iadd, 1) := by decide +kernel
theorem dX11_later_38 : decode cX11_later 38 = .ok (.putfield 323, 3) := by decide +kernel
theorem dX11_later_41 : decode cX11_later 41 = .ok (.aload_n 0, 1) := by decide +kernel
theorem dX11_later_42 : decode cX11_later 42 = .ok (.getfield 49, 3) := by decide +kernel
theorem dX11_later_45 : decode cX11_later 45 = .ok (.getfield 323, 3) := by decide +kernel
theorem dX11_later_48 : decode cX11_later 48 = .ok (.ireturn, 1) := by decide +kernel
theorem dJ6_bitCount_0f7a4_0 : decode cJ6_bitCount_0f7a4 0 = .ok (.iload_n 0, 1) := by decide +kernel
theorem dJ6_bitCount_0f7a4_1 : decode cJ6_bitCount_0f7a4 1 = .ok (.iload_n 0, 1) := by decide +kernel
theorem dJ6_bitCount_0f7a4_2 : decode cJ6_bitCount_0f7a4 2 = .ok (.iconst 1, 1) := by decide +kernel
theorem dJ6_bitCount_0f7a4_3 : decode cJ6_bitCount_0f7a4 3 = .ok (.iushr, 1) := by decide +kernel
theorem dJ6_bitCount_0f7a4_4 : decode cJ6_bitCount_0f7a4 4 = .ok (.ldc_w 265, 3) := by decide +kernel
theorem dJ6_bitCount_0f7a4_7 : decode cJ6_bitCount_0f7a4 7 = .ok (.iand, 1) := by decide +kernel
theorem dJ6_bitCount_0f7a4_8 : decode cJ6_bitCount_0f7a4 8 = .ok (.isub, 1) := by decide +kernel
theorem dJ6_bitCount_0f7a4_9 : decode cJ6_bitCount_0f7a4 9 = .ok (.istore_n 0, 1) := by decide +kernel
theorem dJ6_bitCount_0f7a4_10 : decode cJ6_bitCount_0f7a4 10 = .ok (.iload_n 0, 1) := by decide +kernel
theorem dJ6_bitCount_0f7a4_11 : decode cJ6_bitCount_0f7a4 11 = .ok (.ldc_w 266, 3) := by decide +kernel
theorem dJ6_bitCount_0f7a4_14 : decode cJ6_bitCount_0f7a4 14 = .ok (.iand, 1) := by decide +kernel
theorem dJ6_bitCount_0f7a4_15 : decode cJ6_bitCount_0f7a4 15 = .ok (.iload_n 0, 1) := by decide +kernel
theorem dJ6_bitCount_0f7a4_16 : decode cJ6_bitCount_0f7a4 16 = .ok (.iconst 2, 1) := by decide +kernel
theorem dJ6_bitCount_0f7a4_17 : decode cJ6_bitCount_0f7a4 17 = .ok (.iushr, 1) := by decide +kernel
theorem dJ6_bitCount_0f7a4_18 : decode cJ6_bitCount_0f7a4 18 = .ok (.ldc_w 266, 3) := by decide +kernel
theorem dJ6_bitCount_0f7a4_21 : decode cJ6_bitCount_0f7a4 21 = .ok (.iand, 1) := by decide +kernel
theorem dJ6_bitCount_0f7a4_22 : decode cJ6_bitCount_0f7a4 22 = .ok (.iadd, 1) := by decide +kernel
theorem dJ6_bitCount_0f7a4_23 : decode cJ6_bitCount_0f7a4 23 = .ok (.istore_n 0, 1) := by decide +kernel
theorem dJ6_bitCount_0f7a4_24 : decode cJ6_bitCount_0f7a4 24 = .ok (.iload_n 0, 1) := by decide +kernel
theorem dJ6_bitCount_0f7a4_25 : decode cJ6_bitCount_0f7a4 25 = .ok (.iload_n 0, 1) := by decide +kernel
theorem dJ6_bitCount_0f7a4_26 : decode cJ6_bitCount_0f7a4 26 = .ok (.iconst 4, 1) := by decide +kernel
theorem dJ6_bitCount_0f7a4_27 : decode cJ6_bitCount_0f7a4 27 = .ok (.iushr, 1) := by decide +kernel
theorem dJ6_bitCount_0f7a4_28 : decode cJ6_bitCount_0f7a4 28 = .ok (.iadd, 1) := by decide +kernel
theorem dJ6_bitCount_0f7a4_29 : decode cJ6_bitCount_0f7a4 29 = .ok (.ldc_w 267, 3) := by decide +kernel
theorem dJ6_bitCount_0f7a4_32 : decode cJ6_bitCount_0f7a4 32 = .ok (.iand, 1) := by decide +kernel
theorem dJ6_bitCount_0f7a4_33 : decode cJ6_bitCount_0f7a4 33 = .ok (.istore_n 0, 1) := by decide +kernel
theorem dJ6_bitCount_0f7a4_34 : decode cJ6_bitCount_0f7a4 34 = .ok (.iload_n 0, 1) := by decide +kernel
theorem dJ6_bitCount_0f7a4_35 : decode cJ6_bitCount_0f7a4 35 = .ok (.iload_n 0, 1) := by decide +kernel
theorem dJ6_bitCount_0f7a4_36 : decode cJ6_bitCount_0f7a4 36 = .ok (.bipush 8, 2) := by decide +kernel
theorem dJ6_bitCount_0f7a4_38 : decode cJ6_bitCount_0f7a4 38 = .ok (.iushr, 1) := by decide +kernel
theorem dJ6_bitCount_0f7a4_39 : decode cJ6_bitCount_0f7a4 39 = .ok (.iadd, 1) := by decide +kernel
theorem dJ6_bitCount_0f7a4_40 : decode cJ6_bitCount_0f7a4 40 = .ok (.istore_n 0, 1) := by decide +kernel
theorem dJ6_bitCount_0f7a4_41 : decode cJ6_bitCount_0f7a4 41 = .ok (.iload_n 0, 1) := by decide +kernel
theorem dJ6_bitCount_0f7a4_42 : decode cJ6_bitCount_0f7a4 42 = .ok (.iload_n 0, 1) := by decide +kernel
theorem dJ6_bitCount_0f7a4_43 : decode cJ6_bitCount_0f7a4 43 = .ok (.bipush 16, 2) := by decide +kernel
theorem dJ6_bitCount_0f7a4_45 : decode cJ6_bitCount_0f7a4 45 = .ok (.iushr, 1) := by decide +kernel
theorem dJ6_bitCount_0f7a4_46 : decode cJ6_bitCount_0f7a4 46 = .ok (.iadd, 1) := by decide +kernel
theorem dJ6_bitCount_0f7a4_47 : decode cJ6_bitCount_0f7a4 47 = .ok (.istore_n 0, 1) := by decide +kernel
theorem dJ6_bitCount_0f7a4_48 : decode cJ6_bitCount_0f7a4 48 = .ok (.iload_n 0, 1) := by decide +kernel
theorem dJ6_bitCount_0f7a4_49 : decode cJ6_bitCount_0f7a4 49 = .ok (.bipush 63, 2) := by decide +kernel
theorem dJ6_bitCount_0f7a4_51 : decode cJ6_bitCount_0f7a4 51 = .ok (.iand, 1) := by decide +kernel
theorem dJ6_bitCount_0f7a4_52 : decode cJ6_bitCount_0f7a4 52 = .ok (.ireturn, 1) := by decide +kernel
theorem dX11_about_0 : decode cX11_about 0 = .ok (.aload_n 0, 1) := by decide +kernel
theorem dX11_about_1 : decode cX11_about 1 = .ok (.getfield 32, 3) := by decide +kernel
theorem dX11_about_4 : decode cX11_about 4 = .ok (.aload_n 0, 1) := by decide +kernel
theorem dX11_about_5 : decode cX11_about 5 = .ok (.getfield 84, 3) := by decide +kernel
theorem dX11_about_8 : decode cX11_about 8 = .ok (.aaload, 1) := by decide +kernel
theorem dX11_about_9 : decode cX11_about 9 = .ok (.astore_n 2, 1) := by decide +kernel
theorem dX11_about_10 : decode cX11_about 10 = .ok (.iload_n 1, 1) := by decide +kernel
theorem dX11_about_11 : decode cX11_about 11 = .ok (.tableswitch 198 0 15 #[77, 88, 99, 110, 115, 120, 125, 130, 138, 143, 148, 158, 166, 174, 179, 190], 77) := by decide +kernel
theorem dX11_about_88 : decode cX11_about 88 = .ok (.aload_n 0, 1) := by decide +kernel
theorem dX11_about_89 : decode cX11_about 89 = .ok (.getfield 23, 3) := by decide +kernel
theorem dX11_about_92 : decode cX11_about 92 = .ok (.getfield 97, 3) := by decide +kernel
theorem dX11_about_95 : decode cX11_about 95 = .ok (.getfield 101, 3) := by decide +kernel
theorem dX11_about_98 : decode cX11_about 98 = .ok (.ireturn, 1) := by decide +kernel
theorem dX11_about_99 : decode cX11_about 99 = .ok (.aload_n 0, 1) := by decide +kernel
theorem dX11_about_100 : decode cX11_about 100 = .ok (.getfield 23, 3) := by decide +kernel
theorem dX11_about_103 : decode cX11_about 103 = .ok (.getfield 331, 3) := by decide +kernel
theorem dX11_about_106 : decode cX11_about 106 = .ok (.getfield 335, 3) := by decide +kernel
theorem dX11_about_109 : decode cX11_about 109 = .ok (.ireturn, 1) := by decide +kernel
theorem dX11_about_110 : decode cX11_about 110 = .ok (.aload_n 0, 1) := by decide +kernel
theorem dX11_about_111 : decode cX11_about 111 = .ok (.getfield 23, 3) := by decide +kernel
theorem dX11_about_114 : decode cX11_about 114 = .ok (.getfield 157, 3) := by decide +kernel
theorem dX11_about_117 : decode cX11_about 117 = .ok (.getfield 338, 3) := by decide +kernel
theorem dX11_about_120 : decode cX11_about 120 = .ok (.ireturn, 1) := by decide +kernel
theorem dX11_about_121 : decode cX11_about 121 = .ok (.aload_n 2, 1) := by decide +kernel
theorem dX11_about_122 : decode cX11_about 122 = .ok (.getfield 207, 3) := by decide +kernel
theorem dX11_about_125 : decode cX11_about 125 = .ok (.ireturn, 1) := by decide +kernel
theorem dX11_about_126 : decode cX11_about 126 = .ok (.aload_n 2, 1) := by decide +kernel
theorem dX11_about_127 : decode cX11_about 127 = .ok (.getfield 243, 3) := by decide +kernel
theorem dX11_about_130 : decode cX11_about 130 = .ok (.ireturn, 1) := by decide +kernel
theorem dX11_about_131 : decode cX11_about 131 = .ok (.aload_n 2, 1) := by decide +kernel
theorem dX11_about_132 : decode cX11_about 132 = .ok (.getfield 339, 3) := by decide +kernel
theorem dX11_about_135 : decode cX11_about 135 = .ok (.ireturn, 1) := by decide +kernel
theorem dX11_about_136 : decode cX11_about 136 = .ok (.aload_n 2, 1) := by decide +kernel
theorem dX11_about_137 : decode cX11_about 137 = .ok (.getfield 342, 3) := by decide +kernel
theorem dX11_about_140 : decode cX11_about 140 = .ok (.ireturn, 1) := by decide +kernel
theorem dX11_about_141 : decode cX11_about 141 = .ok (.aload_n 2, 1) := by decide +kernel
theorem dX11_about_142 : decode cX11_about 142 = .ok (.getfield 345, 3) := by decide +kernel
theorem dX11_about_145 : decode cX11_about 145 = .ok (.invokestatic 151, 3) := by decide +kernel
theorem dX11_about_148 : decode cX11_about 148 = .ok (.ireturn, 1) := by decide +kernel
theorem dX11_about_149 : decode cX11_about 149 = .ok (.aload_n 2, 1) := by decide +kernel
theorem dX11_about_150 : decode cX11_about 150 = .ok (.getfield 311, 3) := by decide +kernel
theorem dX11_about_153 : decode cX11_about 153 = .ok (.ireturn, 1) := by decide +kernel
theorem dX11_about_154 : decode cX11_about 154 = .ok (.aload_n 0, 1) := by decide +kernel
theorem dX11_about_155 : decode cX11_about 155 = .ok (.getfield 84, 3) := by decide +kernel
theorem dX11_about_158 : decode cX11_about 158 = .ok (.ireturn, 1) := by decide +kernel
theorem dX11_about_159 : decode cX11_about 159 = .ok (.aload_n 0, 1) := by decide +kernel
theorem dX11_about_160 : decode cX11_about 160 = .ok (.getfield 87, 3) := by decide +kernel
theorem dX11_about_163 : decode cX11_about 163 = .ok (.aload_n 0, 1) := by decide +kernel
theorem dX11_about_164 : decode cX11_about 164 = .ok (.getfield 84, 3) := by decide +kernel
theorem dX11_about_167 : decode cX11_about 167 = .ok (.isub, 1) := by decide +kernel
theorem dX11_about_168 : decode cX11_about 168 = .ok (.ireturn, 1) := by decide +kernel
theorem dX11_about_169 : decode cX11_about 169 = .ok (.aload_n 0, 1) := by decide +kernel
theorem dX11_about_170 : decode cX11_about 170 = .ok (.getfield 49, 3) := by decide +kernel
theorem dX11_about_173 : decode cX11_about 173 = .ok (.getfield 348, 3) := by decide +kernel
theorem dX11_about_176 : decode cX11_about 176 = .ok (.ireturn, 1) := by decide +kernel
theorem dX11_about_177 : decode cX11_about 177 = .ok (.aload_n 0, 1) := by decide +kernel
theorem dX11_about_178 : decode cX11_about 178 = .ok (.getfield 49, 3) := by decide +kernel
theorem dX11_about_181 : decode cX11_about 181 = .ok (.getfield 323, 3) := by decide +kernel
theorem dX11_about_184 : decode cX11_about 184 = .ok (.ireturn, 1) := by decide +kernel
theorem dX11_about_185 : decode cX11_about 185 = .ok (.aload_n 0, 1) := by decide +kernel
theorem dX11_about_186 : decode cX11_about 186 = .ok (.getfield 72, 3) := by decide +kernel
theorem dX11_about_189 : decode cX11_about 189 = .ok (.ireturn, 1) := by decide +kernel
theorem dX11_about_190 : decode cX11_about 190 = .ok (.aload_n 0, 1) := by decide +kernel
theorem dX11_about_191 : decode cX11_about 191 = .ok (.getfield 23, 3) := by decide +kernel
theorem dX11_about_194 : decode cX11_about 194 = .ok (.getfield 331, 3) := by decide +kernel
theorem dX11_about_197 : decode cX11_about 197 = .ok (.getfield 349, 3) := by decide +kernel
theorem dX11_about_200 : decode cX11_about 200 = .ok (.ireturn, 1) := by decide +kernel
theorem dX11_about_201 : decode cX11_about 201 = .ok (.aload_n 0, 1) := by decide +kernel
theorem dX11_about_202 : decode cX11_about 202 = .ok (.getfield 63, 3) := by decide +kernel
theorem dX11_about_205 : decode cX11_about 205 = .ok (.getfield 307, 3) := by decide +kernel
theorem dX11_about_208 : decode cX11_about 208 = .ok (.ireturn, 1) := by decide +kernel
theorem dX11_about_209 : decode cX11_about 209 = .ok (.iconst (-1), 1) := by decide +kernel
theorem dX11_about_210 : decode cX11_about 210 = .ok (.ireturn, 1) := by decide +kernel
theorem dX11_nextState_0 : decode cX11_nextState 0 = .ok (.aload_n 0, 1) := by decide +kernel
theorem dX11_nextState_1 : decode cX11_nextState 1 = .ok (.getfield 84, 3) := by decide +kernel
theorem dX11_nextState_4 : decode cX11_nextState 4 = .ok (.bipush 40, 2) := by decide +kernel
theorem dX11_nextState_6 : decode cX11_nextState 6 = .ok (.if_icmp .ne 56, 3) := by decide +kernel
theorem dX11_nextState_62 : decode cX11_nextState 62 = .ok (.aload_n 0, 1) := by decide +kernel
theorem dX11_nextState_63 : decode cX11_nextState 63 = .ok (.getfield 32, 3) := by decide +kernel
theorem dX11_nextState_66 : decode cX11_nextState 66 = .ok (.aload_n 0, 1) := by decide +kernel
theorem dX11_nextState_67 : decode cX11_nextState 67 = .ok (.getfield 84, 3) := by decide +kernel
theorem dX11_nextState_70 : decode cX11_nextState 70 = .ok (.iconst 1, 1) := by decide +kernel
theorem dX11_nextState_71 : decode cX11_nextState 71 = .ok (.iadd, 1) := by decide +kernel
theorem dX11_nextState_72 : decode cX11_nextState 72 = .ok (.aaload, 1) := by decide +kernel
theorem dX11_nextState_73 : decode cX11_nextState 73 = .ok (.aload_n 0, 1) := by decide +kernel
theorem dX11_nextState_74 : decode cX11_nextState 74 = .ok (.getfield 32, 3) := by decide +kernel
theorem dX11_nextState_77 : decode cX11_nextState 77 = .ok (.aload_n 0, 1) := by decide +kernel
theorem dX11_nextState_78 : decode cX11_nextState 78 = .ok (.getfield 84, 3) := by decide +kernel
theorem dX11_nextState_81 : decode cX11_nextState 81 = .ok (.aaload, 1) := by decide +kernel
theorem dX11_nextState_82 : decode cX11_nextState 82 = .ok (.invokevirtual 213, 3) := by decide +kernel
theorem dX11_nextState_85 : decode cX11_nextState 85 = .ok (.aload_n 0, 1) := by decide +kernel
theorem dX11_nextState_86 : decode cX11_nextState 86 = .ok (.dup, 1) := by decide +kernel
theorem dX11_nextState_87 : decode cX11_nextState 87 = .ok (.getfield 84, 3) := by decide +kernel
theorem dX11_nextState_90 : decode cX11_nextState 90 = .ok (.iconst 1, 1) := by decide +kernel
theorem dX11_nextState_91 : decode cX11_nextState 91 = .ok (.iadd, 1) := by decide +kernel
theorem dX11_nextState_92 : decode cX11_nextState 92 = .ok (.putfield 84, 3) := by decide +kernel
theorem dX11_nextState_95 : decode cX11_nextState 95 = .ok (.aload_n 0, 1) := by decide +kernel
theorem dX11_nextState_96 : decode cX11_nextState 96 = .ok (.aload_n 0, 1) := by decide +kernel
theorem dX11_nextState_97 : decode cX11_nextState 97 = .ok (.getfield 84, 3) := by decide +kernel
theorem dX11_nextState_100 : decode cX11_nextState 100 = .ok (.putfield 87, 3) := by decide +kernel
theorem dX11_nextState_103 : decode cX11_nextState 103 = .ok (.aload_n 0, 1) := by decide +kernel
theorem dX11_nextState_104 : decode cX11_nextState 104 = .ok (.getfield 32, 3) := by decide +kernel
theorem dX11_nextState_107 : decode cX11_nextState 107 = .ok (.aload_n 0, 1) := by decide +kernel
theorem dX11_nextState_108 : decode cX11_nextState 108 = .ok (.getfield 84, 3) := by decide +kernel
theorem dX11_nextState_111 : decode cX11_nextState 111 = .ok (.aaload, 1) := by decide +kernel
theorem dX11_nextState_112 : decode cX11_nextState 112 = .ok (.areturn, 1) := by decide +kernel
theorem dX11_days_0 : decode cX11_days 0 = .ok (.iload_n 1, 1) := by decide +kernel
theorem dX11_days_1 : decode cX11_days 1 = .ok (.ifCond .lt 30, 3) := by decide +kernel
theorem dX11_days_4 : decode cX11_days 4 = .ok (.iload_n 1, 1) := by decide +kernel
theorem dX11_days_5 : decode cX11_days 5 = .ok (.sipush 400, 3) := by decide +kernel
theorem dX11_days_8 : decode cX11_days 8 = .ok (.if_icmp .gt 23, 3) := by decide +kernel
theorem dX11_days_11 : decode cX11_days 11 = .ok (.aload_n 0, 1) := by decide +kernel
theorem dX11_days_12 : decode cX11_days 12 = .ok (.getfield 32, 3) := by decide +kernel
theorem dX11_days_15 : decode cX11_days 15 = .ok (.aload_n 0, 1) := by decide +kernel
theorem dX11_days_16 : decode cX11_days 16 = .ok (.getfield 84, 3) := by decide +kernel
theorem dX11_days_19 : decode cX11_days 19 = .ok (.aaload, 1) := by decide +kernel
theorem dX11_days_20 : decode cX11_days 20 = .ok (.getfield 243, 3) := by decide +kernel
theorem dX11_days_23 : decode cX11_days 23 = .ok (.iload_n 1, 1) := by decide +kernel
theorem dX11_days_24 : decode cX11_days 24 = .ok (.iadd, 1) := by decide +kernel
theorem dX11_days_25 : decode cX11_days 25 = .ok (.sipush 9000, 3) := by decide +kernel
theorem dX11_days_28 : decode cX11_days 28 = .ok (.if_icmp .le 5, 3) := by decide +kernel
theorem dX11_days_31 : decode cX11_days 31 = .ok (.iconst (-1), 1) := by decide +kernel
theorem dX11_days_32 : decode cX11_days 32 = .ok (.ireturn, 1) := by decide +kernel
theorem dX11_days_33 : decode cX11_days 33 = .ok (.aload_n 0, 1) := by decide +kernel
theorem dX11_days_34 : decode cX11_days 34 = .ok (.invokevirtual 221, 3) := by decide +kernel
theorem dX11_days_37 : decode cX11_days 37 = .ok (.astore_n 2, 1) := by decide +kernel
theorem dX11_days_38 : decode cX11_days 38 = .ok (.iconst 0, 1) := by decide +kernel
theorem dX11_days_39 : decode cX11_days 39 = .ok (.istore_n 3, 1) := by decide +kernel
theorem dX11_days_40 : decode cX11_days 40 = .ok (.iload_n 3, 1) := by decide +kernel
theorem dX11_days_41 : decode cX11_days 41 = .ok (.iload_n 1, 1) := by decide +kernel
theorem dX11_days_42 : decode cX11_days 42 = .ok (.if_icmp .ge 17, 3) := by decide +kernel
theorem dX11_days_45 : decode cX11_days 45 = .ok (.aload_n 2, 1) := by decide +kernel
theorem dX11_days_46 : decode cX11_days 46 = .ok (.aload_n 0, 1) := by decide +kernel
theorem dX11_days_47 : decode cX11_days 47 = .ok (.getfield 23, 3) := by decide +kernel
theorem dX11_days_50 : decode cX11_days 50 = .ok (.invokevirtual 253, 3) := by decide +kernel
theorem dX11_days_53 : decode cX11_days 53 = .ok (.iinc 3 1, 3) := by decide +kernel
theorem dX11_days_56 : decode cX11_days 56 = .ok (.goto (-16), 3) := by decide +kernel
theorem dX11_days_59 : decode cX11_days 59 = .ok (.aload_n 2, 1) := by decide +kernel
theorem dX11_days_60 : decode cX11_days 60 = .ok (.getfield 243, 3) := by decide +kernel
theorem dX11_days_63 : decode cX11_days 63 = .ok (.ireturn, 1) := by decide +kernel
theorem dX11_image_0 : decode cX11_image 0 = .ok (.iload_n 1, 1) := by decide +kernel
theorem dX11_image_1 : decode cX11_image 1 = .ok (.ifCond .lt 8, 3) := by decide +kernel
theorem dX11_image_4 : decode cX11_image 4 = .ok (.iload_n 1, 1) := by decide +kernel
theorem dX11_image_5 : decode cX11_image 5 = .ok (.iconst 3, 1) := by decide +kernel
theorem dX11_image_6 : decode cX11_image 6 = .ok (.if_icmp .lt 5, 3) := by decide +kernel
theorem dX11_image_9 : decode cX11_image 9 = .ok (.iconst (-1), 1) := by decide +kernel
theorem dX11_image_10 : decode cX11_image 10 = .ok (.ireturn, 1) := by decide +kernel
theorem dX11_image_11 : decode cX11_image 11 = .ok (.aload_n 0, 1) := by decide +kernel
theorem dX11_image_12 : decode cX11_image 12 = .ok (.getfield 36, 3) := by decide +kernel
theorem dX11_image_15 : decode cX11_image 15 = .ok (.iload_n 1, 1) := by decide +kernel
theorem dX11_image_16 : decode cX11_image 16 = .ok (.aaload, 1) := by decide +kernel
theorem dX11_image_17 : decode cX11_image 17 = .ok (.aload_n 0, 1) := by decide +kernel
theorem dX11_image_18 : decode cX11_image 18 = .ok (.getfield 32, 3) := by decide +kernel
theorem dX11_image_21 : decode cX11_image 21 = .ok (.aload_n 0, 1) := by decide +kernel
theorem dX11_image_22 : decode cX11_image 22 = .ok (.getfield 84, 3) := by decide +kernel
theorem dX11_image_25 : decode cX11_image 25 = .ok (.aaload, 1) := by decide +kernel
theorem dX11_image_26 : decode cX11_image 26 = .ok (.invokevirtual 213, 3) := by decide +kernel
theorem dX11_image_29 : decode cX11_image 29 = .ok (.aload_n 0, 1) := by decide +kernel
theorem dX11_image_30 : decode cX11_image 30 = .ok (.dup, 1) := by decide +kernel
theorem dX11_image_31 : decode cX11_image 31 = .ok (.getfield 94, 3) := by decide +kernel
theorem dX11_image_34 : decode cX11_image 34 = .ok (.iconst 1, 1) := by decide +kernel
theorem dX11_image_35 : decode cX11_image 35 = .ok (.iload_n 1, 1) := by decide +kernel
theorem dX11_image_36 : decode cX11_image 36 = .ok (.ishl, 1) := by decide +kernel
theorem dX11_image_37 : decode cX11_image 37 = .ok (.ior, 1) := by decide +kernel
theorem dX11_image_38 : decode cX11_image 38 = .ok (.putfield 94, 3) := by decide +kernel
theorem dX11_image_41 : decode cX11_image 41 = .ok (.aload_n 0, 1) := by decide +kernel
theorem dX11_image_42 : decode cX11_image 42 = .ok (.getfield 32, 3) := by decide +kernel
theorem dX11_image_45 : decode cX11_image 45 = .ok (.aload_n 0, 1) := by decide +kernel
theorem dX11_image_46 : decode cX11_image 46 = .ok (.getfield 84, 3) := by decide +kernel
theorem dX11_image_49 : decode cX11_image 49 = .ok (.aaload, 1) := by decide +kernel
theorem dX11_image_50 : decode cX11_image 50 = .ok (.getfield 243, 3) := by decide +kernel
theorem dX11_image_53 : decode cX11_image 53 = .ok (.ireturn, 1) := by decide +kernel
theorem dX11_feedNumber_0 : decode cX11_feedNumber 0 = .ok (.bipush 24, 2) := by decide +kernel
theorem dX11_feedNumber_2 : decode cX11_feedNumber 2 = .ok (.istore_n 2, 1) := by decide +kernel
theorem dX11_feedNumber_3 : decode cX11_feedNumber 3 = .ok (.iload_n 2, 1) := by decide +kernel
theorem dX11_feedNumber_4 : decode cX11_feedNumber 4 = .ok (.ifCond .lt 32, 3) := by decide +kernel
theorem dX11_feedNumber_7 : decode cX11_feedNumber 7 = .ok (.aload_n 0, 1) := by decide +kernel
theorem dX11_feedNumber_8 : decode cX11_feedNumber 8 = .ok (.getfield 9, 3) := by decide +kernel
theorem dX11_feedNumber_11 : decode cX11_feedNumber 11 = .ok (.aload_n 0, 1) := by decide +kernel
theorem dX11_feedNumber_12 : decode cX11_feedNumber 12 = .ok (.getfield 72, 3) := by decide +kernel
theorem dX11_feedNumber_15 : decode cX11_feedNumber 15 = .ok (.iload_n 1, 1) := by decide +kernel
theorem dX11_feedNumber_16 : decode cX11_feedNumber 16 = .ok (.iload_n 2, 1) := by decide +kernel
theorem dX11_feedNumber_17 : decode cX11_feedNumber 17 = .ok (.ishr, 1) := by decide +kernel
theorem dX11_feedNumber_18 : decode cX11_feedNumber 18 = .ok (.i2b, 1) := by decide +kernel
theorem dX11_feedNumber_19 : decode cX11_feedNumber 19 = .ok (.bastore, 1) := by decide +kernel
theorem dX11_feedNumber_20 : decode cX11_feedNumber 20 = .ok (.aload_n 0, 1) := by decide +kernel
theorem dX11_feedNumber_21 : decode cX11_feedNumber 21 = .ok (.dup, 1) := by decide +kernel
theorem dX11_feedNumber_22 : decode cX11_feedNumber 22 = .ok (.getfield 72, 3) := by decide +kernel
theorem dX11_feedNumber_25 : decode cX11_feedNumber 25 = .ok (.iconst 1, 1) := by decide +kernel
theorem dX11_feedNumber_26 : decode cX11_feedNumber 26 = .ok (.iadd, 1) := by decide +kernel
theorem dX11_feedNumber_27 : decode cX11_feedNumber 27 = .ok (.putfield 72, 3) := by decide +kernel
theorem dX11_feedNumber_30 : decode cX11_feedNumber 30 = .ok (.iinc 2 (-8), 3) := by decide +kernel
theorem dX11_feedNumber_33 : decode cX11_feedNumber 33 = .ok (.goto (-30), 3) := by decide +kernel
theorem dX11_feedNumber_36 : decode cX11_feedNumber 36 = .ok (.return_, 1) := by decide +kernel
theorem dX11_feed_0 : decode cX11_feed 0 = .ok (.aload_n 0, 1) := by decide +kernel
theorem dX11_feed_1 : decode cX11_feed 1 = .ok (.getfield 72, 3) := by decide +kernel
theorem dX11_feed_4 : decode cX11_feed 4 = .ok (.bipush 20, 2) := by decide +kernel
theorem dX11_feed_6 : decode cX11_feed 6 = .ok (.iadd, 1) := by decide +kernel
theorem dX11_feed_7 : decode cX11_feed 7 = .ok (.sipush 1600, 3) := by decide +kernel
theorem dX11_feed_10 : decode cX11_feed 10 = .ok (.if_icmp .le 5, 3) := by decide +kernel
theorem dX11_feed_15 : decode cX11_feed 15 = .ok (.aload_n 0, 1) := by decide +kernel
theorem dX11_feed_16 : decode cX11_feed 16 = .ok (.iload_n 1, 1) := by decide +kernel
theorem dX11_feed_17 : decode cX11_feed 17 = .ok (.invokevirtual 76, 3) := by decide +kernel
theorem dX11_feed_20 : decode cX11_feed 20 = .ok (.aload_n 0, 1) := by decide +kernel
theorem dX11_feed_21 : decode cX11_feed 21 = .ok (.iload_n 2, 1) := by decide +kernel
theorem dX11_feed_22 : decode cX11_feed 22 = .ok (.invokevirtual 76, 3) := by decide +kernel
theorem dX11_feed_25 : decode cX11_feed 25 = .ok (.aload_n 0, 1) := by decide +kernel
theorem dX11_feed_26 : decode cX11_feed 26 = .ok (.iload_n 3, 1) := by decide +kernel
theorem dX11_feed_27 : decode cX11_feed 27 = .ok (.invokevirtual 76, 3) := by decide +kernel
theorem dX11_feed_30 : decode cX11_feed 30 = .ok (.aload_n 0, 1) := by decide +kernel
theorem dX11_feed_31 : decode cX11_feed 31 = .ok (.iload 4, 2) := by decide +kernel
theorem dX11_feed_33 : decode cX11_feed 33 = .ok (.invokevirtual 76, 3) := by decide +kernel
theorem dX11_feed_36 : decode cX11_feed 36 = .ok (.aload_n 0, 1) := by decide +kernel
theorem dX11_feed_37 : decode cX11_feed 37 = .ok (.iload 5, 2) := by decide +kernel
theorem dX11_feed_39 : decode cX11_feed 39 = .ok (.invokevirtual 76, 3) := by decide +kernel
theorem dX11_feed_42 : decode cX11_feed 42 = .ok (.aload_n 0, 1) := by decide +kernel
theorem dX11_feed_43 : decode cX11_feed 43 = .ok (.getfield 72, 3) := by decide +kernel
theorem dX11_feed_46 : decode cX11_feed 46 = .ok (.ireturn, 1) := by decide +kernel
theorem dX12_isIn_0 : decode cX12_isIn 0 = .ok (.iload_n 0, 1) := by decide +kernel
theorem dX12_isIn_1 : decode cX12_isIn 1 = .ok (.iload_n 1, 1) := by decide +kernel
theorem dX12_isIn_2 : decode cX12_isIn 2 = .ok (.if_icmp .lt 12, 3) := by decide +kernel
theorem dX12_isIn_5 : decode cX12_isIn 5 = .ok (.iload_n 0, 1) := by decide +kernel
theorem dX12_isIn_6 : decode cX12_isIn 6 = .ok (.iload_n 2, 1) := by decide +kernel
theorem dX12_isIn_7 : decode cX12_isIn 7 = .ok (.if_icmp .gt 7, 3) := by decide +kernel
theorem dX12_isIn_10 : decode cX12_isIn 10 = .ok (.iconst 1, 1) := by decide +kernel
theorem dX12_isIn_11 : decode cX12_isIn 11 = .ok (.goto 4, 3) := by decide +kernel
theorem dX12_isIn_14 : decode cX12_isIn 14 = .ok (.iconst 0, 1) := by decide +kernel
theorem dX12_isIn_15 : decode cX12_isIn 15 = .ok (.ireturn, 1) := by decide +kernel
theorem dX12_isMan_0 : decode cX12_isMan 0 = .ok (.iload_n 1, 1) := by decide +kernel
theorem dX12_isMan_1 : decode cX12_isMan 1 = .ok (.iconst 0, 1) := by decide +kernel
theorem dX12_isMan_2 : decode cX12_isMan 2 = .ok (.aload_n 0, 1) := by decide +kernel
theorem dX12_isMan_3 : decode cX12_isMan 3 = .ok (.getfield 20, 3) := by decide +kernel
theorem dX12_isMan_6 : decode cX12_isMan 6 = .ok (.aload_n 0, 1) := by decide +kernel
theorem dX12_isMan_7 : decode cX12_isMan 7 = .ok (.getfield 308, 3) := by decide +kernel
theorem dX12_isMan_10 : decode cX12_isMan 10 = .ok (.iaload, 1) := by decide +kernel
theorem dX12_isMan_11 : decode cX12_isMan 11 = .ok (.iconst 1, 1) := by decide +kernel
theorem dX12_isMan_12 : decode cX12_isMan 12 = .ok (.isub, 1) := by decide +kernel
theorem dX12_isMan_13 : decode cX12_isMan 13 = .ok (.invokestatic 411, 3) := by decide +kernel
theorem dX12_isMan_16 : decode cX12_isMan 16 = .ok (.ireturn, 1) := by decide +kernel
theorem dX12_isReason_0 : decode cX12_isReason 0 = .ok (.iload_n 1, 1) := by decide +kernel
theorem dX12_isReason_1 : decode cX12_isReason 1 = .ok (.iconst 0, 1) := by decide +kernel
theorem dX12_isReason_2 : decode cX12_isReason 2 = .ok (.aload_n 0, 1) := by decide +kernel
theorem dX12_isReason_3 : decode cX12_isReason 3 = .ok (.getfield 27, 3) := by decide +kernel
theorem dX12_isReason_6 : decode cX12_isReason 6 = .ok (.aload_n 0, 1) := by decide +kernel
theorem dX12_isReason_7 : decode cX12_isReason 7 = .ok (.getfield 308, 3) := by decide +kernel
theorem dX12_isReason_10 : decode cX12_isReason 10 = .ok (.iaload, 1) := by decide +kernel
theorem dX12_isReason_11 : decode cX12_isReason 11 = .ok (.iconst 1, 1) := by decide +kernel
theorem dX12_isReason_12 : decode cX12_isReason 12 = .ok (.isub, 1) := by decide +kernel
theorem dX12_isReason_13 : decode cX12_isReason 13 = .ok (.invokestatic 411, 3) := by decide +kernel
theorem dX12_isReason_16 : decode cX12_isReason 16 = .ok (.ireturn, 1) := by decide +kernel
theorem dX12_isDuel_0 : decode cX12_isDuel 0 = .ok (.iload_n 1, 1) := by decide +kernel
theorem dX12_isDuel_1 : decode cX12_isDuel 1 = .ok (.iconst 0, 1) := by decide +kernel
theorem dX12_isDuel_2 : decode cX12_isDuel 2 = .ok (.aload_n 0, 1) := by decide +kernel
theorem dX12_isDuel_3 : decode cX12_isDuel 3 = .ok (.getfield 119, 3) := by decide +kernel
theorem dX12_isDuel_6 : decode cX12_isDuel 6 = .ok (.bipush 70, 2) := by decide +kernel
theorem dX12_isDuel_8 : decode cX12_isDuel 8 = .ok (.iaload, 1) := by decide +kernel
theorem dX12_isDuel_9 : decode cX12_isDuel 9 = .ok (.iconst 1, 1) := by decide +kernel
theorem dX12_isDuel_10 : decode cX12_isDuel 10 = .ok (.isub, 1) := by decide +kernel
theorem dX12_isDuel_11 : decode cX12_isDuel 11 = .ok (.invokestatic 411, 3) := by decide +kernel
theorem dX12_isDuel_14 : decode cX12_isDuel 14 = .ok (.ireturn, 1) := by decide +kernel
theorem dX12_isOpen_0 : decode cX12_isOpen 0 = .ok (.aload_n 0, 1) := by decide +kernel
theorem dX12_isOpen_1 : decode cX12_isOpen 1 = .ok (.iload_n 1, 1) := by decide +kernel
theorem dX12_isOpen_2 : decode cX12_isOpen 2 = .ok (.invokevirtual 415, 3) := by decide +kernel
theorem dX12_isOpen_5 : decode cX12_isOpen 5 = .ok (.ifCond .eq 17, 3) := by decide +kernel
theorem dX12_isOpen_22 : decode cX12_isOpen 22 = .ok (.iconst 0, 1) := by decide +kernel
theorem dX12_isOpen_23 : decode cX12_isOpen 23 = .ok (.ireturn, 1) := by decide +kernel
theorem dX12_isSide_0 : decode cX12_isSide 0 = .ok (.iload_n 0, 1) := by decide +kernel
theorem dX12_isSide_1 : decode cX12_isSide 1 = .ok (.ifCond .eq 8, 3) := by decide +kernel
theorem dX12_isSide_4 : decode cX12_isSide 4 = .ok (.iload_n 0, 1) := by decide +kernel
theorem dX12_isSide_5 : decode cX12_isSide 5 = .ok (.iconst 1, 1) := by decide +kernel
theorem dX12_isSide_6 : decode cX12_isSide 6 = .ok (.if_icmp .ne 7, 3) := by decide +kernel
theorem dX12_isSide_9 : decode cX12_isSide 9 = .ok (.iconst 1, 1) := by decide +kernel
theorem dX12_isSide_10 : decode cX12_isSide 10 = .ok (.goto 4, 3) := by decide +kernel
theorem dX12_isSide_13 : decode cX12_isSide 13 = .ok (.iconst 0, 1) := by decide +kernel
theorem dX12_isSide_14 : decode cX12_isSide 14 = .ok (.ireturn, 1) := by decide +kernel
theorem dX12_openMany_0 : decode cX12_openMany 0 = .ok (.iconst 0, 1) := by decide +kernel
theorem dX12_openMany_1 : decode cX12_openMany 1 = .ok (.istore_n 1, 1) := by decide +kernel
theorem dX12_openMany_2 : decode cX12_openMany 2 = .ok (.iconst 0, 1) := by decide +kernel
theorem dX12_openMany_3 : decode cX12_openMany 3 = .ok (.istore_n 2, 1) := by decide +kernel
theorem dX12_openMany_4 : decode cX12_openMany 4 = .ok (.iload_n 2, 1) := by decide +kernel
theorem dX12_openMany_5 : decode cX12_openMany 5 = .ok (.aload_n 0, 1) := by decide +kernel
theorem dX12_openMany_6 : decode cX12_openMany 6 = .ok (.getfield 119, 3) := by decide +kernel
theorem dX12_openMany_9 : decode cX12_openMany 9 = .ok (.bipush 70, 2) := by decide +kernel
theorem dX12_openMany_11 : decode cX12_openMany 11 = .ok (.iaload, 1) := by decide +kernel
theorem dX12_openMany_12 : decode cX12_openMany 12 = .ok (.if_icmp .ge 18, 3) := by decide +kernel
theorem dX12_openMany_30 : decode cX12_openMany 30 = .ok (.iload_n 1, 1) := by decide +kernel
theorem dX12_openMany_31 : decode cX12_openMany 31 = .ok (.ireturn, 1) := by decide +kernel
theorem dX12_isGood_0 : decode cX12_isGood 0 = .ok (.aload_n 0, 1) := by decide +kernel
theorem dX12_isGood_1 : decode cX12_isGood 1 = .ok (.getfield 185, 3) := by decide +kernel
theorem dX12_isGood_4 : decode cX12_isGood 4 = .ok (.ifCond .ne 7, 3) := by decide +kernel
theorem dX12_isGood_7 : decode cX12_isGood 7 = .ok (.iconst 1, 1) := by decide +kernel
theorem dX12_isGood_8 : decode cX12_isGood 8 = .ok (.goto 4, 3) := by decide +kernel
theorem dX12_isGood_12 : decode cX12_isGood 12 = .ok (.ireturn, 1) := by decide +kernel
theorem dX12_man_0 : decode cX12_man 0 = .ok (.aload_n 0, 1) := by decide +kernel
theorem dX12_man_1 : decode cX12_man 1 = .ok (.iload_n 1, 1) := by decide +kernel
theorem dX12_man_2 : decode cX12_man 2 = .ok (.invokevirtual 437, 3) := by decide +kernel
theorem dX12_man_5 : decode cX12_man 5 = .ok (.ifCond .ne 6, 3) := by decide +kernel
theorem dX12_man_8 : decode cX12_man 8 = .ok (.bipush (-2), 2) := by decide +kernel
theorem dX12_man_10 : decode cX12_man 10 = .ok (.ireturn, 1) := by decide +kernel
theorem dX12_duel_0 : decode cX12_duel 0 = .ok (.aload_n 0, 1) := by decide +kernel
theorem dX12_duel_1 : decode cX12_duel 1 = .ok (.iload_n 1, 1) := by decide +kernel
theorem dX12_duel_2 : decode cX12_duel 2 = .ok (.invokevirtual 415, 3) := by decide +kernel
theorem dX12_duel_5 : decode cX12_duel 5 = .ok (.ifCond .eq 12, 3) := by decide +kernel
theorem dX12_duel_17 : decode cX12_duel 17 = .ok (.bipush (-2), 2) := by decide +kernel
theorem dX12_duel_19 : decode cX12_duel 19 = .ok (.ireturn, 1) := by decide +kernel
theorem dX12_reason_0 : decode cX12_reason 0 = .ok (.aload_n 0, 1) := by decide +kernel
theorem dX12_reason_1 : decode cX12_reason 1 = .ok (.iload_n 1, 1) := by decide +kernel
theorem dX12_reason_2 : decode cX12_reason 2 = .ok (.invokevirtual 449, 3) := by decide +kernel
theorem dX12_reason_5 : decode cX12_reason 5 = .ok (.ifCond .ne 6, 3) := by decide +kernel
theorem dX12_reason_8 : decode cX12_reason 8 = .ok (.bipush (-2), 2) := by decide +kernel
theorem dX12_reason_10 : decode cX12_reason 10 = .ok (.ireturn, 1) := by decide +kernel
theorem dX12_worth_0 : decode cX12_worth 0 = .ok (.aload_n 0, 1) := by decide +kernel
theorem dX12_worth_1 : decode cX12_worth 1 = .ok (.iload_n 1, 1) := by decide +kernel
theorem dX12_worth_2 : decode cX12_worth 2 = .ok (.invokevirtual 415, 3) := by decide +kernel
theorem dX12_worth_5 : decode cX12_worth 5 = .ok (.ifCond .eq 44, 3) := by decide +kernel
theorem dX12_worth_49 : decode cX12_worth 49 = .ok (.iconst (-1), 1) := by decide +kernel
theorem dX12_worth_50 : decode cX12_worth 50 = .ok (.ireturn, 1) := by decide +kernel
theorem dX12_may_0 : decode cX12_may 0 = .ok (.aload_n 0, 1) := by decide +kernel
theorem dX12_may_1 : decode cX12_may 1 = .ok (.iload_n 1, 1) := by decide +kernel
theorem dX12_may_2 : decode cX12_may 2 = .ok (.invokevirtual 415, 3) := by decide +kernel
theorem dX12_may_5 : decode cX12_may 5 = .ok (.ifCond .eq 10, 3) := by decide +kernel
theorem dX12_may_15 : decode cX12_may 15 = .ok (.iconst (-1), 1) := by decide +kernel
theorem dX12_may_16 : decode cX12_may 16 = .ok (.ireturn, 1) := by decide +kernel
theorem dX12_next_0 : decode cX12_next 0 = .ok (.iload_n 1, 1) := by decide +kernel
theorem dX12_next_1 : decode cX12_next 1 = .ok (.iconst 0, 1) := by decide +kernel
theorem dX12_next_2 : decode cX12_next 2 = .ok (.iconst 1, 1) := by decide +kernel
theorem dX12_next_3 : decode cX12_next 3 = .ok (.invokestatic 411, 3) := by decide +kernel
theorem dX12_next_6 : decode cX12_next 6 = .ok (.ifCond .ne 5, 3) := by decide +kernel
theorem dX12_next_9 : decode cX12_next 9 = .ok (.iconst (-1), 1) := by decide +kernel
theorem dX12_next_10 : decode cX12_next 10 = .ok (.ireturn, 1) := by decide +kernel
theorem dX12_next_11 : decode cX12_next 11 = .ok (.iconst (-1), 1) := by decide +kernel
theorem dX12_next_12 : decode cX12_next 12 = .ok (.istore_n 2, 1) := by decide +kernel
theorem dX12_next_13 : decode cX12_next 13 = .ok (.iconst 0, 1) := by decide +kernel
theorem dX12_next_14 : decode cX12_next 14 = .ok (.istore_n 3, 1) := by decide +kernel
theorem dX12_next_15 : decode cX12_next 15 = .ok (.iload_n 3, 1) := by decide +kernel
theorem dX12_next_16 : decode cX12_next 16 = .ok (.aload_n 0, 1) := by decide +kernel
theorem dX12_next_17 : decode cX12_next 17 = .ok (.getfield 119, 3) := by decide +kernel
theorem dX12_next_20 : decode cX12_next 20 = .ok (.bipush 70, 2) := by decide +kernel
theorem dX12_next_22 : decode cX12_next 22 = .ok (.iaload, 1) := by decide +kernel
theorem dX12_next_23 : decode cX12_next 23 = .ok (.if_icmp .ge 38, 3) := by decide +kernel
theorem dX12_next_61 : decode cX12_next 61 = .ok (.iload_n 2, 1) := by decide +kernel
theorem dX12_next_62 : decode cX12_next 62 = .ok (.ifCond .ge 7, 3) := by decide +kernel
theorem dX12_next_65 : decode cX12_next 65 = .ok (.iconst (-1), 1) := by decide +kernel
theorem dX12_next_66 : decode cX12_next 66 = .ok (.goto 17, 3) := by decide +kernel
theorem dX12_next_83 : decode cX12_next 83 = .ok (.ireturn, 1) := by decide +kernel
theorem dX12_heir_0 : decode cX12_heir 0 = .ok (.aload_n 0, 1) := by decide +kernel
theorem dX12_heir_1 : decode cX12_heir 1 = .ok (.iload_n 1, 1) := by decide +kernel
theorem dX12_heir_2 : decode cX12_heir 2 = .ok (.invokevirtual 437, 3) := by decide +kernel
theorem dX12_heir_5 : decode cX12_heir 5 = .ok (.ifCond .eq 11, 3) := by decide +kernel
theorem dX12_heir_16 : decode cX12_heir 16 = .ok (.iconst (-1), 1) := by decide +kernel
theorem dX12_heir_17 : decode cX12_heir 17 = .ok (.ireturn, 1) := by decide +kernel
theorem dX12_his_0 : decode cX12_his 0 = .ok (.aload_n 0, 1) := by decide +kernel
theorem dX12_his_1 : decode cX12_his 1 = .ok (.iload_n 1, 1) := by decide +kernel
theorem dX12_his_2 : decode cX12_his 2 = .ok (.invokevirtual 437, 3) := by decide +kernel
theorem dX12_his_5 : decode cX12_his 5 = .ok (.ifCond .ne 5, 3) := by decide +kernel
theorem dX12_his_8 : decode cX12_his 8 = .ok (.iconst (-1), 1) := by decide +kernel
theorem dX12_his_9 : decode cX12_his 9 = .ok (.ireturn, 1) := by decide +kernel
theorem dX12_comes_0 : decode cX12_comes 0 = .ok (.aload_n 0, 1) := by decide +kernel
theorem dX12_comes_1 : decode cX12_comes 1 = .ok (.iload_n 1, 1) := by decide +kernel
theorem dX12_comes_2 : decode cX12_comes 2 = .ok (.invokevirtual 437, 3) := by decide +kernel
theorem dX12_comes_5 : decode cX12_comes 5 = .ok (.ifCond .eq 11, 3) := by decide +kernel
theorem dX12_comes_16 : decode cX12_comes 16 = .ok (.iconst (-1), 1) := by decide +kernel
theorem dX12_comes_17 : decode cX12_comes 17 = .ok (.ireturn, 1) := by decide +kernel
theorem dX12_put_0 : decode cX12_put 0 = .ok (.aload_n 0, 1) := by decide +kernel
theorem dX12_put_1 : decode cX12_put 1 = .ok (.iload_n 1, 1) := by decide +kernel
theorem dX12_put_2 : decode cX12_put 2 = .ok (.invokevirtual 415, 3) := by decide +kernel
theorem dX12_put_5 : decode cX12_put 5 = .ok (.ifCond .eq 28, 3) := by decide +kernel
theorem dX12_put_33 : decode cX12_put 33 = .ok (.iconst (-1), 1) := by decide +kernel
theorem dX12_put_34 : decode cX12_put 34 = .ok (.ireturn, 1) := by decide +kernel
theorem dX12_rent_0 : decode cX12_rent 0 = .ok (.aload_n 0, 1) := by decide +kernel
theorem dX12_rent_1 : decode cX12_rent 1 = .ok (.iload_n 1, 1) := by decide +kernel
theorem dX12_rent_2 : decode cX12_rent 2 = .ok (.invokevirtual 437, 3) := by decide +kernel
theorem dX12_rent_5 : decode cX12_rent 5 = .ok (.ifCond .eq 19, 3) := by decide +kernel
theorem dX12_rent_24 : decode cX12_rent 24 = .ok (.iconst (-1), 1) := by decide +kernel
theorem dX12_rent_25 : decode cX12_rent 25 = .ok (.ireturn, 1) := by decide +kernel
theorem dX12_strike_0 : decode cX12_strike 0 = .ok (.aload_n 0, 1) := by decide +kernel
theorem dX12_strike_1 : decode cX12_strike 1 = .ok (.iload_n 1, 1) := by decide +kernel
theorem dX12_strike_2 : decode cX12_strike 2 = .ok (.invokevirtual 449, 3) := by decide +kernel
theorem dX12_strike_5 : decode cX12_strike 5 = .ok (.ifCond .eq 11, 3) := by decide +kernel
theorem dX12_strike_16 : decode cX12_strike 16 = .ok (.iconst 0, 1) := by decide +kernel
theorem dX12_strike_17 : decode cX12_strike 17 = .ok (.ireturn, 1) := by decide +kernel
theorem dX12_insult_0 : decode cX12_insult 0 = .ok (.aload_n 0, 1) := by decide +kernel
theorem dX12_insult_1 : decode cX12_insult 1 = .ok (.iload_n 1, 1) := by decide +kernel
theorem dX12_insult_2 : decode cX12_insult 2 = .ok (.invokevirtual 437, 3) := by decide +kernel
theorem dX12_insult_5 : decode cX12_insult 5 = .ok (.ifCond .eq 53, 3) := by decide +kernel
theorem dX12_insult_58 : decode cX12_insult 58 = .ok (.iconst (-1), 1) := by decide +kernel
theorem dX12_insult_59 : decode cX12_insult 59 = .ok (.ireturn, 1) := by decide +kernel
theorem dX12_undo_0 : decode cX12_undo 0 = .ok (.aload_n 0, 1) := by decide +kernel
theorem dX12_undo_1 : decode cX12_undo 1 = .ok (.getfield 425, 3) := by decide +kernel
theorem dX12_undo_4 : decode cX12_undo 4 = .ok (.ifCond .ne 5, 3) := by decide +kernel
theorem dX12_undo_7 : decode cX12_undo 7 = .ok (.iconst 0, 1) := by decide +kernel
theorem dX12_undo_8 : decode cX12_undo 8 = .ok (.ireturn, 1) := by decide +kernel
theorem dX12_redo_0 : decode cX12_redo 0 = .ok (.aload_n 0, 1) := by decide +kernel
theorem dX12_redo_1 : decode cX12_redo 1 = .ok (.getfield 428, 3) := by decide +kernel
theorem dX12_redo_4 : decode cX12_redo 4 = .ok (.ifCond .ne 5, 3) := by decide +kernel
theorem dX12_redo_7 : decode cX12_redo 7 = .ok (.iconst 0, 1) := by decide +kernel
theorem dX12_redo_8 : decode cX12_redo 8 = .ok (.ireturn, 1) := by decide +kernel
theorem dX12_late_0 : decode cX12_late 0 = .ok (.aload_n 0, 1) := by decide +kernel
theorem dX12_late_1 : decode cX12_late 1 = .ok (.iload_n 1, 1) := by decide +kernel
theorem dX12_late_2 : decode cX12_late 2 = .ok (.invokevirtual 461, 3) := by decide +kernel
theorem dX12_late_5 : decode cX12_late 5 = .ok (.ifCond .eq 13, 3) := by decide +kernel
theorem dX12_late_18 : decode cX12_late 18 = .ok (.iconst (-1), 1) := by decide +kernel
theorem dX12_late_19 : decode cX12_late 19 = .ok (.ireturn, 1) := by decide +kernel
theorem dX12_last_0 : decode cX12_last 0 = .ok (.aload_n 0, 1) := by decide +kernel
theorem dX12_last_1 : decode cX12_last 1 = .ok (.iload_n 1, 1) := by decide +kernel
theorem dX12_last_2 : decode cX12_last 2 = .ok (.invokevirtual 461, 3) := by decide +kernel
theorem dX12_last_5 : decode cX12_last 5 = .ok (.ifCond .eq 10, 3) := by decide +kernel
theorem dX12_last_15 : decode cX12_last 15 = .ok (.iconst (-1), 1) := by decide +kernel
theorem dX12_last_16 : decode cX12_last 16 = .ok (.ireturn, 1) := by decide +kernel
theorem dX12_shun_0 : decode cX12_shun 0 = .ok (.aload_n 0, 1) := by decide +kernel
theorem dX12_shun_1 : decode cX12_shun 1 = .ok (.iload_n 1, 1) := by decide +kernel
theorem dX12_shun_2 : decode cX12_shun 2 = .ok (.invokevirtual 437, 3) := by decide +kernel
theorem dX12_shun_5 : decode cX12_shun 5 = .ok (.ifCond .eq 23, 3) := by decide +kernel
theorem dX12_shun_28 : decode cX12_shun 28 = .ok (.iconst (-1), 1) := by decide +kernel
theorem dX12_shun_29 : decode cX12_shun 29 = .ok (.ireturn, 1) := by decide +kernel
theorem dX12_clash_0 : decode cX12_clash 0 = .ok (.aload_n 0, 1) := by decide +kernel
theorem dX12_clash_1 : decode cX12_clash 1 = .ok (.iload_n 1, 1) := by decide +kernel
theorem dX12_clash_2 : decode cX12_clash 2 = .ok (.invokevirtual 437, 3) := by decide +kernel
theorem dX12_clash_5 : decode cX12_clash 5 = .ok (.ifCond .ne 5, 3) := by decide +kernel
theorem dX12_clash_8 : decode cX12_clash 8 = .ok (.iconst (-1), 1) := by decide +kernel
theorem dX12_clash_9 : decode cX12_clash 9 = .ok (.ireturn, 1) := by decide +kernel
theorem dX12_lies_0 : decode cX12_lies 0 = .ok (.iload_n 1, 1) := by decide +kernel
theorem dX12_lies_1 : decode cX12_lies 1 = .ok (.iconst 0, 1) := by decide +kernel
theorem dX12_lies_2 : decode cX12_lies 2 = .ok (.aload_n 0, 1) := by decide +kernel
theorem dX12_lies_3 : decode cX12_lies 3 = .ok (.getfield 434, 3) := by decide +kernel
theorem dX12_lies_6 : decode cX12_lies 6 = .ok (.iconst 1, 1) := by decide +kernel
theorem dX12_lies_7 : decode cX12_lies 7 = .ok (.isub, 1) := by decide +kernel
theorem dX12_lies_8 : decode cX12_lies 8 = .ok (.invokestatic 411, 3) := by decide +kernel
theorem dX12_lies_11 : decode cX12_lies 11 = .ok (.ifCond .eq 12, 3) := by decide +kernel
theorem dX12_lies_23 : decode cX12_lies 23 = .ok (.iconst (-1), 1) := by decide +kernel
theorem dX12_lies_24 : decode cX12_lies 24 = .ok (.ireturn, 1) := by decide +kernel
theorem dX12_log_0 : decode cX12_log 0 = .ok (.iload_n 1, 1) := by decide +kernel
theorem dX12_log_1 : decode cX12_log 1 = .ok (.iconst 0, 1) := by decide +kernel
theorem dX12_log_2 : decode cX12_log 2 = .ok (.aload_n 0, 1) := by decide +kernel
theorem dX12_log_3 : decode cX12_log 3 = .ok (.getfield 119, 3) := by decide +kernel
theorem dX12_log_6 : decode cX12_log 6 = .ok (.bipush 71, 2) := by decide +kernel
theorem dX12_log_8 : decode cX12_log 8 = .ok (.iaload, 1) := by decide +kernel
theorem dX12_log_9 : decode cX12_log 9 = .ok (.iconst 1, 1) := by decide +kernel
theorem dX12_log_10 : decode cX12_log 10 = .ok (.isub, 1) := by decide +kernel
theorem dX12_log_11 : decode cX12_log 11 = .ok (.invokestatic 411, 3) := by decide +kernel
theorem dX12_log_14 : decode cX12_log 14 = .ok (.ifCond .eq 28, 3) := by decide +kernel
theorem dX12_log_42 : decode cX12_log 42 = .ok (.iconst (-1), 1) := by decide +kernel
theorem dX12_log_43 : decode cX12_log 43 = .ok (.ireturn, 1) := by decide +kernel
theorem dX12_began_0 : decode cX12_began 0 = .ok (.aload_n 0, 1) := by decide +kernel
theorem dX12_began_1 : decode cX12_began 1 = .ok (.iload_n 1, 1) := by decide +kernel
theorem dX12_began_2 : decode cX12_began 2 = .ok (.invokevirtual 415, 3) := by decide +kernel
theorem dX12_began_5 : decode cX12_began 5 = .ok (.ifCond .ne 6, 3) := by decide +kernel
theorem dX12_began_8 : decode cX12_began 8 = .ok (.bipush (-2), 2) := by decide +kernel
theorem dX12_began_10 : decode cX12_began 10 = .ok (.ireturn, 1) := by decide +kernel
theorem dX12_sight_0 : decode cX12_sight 0 = .ok (.aload_n 0, 1) := by decide +kernel
theorem dX12_sight_1 : decode cX12_sight 1 = .ok (.iload_n 1, 1) := by decide +kernel
theorem dX12_sight_2 : decode cX12_sight 2 = .ok (.invokevirtual 449, 3) := by decide +kernel
theorem dX12_sight_5 : decode cX12_sight 5 = .ok (.ifCond .eq 23, 3) := by decide +kernel
theorem dX12_sight_28 : decode cX12_sight 28 = .ok (.iconst (-1), 1) := by decide +kernel
theorem dX12_sight_29 : decode cX12_sight 29 = .ok (.ireturn, 1) := by decide +kernel
theorem dX12_untell_0 : decode cX12_untell 0 = .ok (.iload_n 1, 1) := by decide +kernel
theorem dX12_untell_1 : decode cX12_untell 1 = .ok (.iconst 0, 1) := by decide +kernel
theorem dX12_untell_2 : decode cX12_untell 2 = .ok (.aload_n 0, 1) := by decide +kernel
theorem dX12_untell_3 : decode cX12_untell 3 = .ok (.getfield 431, 3) := by decide +kernel
theorem dX12_untell_6 : decode cX12_untell 6 = .ok (.iconst 1, 1) := by decide +kernel
theorem dX12_untell_7 : decode cX12_untell 7 = .ok (.isub, 1) := by decide +kernel
theorem dX12_untell_8 : decode cX12_untell 8 = .ok (.invokestatic 411, 3) := by decide +kernel
theorem dX12_untell_11 : decode cX12_untell 11 = .ok (.ifCond .eq 12, 3) := by decide +kernel
theorem dX12_untell_23 : decode cX12_untell 23 = .ok (.iconst 0, 1) := by decide +kernel
theorem dX12_untell_24 : decode cX12_untell 24 = .ok (.ireturn, 1) := by decide +kernel
theorem dX12_back_0 : decode cX12_back 0 = .ok (.iload_n 1, 1) := by decide +kernel
theorem dX12_back_1 : decode cX12_back 1 = .ok (.iconst 0, 1) := by decide +kernel
theorem dX12_back_2 : decode cX12_back 2 = .ok (.iconst 2, 1) := by decide +kernel
theorem dX12_back_3 : decode cX12_back 3 = .ok (.invokestatic 411, 3) := by decide +kernel
theorem dX12_back_6 : decode cX12_back 6 = .ok (.ifCond .eq 12, 3) := by decide +kernel
theorem dX12_back_9 : decode cX12_back 9 = .ok (.aload_n 0, 1) := by decide +kernel
theorem dX12_back_10 : decode cX12_back 10 = .ok (.getfield 173, 3) := by decide +kernel
theorem dX12_back_13 : decode cX12_back 13 = .ok (.iload_n 1, 1) := by decide +kernel
theorem dX12_back_14 : decode cX12_back 14 = .ok (.baload, 1) := by decide +kernel
theorem dX12_back_15 : decode cX12_back 15 = .ok (.ifCond .ne 5, 3) := by decide +kernel
theorem dX12_back_18 : decode cX12_back 18 = .ok (.iconst (-1), 1) := by decide +kernel
theorem dX12_back_19 : decode cX12_back 19 = .ok (.ireturn, 1) := by decide +kernel
theorem dX12_life_0 : decode cX12_life 0 = .ok (.aload_n 0, 1) := by decide +kernel
theorem dX12_life_1 : decode cX12_life 1 = .ok (.iconst 0, 1) := by decide +kernel
theorem dX12_life_2 : decode cX12_life 2 = .ok (.putfield 434, 3) := by decide +kernel
theorem dX12_life_5 : decode cX12_life 5 = .ok (.aload_n 0, 1) := by decide +kernel
theorem dX12_life_6 : decode cX12_life 6 = .ok (.iload_n 1, 1) := by decide +kernel
theorem dX12_life_7 : decode cX12_life 7 = .ok (.invokevirtual 461, 3) := by decide +kernel
theorem dX12_life_10 : decode cX12_life 10 = .ok (.ifCond .ne 5, 3) := by decide +kernel
theorem dX12_life_13 : decode cX12_life 13 = .ok (.iconst (-1), 1) := by decide +kernel
theorem dX12_life_14 : decode cX12_life 14 = .ok (.ireturn, 1) := by decide +kernel
theorem dX12_hire_0 : decode cX12_hire 0 = .ok (.aload_n 0, 1) := by decide +kernel
theorem dX12_hire_1 : decode cX12_hire 1 = .ok (.iconst 0, 1) := by decide +kernel
theorem dX12_hire_2 : decode cX12_hire 2 = .ok (.putfield 434, 3) := by decide +kernel
theorem dX12_hire_5 : decode cX12_hire 5 = .ok (.aload_n 0, 1) := by decide +kernel
theorem dX12_hire_6 : decode cX12_hire 6 = .ok (.iload_n 1, 1) := by decide +kernel
theorem dX12_hire_7 : decode cX12_hire 7 = .ok (.invokevirtual 461, 3) := by decide +kernel
theorem dX12_hire_10 : decode cX12_hire 10 = .ok (.ifCond .eq 10, 3) := by decide +kernel
theorem dX12_hire_20 : decode cX12_hire 20 = .ok (.iconst (-1), 1) := by decide +kernel
theorem dX12_hire_21 : decode cX12_hire 21 = .ok (.ireturn, 1) := by decide +kernel
theorem dX12_part_0 : decode cX12_part 0 = .ok (.aload_n 0, 1) := by decide +kernel
theorem dX12_part_1 : decode cX12_part 1 = .ok (.iconst 0, 1) := by decide +kernel
theorem dX12_part_2 : decode cX12_part 2 = .ok (.putfield 434, 3) := by decide +kernel
theorem dX12_part_5 : decode cX12_part 5 = .ok (.aload_n 0, 1) := by decide +kernel
theorem dX12_part_6 : decode cX12_part 6 = .ok (.iload_n 1, 1) := by decide +kernel
theorem dX12_part_7 : decode cX12_part 7 = .ok (.invokevirtual 437, 3) := by decide +kernel
theorem dX12_part_10 : decode cX12_part 10 = .ok (.ifCond .ne 5, 3) := by decide +kernel
theorem dX12_part_13 : decode cX12_part 13 = .ok (.iconst (-1), 1) := by decide +kernel
theorem dX12_part_14 : decode cX12_part 14 = .ok (.ireturn, 1) := by decide +kernel
theorem dX12_falses_0 : decode cX12_falses 0 = .ok (.aload_n 0, 1) := by decide +kernel
theorem dX12_falses_1 : decode cX12_falses 1 = .ok (.iconst 0, 1) := by decide +kernel
theorem dX12_falses_2 : decode cX12_falses 2 = .ok (.putfield 434, 3) := by decide +kernel
theorem dX12_falses_5 : decode cX12_falses 5 = .ok (.iconst 0, 1) := by decide +kernel
theorem dX12_falses_6 : decode cX12_falses 6 = .ok (.istore_n 2, 1) := by decide +kernel
theorem dX12_falses_7 : decode cX12_falses 7 = .ok (.iconst 0, 1) := by decide +kernel
theorem dX12_falses_8 : decode cX12_falses 8 = .ok (.istore_n 3, 1) := by decide +kernel
theorem dX12_falses_9 : decode cX12_falses 9 = .ok (.iload_n 3, 1) := by decide +kernel
theorem dX12_falses_10 : decode cX12_falses 10 = .ok (.aload_n 0, 1) := by decide +kernel
theorem dX12_falses_11 : decode cX12_falses 11 = .ok (.getfield 119, 3) := by decide +kernel
theorem dX12_falses_14 : decode cX12_falses 14 = .ok (.bipush 71, 2) := by decide +kernel
theorem dX12_falses_16 : decode cX12_falses 16 = .ok (.iaload, 1) := by decide +kernel
theorem dX12_falses_17 : decode cX12_falses 17 = .ok (.if_icmp .ge 56, 3) := by decide +kernel
theorem dX12_falses_73 : decode cX12_falses 73 = .ok (.iload_n 2, 1) := by decide +kernel
theorem dX12_falses_74 : decode cX12_falses 74 = .ok (.ireturn, 1) := by decide +kernel
theorem dX12_end_0 : decode cX12_end 0 = .ok (.iload_n 1, 1) := by decide +kernel
theorem dX12_end_1 : decode cX12_end 1 = .ok (.ifCond .lt 11, 3) := by decide +kernel
theorem dX12_end_4 : decode cX12_end 4 = .ok (.iload_n 1, 1) := by decide +kernel
theorem dX12_end_5 : decode cX12_end 5 = .ok (.aload_n 0, 1) := by decide +kernel
theorem dX12_end_6 : decode cX12_end 6 = .ok (.getfield 305, 3) := by decide +kernel
theorem dX12_end_9 : decode cX12_end 9 = .ok (.if_icmp .le 5, 3) := by decide +kernel
theorem dX12_end_12 : decode cX12_end 12 = .ok (.iconst (-1), 1) := by decide +kernel
theorem dX12_end_13 : decode cX12_end 13 = .ok (.ireturn, 1) := by decide +kernel
theorem dX12_end_14 : decode cX12_end 14 = .ok (.aload_n 0, 1) := by decide +kernel
theorem dX12_end_15 : decode cX12_end 15 = .ok (.iload_n 1, 1) := by decide +kernel
theorem dX12_end_16 : decode cX12_end 16 = .ok (.putfield 305, 3) := by decide +kernel
theorem dX12_end_19 : decode cX12_end 19 = .ok (.iload_n 1, 1) := by decide +kernel
theorem dX12_end_20 : decode cX12_end 20 = .ok (.ireturn, 1) := by decide +kernel
theorem dX12_fault_0 : decode cX12_fault 0 = .ok (.iload_n 1, 1) := by decide +kernel
theorem dX12_fault_1 : decode cX12_fault 1 = .ok (.ifCond .ne 10, 3) := by decide +kernel
theorem dX12_fault_4 : decode cX12_fault 4 = .ok (.aload_n 0, 1) := by decide +kernel
theorem dX12_fault_5 : decode cX12_fault 5 = .ok (.getfield 185, 3) := by decide +kernel
theorem dX12_fault_8 : decode cX12_fault 8 = .ok (.goto 16, 3) := by decide +kernel
theorem dX12_fault_11 : decode cX12_fault 11 = .ok (.iload_n 1, 1) := by decide +kernel
theorem dX12_fault_12 : decode cX12_fault 12 = .ok (.iconst 1, 1) := by decide +kernel
theorem dX12_fault_13 : decode cX12_fault 13 = .ok (.if_icmp .ne 10, 3) := by decide +kernel
theorem dX12_fault_16 : decode cX12_fault 16 = .ok (.aload_n 0, 1) := by decide +kernel
theorem dX12_fault_17 : decode cX12_fault 17 = .ok (.getfield 16, 3) := by decide +kernel
theorem dX12_fault_20 : decode cX12_fault 20 = .ok (.goto 4, 3) := by decide +kernel
theorem dX12_fault_23 : decode cX12_fault 23 = .ok (.iconst (-1), 1) := by decide +kernel
theorem dX12_fault_24 : decode cX12_fault 24 = .ok (.ireturn, 1) := by decide +kernel
theorem dX12_later_0 : decode cX12_later 0 = .ok (.iload_n 1, 1) := by decide +kernel
theorem dX12_later_1 : decode cX12_later 1 = .ok (.iconst 0, 1) := by decide +kernel
theorem dX12_later_2 : decode cX12_later 2 = .ok (.sipush 1000, 3) := by decide +kernel
theorem dX12_later_5 : decode cX12_later 5 = .ok (.invokestatic 411, 3) := by decide +kernel
theorem dX12_later_8 : decode cX12_later 8 = .ok (.ifCond .eq 15, 3) := by decide +kernel
theorem dX12_later_11 : decode cX12_later 11 = .ok (.aload_n 0, 1) := by decide +kernel
theorem dX12_later_12 : decode cX12_later 12 = .ok (.getfield 608, 3) := by decide +kernel
theorem dX12_later_15 : decode cX12_later 15 = .ok (.iload_n 1, 1) := by decide +kernel
theorem dX12_later_16 : decode cX12_later 16 = .ok (.iadd, 1) := by decide +kernel
theorem dX12_later_17 : decode cX12_later 17 = .ok (.ldc_w 611, 3) := by decide +kernel
theorem dX12_later_20 : decode cX12_later 20 = .ok (.if_icmp .le 5, 3) := by decide +kernel
theorem dX12_later_23 : decode cX12_later 23 = .ok (.iconst (-1), 1) := by decide +kernel
theorem dX12_later_24 : decode cX12_later 24 = .ok (.ireturn, 1) := by decide +kernel
theorem dX12_later_25 : decode cX12_later 25 = .ok (.aload_n 0, 1) := by decide +kernel
theorem dX12_later_26 : decode cX12_later 26 = .ok (.dup, 1) := by decide +kernel
theorem dX12_later_27 : decode cX12_later 27 = .ok (.getfield 608, 3) := by decide +kernel
theorem dX12_later_30 : decode cX12_later 30 = .ok (.iload_n 1, 1) := by decide +kernel
theorem dX12_later_31 : decode cX12_later 31 = .ok (.iadd, 1) := by decide +kernel
theorem dX12_later_32 : decode cX12_later 32 = .ok (.putfield 608, 3) := by decide +kernel
theorem dX12_later_35 : decode cX12_later 35 = .ok (.aload_n 0, 1) := by decide +kernel
theorem dX12_later_36 : decode cX12_later 36 = .ok (.getfield 608, 3) := by decide +kernel
theorem dX12_later_39 : decode cX12_later 39 = .ok (.ireturn, 1) := by decide +kernel
theorem dX12_about_0 : decode cX12_about 0 = .ok (.iload_n 1, 1) := by decide +kernel
theorem dX12_about_1 : decode cX12_about 1 = .ok (.tableswitch 193 0 15 #[79, 89, 99, 109, 117, 125, 133, 140, 145, 153, 158, 163, 168, 173, 178, 188], 79) := by decide +kernel
theorem dX12_about_80 : decode cX12_about 80 = .ok (.aload_n 0, 1) := by decide +kernel
theorem dX12_about_81 : decode cX12_about 81 = .ok (.getfield 20, 3) := by decide +kernel
theorem dX12_about_84 : decode cX12_about 84 = .ok (.aload_n 0, 1) := by decide +kernel
theorem dX12_about_85 : decode cX12_about 85 = .ok (.getfield 308, 3) := by decide +kernel
theorem dX12_about_88 : decode cX12_about 88 = .ok (.iaload, 1) := by decide +kernel
theorem dX12_about_89 : decode cX12_about 89 = .ok (.ireturn, 1) := by decide +kernel
theorem dX12_about_90 : decode cX12_about 90 = .ok (.aload_n 0, 1) := by decide +kernel
theorem dX12_about_91 : decode cX12_about 91 = .ok (.getfield 24, 3) := by decide +kernel
theorem dX12_about_94 : decode cX12_about 94 = .ok (.aload_n 0, 1) := by decide +kernel
theorem dX12_about_95 : decode cX12_about 95 = .ok (.getfield 308, 3) := by decide +kernel
theorem dX12_about_98 : decode cX12_about 98 = .ok (.iaload, 1) := by decide +kernel
theorem dX12_about_99 : decode cX12_about 99 = .ok (.ireturn, 1) := by decide +kernel
theorem dX12_about_100 : decode cX12_about 100 = .ok (.aload_n 0, 1) := by decide +kernel
theorem dX12_about_101 : decode cX12_about 101 = .ok (.getfield 27, 3) := by decide +kernel
theorem dX12_about_104 : decode cX12_about 104 = .ok (.aload_n 0, 1) := by decide +kernel
theorem dX12_about_105 : decode cX12_about 105 = .ok (.getfield 308, 3) := by decide +kernel
theorem dX12_about_108 : decode cX12_about 108 = .ok (.iaload, 1) := by decide +kernel
theorem dX12_about_109 : decode cX12_about 109 = .ok (.ireturn, 1) := by decide +kernel
theorem dX12_about_110 : decode cX12_about 110 = .ok (.aload_n 0, 1) := by decide +kernel
theorem dX12_about_111 : decode cX12_about 111 = .ok (.getfield 119, 3) := by decide +kernel
theorem dX12_about_114 : decode cX12_about 114 = .ok (.bipush 70, 2) := by decide +kernel
theorem dX12_about_116 : decode cX12_about 116 = .ok (.iaload, 1) := by decide +kernel
theorem dX12_about_117 : decode cX12_about 117 = .ok (.ireturn, 1) := by decide +kernel
theorem dX12_about_118 : decode cX12_about 118 = .ok (.aload_n 0, 1) := by decide +kernel
theorem dX12_about_119 : decode cX12_about 119 = .ok (.getfield 119, 3) := by decide +kernel
theorem dX12_about_122 : decode cX12_about 122 = .ok (.bipush 72, 2) := by decide +kernel
theorem dX12_about_124 : decode cX12_about 124 = .ok (.iaload, 1) := by decide +kernel
theorem dX12_about_125 : decode cX12_about 125 = .ok (.ireturn, 1) := by decide +kernel
theorem dX12_about_126 : decode cX12_about 126 = .ok (.aload_n 0, 1) := by decide +kernel
theorem dX12_about_127 : decode cX12_about 127 = .ok (.getfield 119, 3) := by decide +kernel
theorem dX12_about_130 : decode cX12_about 130 = .ok (.bipush 73, 2) := by decide +kernel
theorem dX12_about_132 : decode cX12_about 132 = .ok (.iaload, 1) := by decide +kernel
theorem dX12_about_133 : decode cX12_about 133 = .ok (.ireturn, 1) := by decide +kernel
theorem dX12_about_134 : decode cX12_about 134 = .ok (.aload_n 0, 1) := by decide +kernel
theorem dX12_about_135 : decode cX12_about 135 = .ok (.getfield 119, 3) := by decide +kernel
theorem dX12_about_138 : decode cX12_about 138 = .ok (.iconst 0, 1) := by decide +kernel
theorem dX12_about_139 : decode cX12_about 139 = .ok (.iaload, 1) := by decide +kernel
theorem dX12_about_140 : decode cX12_about 140 = .ok (.ireturn, 1) := by decide +kernel
theorem dX12_about_141 : decode cX12_about 141 = .ok (.aload_n 0, 1) := by decide +kernel
theorem dX12_about_142 : decode cX12_about 142 = .ok (.invokevirtual 615, 3) := by decide +kernel
theorem dX12_about_145 : decode cX12_about 145 = .ok (.ireturn, 1) := by decide +kernel
theorem dX12_about_146 : decode cX12_about 146 = .ok (.aload_n 0, 1) := by decide +kernel
theorem dX12_about_147 : decode cX12_about 147 = .ok (.getfield 119, 3) := by decide +kernel
theorem dX12_about_150 : decode cX12_about 150 = .ok (.bipush 71, 2) := by decide +kernel
theorem dX12_about_152 : decode cX12_about 152 = .ok (.iaload, 1) := by decide +kernel
theorem dX12_about_153 : decode cX12_about 153 = .ok (.ireturn, 1) := by decide +kernel
theorem dX12_about_154 : decode cX12_about 154 = .ok (.aload_n 0, 1) := by decide +kernel
theorem dX12_about_155 : decode cX12_about 155 = .ok (.getfield 425, 3) := by decide +kernel
theorem dX12_about_158 : decode cX12_about 158 = .ok (.ireturn, 1) := by decide +kernel
theorem dX12_about_159 : decode cX12_about 159 = .ok (.aload_n 0, 1) := by decide +kernel
theorem dX12_about_160 : decode cX12_about 160 = .ok (.getfield 428, 3) := by decide +kernel
theorem dX12_about_163 : decode cX12_about 163 = .ok (.ireturn, 1) := by decide +kernel
theorem dX12_about_164 : decode cX12_about 164 = .ok (.aload_n 0, 1) := by decide +kernel
theorem dX12_about_165 : decode cX12_about 165 = .ok (.getfield 431, 3) := by decide +kernel
theorem dX12_about_168 : decode cX12_about 168 = .ok (.ireturn, 1) := by decide +kernel
theorem dX12_about_169 : decode cX12_about 169 = .ok (.aload_n 0, 1) := by decide +kernel
theorem dX12_about_170 : decode cX12_about 170 = .ok (.getfield 608, 3) := by decide +kernel
theorem dX12_about_173 : decode cX12_about 173 = .ok (.ireturn, 1) := by decide +kernel
theorem dX12_about_174 : decode cX12_about 174 = .ok (.aload_n 0, 1) := by decide +kernel
theorem dX12_about_175 : decode cX12_about 175 = .ok (.getfield 305, 3) := by decide +kernel
theorem dX12_about_178 : decode cX12_about 178 = .ok (.ireturn, 1) := by decide +kernel
theorem dX12_about_179 : decode cX12_about 179 = .ok (.aload_n 0, 1) := by decide +kernel
theorem dX12_about_180 : decode cX12_about 180 = .ok (.getfield 33, 3) := by decide +kernel
theorem dX12_about_183 : decode cX12_about 183 = .ok (.aload_n 0, 1) := by decide +kernel
theorem dX12_about_184 : decode cX12_about 184 = .ok (.getfield 308, 3) := by decide +kernel
theorem dX12_about_187 : decode cX12_about 187 = .ok (.iaload, 1) := by decide +kernel
theorem dX12_about_188 : decode cX12_about 188 = .ok (.ireturn, 1) := by decide +kernel
theorem dX12_about_189 : decode cX12_about 189 = .ok (.aload_n 0, 1) := by decide +kernel
theorem dX12_about_190 : decode cX12_about 190 = .ok (.getfield 434, 3) := by decide +kernel
theorem dX12_about_193 : decode cX12_about 193 = .ok (.ireturn, 1) := by decide +kernel
theorem dX12_about_194 : decode cX12_about 194 = .ok (.iconst (-1), 1) := by decide +kernel
theorem dX12_about_195 : decode cX12_about 195 = .ok (.ireturn, 1) := by decide +kernel
