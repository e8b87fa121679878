theorem bw_804 : Cond.fieldLink RX11 27 "DuelDelays" "spareLand" "LDuelDelays$Land;" ∈ gT := gT_tb 525 (by decide +kernel) (by decide +kernel)
theorem bw_805 : Cond.methodLink RX11 80 yX5_read ∈ gT := gT_tb 580 (by decide +kernel) (by decide +kernel)
theorem bw_806 : Cond.instanceMethod yX5_read ∈ gT := gT_tb 581 (by decide +kernel) (by decide +kernel)
theorem bw_807 : Cond.selects RX5 yX5_read yX5_read ∈ gT := gT_tb 582 (by decide +kernel) (by decide +kernel)
theorem bw_808 : Cond.methodLink RX11 68 yX9_begin ∈ gT := gT_tb 507 (by decide +kernel) (by decide +kernel)
theorem bw_809 : Cond.instanceMethod yX9_begin ∈ gT := gT_tb 508 (by decide +kernel) (by decide +kernel)
theorem bw_810 : Cond.selects RX9 yX9_begin yX9_begin ∈ gT := gT_tb 509 (by decide +kernel) (by decide +kernel)
theorem bw_811 : Cond.methodLink RX11 90 yX8_clear ∈ gT := gT_tb 827 (by decide +kernel) (by decide +kernel)
theorem bw_812 : Cond.instanceMethod yX8_clear ∈ gT := gT_tb 828 (by decide +kernel) (by decide +kernel)
theorem bw_813 : Cond.selects RX8 yX8_clear yX8_clear ∈ gT := gT_tb 829 (by decide +kernel) (by decide +kernel)
theorem bw_814 : Cond.code yX11_code cX11_code 2 (some .int) ∈ gT := gT_tb 579 (by decide +kernel) (by decide +kernel)
theorem dX11_code_0 : decode cX11_code 0 = .ok (.aload_n 0, 1) := by decide +kernel
theorem dX11_code_1 : decode cX11_code 1 = .ok (.getfield 16, 3) := by decide +kernel
theorem dX11_code_4 : decode cX11_code 4 = .ok (.aload_n 0, 1) := by decide +kernel
theorem dX11_code_5 : decode cX11_code 5 = .ok (.getfield 9, 3) := by decide +kernel
theorem dX11_code_8 : decode cX11_code 8 = .ok (.aload_n 0, 1) := by decide +kernel
theorem dX11_code_9 : decode cX11_code 9 = .ok (.getfield 72, 3) := by decide +kernel
theorem dX11_code_12 : decode cX11_code 12 = .ok (.aload_n 0, 1) := by decide +kernel
theorem dX11_code_13 : decode cX11_code 13 = .ok (.getfield 27, 3) := by decide +kernel
theorem dX11_code_16 : decode cX11_code 16 = .ok (.invokevirtual 80, 3) := by decide +kernel
theorem dX11_code_19 : decode cX11_code 19 = .ok (.ifCond .ne 5, 3) := by decide +kernel
theorem dX11_code_22 : decode cX11_code 22 = .ok (.iconst (-1), 1) := by decide +kernel
theorem dX11_code_23 : decode cX11_code 23 = .ok (.ireturn, 1) := by decide +kernel
theorem dX11_code_24 : decode cX11_code 24 = .ok (.aload_n 0, 1) := by decide +kernel
theorem dX11_code_25 : decode cX11_code 25 = .ok (.getfield 27, 3) := by decide +kernel
theorem dX11_code_28 : decode cX11_code 28 = .ok (.astore_n 1, 1) := by decide +kernel
theorem dX11_code_29 : decode cX11_code 29 = .ok (.aload_n 0, 1) := by decide +kernel
theorem dX11_code_30 : decode cX11_code 30 = .ok (.aload_n 0, 1) := by decide +kernel
theorem dX11_code_31 : decode cX11_code 31 = .ok (.getfield 23, 3) := by decide +kernel
theorem dX11_code_34 : decode cX11_code 34 = .ok (.putfield 27, 3) := by decide +kernel
theorem dX11_code_37 : decode cX11_code 37 = .ok (.aload_n 0, 1) := by decide +kernel
theorem dX11_code_38 : decode cX11_code 38 = .ok (.aload_n 1, 1) := by decide +kernel
theorem dX11_code_39 : decode cX11_code 39 = .ok (.putfield 23, 3) := by decide +kernel
theorem dX11_code_42 : decode cX11_code 42 = .ok (.aload_n 0, 1) := by decide +kernel
theorem dX11_code_43 : decode cX11_code 43 = .ok (.iconst 0, 1) := by decide +kernel
theorem dX11_code_44 : decode cX11_code 44 = .ok (.putfield 72, 3) := by decide +kernel
theorem dX11_code_47 : decode cX11_code 47 = .ok (.aload_n 0, 1) := by decide +kernel
theorem dX11_code_48 : decode cX11_code 48 = .ok (.iconst 0, 1) := by decide +kernel
theorem dX11_code_49 : decode cX11_code 49 = .ok (.putfield 84, 3) := by decide +kernel
theorem dX11_code_52 : decode cX11_code 52 = .ok (.aload_n 0, 1) := by decide +kernel
theorem dX11_code_53 : decode cX11_code 53 = .ok (.iconst 0, 1) := by decide +kernel
theorem dX11_code_54 : decode cX11_code 54 = .ok (.putfield 87, 3) := by decide +kernel
theorem dX11_code_57 : decode cX11_code 57 = .ok (.aload_n 0, 1) := by decide +kernel
theorem dX11_code_58 : decode cX11_code 58 = .ok (.getfield 32, 3) := by decide +kernel
theorem dX11_code_61 : decode cX11_code 61 = .ok (.iconst 0, 1) := by decide +kernel
theorem dX11_code_62 : decode cX11_code 62 = .ok (.aaload, 1) := by decide +kernel
theorem dX11_code_63 : decode cX11_code 63 = .ok (.aload_n 0, 1) := by decide +kernel
theorem dX11_code_64 : decode cX11_code 64 = .ok (.getfield 23, 3) := by decide +kernel
theorem dX11_code_67 : decode cX11_code 67 = .ok (.invokevirtual 68, 3) := by decide +kernel
theorem dX11_code_70 : decode cX11_code 70 = .ok (.aload_n 0, 1) := by decide +kernel
theorem dX11_code_71 : decode cX11_code 71 = .ok (.getfield 49, 3) := by decide +kernel
theorem dX11_code_74 : decode cX11_code 74 = .ok (.invokevirtual 90, 3) := by decide +kernel
theorem dX11_code_77 : decode cX11_code 77 = .ok (.aload_n 0, 1) := by decide +kernel
theorem dX11_code_78 : decode cX11_code 78 = .ok (.getfield 63, 3) := by decide +kernel
theorem dX11_code_81 : decode cX11_code 81 = .ok (.invokevirtual 93, 3) := by decide +kernel
theorem dX11_code_84 : decode cX11_code 84 = .ok (.aload_n 0, 1) := by decide +kernel
theorem dX11_code_85 : decode cX11_code 85 = .ok (.iconst 0, 1) := by decide +kernel
theorem dX11_code_86 : decode cX11_code 86 = .ok (.putfield 94, 3) := by decide +kernel
theorem dX11_code_89 : decode cX11_code 89 = .ok (.aload_n 0, 1) := by decide +kernel
theorem dX11_code_90 : decode cX11_code 90 = .ok (.getfield 23, 3) := by decide +kernel
theorem dX11_code_93 : decode cX11_code 93 = .ok (.getfield 97, 3) := by decide +kernel
theorem dX11_code_96 : decode cX11_code 96 = .ok (.getfield 101, 3) := by decide +kernel
theorem dX11_code_99 : decode cX11_code 99 = .ok (.ireturn, 1) := by decide +kernel
