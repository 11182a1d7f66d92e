theorem dX1_init_0 : decode cX1_init 0 = .ok (.aload_n 0, 1) := by decide +kernel
theorem dX1_init_1 : decode cX1_init 1 = .ok (.invokespecial 1, 3) := by decide +kernel
theorem dX1_init_4 : decode cX1_init 4 = .ok (.aload_n 0, 1) := by decide +kernel
theorem dX1_init_5 : decode cX1_init 5 = .ok (.bipush 26, 2) := by decide +kernel
theorem dX1_init_7 : decode cX1_init 7 = .ok (.newarray .int, 2) := by decide +kernel
theorem dX1_init_9 : decode cX1_init 9 = .ok (.putfield 7, 3) := by decide +kernel
theorem dX1_init_12 : decode cX1_init 12 = .ok (.return_, 1) := by decide +kernel
theorem dX1_kindFor_0 : decode cX1_kindFor 0 = .ok (.iload_n 0, 1) := by decide +kernel
theorem dX1_kindFor_1 : decode cX1_kindFor 1 = .ok (.bipush 49, 2) := by decide +kernel
theorem dX1_kindFor_3 : decode cX1_kindFor 3 = .ok (.if_icmp .lt 14, 3) := by decide +kernel
theorem dX1_kindFor_6 : decode cX1_kindFor 6 = .ok (.iload_n 0, 1) := by decide +kernel
theorem dX1_kindFor_7 : decode cX1_kindFor 7 = .ok (.bipush 57, 2) := by decide +kernel
theorem dX1_kindFor_9 : decode cX1_kindFor 9 = .ok (.if_icmp .gt 8, 3) := by decide +kernel
theorem dX1_kindFor_12 : decode cX1_kindFor 12 = .ok (.iload_n 0, 1) := by decide +kernel
theorem dX1_kindFor_13 : decode cX1_kindFor 13 = .ok (.bipush 48, 2) := by decide +kernel
theorem dX1_kindFor_15 : decode cX1_kindFor 15 = .ok (.isub, 1) := by decide +kernel
theorem dX1_kindFor_16 : decode cX1_kindFor 16 = .ok (.ireturn, 1) := by decide +kernel
theorem dX1_kindFor_17 : decode cX1_kindFor 17 = .ok (.iload_n 0, 1) := by decide +kernel
theorem dX1_kindFor_18 : decode cX1_kindFor 18 = .ok (.bipush 65, 2) := by decide +kernel
theorem dX1_kindFor_20 : decode cX1_kindFor 20 = .ok (.if_icmp .lt 19, 3) := by decide +kernel
theorem dX1_kindFor_23 : decode cX1_kindFor 23 = .ok (.iload_n 0, 1) := by decide +kernel
theorem dX1_kindFor_24 : decode cX1_kindFor 24 = .ok (.bipush 67, 2) := by decide +kernel
theorem dX1_kindFor_26 : decode cX1_kindFor 26 = .ok (.if_icmp .gt 13, 3) := by decide +kernel
theorem dX1_kindFor_29 : decode cX1_kindFor 29 = .ok (.iload_n 0, 1) := by decide +kernel
theorem dX1_kindFor_30 : decode cX1_kindFor 30 = .ok (.bipush 65, 2) := by decide +kernel
theorem dX1_kindFor_32 : decode cX1_kindFor 32 = .ok (.isub, 1) := by decide +kernel
theorem dX1_kindFor_33 : decode cX1_kindFor 33 = .ok (.bipush 10, 2) := by decide +kernel
theorem dX1_kindFor_35 : decode cX1_kindFor 35 = .ok (.iadd, 1) := by decide +kernel
theorem dX1_kindFor_36 : decode cX1_kindFor 36 = .ok (.goto 4, 3) := by decide +kernel
theorem dX1_kindFor_39 : decode cX1_kindFor 39 = .ok (.iconst 0, 1) := by decide +kernel
theorem dX1_kindFor_40 : decode cX1_kindFor 40 = .ok (.ireturn, 1) := by decide +kernel
set_option maxRecDepth 20000 in
theorem ggX1_forget_J7_fill_53178 : GoodIn wsX1_forget wsJ7_fill_53178 := goodIn_r _ [5] rfl (by decide +kernel)
set_option maxRecDepth 20000 in
theorem gX1_forget_J7_fill_53178 : GoodIn wsX1_forget (va_wsS RX1 13 yJ7_fill_53178 wsJ7_fill_53178) := goodIn_app (goodIn_of _ (by decide +kernel)) ggX1_forget_J7_fill_53178
theorem dX1_forget_0 : decode cX1_forget 0 = .ok (.aload_n 0, 1) := by decide +kernel
theorem dX1_forget_1 : decode cX1_forget 1 = .ok (.getfield 7, 3) := by decide +kernel
theorem dX1_forget_4 : decode cX1_forget 4 = .ok (.iconst (-1), 1) := by decide +kernel
theorem dX1_forget_5 : decode cX1_forget 5 = .ok (.invokestatic 13, 3) := by decide +kernel
theorem dX1_forget_8 : decode cX1_forget 8 = .ok (.return_, 1) := by decide +kernel
set_option maxRecDepth 20000 in
theorem ggX1_agree_X1_meaning : GoodIn wsX1_agree wsX1_meaning := goodIn_r _ [6, 1, 7] rfl (by decide +kernel)
set_option maxRecDepth 20000 in
theorem gX1_agree_X1_meaning : GoodIn wsX1_agree (wsV RX1 19 RX1 yX1_meaning wsX1_meaning) := goodIn_app (goodIn_of _ (by decide +kernel)) ggX1_agree_X1_meaning
theorem dX1_agree_0 : decode cX1_agree 0 = .ok (.iload_n 1, 1) := by decide +kernel
theorem dX1_agree_1 : decode cX1_agree 1 = .ok (.bipush 46, 2) := by decide +kernel
theorem dX1_agree_3 : decode cX1_agree 3 = .ok (.if_icmp .ne 5, 3) := by decide +kernel
theorem dX1_agree_6 : decode cX1_agree 6 = .ok (.iconst 1, 1) := by decide +kernel
theorem dX1_agree_7 : decode cX1_agree 7 = .ok (.ireturn, 1) := by decide +kernel
theorem dX1_agree_8 : decode cX1_agree 8 = .ok (.iload_n 1, 1) := by decide +kernel
theorem dX1_agree_9 : decode cX1_agree 9 = .ok (.bipush 97, 2) := by decide +kernel
theorem dX1_agree_11 : decode cX1_agree 11 = .ok (.if_icmp .lt 32, 3) := by decide +kernel
theorem dX1_agree_14 : decode cX1_agree 14 = .ok (.iload_n 1, 1) := by decide +kernel
theorem dX1_agree_15 : decode cX1_agree 15 = .ok (.bipush 122, 2) := by decide +kernel
theorem dX1_agree_17 : decode cX1_agree 17 = .ok (.if_icmp .gt 26, 3) := by decide +kernel
theorem dX1_agree_20 : decode cX1_agree 20 = .ok (.aload_n 0, 1) := by decide +kernel
theorem dX1_agree_21 : decode cX1_agree 21 = .ok (.getfield 7, 3) := by decide +kernel
theorem dX1_agree_24 : decode cX1_agree 24 = .ok (.iload_n 1, 1) := by decide +kernel
theorem dX1_agree_25 : decode cX1_agree 25 = .ok (.bipush 97, 2) := by decide +kernel
theorem dX1_agree_27 : decode cX1_agree 27 = .ok (.isub, 1) := by decide +kernel
theorem dX1_agree_28 : decode cX1_agree 28 = .ok (.iaload, 1) := by decide +kernel
theorem dX1_agree_29 : decode cX1_agree 29 = .ok (.iconst (-1), 1) := by decide +kernel
theorem dX1_agree_30 : decode cX1_agree 30 = .ok (.if_icmp .ne 13, 3) := by decide +kernel
theorem dX1_agree_33 : decode cX1_agree 33 = .ok (.aload_n 0, 1) := by decide +kernel
theorem dX1_agree_34 : decode cX1_agree 34 = .ok (.getfield 7, 3) := by decide +kernel
theorem dX1_agree_37 : decode cX1_agree 37 = .ok (.iload_n 1, 1) := by decide +kernel
theorem dX1_agree_38 : decode cX1_agree 38 = .ok (.bipush 97, 2) := by decide +kernel
theorem dX1_agree_40 : decode cX1_agree 40 = .ok (.isub, 1) := by decide +kernel
theorem dX1_agree_41 : decode cX1_agree 41 = .ok (.iload_n 2, 1) := by decide +kernel
theorem dX1_agree_42 : decode cX1_agree 42 = .ok (.iastore, 1) := by decide +kernel
theorem dX1_agree_43 : decode cX1_agree 43 = .ok (.aload_n 0, 1) := by decide +kernel
theorem dX1_agree_44 : decode cX1_agree 44 = .ok (.iload_n 1, 1) := by decide +kernel
theorem dX1_agree_45 : decode cX1_agree 45 = .ok (.invokevirtual 19, 3) := by decide +kernel
theorem dX1_agree_48 : decode cX1_agree 48 = .ok (.iload_n 2, 1) := by decide +kernel
theorem dX1_agree_49 : decode cX1_agree 49 = .ok (.if_icmp .ne 7, 3) := by decide +kernel
theorem dX1_agree_52 : decode cX1_agree 52 = .ok (.iconst 1, 1) := by decide +kernel
theorem dX1_agree_53 : decode cX1_agree 53 = .ok (.goto 4, 3) := by decide +kernel
theorem dX1_agree_56 : decode cX1_agree 56 = .ok (.iconst 0, 1) := by decide +kernel
theorem dX1_agree_57 : decode cX1_agree 57 = .ok (.ireturn, 1) := by decide +kernel
theorem dX1_meaning_0 : decode cX1_meaning 0 = .ok (.iload_n 1, 1) := by decide +kernel
theorem dX1_meaning_1 : decode cX1_meaning 1 = .ok (.bipush 97, 2) := by decide +kernel
theorem dX1_meaning_3 : decode cX1_meaning 3 = .ok (.if_icmp .lt 19, 3) := by decide +kernel
theorem dX1_meaning_6 : decode cX1_meaning 6 = .ok (.iload_n 1, 1) := by decide +kernel
theorem dX1_meaning_7 : decode cX1_meaning 7 = .ok (.bipush 122, 2) := by decide +kernel
theorem dX1_meaning_9 : decode cX1_meaning 9 = .ok (.if_icmp .gt 13, 3) := by decide +kernel
theorem dX1_meaning_12 : decode cX1_meaning 12 = .ok (.aload_n 0, 1) := by decide +kernel
theorem dX1_meaning_13 : decode cX1_meaning 13 = .ok (.getfield 7, 3) := by decide +kernel
theorem dX1_meaning_16 : decode cX1_meaning 16 = .ok (.iload_n 1, 1) := by decide +kernel
theorem dX1_meaning_17 : decode cX1_meaning 17 = .ok (.bipush 97, 2) := by decide +kernel
theorem dX1_meaning_19 : decode cX1_meaning 19 = .ok (.isub, 1) := by decide +kernel
theorem dX1_meaning_20 : decode cX1_meaning 20 = .ok (.iaload, 1) := by decide +kernel
theorem dX1_meaning_21 : decode cX1_meaning 21 = .ok (.ireturn, 1) := by decide +kernel
theorem dX1_meaning_22 : decode cX1_meaning 22 = .ok (.iload_n 1, 1) := by decide +kernel
theorem dX1_meaning_23 : decode cX1_meaning 23 = .ok (.bipush 48, 2) := by decide +kernel
theorem dX1_meaning_25 : decode cX1_meaning 25 = .ok (.if_icmp .lt 16, 3) := by decide +kernel
theorem dX1_meaning_28 : decode cX1_meaning 28 = .ok (.iload_n 1, 1) := by decide +kernel
theorem dX1_meaning_29 : decode cX1_meaning 29 = .ok (.bipush 57, 2) := by decide +kernel
theorem dX1_meaning_31 : decode cX1_meaning 31 = .ok (.if_icmp .gt 10, 3) := by decide +kernel
theorem dX1_meaning_34 : decode cX1_meaning 34 = .ok (.iload_n 1, 1) := by decide +kernel
theorem dX1_meaning_35 : decode cX1_meaning 35 = .ok (.bipush 48, 2) := by decide +kernel
theorem dX1_meaning_37 : decode cX1_meaning 37 = .ok (.isub, 1) := by decide +kernel
theorem dX1_meaning_38 : decode cX1_meaning 38 = .ok (.goto 4, 3) := by decide +kernel
theorem dX1_meaning_41 : decode cX1_meaning 41 = .ok (.iconst 0, 1) := by decide +kernel
theorem dX1_meaning_42 : decode cX1_meaning 42 = .ok (.ireturn, 1) := by decide +kernel
theorem dX2_init_0 : decode cX2_init 0 = .ok (.aload_n 0, 1) := by decide +kernel
theorem dX2_init_1 : decode cX2_init 1 = .ok (.invokespecial 3, 3) := by decide +kernel
theorem dX2_init_4 : decode cX2_init 4 = .ok (.aload_n 0, 1) := by decide +kernel
theorem dX2_init_5 : decode cX2_init 5 = .ok (.sipush 301, 3) := by decide +kernel
theorem dX2_init_8 : decode cX2_init 8 = .ok (.newarray .int, 2) := by decide +kernel
theorem dX2_init_10 : decode cX2_init 10 = .ok (.putfield 9, 3) := by decide +kernel
theorem dX2_init_13 : decode cX2_init 13 = .ok (.aload_n 0, 1) := by decide +kernel
theorem dX2_init_14 : decode cX2_init 14 = .ok (.sipush 301, 3) := by decide +kernel
theorem dX2_init_17 : decode cX2_init 17 = .ok (.newarray .int, 2) := by decide +kernel
theorem dX2_init_19 : decode cX2_init 19 = .ok (.putfield 15, 3) := by decide +kernel
theorem dX2_init_22 : decode cX2_init 22 = .ok (.aload_n 0, 1) := by decide +kernel
theorem dX2_init_23 : decode cX2_init 23 = .ok (.sipush 301, 3) := by decide +kernel
theorem dX2_init_26 : decode cX2_init 26 = .ok (.newarray .int, 2) := by decide +kernel
theorem dX2_init_28 : decode cX2_init 28 = .ok (.putfield 18, 3) := by decide +kernel
theorem dX2_init_31 : decode cX2_init 31 = .ok (.aload_n 0, 1) := by decide +kernel
theorem dX2_init_32 : decode cX2_init 32 = .ok (.sipush 903, 3) := by decide +kernel
theorem dX2_init_35 : decode cX2_init 35 = .ok (.newarray .int, 2) := by decide +kernel
theorem dX2_init_37 : decode cX2_init 37 = .ok (.putfield 21, 3) := by decide +kernel
theorem dX2_init_40 : decode cX2_init 40 = .ok (.aload_n 0, 1) := by decide +kernel
theorem dX2_init_41 : decode cX2_init 41 = .ok (.iconst 0, 1) := by decide +kernel
theorem dX2_init_42 : decode cX2_init 42 = .ok (.putfield 24, 3) := by decide +kernel
theorem dX2_init_45 : decode cX2_init 45 = .ok (.return_, 1) := by decide +kernel
theorem dX2_has_0 : decode cX2_has 0 = .ok (.iload_n 1, 1) := by decide +kernel
theorem dX2_has_1 : decode cX2_has 1 = .ok (.iconst 1, 1) := by decide +kernel
theorem dX2_has_2 : decode cX2_has 2 = .ok (.if_icmp .lt 22, 3) := by decide +kernel
theorem dX2_has_5 : decode cX2_has 5 = .ok (.iload_n 1, 1) := by decide +kernel
theorem dX2_has_6 : decode cX2_has 6 = .ok (.aload_n 0, 1) := by decide +kernel
theorem dX2_has_7 : decode cX2_has 7 = .ok (.getfield 24, 3) := by decide +kernel
theorem dX2_has_10 : decode cX2_has 10 = .ok (.if_icmp .gt 14, 3) := by decide +kernel
theorem dX2_has_13 : decode cX2_has 13 = .ok (.iload_n 1, 1) := by decide +kernel
theorem dX2_has_14 : decode cX2_has 14 = .ok (.sipush 300, 3) := by decide +kernel
theorem dX2_has_17 : decode cX2_has 17 = .ok (.if_icmp .gt 7, 3) := by decide +kernel
theorem dX2_has_20 : decode cX2_has 20 = .ok (.iconst 1, 1) := by decide +kernel
theorem dX2_has_21 : decode cX2_has 21 = .ok (.goto 4, 3) := by decide +kernel
theorem dX2_has_24 : decode cX2_has 24 = .ok (.iconst 0, 1) := by decide +kernel
theorem dX2_has_25 : decode cX2_has 25 = .ok (.ireturn, 1) := by decide +kernel
theorem dX2_last_0 : decode cX2_last 0 = .ok (.aload_n 0, 1) := by decide +kernel
theorem dX2_last_1 : decode cX2_last 1 = .ok (.getfield 24, 3) := by decide +kernel
theorem dX2_last_4 : decode cX2_last 4 = .ok (.ireturn, 1) := by decide +kernel
set_option maxRecDepth 20000 in
theorem ggX2_ruleNumber_X2_has : GoodIn wsX2_ruleNumber wsX2_has := goodIn_r _ [6, 7, 8, 9, 10, 11, 12] rfl (by decide +kernel)
set_option maxRecDepth 20000 in
theorem gX2_ruleNumber_X2_has : GoodIn wsX2_ruleNumber (wsV RX2 28 RX2 yX2_has wsX2_has) := goodIn_app (goodIn_of _ (by decide +kernel)) ggX2_ruleNumber_X2_has
theorem dX2_ruleNumber_0 : decode cX2_ruleNumber 0 = .ok (.aload_n 0, 1) := by decide +kernel
theorem dX2_ruleNumber_1 : decode cX2_ruleNumber 1 = .ok (.iload_n 1, 1) := by decide +kernel
theorem dX2_ruleNumber_2 : decode cX2_ruleNumber 2 = .ok (.invokevirtual 28, 3) := by decide +kernel
theorem dX2_ruleNumber_5 : decode cX2_ruleNumber 5 = .ok (.ifCond .eq 12, 3) := by decide +kernel
theorem dX2_ruleNumber_8 : decode cX2_ruleNumber 8 = .ok (.aload_n 0, 1) := by decide +kernel
theorem dX2_ruleNumber_9 : decode cX2_ruleNumber 9 = .ok (.getfield 9, 3) := by decide +kernel
theorem dX2_ruleNumber_12 : decode cX2_ruleNumber 12 = .ok (.iload_n 1, 1) := by decide +kernel
theorem dX2_ruleNumber_13 : decode cX2_ruleNumber 13 = .ok (.iaload, 1) := by decide +kernel
theorem dX2_ruleNumber_14 : decode cX2_ruleNumber 14 = .ok (.goto 4, 3) := by decide +kernel
theorem dX2_ruleNumber_17 : decode cX2_ruleNumber 17 = .ok (.iconst (-1), 1) := by decide +kernel
theorem dX2_ruleNumber_18 : decode cX2_ruleNumber 18 = .ok (.ireturn, 1) := by decide +kernel
set_option maxRecDepth 20000 in
theorem ggX2_instance_X2_has : GoodIn wsX2_instance wsX2_has := goodIn_r _ [6, 7, 8, 9, 10, 11, 12] rfl (by decide +kernel)
set_option maxRecDepth 20000 in
theorem gX2_instance_X2_has : GoodIn wsX2_instance (wsV RX2 28 RX2 yX2_has wsX2_has) := goodIn_app (goodIn_of _ (by decide +kernel)) ggX2_instance_X2_has
theorem dX2_instance_0 : decode cX2_instance 0 = .ok (.aload_n 0, 1) := by decide +kernel
theorem dX2_instance_1 : decode cX2_instance 1 = .ok (.iload_n 1, 1) := by decide +kernel
theorem dX2_instance_2 : decode cX2_instance 2 = .ok (.invokevirtual 28, 3) := by decide +kernel
theorem dX2_instance_5 : decode cX2_instance 5 = .ok (.ifCond .eq 12, 3) := by decide +kernel
theorem dX2_instance_8 : decode cX2_instance 8 = .ok (.aload_n 0, 1) := by decide +kernel
theorem dX2_instance_9 : decode cX2_instance 9 = .ok (.getfield 15, 3) := by decide +kernel
theorem dX2_instance_12 : decode cX2_instance 12 = .ok (.iload_n 1, 1) := by decide +kernel
theorem dX2_instance_13 : decode cX2_instance 13 = .ok (.iaload, 1) := by decide +kernel
theorem dX2_instance_14 : decode cX2_instance 14 = .ok (.goto 4, 3) := by decide +kernel
theorem dX2_instance_17 : decode cX2_instance 17 = .ok (.iconst 0, 1) := by decide +kernel
theorem dX2_instance_18 : decode cX2_instance 18 = .ok (.ireturn, 1) := by decide +kernel
set_option maxRecDepth 20000 in
theorem ggX2_premiseCount_X2_has : GoodIn wsX2_premiseCount wsX2_has := goodIn_r _ [6, 7, 8, 9, 10, 11, 12] rfl (by decide +kernel)
set_option maxRecDepth 20000 in
theorem gX2_premiseCount_X2_has : GoodIn wsX2_premiseCount (wsV RX2 28 RX2 yX2_has wsX2_has) := goodIn_app (goodIn_of _ (by decide +kernel)) ggX2_premiseCount_X2_has
theorem dX2_premiseCount_0 : decode cX2_premiseCount 0 = .ok (.aload_n 0, 1) := by decide +kernel
theorem dX2_premiseCount_1 : decode cX2_premiseCount 1 = .ok (.iload_n 1, 1) := by decide +kernel
theorem dX2_premiseCount_2 : decode cX2_premiseCount 2 = .ok (.invokevirtual 28, 3) := by decide +kernel
theorem dX2_premiseCount_5 : decode cX2_premiseCount 5 = .ok (.ifCond .eq 12, 3) := by decide +kernel
theorem dX2_premiseCount_8 : decode cX2_premiseCount 8 = .ok (.aload_n 0, 1) := by decide +kernel
theorem dX2_premiseCount_9 : decode cX2_premiseCount 9 = .ok (.getfield 18, 3) := by decide +kernel
theorem dX2_premiseCount_12 : decode cX2_premiseCount 12 = .ok (.iload_n 1, 1) := by decide +kernel
theorem dX2_premiseCount_13 : decode cX2_premiseCount 13 = .ok (.iaload, 1) := by decide +kernel
theorem dX2_premiseCount_14 : decode cX2_premiseCount 14 = .ok (.goto 4, 3) := by decide +kernel
theorem dX2_premiseCount_17 : decode cX2_premiseCount 17 = .ok (.iconst 0, 1) := by decide +kernel
theorem dX2_premiseCount_18 : decode cX2_premiseCount 18 = .ok (.ireturn, 1) := by decide +kernel
set_option maxRecDepth 20000 in
theorem ggX2_premiseAt_X2_premiseCount : GoodIn wsX2_premiseAt wsX2_premiseCount := goodIn_r _ [6, 7, 8, 9, 10, 5, 11, 12, 13, 14, 15, 16, 17] rfl (by decide +kernel)
set_option maxRecDepth 20000 in
theorem gX2_premiseAt_X2_premiseCount : GoodIn wsX2_premiseAt (wsV RX2 32 RX2 yX2_premiseCount wsX2_premiseCount) := goodIn_app (goodIn_of _ (by decide +kernel)) ggX2_premiseAt_X2_premiseCount
theorem dX2_premiseAt_0 : decode cX2_premiseAt 0 = .ok (.iload_n 2, 1) := by decide +kernel
theorem dX2_premiseAt_1 : decode cX2_premiseAt 1 = .ok (.ifCond .lt 21, 3) := by decide +kernel
theorem dX2_premiseAt_4 : decode cX2_premiseAt 4 = .ok (.iload_n 2, 1) := by decide +kernel
theorem dX2_premiseAt_5 : decode cX2_premiseAt 5 = .ok (.iconst 3, 1) := by decide +kernel
theorem dX2_premiseAt_6 : decode cX2_premiseAt 6 = .ok (.if_icmp .ge 16, 3) := by decide +kernel
theorem dX2_premiseAt_9 : decode cX2_premiseAt 9 = .ok (.iload_n 2, 1) := by decide +kernel
theorem dX2_premiseAt_10 : decode cX2_premiseAt 10 = .ok (.aload_n 0, 1) := by decide +kernel
theorem dX2_premiseAt_11 : decode cX2_premiseAt 11 = .ok (.iload_n 1, 1) := by decide +kernel
theorem dX2_premiseAt_12 : decode cX2_premiseAt 12 = .ok (.invokevirtual 32, 3) := by decide +kernel
theorem dX2_premiseAt_15 : decode cX2_premiseAt 15 = .ok (.if_icmp .ge 7, 3) := by decide +kernel
theorem dX2_premiseAt_18 : decode cX2_premiseAt 18 = .ok (.iconst 1, 1) := by decide +kernel
theorem dX2_premiseAt_19 : decode cX2_premiseAt 19 = .ok (.goto 4, 3) := by decide +kernel
theorem dX2_premiseAt_22 : decode cX2_premiseAt 22 = .ok (.iconst 0, 1) := by decide +kernel
theorem dX2_premiseAt_23 : decode cX2_premiseAt 23 = .ok (.istore_n 3, 1) := by decide +kernel
theorem dX2_premiseAt_24 : decode cX2_premiseAt 24 = .ok (.iload_n 3, 1) := by decide +kernel
theorem dX2_premiseAt_25 : decode cX2_premiseAt 25 = .ok (.ifCond .eq 16, 3) := by decide +kernel
theorem dX2_premiseAt_28 : decode cX2_premiseAt 28 = .ok (.aload_n 0, 1) := by decide +kernel
theorem dX2_premiseAt_29 : decode cX2_premiseAt 29 = .ok (.getfield 21, 3) := by decide +kernel
theorem dX2_premiseAt_32 : decode cX2_premiseAt 32 = .ok (.iload_n 1, 1) := by decide +kernel
theorem dX2_premiseAt_33 : decode cX2_premiseAt 33 = .ok (.iconst 3, 1) := by decide +kernel
theorem dX2_premiseAt_34 : decode cX2_premiseAt 34 = .ok (.imul, 1) := by decide +kernel
theorem dX2_premiseAt_35 : decode cX2_premiseAt 35 = .ok (.iload_n 2, 1) := by decide +kernel
theorem dX2_premiseAt_36 : decode cX2_premiseAt 36 = .ok (.iadd, 1) := by decide +kernel
theorem dX2_premiseAt_37 : decode cX2_premiseAt 37 = .ok (.iaload, 1) := by decide +kernel
theorem dX2_premiseAt_38 : decode cX2_premiseAt 38 = .ok (.goto 4, 3) := by decide +kernel
theorem dX2_premiseAt_41 : decode cX2_premiseAt 41 = .ok (.iconst 0, 1) := by decide +kernel
theorem dX2_premiseAt_42 : decode cX2_premiseAt 42 = .ok (.ireturn, 1) := by decide +kernel
theorem dX2_lay_0 : decode cX2_lay 0 = .ok (.aload_n 0, 1) := by decide +kernel
theorem dX2_lay_1 : decode cX2_lay 1 = .ok (.getfield 24, 3) := by decide +kernel
theorem dX2_lay_4 : decode cX2_lay 4 = .ok (.sipush 300, 3) := by decide +kernel
theorem dX2_lay_7 : decode cX2_lay 7 = .ok (.if_icmp .lt 5, 3) := by decide +kernel
theorem dX2_lay_10 : decode cX2_lay 10 = .ok (.iconst 0, 1) := by decide +kernel
theorem dX2_lay_11 : decode cX2_lay 11 = .ok (.ireturn, 1) := by decide +kernel
theorem dX2_lay_12 : decode cX2_lay 12 = .ok (.aload_n 0, 1) := by decide +kernel
theorem dX2_lay_13 : decode cX2_lay 13 = .ok (.dup, 1) := by decide +kernel
theorem dX2_lay_14 : decode cX2_lay 14 = .ok (.getfield 24, 3) := by decide +kernel
theorem dX2_lay_17 : decode cX2_lay 17 = .ok (.iconst 1, 1) := by decide +kernel
theorem dX2_lay_18 : decode cX2_lay 18 = .ok (.iadd, 1) := by decide +kernel
theorem dX2_lay_19 : decode cX2_lay 19 = .ok (.putfield 24, 3) := by decide +kernel
theorem dX2_lay_22 : decode cX2_lay 22 = .ok (.aload_n 0, 1) := by decide +kernel
theorem dX2_lay_23 : decode cX2_lay 23 = .ok (.getfield 9, 3) := by decide +kernel
theorem dX2_lay_26 : decode cX2_lay 26 = .ok (.aload_n 0, 1) := by decide +kernel
theorem dX2_lay_27 : decode cX2_lay 27 = .ok (.getfield 24, 3) := by decide +kernel
theorem dX2_lay_30 : decode cX2_lay 30 = .ok (.iload_n 1, 1) := by decide +kernel
theorem dX2_lay_31 : decode cX2_lay 31 = .ok (.iastore, 1) := by decide +kernel
theorem dX2_lay_32 : decode cX2_lay 32 = .ok (.aload_n 0, 1) := by decide +kernel
theorem dX2_lay_33 : decode cX2_lay 33 = .ok (.getfield 15, 3) := by decide +kernel
theorem dX2_lay_36 : decode cX2_lay 36 = .ok (.aload_n 0, 1) := by decide +kernel
theorem dX2_lay_37 : decode cX2_lay 37 = .ok (.getfield 24, 3) := by decide +kernel
theorem dX2_lay_40 : decode cX2_lay 40 = .ok (.iload_n 2, 1) := by decide +kernel
theorem dX2_lay_41 : decode cX2_lay 41 = .ok (.iastore, 1) := by decide +kernel
theorem dX2_lay_42 : decode cX2_lay 42 = .ok (.aload_n 0, 1) := by decide +kernel
theorem dX2_lay_43 : decode cX2_lay 43 = .ok (.getfield 18, 3) := by decide +kernel
theorem dX2_lay_46 : decode cX2_lay 46 = .ok (.aload_n 0, 1) := by decide +kernel
theorem dX2_lay_47 : decode cX2_lay 47 = .ok (.getfield 24, 3) := by decide +kernel
theorem dX2_lay_50 : decode cX2_lay 50 = .ok (.iconst 0, 1) := by decide +kernel
theorem dX2_lay_51 : decode cX2_lay 51 = .ok (.iastore, 1) := by decide +kernel
theorem dX2_lay_52 : decode cX2_lay 52 = .ok (.aload_n 0, 1) := by decide +kernel
theorem dX2_lay_53 : decode cX2_lay 53 = .ok (.getfield 24, 3) := by decide +kernel
theorem dX2_lay_56 : decode cX2_lay 56 = .ok (.ireturn, 1) := by decide +kernel
set_option maxRecDepth 20000 in
theorem ggX2_addPremise_X2_premiseCount : GoodIn wsX2_addPremise wsX2_premiseCount := goodIn_r _ [7, 2, 8, 9, 10, 6, 11, 12, 13, 14, 15, 16, 17] rfl (by decide +kernel)
set_option maxRecDepth 20000 in
theorem gX2_addPremise_X2_premiseCount : GoodIn wsX2_addPremise (wsV RX2 32 RX2 yX2_premiseCount wsX2_premiseCount) := goodIn_app (goodIn_of _ (by decide +kernel)) ggX2_addPremise_X2_premiseCount
set_option maxRecDepth 20000 in
theorem ggX2_addPremise_X2_has : GoodIn wsX2_addPremise wsX2_has := goodIn_r _ [11, 12, 13, 14, 15, 16, 17] rfl (by decide +kernel)
set_option maxRecDepth 20000 in
theorem gX2_addPremise_X2_has : GoodIn wsX2_addPremise (wsV RX2 28 RX2 yX2_has wsX2_has) := goodIn_app (goodIn_of _ (by decide +kernel)) ggX2_addPremise_X2_has
theorem dX2_addPremise_0 : decode cX2_addPremise 0 = .ok (.aload_n 0, 1) := by decide +kernel
theorem dX2_addPremise_1 : decode cX2_addPremise 1 = .ok (.iload_n 1, 1) := by decide +kernel
theorem dX2_addPremise_2 : decode cX2_addPremise 2 = .ok (.invokevirtual 32, 3) := by decide +kernel
theorem dX2_addPremise_5 : decode cX2_addPremise 5 = .ok (.istore_n 3, 1) := by decide +kernel
theorem dX2_addPremise_6 : decode cX2_addPremise 6 = .ok (.aload_n 0, 1) := by decide +kernel
theorem dX2_addPremise_7 : decode cX2_addPremise 7 = .ok (.iload_n 1, 1) := by decide +kernel
theorem dX2_addPremise_8 : decode cX2_addPremise 8 = .ok (.invokevirtual 28, 3) := by decide +kernel
theorem dX2_addPremise_11 : decode cX2_addPremise 11 = .ok (.ifCond .eq 28, 3) := by decide +kernel
theorem dX2_addPremise_14 : decode cX2_addPremise 14 = .ok (.iload_n 3, 1) := by decide +kernel
theorem dX2_addPremise_15 : decode cX2_addPremise 15 = .ok (.iconst 3, 1) := by decide +kernel
theorem dX2_addPremise_16 : decode cX2_addPremise 16 = .ok (.if_icmp .ge 23, 3) := by decide +kernel
theorem dX2_addPremise_19 : decode cX2_addPremise 19 = .ok (.aload_n 0, 1) := by decide +kernel
theorem dX2_addPremise_20 : decode cX2_addPremise 20 = .ok (.getfield 21, 3) := by decide +kernel
theorem dX2_addPremise_23 : decode cX2_addPremise 23 = .ok (.iload_n 1, 1) := by decide +kernel
theorem dX2_addPremise_24 : decode cX2_addPremise 24 = .ok (.iconst 3, 1) := by decide +kernel
theorem dX2_addPremise_25 : decode cX2_addPremise 25 = .ok (.imul, 1) := by decide +kernel
theorem dX2_addPremise_26 : decode cX2_addPremise 26 = .ok (.iload_n 3, 1) := by decide +kernel
theorem dX2_addPremise_27 : decode cX2_addPremise 27 = .ok (.iadd, 1) := by decide +kernel
theorem dX2_addPremise_28 : decode cX2_addPremise 28 = .ok (.iload_n 2, 1) := by decide +kernel
theorem dX2_addPremise_29 : decode cX2_addPremise 29 = .ok (.iastore, 1) := by decide +kernel
theorem dX2_addPremise_30 : decode cX2_addPremise 30 = .ok (.aload_n 0, 1) := by decide +kernel
theorem dX2_addPremise_31 : decode cX2_addPremise 31 = .ok (.getfield 18, 3) := by decide +kernel
theorem dX2_addPremise_34 : decode cX2_addPremise 34 = .ok (.iload_n 1, 1) := by decide +kernel
theorem dX2_addPremise_35 : decode cX2_addPremise 35 = .ok (.iload_n 3, 1) := by decide +kernel
theorem dX2_addPremise_36 : decode cX2_addPremise 36 = .ok (.iconst 1, 1) := by decide +kernel
theorem dX2_addPremise_37 : decode cX2_addPremise 37 = .ok (.iadd, 1) := by decide +kernel
theorem dX2_addPremise_38 : decode cX2_addPremise 38 = .ok (.iastore, 1) := by decide +kernel
theorem dX2_addPremise_39 : decode cX2_addPremise 39 = .ok (.return_, 1) := by decide +kernel
set_option maxRecDepth 20000 in
theorem ggX2_move_X2_has : GoodIn wsX2_move wsX2_has := goodIn_r _ [9, 10, 15, 16, 17, 18, 19] rfl (by decide +kernel)
set_option maxRecDepth 20000 in
theorem gX2_move_X2_has : GoodIn wsX2_move (wsV RX2 28 RX2 yX2_has wsX2_has) := goodIn_app (goodIn_of _ (by decide +kernel)) ggX2_move_X2_has
set_option maxRecDepth 20000 in
theorem ggX2_move_X2_premiseCount : GoodIn wsX2_move wsX2_premiseCount := goodIn_r _ [14, 4, 5, 6, 7, 8, 9, 10, 15, 16, 17, 18, 19] rfl (by decide +kernel)
set_option maxRecDepth 20000 in
theorem gX2_move_X2_premiseCount : GoodIn wsX2_move (wsV RX2 32 RX2 yX2_premiseCount wsX2_premiseCount) := goodIn_app (goodIn_of _ (by decide +kernel)) ggX2_move_X2_premiseCount
theorem dX2_move_0 : decode cX2_move 0 = .ok (.aload_n 0, 1) := by decide +kernel
theorem dX2_move_1 : decode cX2_move 1 = .ok (.iload_n 1, 1) := by decide +kernel
theorem dX2_move_2 : decode cX2_move 2 = .ok (.invokevirtual 28, 3) := by decide +kernel
theorem dX2_move_5 : decode cX2_move 5 = .ok (.ifCond .eq 11, 3) := by decide +kernel
theorem dX2_move_8 : decode cX2_move 8 = .ok (.aload_n 0, 1) := by decide +kernel
theorem dX2_move_9 : decode cX2_move 9 = .ok (.iload_n 2, 1) := by decide +kernel
theorem dX2_move_10 : decode cX2_move 10 = .ok (.invokevirtual 28, 3) := by decide +kernel
theorem dX2_move_13 : decode cX2_move 13 = .ok (.ifCond .ne 4, 3) := by decide +kernel
theorem dX2_move_16 : decode cX2_move 16 = .ok (.return_, 1) := by decide +kernel
theorem dX2_move_17 : decode cX2_move 17 = .ok (.aload_n 0, 1) := by decide +kernel
theorem dX2_move_18 : decode cX2_move 18 = .ok (.iload_n 1, 1) := by decide +kernel
theorem dX2_move_19 : decode cX2_move 19 = .ok (.invokevirtual 32, 3) := by decide +kernel
theorem dX2_move_22 : decode cX2_move 22 = .ok (.istore 4, 2) := by decide +kernel
theorem dX2_move_24 : decode cX2_move 24 = .ok (.iconst 0, 1) := by decide +kernel
theorem dX2_move_25 : decode cX2_move 25 = .ok (.istore 5, 2) := by decide +kernel
theorem dX2_move_27 : decode cX2_move 27 = .ok (.iload 5, 2) := by decide +kernel
theorem dX2_move_29 : decode cX2_move 29 = .ok (.iload 4, 2) := by decide +kernel
theorem dX2_move_31 : decode cX2_move 31 = .ok (.if_icmp .ge 65, 3) := by decide +kernel
theorem dX2_move_34 : decode cX2_move 34 = .ok (.aload_n 0, 1) := by decide +kernel
theorem dX2_move_35 : decode cX2_move 35 = .ok (.getfield 21, 3) := by decide +kernel
theorem dX2_move_38 : decode cX2_move 38 = .ok (.iload_n 1, 1) := by decide +kernel
theorem dX2_move_39 : decode cX2_move 39 = .ok (.iconst 3, 1) := by decide +kernel
theorem dX2_move_40 : decode cX2_move 40 = .ok (.imul, 1) := by decide +kernel
theorem dX2_move_41 : decode cX2_move 41 = .ok (.iload 5, 2) := by decide +kernel
theorem dX2_move_43 : decode cX2_move 43 = .ok (.iadd, 1) := by decide +kernel
theorem dX2_move_44 : decode cX2_move 44 = .ok (.iaload, 1) := by decide +kernel
theorem dX2_move_45 : decode cX2_move 45 = .ok (.istore 6, 2) := by decide +kernel
theorem dX2_move_47 : decode cX2_move 47 = .ok (.iload 6, 2) := by decide +kernel
theorem dX2_move_49 : decode cX2_move 49 = .ok (.ifCond .lt 14, 3) := by decide +kernel
theorem dX2_move_52 : decode cX2_move 52 = .ok (.iload 6, 2) := by decide +kernel
theorem dX2_move_54 : decode cX2_move 54 = .ok (.aload_n 3, 1) := by decide +kernel
theorem dX2_move_55 : decode cX2_move 55 = .ok (.arraylength, 1) := by decide +kernel
theorem dX2_move_56 : decode cX2_move 56 = .ok (.if_icmp .ge 7, 3) := by decide +kernel
theorem dX2_move_59 : decode cX2_move 59 = .ok (.iconst 1, 1) := by decide +kernel
theorem dX2_move_60 : decode cX2_move 60 = .ok (.goto 4, 3) := by decide +kernel
theorem dX2_move_63 : decode cX2_move 63 = .ok (.iconst 0, 1) := by decide +kernel
theorem dX2_move_64 : decode cX2_move 64 = .ok (.istore 7, 2) := by decide +kernel
theorem dX2_move_66 : decode cX2_move 66 = .ok (.aload_n 0, 1) := by decide +kernel
theorem dX2_move_67 : decode cX2_move 67 = .ok (.getfield 21, 3) := by decide +kernel
theorem dX2_move_70 : decode cX2_move 70 = .ok (.iload_n 2, 1) := by decide +kernel
theorem dX2_move_71 : decode cX2_move 71 = .ok (.iconst 3, 1) := by decide +kernel
theorem dX2_move_72 : decode cX2_move 72 = .ok (.imul, 1) := by decide +kernel
theorem dX2_move_73 : decode cX2_move 73 = .ok (.iload 5, 2) := by decide +kernel
theorem dX2_move_75 : decode cX2_move 75 = .ok (.iadd, 1) := by decide +kernel
theorem dX2_move_76 : decode cX2_move 76 = .ok (.iload 7, 2) := by decide +kernel
theorem dX2_move_78 : decode cX2_move 78 = .ok (.ifCond .eq 10, 3) := by decide +kernel
theorem dX2_move_81 : decode cX2_move 81 = .ok (.aload_n 3, 1) := by decide +kernel
theorem dX2_move_82 : decode cX2_move 82 = .ok (.iload 6, 2) := by decide +kernel
theorem dX2_move_84 : decode cX2_move 84 = .ok (.iaload, 1) := by decide +kernel
theorem dX2_move_85 : decode cX2_move 85 = .ok (.goto 4, 3) := by decide +kernel
theorem dX2_move_88 : decode cX2_move 88 = .ok (.iconst 0, 1) := by decide +kernel
theorem dX2_move_89 : decode cX2_move 89 = .ok (.iastore, 1) := by decide +kernel
theorem dX2_move_90 : decode cX2_move 90 = .ok (.iinc 5 1, 3) := by decide +kernel
theorem dX2_move_93 : decode cX2_move 93 = .ok (.goto (-66), 3) := by decide +kernel
theorem dX2_move_96 : decode cX2_move 96 = .ok (.aload_n 0, 1) := by decide +kernel
theorem dX2_move_97 : decode cX2_move 97 = .ok (.getfield 9, 3) := by decide +kernel
theorem dX2_move_100 : decode cX2_move 100 = .ok (.iload_n 2, 1) := by decide +kernel
theorem dX2_move_101 : decode cX2_move 101 = .ok (.aload_n 0, 1) := by decide +kernel
theorem dX2_move_102 : decode cX2_move 102 = .ok (.getfield 9, 3) := by decide +kernel
theorem dX2_move_105 : decode cX2_move 105 = .ok (.iload_n 1, 1) := by decide +kernel
theorem dX2_move_106 : decode cX2_move 106 = .ok (.iaload, 1) := by decide +kernel
theorem dX2_move_107 : decode cX2_move 107 = .ok (.iastore, 1) := by decide +kernel
theorem dX2_move_108 : decode cX2_move 108 = .ok (.aload_n 0, 1) := by decide +kernel
theorem dX2_move_109 : decode cX2_move 109 = .ok (.getfield 15, 3) := by decide +kernel
theorem dX2_move_112 : decode cX2_move 112 = .ok (.iload_n 2, 1) := by decide +kernel
theorem dX2_move_113 : decode cX2_move 113 = .ok (.aload_n 0, 1) := by decide +kernel
theorem dX2_move_114 : decode cX2_move 114 = .ok (.getfield 15, 3) := by decide +kernel
theorem dX2_move_117 : decode cX2_move 117 = .ok (.iload_n 1, 1) := by decide +kernel
theorem dX2_move_118 : decode cX2_move 118 = .ok (.iaload, 1) := by decide +kernel
theorem dX2_move_119 : decode cX2_move 119 = .ok (.iastore, 1) := by decide +kernel
theorem dX2_move_120 : decode cX2_move 120 = .ok (.aload_n 0, 1) := by decide +kernel
theorem dX2_move_121 : decode cX2_move 121 = .ok (.getfield 18, 3) := by decide +kernel
theorem dX2_move_124 : decode cX2_move 124 = .ok (.iload_n 2, 1) := by decide +kernel
theorem dX2_move_125 : decode cX2_move 125 = .ok (.iload 4, 2) := by decide +kernel
theorem dX2_move_127 : decode cX2_move 127 = .ok (.iastore, 1) := by decide +kernel
theorem dX2_move_128 : decode cX2_move 128 = .ok (.return_, 1) := by decide +kernel
theorem dX2_keepOnly_0 : decode cX2_keepOnly 0 = .ok (.aload_n 0, 1) := by decide +kernel
theorem dX2_keepOnly_1 : decode cX2_keepOnly 1 = .ok (.iconst 0, 1) := by decide +kernel
theorem dX2_keepOnly_2 : decode cX2_keepOnly 2 = .ok (.iload_n 1, 1) := by decide +kernel
theorem dX2_keepOnly_3 : decode cX2_keepOnly 3 = .ok (.aload_n 0, 1) := by decide +kernel
theorem dX2_keepOnly_4 : decode cX2_keepOnly 4 = .ok (.getfield 24, 3) := by decide +kernel
theorem dX2_keepOnly_7 : decode cX2_keepOnly 7 = .ok (.invokestatic 36, 3) := by decide +kernel
theorem dX2_keepOnly_10 : decode cX2_keepOnly 10 = .ok (.invokestatic 42, 3) := by decide +kernel
theorem dX2_keepOnly_13 : decode cX2_keepOnly 13 = .ok (.putfield 24, 3) := by decide +kernel
theorem dX2_keepOnly_16 : decode cX2_keepOnly 16 = .ok (.return_, 1) := by decide +kernel
set_option maxRecDepth 20000 in
theorem ggX3_takes_J0_length_8abf5 : GoodIn wsX3_takes wsJ0_length_8abf5 := goodIn_r _ [6, 7, 8, 9, 10, 5, 11, 12, 13] rfl (by decide +kernel)
set_option maxRecDepth 20000 in
theorem gX3_takes_J0_length_8abf5 : GoodIn wsX3_takes (wsV RX3 87 RJ0 yJ0_length_8abf5 wsJ0_length_8abf5) := goodIn_app (goodIn_of _ (by decide +kernel)) ggX3_takes_J0_length_8abf5
theorem dX3_takes_0 : decode cX3_takes 0 = .ok (.aload_n 0, 1) := by decide +kernel
theorem dX3_takes_1 : decode cX3_takes 1 = .ok (.getfield 81, 3) := by decide +kernel
theorem dX3_takes_4 : decode cX3_takes 4 = .ok (.invokevirtual 87, 3) := by decide +kernel
theorem dX3_takes_7 : decode cX3_takes 7 = .ok (.iconst 4, 1) := by decide +kernel
theorem dX3_takes_8 : decode cX3_takes 8 = .ok (.idiv, 1) := by decide +kernel
theorem dX3_takes_9 : decode cX3_takes 9 = .ok (.ireturn, 1) := by decide +kernel
theorem dX4_init_0 : decode cX4_init 0 = .ok (.aload_n 0, 1) := by decide +kernel
theorem dX4_init_1 : decode cX4_init 1 = .ok (.invokespecial 3, 3) := by decide +kernel
theorem dX4_init_4 : decode cX4_init 4 = .ok (.iload_n 1, 1) := by decide +kernel
theorem dX4_init_5 : decode cX4_init 5 = .ok (.iconst 0, 1) := by decide +kernel
theorem dX4_init_6 : decode cX4_init 6 = .ok (.invokestatic 9, 3) := by decide +kernel
theorem dX4_init_9 : decode cX4_init 9 = .ok (.iconst 1, 1) := by decide +kernel
theorem dX4_init_10 : decode cX4_init 10 = .ok (.iadd, 1) := by decide +kernel
theorem dX4_init_11 : decode cX4_init 11 = .ok (.istore_n 2, 1) := by decide +kernel
theorem dX4_init_12 : decode cX4_init 12 = .ok (.aload_n 0, 1) := by decide +kernel
theorem dX4_init_13 : decode cX4_init 13 = .ok (.iload_n 2, 1) := by decide +kernel
theorem dX4_init_14 : decode cX4_init 14 = .ok (.newarray .int, 2) := by decide +kernel
theorem dX4_init_16 : decode cX4_init 16 = .ok (.putfield 15, 3) := by decide +kernel
theorem dX4_init_19 : decode cX4_init 19 = .ok (.aload_n 0, 1) := by decide +kernel
theorem dX4_init_20 : decode cX4_init 20 = .ok (.iload_n 2, 1) := by decide +kernel
theorem dX4_init_21 : decode cX4_init 21 = .ok (.iconst 3, 1) := by decide +kernel
theorem dX4_init_22 : decode cX4_init 22 = .ok (.imul, 1) := by decide +kernel
theorem dX4_init_23 : decode cX4_init 23 = .ok (.newarray .int, 2) := by decide +kernel
theorem dX4_init_25 : decode cX4_init 25 = .ok (.putfield 21, 3) := by decide +kernel
theorem dX4_init_28 : decode cX4_init 28 = .ok (.aload_n 0, 1) := by decide +kernel
theorem dX4_init_29 : decode cX4_init 29 = .ok (.iconst 0, 1) := by decide +kernel
theorem dX4_init_30 : decode cX4_init 30 = .ok (.putfield 24, 3) := by decide +kernel
theorem dX4_init_33 : decode cX4_init 33 = .ok (.return_, 1) := by decide +kernel
set_option maxRecDepth 20000 in
theorem ggX4_has_X4_kind : GoodIn wsX4_has wsX4_kind := goodIn_r _ [5, 6, 7, 8, 9] rfl (by decide +kernel)
set_option maxRecDepth 20000 in
theorem gX4_has_X4_kind : GoodIn wsX4_has (wsV RX4 28 RX4 yX4_kind wsX4_kind) := goodIn_app (goodIn_of _ (by decide +kernel)) ggX4_has_X4_kind
theorem dX4_has_0 : decode cX4_has 0 = .ok (.aload_n 0, 1) := by decide +kernel
theorem dX4_has_1 : decode cX4_has 1 = .ok (.iload_n 1, 1) := by decide +kernel
theorem dX4_has_2 : decode cX4_has 2 = .ok (.invokevirtual 28, 3) := by decide +kernel
theorem dX4_has_5 : decode cX4_has 5 = .ok (.ifCond .eq 7, 3) := by decide +kernel
theorem dX4_has_8 : decode cX4_has 8 = .ok (.iconst 1, 1) := by decide +kernel
theorem dX4_has_9 : decode cX4_has 9 = .ok (.goto 4, 3) := by decide +kernel
theorem dX4_has_12 : decode cX4_has 12 = .ok (.iconst 0, 1) := by decide +kernel
theorem dX4_has_13 : decode cX4_has 13 = .ok (.ireturn, 1) := by decide +kernel
theorem dX4_kind_0 : decode cX4_kind 0 = .ok (.iload_n 1, 1) := by decide +kernel
theorem dX4_kind_1 : decode cX4_kind 1 = .ok (.iconst 1, 1) := by decide +kernel
theorem dX4_kind_2 : decode cX4_kind 2 = .ok (.if_icmp .lt 21, 3) := by decide +kernel
theorem dX4_kind_5 : decode cX4_kind 5 = .ok (.iload_n 1, 1) := by decide +kernel
theorem dX4_kind_6 : decode cX4_kind 6 = .ok (.aload_n 0, 1) := by decide +kernel
theorem dX4_kind_7 : decode cX4_kind 7 = .ok (.getfield 15, 3) := by decide +kernel
theorem dX4_kind_10 : decode cX4_kind 10 = .ok (.arraylength, 1) := by decide +kernel
theorem dX4_kind_11 : decode cX4_kind 11 = .ok (.if_icmp .ge 12, 3) := by decide +kernel
theorem dX4_kind_14 : decode cX4_kind 14 = .ok (.aload_n 0, 1) := by decide +kernel
theorem dX4_kind_15 : decode cX4_kind 15 = .ok (.getfield 15, 3) := by decide +kernel
theorem dX4_kind_18 : decode cX4_kind 18 = .ok (.iload_n 1, 1) := by decide +kernel
theorem dX4_kind_19 : decode cX4_kind 19 = .ok (.iaload, 1) := by decide +kernel
theorem dX4_kind_20 : decode cX4_kind 20 = .ok (.goto 4, 3) := by decide +kernel
theorem dX4_kind_23 : decode cX4_kind 23 = .ok (.iconst 0, 1) := by decide +kernel
theorem dX4_kind_24 : decode cX4_kind 24 = .ok (.ireturn, 1) := by decide +kernel
theorem dX4_number_0 : decode cX4_number 0 = .ok (.iload_n 1, 1) := by decide +kernel
theorem dX4_number_1 : decode cX4_number 1 = .ok (.iconst 1, 1) := by decide +kernel
theorem dX4_number_2 : decode cX4_number 2 = .ok (.if_icmp .lt 26, 3) := by decide +kernel
theorem dX4_number_5 : decode cX4_number 5 = .ok (.iload_n 1, 1) := by decide +kernel
theorem dX4_number_6 : decode cX4_number 6 = .ok (.aload_n 0, 1) := by decide +kernel
theorem dX4_number_7 : decode cX4_number 7 = .ok (.getfield 15, 3) := by decide +kernel
theorem dX4_number_10 : decode cX4_number 10 = .ok (.arraylength, 1) := by decide +kernel
theorem dX4_number_11 : decode cX4_number 11 = .ok (.if_icmp .ge 17, 3) := by decide +kernel
theorem dX4_number_14 : decode cX4_number 14 = .ok (.iload_n 2, 1) := by decide +kernel
theorem dX4_number_15 : decode cX4_number 15 = .ok (.iconst 1, 1) := by decide +kernel
theorem dX4_number_16 : decode cX4_number 16 = .ok (.if_icmp .lt 12, 3) := by decide +kernel
theorem dX4_number_19 : decode cX4_number 19 = .ok (.iload_n 2, 1) := by decide +kernel
theorem dX4_number_20 : decode cX4_number 20 = .ok (.iconst 3, 1) := by decide +kernel
theorem dX4_number_21 : decode cX4_number 21 = .ok (.if_icmp .gt 7, 3) := by decide +kernel
theorem dX4_number_24 : decode cX4_number 24 = .ok (.iconst 1, 1) := by decide +kernel
theorem dX4_number_25 : decode cX4_number 25 = .ok (.goto 4, 3) := by decide +kernel
theorem dX4_number_28 : decode cX4_number 28 = .ok (.iconst 0, 1) := by decide +kernel
theorem dX4_number_29 : decode cX4_number 29 = .ok (.istore_n 3, 1) := by decide +kernel
theorem dX4_number_30 : decode cX4_number 30 = .ok (.iload_n 3, 1) := by decide +kernel
theorem dX4_number_31 : decode cX4_number 31 = .ok (.ifCond .eq 18, 3) := by decide +kernel
theorem dX4_number_34 : decode cX4_number 34 = .ok (.aload_n 0, 1) := by decide +kernel
theorem dX4_number_35 : decode cX4_number 35 = .ok (.getfield 21, 3) := by decide +kernel
theorem dX4_number_38 : decode cX4_number 38 = .ok (.iload_n 1, 1) := by decide +kernel
theorem dX4_number_39 : decode cX4_number 39 = .ok (.iconst 3, 1) := by decide +kernel
theorem dX4_number_40 : decode cX4_number 40 = .ok (.imul, 1) := by decide +kernel
theorem dX4_number_41 : decode cX4_number 41 = .ok (.iload_n 2, 1) := by decide +kernel
theorem dX4_number_42 : decode cX4_number 42 = .ok (.iadd, 1) := by decide +kernel
theorem dX4_number_43 : decode cX4_number 43 = .ok (.iconst 1, 1) := by decide +kernel
theorem dX4_number_44 : decode cX4_number 44 = .ok (.isub, 1) := by decide +kernel
theorem dX4_number_45 : decode cX4_number 45 = .ok (.iaload, 1) := by decide +kernel
theorem dX4_number_46 : decode cX4_number 46 = .ok (.goto 4, 3) := by decide +kernel
theorem dX4_number_49 : decode cX4_number 49 = .ok (.iconst 0, 1) := by decide +kernel
theorem dX4_number_50 : decode cX4_number 50 = .ok (.ireturn, 1) := by decide +kernel
set_option maxRecDepth 20000 in
theorem ggX4_add_X4_put_ : GoodIn wsX4_add wsX4_put_ := goodIn_r _ [7, 2, 8, 9, 10, 11] rfl (by decide +kernel)
set_option maxRecDepth 20000 in
theorem gX4_add_X4_put_ : GoodIn wsX4_add (wsV RX4 32 RX4 yX4_put_ wsX4_put_) := goodIn_app (goodIn_of _ (by decide +kernel)) ggX4_add_X4_put_
theorem dX4_add_0 : decode cX4_add 0 = .ok (.aload_n 0, 1) := by decide +kernel
theorem dX4_add_1 : decode cX4_add 1 = .ok (.getfield 24, 3) := by decide +kernel
theorem dX4_add_4 : decode cX4_add 4 = .ok (.iconst 1, 1) := by decide +kernel
theorem dX4_add_5 : decode cX4_add 5 = .ok (.iadd, 1) := by decide +kernel
theorem dX4_add_6 : decode cX4_add 6 = .ok (.aload_n 0, 1) := by decide +kernel
theorem dX4_add_7 : decode cX4_add 7 = .ok (.getfield 15, 3) := by decide +kernel
theorem dX4_add_10 : decode cX4_add 10 = .ok (.arraylength, 1) := by decide +kernel
theorem dX4_add_11 : decode cX4_add 11 = .ok (.if_icmp .lt 6, 3) := by decide +kernel
theorem dX4_add_14 : decode cX4_add 14 = .ok (.bipush (-4), 2) := by decide +kernel
theorem dX4_add_16 : decode cX4_add 16 = .ok (.ireturn, 1) := by decide +kernel
theorem dX4_add_17 : decode cX4_add 17 = .ok (.aload_n 0, 1) := by decide +kernel
theorem dX4_add_18 : decode cX4_add 18 = .ok (.dup, 1) := by decide +kernel
theorem dX4_add_19 : decode cX4_add 19 = .ok (.getfield 24, 3) := by decide +kernel
theorem dX4_add_22 : decode cX4_add 22 = .ok (.iconst 1, 1) := by decide +kernel
theorem dX4_add_23 : decode cX4_add 23 = .ok (.iadd, 1) := by decide +kernel
theorem dX4_add_24 : decode cX4_add 24 = .ok (.putfield 24, 3) := by decide +kernel
theorem dX4_add_27 : decode cX4_add 27 = .ok (.aload_n 0, 1) := by decide +kernel
theorem dX4_add_28 : decode cX4_add 28 = .ok (.aload_n 0, 1) := by decide +kernel
theorem dX4_add_29 : decode cX4_add 29 = .ok (.getfield 24, 3) := by decide +kernel
theorem dX4_add_32 : decode cX4_add 32 = .ok (.iload_n 1, 1) := by decide +kernel
theorem dX4_add_33 : decode cX4_add 33 = .ok (.iload_n 2, 1) := by decide +kernel
theorem dX4_add_34 : decode cX4_add 34 = .ok (.iload_n 3, 1) := by decide +kernel
theorem dX4_add_35 : decode cX4_add 35 = .ok (.iload 4, 2) := by decide +kernel
theorem dX4_add_37 : decode cX4_add 37 = .ok (.invokevirtual 32, 3) := by decide +kernel
theorem dX4_add_40 : decode cX4_add 40 = .ok (.aload_n 0, 1) := by decide +kernel
theorem dX4_add_41 : decode cX4_add 41 = .ok (.getfield 24, 3) := by decide +kernel
theorem dX4_add_44 : decode cX4_add 44 = .ok (.ireturn, 1) := by decide +kernel
set_option maxRecDepth 20000 in
theorem ggX4_find_X4_is : GoodIn wsX4_find wsX4_is := goodIn_r _ [6, 7, 8, 9, 5, 10, 11, 12, 13, 14, 15, 16, 17, 18, 19] rfl (by decide +kernel)
set_option maxRecDepth 20000 in
theorem gX4_find_X4_is : GoodIn wsX4_find (wsV RX4 36 RX4 yX4_is wsX4_is) := goodIn_app (goodIn_of _ (by decide +kernel)) ggX4_find_X4_is
theorem dX4_find_0 : decode cX4_find 0 = .ok (.iconst 1, 1) := by decide +kernel
theorem dX4_find_1 : decode cX4_find 1 = .ok (.istore 5, 2) := by decide +kernel
theorem dX4_find_3 : decode cX4_find 3 = .ok (.iload 5, 2) := by decide +kernel
theorem dX4_find_5 : decode cX4_find 5 = .ok (.aload_n 0, 1) := by decide +kernel
theorem dX4_find_6 : decode cX4_find 6 = .ok (.getfield 24, 3) := by decide +kernel
theorem dX4_find_9 : decode cX4_find 9 = .ok (.if_icmp .gt 26, 3) := by decide +kernel
theorem dX4_find_12 : decode cX4_find 12 = .ok (.aload_n 0, 1) := by decide +kernel
theorem dX4_find_13 : decode cX4_find 13 = .ok (.iload 5, 2) := by decide +kernel
theorem dX4_find_15 : decode cX4_find 15 = .ok (.iload_n 1, 1) := by decide +kernel
theorem dX4_find_16 : decode cX4_find 16 = .ok (.iload_n 2, 1) := by decide +kernel
theorem dX4_find_17 : decode cX4_find 17 = .ok (.iload_n 3, 1) := by decide +kernel
theorem dX4_find_18 : decode cX4_find 18 = .ok (.iload 4, 2) := by decide +kernel
theorem dX4_find_20 : decode cX4_find 20 = .ok (.invokevirtual 36, 3) := by decide +kernel
theorem dX4_find_23 : decode cX4_find 23 = .ok (.ifCond .eq 6, 3) := by decide +kernel
theorem dX4_find_26 : decode cX4_find 26 = .ok (.iload 5, 2) := by decide +kernel
theorem dX4_find_28 : decode cX4_find 28 = .ok (.ireturn, 1) := by decide +kernel
theorem dX4_find_29 : decode cX4_find 29 = .ok (.iinc 5 1, 3) := by decide +kernel
theorem dX4_find_32 : decode cX4_find 32 = .ok (.goto (-29), 3) := by decide +kernel
theorem dX4_find_35 : decode cX4_find 35 = .ok (.iconst 0, 1) := by decide +kernel
theorem dX4_find_36 : decode cX4_find 36 = .ok (.ireturn, 1) := by decide +kernel
set_option maxRecDepth 20000 in
theorem ggX4_isSame_X4_kind : GoodIn wsX4_isSame wsX4_kind := goodIn_r _ [5, 6, 16, 17, 18] rfl (by decide +kernel)
set_option maxRecDepth 20000 in
theorem gX4_isSame_X4_kind : GoodIn wsX4_isSame (wsV RX4 28 RX4 yX4_kind wsX4_kind) := goodIn_app (goodIn_of _ (by decide +kernel)) ggX4_isSame_X4_kind
set_option maxRecDepth 20000 in
theorem ggX4_isSame_X4_number : GoodIn wsX4_isSame wsX4_number := goodIn_r _ [10, 6, 11, 16, 17, 18] rfl (by decide +kernel)
set_option maxRecDepth 20000 in
theorem gX4_isSame_X4_number : GoodIn wsX4_isSame (wsV RX4 40 RX4 yX4_number wsX4_number) := goodIn_app (goodIn_of _ (by decide +kernel)) ggX4_isSame_X4_number
set_option maxRecDepth 20000 in
theorem ggX4_isSame_X4_is : GoodIn wsX4_isSame wsX4_is := goodIn_r _ [15, 1, 2, 3, 4, 5, 6, 7, 8, 9, 10, 11, 16, 17, 18] rfl (by decide +kernel)
set_option maxRecDepth 20000 in
theorem gX4_isSame_X4_is : GoodIn wsX4_isSame (wsV RX4 36 RX4 yX4_is wsX4_is) := goodIn_app (goodIn_of _ (by decide +kernel)) ggX4_isSame_X4_is
theorem dX4_isSame_0 : decode cX4_isSame 0 = .ok (.aload_n 0, 1) := by decide +kernel
theorem dX4_isSame_1 : decode cX4_isSame 1 = .ok (.iload_n 1, 1) := by decide +kernel
theorem dX4_isSame_2 : decode cX4_isSame 2 = .ok (.aload_n 2, 1) := by decide +kernel
theorem dX4_isSame_3 : decode cX4_isSame 3 = .ok (.iload_n 3, 1) := by decide +kernel
theorem dX4_isSame_4 : decode cX4_isSame 4 = .ok (.invokevirtual 28, 3) := by decide +kernel
theorem dX4_isSame_7 : decode cX4_isSame 7 = .ok (.aload_n 2, 1) := by decide +kernel
theorem dX4_isSame_8 : decode cX4_isSame 8 = .ok (.iload_n 3, 1) := by decide +kernel
theorem dX4_isSame_9 : decode cX4_isSame 9 = .ok (.iconst 1, 1) := by decide +kernel
theorem dX4_isSame_10 : decode cX4_isSame 10 = .ok (.invokevirtual 40, 3) := by decide +kernel
theorem dX4_isSame_13 : decode cX4_isSame 13 = .ok (.aload_n 2, 1) := by decide +kernel
theorem dX4_isSame_14 : decode cX4_isSame 14 = .ok (.iload_n 3, 1) := by decide +kernel
theorem dX4_isSame_15 : decode cX4_isSame 15 = .ok (.iconst 2, 1) := by decide +kernel
theorem dX4_isSame_16 : decode cX4_isSame 16 = .ok (.invokevirtual 40, 3) := by decide +kernel
theorem dX4_isSame_19 : decode cX4_isSame 19 = .ok (.aload_n 2, 1) := by decide +kernel
theorem dX4_isSame_20 : decode cX4_isSame 20 = .ok (.iload_n 3, 1) := by decide +kernel
theorem dX4_isSame_21 : decode cX4_isSame 21 = .ok (.iconst 3, 1) := by decide +kernel
theorem dX4_isSame_22 : decode cX4_isSame 22 = .ok (.invokevirtual 40, 3) := by decide +kernel
theorem dX4_isSame_25 : decode cX4_isSame 25 = .ok (.invokevirtual 36, 3) := by decide +kernel
theorem dX4_isSame_28 : decode cX4_isSame 28 = .ok (.ireturn, 1) := by decide +kernel
set_option maxRecDepth 20000 in
theorem ggX4_is_X4_kind : GoodIn wsX4_is wsX4_kind := goodIn_r _ [5, 6, 12, 13, 14] rfl (by decide +kernel)
set_option maxRecDepth 20000 in
theorem gX4_is_X4_kind : GoodIn wsX4_is (wsV RX4 28 RX4 yX4_kind wsX4_kind) := goodIn_app (goodIn_of _ (by decide +kernel)) ggX4_is_X4_kind
set_option maxRecDepth 20000 in
theorem ggX4_is_X4_number : GoodIn wsX4_is wsX4_number := goodIn_r _ [10, 6, 11, 12, 13, 14] rfl (by decide +kernel)
set_option maxRecDepth 20000 in
theorem gX4_is_X4_number : GoodIn wsX4_is (wsV RX4 40 RX4 yX4_number wsX4_number) := goodIn_app (goodIn_of _ (by decide +kernel)) ggX4_is_X4_number
theorem dX4_is_0 : decode cX4_is 0 = .ok (.aload_n 0, 1) := by decide +kernel
theorem dX4_is_1 : decode cX4_is 1 = .ok (.iload_n 1, 1) := by decide +kernel
theorem dX4_is_2 : decode cX4_is 2 = .ok (.invokevirtual 28, 3) := by decide +kernel
theorem dX4_is_5 : decode cX4_is 5 = .ok (.iload_n 2, 1) := by decide +kernel
theorem dX4_is_6 : decode cX4_is 6 = .ok (.if_icmp .ne 39, 3) := by decide +kernel
theorem dX4_is_9 : decode cX4_is 9 = .ok (.aload_n 0, 1) := by decide +kernel
theorem dX4_is_10 : decode cX4_is 10 = .ok (.iload_n 1, 1) := by decide +kernel
theorem dX4_is_11 : decode cX4_is 11 = .ok (.iconst 1, 1) := by decide +kernel
theorem dX4_is_12 : decode cX4_is 12 = .ok (.invokevirtual 40, 3) := by decide +kernel
theorem dX4_is_15 : decode cX4_is 15 = .ok (.iload_n 3, 1) := by decide +kernel
theorem dX4_is_16 : decode cX4_is 16 = .ok (.if_icmp .ne 29, 3) := by decide +kernel
theorem dX4_is_19 : decode cX4_is 19 = .ok (.aload_n 0, 1) := by decide +kernel
theorem dX4_is_20 : decode cX4_is 20 = .ok (.iload_n 1, 1) := by decide +kernel
theorem dX4_is_21 : decode cX4_is 21 = .ok (.iconst 2, 1) := by decide +kernel
theorem dX4_is_22 : decode cX4_is 22 = .ok (.invokevirtual 40, 3) := by decide +kernel
theorem dX4_is_25 : decode cX4_is 25 = .ok (.iload 4, 2) := by decide +kernel
theorem dX4_is_27 : decode cX4_is 27 = .ok (.if_icmp .ne 18, 3) := by decide +kernel
theorem dX4_is_30 : decode cX4_is 30 = .ok (.aload_n 0, 1) := by decide +kernel
theorem dX4_is_31 : decode cX4_is 31 = .ok (.iload_n 1, 1) := by decide +kernel
theorem dX4_is_32 : decode cX4_is 32 = .ok (.iconst 3, 1) := by decide +kernel
theorem dX4_is_33 : decode cX4_is 33 = .ok (.invokevirtual 40, 3) := by decide +kernel
theorem dX4_is_36 : decode cX4_is 36 = .ok (.iload 5, 2) := by decide +kernel
theorem dX4_is_38 : decode cX4_is 38 = .ok (.if_icmp .ne 7, 3) := by decide +kernel
theorem dX4_is_41 : decode cX4_is 41 = .ok (.iconst 1, 1) := by decide +kernel
theorem dX4_is_42 : decode cX4_is 42 = .ok (.goto 4, 3) := by decide +kernel
theorem dX4_is_45 : decode cX4_is 45 = .ok (.iconst 0, 1) := by decide +kernel
theorem dX4_is_46 : decode cX4_is 46 = .ok (.ireturn, 1) := by decide +kernel
set_option maxRecDepth 20000 in
theorem ggX4_put_X4_kind : GoodIn wsX4_put wsX4_kind := goodIn_r _ [5, 6, 16, 17, 18] rfl (by decide +kernel)
set_option maxRecDepth 20000 in
theorem gX4_put_X4_kind : GoodIn wsX4_put (wsV RX4 28 RX4 yX4_kind wsX4_kind) := goodIn_app (goodIn_of _ (by decide +kernel)) ggX4_put_X4_kind
set_option maxRecDepth 20000 in
theorem ggX4_put_X4_number : GoodIn wsX4_put wsX4_number := goodIn_r _ [10, 6, 11, 16, 17, 18] rfl (by decide +kernel)
set_option maxRecDepth 20000 in
theorem gX4_put_X4_number : GoodIn wsX4_put (wsV RX4 40 RX4 yX4_number wsX4_number) := goodIn_app (goodIn_of _ (by decide +kernel)) ggX4_put_X4_number
set_option maxRecDepth 20000 in
theorem ggX4_put_X4_put_ : GoodIn wsX4_put wsX4_put_ := goodIn_r _ [15, 6, 11, 16, 17, 18] rfl (by decide +kernel)
set_option maxRecDepth 20000 in
theorem gX4_put_X4_put_ : GoodIn wsX4_put (wsV RX4 32 RX4 yX4_put_ wsX4_put_) := goodIn_app (goodIn_of _ (by decide +kernel)) ggX4_put_X4_put_
theorem dX4_put_0 : decode cX4_put 0 = .ok (.aload_n 0, 1) := by decide +kernel
theorem dX4_put_1 : decode cX4_put 1 = .ok (.iload_n 1, 1) := by decide +kernel
theorem dX4_put_2 : decode cX4_put 2 = .ok (.aload_n 2, 1) := by decide +kernel
theorem dX4_put_3 : decode cX4_put 3 = .ok (.iload_n 3, 1) := by decide +kernel
theorem dX4_put_4 : decode cX4_put 4 = .ok (.invokevirtual 28, 3) := by decide +kernel
theorem dX4_put_7 : decode cX4_put 7 = .ok (.aload_n 2, 1) := by decide +kernel
theorem dX4_put_8 : decode cX4_put 8 = .ok (.iload_n 3, 1) := by decide +kernel
theorem dX4_put_9 : decode cX4_put 9 = .ok (.iconst 1, 1) := by decide +kernel
theorem dX4_put_10 : decode cX4_put 10 = .ok (.invokevirtual 40, 3) := by decide +kernel
theorem dX4_put_13 : decode cX4_put 13 = .ok (.aload_n 2, 1) := by decide +kernel
theorem dX4_put_14 : decode cX4_put 14 = .ok (.iload_n 3, 1) := by decide +kernel
theorem dX4_put_15 : decode cX4_put 15 = .ok (.iconst 2, 1) := by decide +kernel
theorem dX4_put_16 : decode cX4_put 16 = .ok (.invokevirtual 40, 3) := by decide +kernel
theorem dX4_put_19 : decode cX4_put 19 = .ok (.aload_n 2, 1) := by decide +kernel
theorem dX4_put_20 : decode cX4_put 20 = .ok (.iload_n 3, 1) := by decide +kernel
theorem dX4_put_21 : decode cX4_put 21 = .ok (.iconst 3, 1) := by decide +kernel
theorem dX4_put_22 : decode cX4_put 22 = .ok (.invokevirtual 40, 3) := by decide +kernel
theorem dX4_put_25 : decode cX4_put 25 = .ok (.invokevirtual 32, 3) := by decide +kernel
theorem dX4_put_28 : decode cX4_put 28 = .ok (.return_, 1) := by decide +kernel
theorem dX4_put__0 : decode cX4_put_ 0 = .ok (.iload_n 1, 1) := by decide +kernel
theorem dX4_put__1 : decode cX4_put_ 1 = .ok (.iconst 1, 1) := by decide +kernel
theorem dX4_put__2 : decode cX4_put_ 2 = .ok (.if_icmp .lt 52, 3) := by decide +kernel
theorem dX4_put__5 : decode cX4_put_ 5 = .ok (.iload_n 1, 1) := by decide +kernel
theorem dX4_put__6 : decode cX4_put_ 6 = .ok (.aload_n 0, 1) := by decide +kernel
theorem dX4_put__7 : decode cX4_put_ 7 = .ok (.getfield 15, 3) := by decide +kernel
theorem dX4_put__10 : decode cX4_put_ 10 = .ok (.arraylength, 1) := by decide +kernel
theorem dX4_put__11 : decode cX4_put_ 11 = .ok (.if_icmp .ge 43, 3) := by decide +kernel
theorem dX4_put__14 : decode cX4_put_ 14 = .ok (.aload_n 0, 1) := by decide +kernel
theorem dX4_put__15 : decode cX4_put_ 15 = .ok (.getfield 15, 3) := by decide +kernel
theorem dX4_put__18 : decode cX4_put_ 18 = .ok (.iload_n 1, 1) := by decide +kernel
theorem dX4_put__19 : decode cX4_put_ 19 = .ok (.iload_n 2, 1) := by decide +kernel
theorem dX4_put__20 : decode cX4_put_ 20 = .ok (.iastore, 1) := by decide +kernel
theorem dX4_put__21 : decode cX4_put_ 21 = .ok (.aload_n 0, 1) := by decide +kernel
theorem dX4_put__22 : decode cX4_put_ 22 = .ok (.getfield 21, 3) := by decide +kernel
theorem dX4_put__25 : decode cX4_put_ 25 = .ok (.iload_n 1, 1) := by decide +kernel
theorem dX4_put__26 : decode cX4_put_ 26 = .ok (.iconst 3, 1) := by decide +kernel
theorem dX4_put__27 : decode cX4_put_ 27 = .ok (.imul, 1) := by decide +kernel
theorem dX4_put__28 : decode cX4_put_ 28 = .ok (.iload_n 3, 1) := by decide +kernel
theorem dX4_put__29 : decode cX4_put_ 29 = .ok (.iastore, 1) := by decide +kernel
theorem dX4_put__30 : decode cX4_put_ 30 = .ok (.aload_n 0, 1) := by decide +kernel
theorem dX4_put__31 : decode cX4_put_ 31 = .ok (.getfield 21, 3) := by decide +kernel
theorem dX4_put__34 : decode cX4_put_ 34 = .ok (.iload_n 1, 1) := by decide +kernel
theorem dX4_put__35 : decode cX4_put_ 35 = .ok (.iconst 3, 1) := by decide +kernel
theorem dX4_put__36 : decode cX4_put_ 36 = .ok (.imul, 1) := by decide +kernel
theorem dX4_put__37 : decode cX4_put_ 37 = .ok (.iconst 1, 1) := by decide +kernel
theorem dX4_put__38 : decode cX4_put_ 38 = .ok (.iadd, 1) := by decide +kernel
theorem dX4_put__39 : decode cX4_put_ 39 = .ok (.iload 4, 2) := by decide +kernel
theorem dX4_put__41 : decode cX4_put_ 41 = .ok (.iastore, 1) := by decide +kernel
theorem dX4_put__42 : decode cX4_put_ 42 = .ok (.aload_n 0, 1) := by decide +kernel
theorem dX4_put__43 : decode cX4_put_ 43 = .ok (.getfield 21, 3) := by decide +kernel
theorem dX4_put__46 : decode cX4_put_ 46 = .ok (.iload_n 1, 1) := by decide +kernel
theorem dX4_put__47 : decode cX4_put_ 47 = .ok (.iconst 3, 1) := by decide +kernel
theorem dX4_put__48 : decode cX4_put_ 48 = .ok (.imul, 1) := by decide +kernel
theorem dX4_put__49 : decode cX4_put_ 49 = .ok (.iconst 2, 1) := by decide +kernel
theorem dX4_put__50 : decode cX4_put_ 50 = .ok (.iadd, 1) := by decide +kernel
theorem dX4_put__51 : decode cX4_put_ 51 = .ok (.iload 5, 2) := by decide +kernel
theorem dX4_put__53 : decode cX4_put_ 53 = .ok (.iastore, 1) := by decide +kernel
theorem dX4_put__54 : decode cX4_put_ 54 = .ok (.return_, 1) := by decide +kernel
set_option maxRecDepth 20000 in
theorem ggX4_clear_X4_put_ : GoodIn wsX4_clear wsX4_put_ := goodIn_r _ [5, 6, 7, 8, 9, 10] rfl (by decide +kernel)
set_option maxRecDepth 20000 in
theorem gX4_clear_X4_put_ : GoodIn wsX4_clear (wsV RX4 32 RX4 yX4_put_ wsX4_put_) := goodIn_app (goodIn_of _ (by decide +kernel)) ggX4_clear_X4_put_
theorem dX4_clear_0 : decode cX4_clear 0 = .ok (.aload_n 0, 1) := by decide +kernel
theorem dX4_clear_1 : decode cX4_clear 1 = .ok (.iload_n 1, 1) := by decide +kernel
theorem dX4_clear_2 : decode cX4_clear 2 = .ok (.iconst 0, 1) := by decide +kernel
theorem dX4_clear_3 : decode cX4_clear 3 = .ok (.iconst 0, 1) := by decide +kernel
theorem dX4_clear_4 : decode cX4_clear 4 = .ok (.iconst 0, 1) := by decide +kernel
theorem dX4_clear_5 : decode cX4_clear 5 = .ok (.iconst 0, 1) := by decide +kernel
theorem dX4_clear_6 : decode cX4_clear 6 = .ok (.invokevirtual 32, 3) := by decide +kernel
theorem dX4_clear_9 : decode cX4_clear 9 = .ok (.return_, 1) := by decide +kernel
