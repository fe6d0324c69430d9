theorem dX0_isShown_0 : decode cX0_isShown 0 = .ok (.iconst 0, 1) := by decide +kernel
theorem dX0_isShown_1 : decode cX0_isShown 1 = .ok (.ireturn, 1) := by decide +kernel
theorem dX0_isAudible_0 : decode cX0_isAudible 0 = .ok (.iconst 0, 1) := by decide +kernel
theorem dX0_isAudible_1 : decode cX0_isAudible 1 = .ok (.ireturn, 1) := by decide +kernel
theorem dX0_isBoundByLaw_0 : decode cX0_isBoundByLaw 0 = .ok (.iconst 0, 1) := by decide +kernel
theorem dX0_isBoundByLaw_1 : decode cX0_isBoundByLaw 1 = .ok (.ireturn, 1) := by decide +kernel
theorem dX7_isShown_0 : decode cX7_isShown 0 = .ok (.iconst 1, 1) := by decide +kernel
theorem dX7_isShown_1 : decode cX7_isShown 1 = .ok (.ireturn, 1) := by decide +kernel
theorem dX7_isAudible_0 : decode cX7_isAudible 0 = .ok (.iconst 1, 1) := by decide +kernel
theorem dX7_isAudible_1 : decode cX7_isAudible 1 = .ok (.ireturn, 1) := by decide +kernel
theorem dX7_isBoundByLaw_0 : decode cX7_isBoundByLaw 0 = .ok (.iconst 1, 1) := by decide +kernel
theorem dX7_isBoundByLaw_1 : decode cX7_isBoundByLaw 1 = .ok (.ireturn, 1) := by decide +kernel
theorem dX9_isShown_0 : decode cX9_isShown 0 = .ok (.iload_n 1, 1) := by decide +kernel
theorem dX9_isShown_1 : decode cX9_isShown 1 = .ok (.ifCond .ne 7, 3) := by decide +kernel
theorem dX9_isShown_8 : decode cX9_isShown 8 = .ok (.iconst 0, 1) := by decide +kernel
theorem dX9_isShown_9 : decode cX9_isShown 9 = .ok (.ireturn, 1) := by decide +kernel
theorem dX9_isShown_4 : decode cX9_isShown 4 = .ok (.iconst 1, 1) := by decide +kernel
theorem dX9_isShown_5 : decode cX9_isShown 5 = .ok (.goto 4, 3) := by decide +kernel
theorem dX0_sees_0 : decode cX0_sees 0 = .ok (.iconst 1, 1) := by decide +kernel
theorem dX0_sees_1 : decode cX0_sees 1 = .ok (.ireturn, 1) := by decide +kernel
theorem dX0_hears_0 : decode cX0_hears 0 = .ok (.iconst 1, 1) := by decide +kernel
theorem dX0_hears_1 : decode cX0_hears 1 = .ok (.ireturn, 1) := by decide +kernel
theorem dX1_sees_0 : decode cX1_sees 0 = .ok (.iconst 0, 1) := by decide +kernel
theorem dX1_sees_1 : decode cX1_sees 1 = .ok (.ireturn, 1) := by decide +kernel
theorem dX2_hears_0 : decode cX2_hears 0 = .ok (.iconst 0, 1) := by decide +kernel
theorem dX2_hears_1 : decode cX2_hears 1 = .ok (.ireturn, 1) := by decide +kernel
theorem dX7_sees_0 : decode cX7_sees 0 = .ok (.iload_n 2, 1) := by decide +kernel
theorem dX7_sees_1 : decode cX7_sees 1 = .ok (.ifCond .eq 15, 3) := by decide +kernel
theorem dX7_sees_16 : decode cX7_sees 16 = .ok (.iconst 0, 1) := by decide +kernel
theorem dX7_sees_17 : decode cX7_sees 17 = .ok (.ireturn, 1) := by decide +kernel
theorem dX7_sees_4 : decode cX7_sees 4 = .ok (.aload_n 1, 1) := by decide +kernel
theorem dX7_sees_5 : decode cX7_sees 5 = .ok (.iload_n 3, 1) := by decide +kernel
theorem dX7_sees_9 : decode cX7_sees 9 = .ok (.ifCond .eq 7, 3) := by decide +kernel
theorem dX7_sees_12 : decode cX7_sees 12 = .ok (.iconst 1, 1) := by decide +kernel
theorem dX7_sees_13 : decode cX7_sees 13 = .ok (.goto 4, 3) := by decide +kernel
set_option maxRecDepth 20000 in
theorem ggX7_sees_X7_isShown : GoodIn wsX7_sees wsX7_isShown := goodIn_r _ [8] (by decide +kernel) (by decide +kernel)
set_option maxRecDepth 20000 in
theorem gX7_sees_X7_isShown : GoodIn wsX7_sees (wsV RX7 7 RX7 yX7_isShown wsX7_isShown) := goodIn_app (goodIn_of _ (by decide +kernel)) ggX7_sees_X7_isShown
theorem dX7_sees_6 : decode cX7_sees 6 = .ok (.invokevirtual 7, 3) := by decide +kernel
set_option maxRecDepth 20000 in
theorem gX7_sees_X7_isShown_u7X2 : GoodIn wsX7_sees (va_wsU RX7 7 RX2 "HeardSeen$Person" ⟨"HeardSeen$Person", "isShown", "(Z)Z"⟩ yX7_isShown wsX7_isShown) := goodIn_app (goodIn_of _ (by decide +kernel)) ggX7_sees_X7_isShown
set_option maxRecDepth 20000 in
theorem gX7_sees_X7_isShown_u7X1 : GoodIn wsX7_sees (va_wsU RX7 7 RX1 "HeardSeen$Person" ⟨"HeardSeen$Person", "isShown", "(Z)Z"⟩ yX7_isShown wsX7_isShown) := goodIn_app (goodIn_of _ (by decide +kernel)) ggX7_sees_X7_isShown
set_option maxRecDepth 20000 in
theorem ggX7_sees_X9_isShown : GoodIn wsX7_sees wsX9_isShown := goodIn_r _ [19] (by decide +kernel) (by decide +kernel)
set_option maxRecDepth 20000 in
theorem gX7_sees_X9_isShown_u7X9 : GoodIn wsX7_sees (va_wsO RX7 7 RX9 "HeardSeen$Person" ⟨"HeardSeen$Person", "isShown", "(Z)Z"⟩ yX9_isShown wsX9_isShown) := goodIn_app (goodIn_of _ (by decide +kernel)) ggX7_sees_X9_isShown
set_option maxRecDepth 20000 in
theorem gX7_sees_X7_isShown_u7X5 : GoodIn wsX7_sees (va_wsU RX7 7 RX5 "HeardSeen$Person" ⟨"HeardSeen$Person", "isShown", "(Z)Z"⟩ yX7_isShown wsX7_isShown) := goodIn_app (goodIn_of _ (by decide +kernel)) ggX7_sees_X7_isShown
set_option maxRecDepth 20000 in
theorem ggX7_sees_X0_isShown : GoodIn wsX7_sees wsX0_isShown := goodIn_r _ [7] (by decide +kernel) (by decide +kernel)
set_option maxRecDepth 20000 in
theorem gX7_sees_X0_isShown_u7X0 : GoodIn wsX7_sees (va_wsO RX7 7 RX0 "HeardSeen$Person" ⟨"HeardSeen$Person", "isShown", "(Z)Z"⟩ yX0_isShown wsX0_isShown) := goodIn_app (goodIn_of _ (by decide +kernel)) ggX7_sees_X0_isShown
theorem dX7_hears_0 : decode cX7_hears 0 = .ok (.iload_n 2, 1) := by decide +kernel
theorem dX7_hears_1 : decode cX7_hears 1 = .ok (.ifCond .eq 14, 3) := by decide +kernel
theorem dX7_hears_15 : decode cX7_hears 15 = .ok (.iconst 0, 1) := by decide +kernel
theorem dX7_hears_16 : decode cX7_hears 16 = .ok (.ireturn, 1) := by decide +kernel
theorem dX7_hears_4 : decode cX7_hears 4 = .ok (.aload_n 1, 1) := by decide +kernel
theorem dX7_hears_8 : decode cX7_hears 8 = .ok (.ifCond .eq 7, 3) := by decide +kernel
theorem dX7_hears_11 : decode cX7_hears 11 = .ok (.iconst 1, 1) := by decide +kernel
theorem dX7_hears_12 : decode cX7_hears 12 = .ok (.goto 4, 3) := by decide +kernel
set_option maxRecDepth 20000 in
theorem ggX7_hears_X7_isAudible : GoodIn wsX7_hears wsX7_isAudible := goodIn_r _ [8] (by decide +kernel) (by decide +kernel)
set_option maxRecDepth 20000 in
theorem gX7_hears_X7_isAudible : GoodIn wsX7_hears (wsV RX7 13 RX7 yX7_isAudible wsX7_isAudible) := goodIn_app (goodIn_of _ (by decide +kernel)) ggX7_hears_X7_isAudible
theorem dX7_hears_5 : decode cX7_hears 5 = .ok (.invokevirtual 13, 3) := by decide +kernel
set_option maxRecDepth 20000 in
theorem gX7_hears_X7_isAudible_u13X2 : GoodIn wsX7_hears (va_wsU RX7 13 RX2 "HeardSeen$Person" ⟨"HeardSeen$Person", "isAudible", "()Z"⟩ yX7_isAudible wsX7_isAudible) := goodIn_app (goodIn_of _ (by decide +kernel)) ggX7_hears_X7_isAudible
set_option maxRecDepth 20000 in
theorem gX7_hears_X7_isAudible_u13X1 : GoodIn wsX7_hears (va_wsU RX7 13 RX1 "HeardSeen$Person" ⟨"HeardSeen$Person", "isAudible", "()Z"⟩ yX7_isAudible wsX7_isAudible) := goodIn_app (goodIn_of _ (by decide +kernel)) ggX7_hears_X7_isAudible
set_option maxRecDepth 20000 in
theorem gX7_hears_X7_isAudible_u13X9 : GoodIn wsX7_hears (va_wsU RX7 13 RX9 "HeardSeen$Person" ⟨"HeardSeen$Person", "isAudible", "()Z"⟩ yX7_isAudible wsX7_isAudible) := goodIn_app (goodIn_of _ (by decide +kernel)) ggX7_hears_X7_isAudible
set_option maxRecDepth 20000 in
theorem gX7_hears_X7_isAudible_u13X5 : GoodIn wsX7_hears (va_wsU RX7 13 RX5 "HeardSeen$Person" ⟨"HeardSeen$Person", "isAudible", "()Z"⟩ yX7_isAudible wsX7_isAudible) := goodIn_app (goodIn_of _ (by decide +kernel)) ggX7_hears_X7_isAudible
set_option maxRecDepth 20000 in
theorem ggX7_hears_X0_isAudible : GoodIn wsX7_hears wsX0_isAudible := goodIn_r _ [7] (by decide +kernel) (by decide +kernel)
set_option maxRecDepth 20000 in
theorem gX7_hears_X0_isAudible_u13X0 : GoodIn wsX7_hears (va_wsO RX7 13 RX0 "HeardSeen$Person" ⟨"HeardSeen$Person", "isAudible", "()Z"⟩ yX0_isAudible wsX0_isAudible) := goodIn_app (goodIn_of _ (by decide +kernel)) ggX7_hears_X0_isAudible
theorem dX5_hears_0 : decode cX5_hears 0 = .ok (.iload_n 3, 1) := by decide +kernel
theorem dX5_hears_1 : decode cX5_hears 1 = .ok (.iconst 1, 1) := by decide +kernel
theorem dX5_hears_2 : decode cX5_hears 2 = .ok (.if_icmp .ne 18, 3) := by decide +kernel
theorem dX5_hears_20 : decode cX5_hears 20 = .ok (.iconst 0, 1) := by decide +kernel
theorem dX5_hears_21 : decode cX5_hears 21 = .ok (.ireturn, 1) := by decide +kernel
theorem dX5_hears_5 : decode cX5_hears 5 = .ok (.iload_n 2, 1) := by decide +kernel
theorem dX5_hears_6 : decode cX5_hears 6 = .ok (.ifCond .eq 14, 3) := by decide +kernel
theorem dX5_hears_9 : decode cX5_hears 9 = .ok (.aload_n 1, 1) := by decide +kernel
theorem dX5_hears_13 : decode cX5_hears 13 = .ok (.ifCond .eq 7, 3) := by decide +kernel
theorem dX5_hears_16 : decode cX5_hears 16 = .ok (.iconst 1, 1) := by decide +kernel
theorem dX5_hears_17 : decode cX5_hears 17 = .ok (.goto 4, 3) := by decide +kernel
set_option maxRecDepth 20000 in
theorem ggX5_hears_X7_isAudible : GoodIn wsX5_hears wsX7_isAudible := goodIn_r _ [8] (by decide +kernel) (by decide +kernel)
set_option maxRecDepth 20000 in
theorem gX5_hears_X7_isAudible : GoodIn wsX5_hears (wsV RX5 7 RX7 yX7_isAudible wsX7_isAudible) := goodIn_app (goodIn_of _ (by decide +kernel)) ggX5_hears_X7_isAudible
theorem dX5_hears_10 : decode cX5_hears 10 = .ok (.invokevirtual 7, 3) := by decide +kernel
set_option maxRecDepth 20000 in
theorem gX5_hears_X7_isAudible_u7X2 : GoodIn wsX5_hears (va_wsU RX5 7 RX2 "HeardSeen$Person" ⟨"HeardSeen$Person", "isAudible", "()Z"⟩ yX7_isAudible wsX7_isAudible) := goodIn_app (goodIn_of _ (by decide +kernel)) ggX5_hears_X7_isAudible
set_option maxRecDepth 20000 in
theorem gX5_hears_X7_isAudible_u7X1 : GoodIn wsX5_hears (va_wsU RX5 7 RX1 "HeardSeen$Person" ⟨"HeardSeen$Person", "isAudible", "()Z"⟩ yX7_isAudible wsX7_isAudible) := goodIn_app (goodIn_of _ (by decide +kernel)) ggX5_hears_X7_isAudible
set_option maxRecDepth 20000 in
theorem gX5_hears_X7_isAudible_u7X9 : GoodIn wsX5_hears (va_wsU RX5 7 RX9 "HeardSeen$Person" ⟨"HeardSeen$Person", "isAudible", "()Z"⟩ yX7_isAudible wsX7_isAudible) := goodIn_app (goodIn_of _ (by decide +kernel)) ggX5_hears_X7_isAudible
set_option maxRecDepth 20000 in
theorem gX5_hears_X7_isAudible_u7X5 : GoodIn wsX5_hears (va_wsU RX5 7 RX5 "HeardSeen$Person" ⟨"HeardSeen$Person", "isAudible", "()Z"⟩ yX7_isAudible wsX7_isAudible) := goodIn_app (goodIn_of _ (by decide +kernel)) ggX5_hears_X7_isAudible
set_option maxRecDepth 20000 in
theorem ggX5_hears_X0_isAudible : GoodIn wsX5_hears wsX0_isAudible := goodIn_r _ [7] (by decide +kernel) (by decide +kernel)
set_option maxRecDepth 20000 in
theorem gX5_hears_X0_isAudible_u7X0 : GoodIn wsX5_hears (va_wsO RX5 7 RX0 "HeardSeen$Person" ⟨"HeardSeen$Person", "isAudible", "()Z"⟩ yX0_isAudible wsX0_isAudible) := goodIn_app (goodIn_of _ (by decide +kernel)) ggX5_hears_X0_isAudible
theorem dX4_whoSee_0 : decode cX4_whoSee 0 = .ok (.iload_n 1, 1) := by decide +kernel
theorem dX4_whoSee_1 : decode cX4_whoSee 1 = .ok (.ifCond .lt 17, 3) := by decide +kernel
theorem dX4_whoSee_18 : decode cX4_whoSee 18 = .ok (.iconst 0, 1) := by decide +kernel
theorem dX4_whoSee_19 : decode cX4_whoSee 19 = .ok (.ireturn, 1) := by decide +kernel
theorem dX4_whoSee_4 : decode cX4_whoSee 4 = .ok (.iload_n 1, 1) := by decide +kernel
theorem dX4_whoSee_5 : decode cX4_whoSee 5 = .ok (.iconst 5, 1) := by decide +kernel
theorem dX4_whoSee_6 : decode cX4_whoSee 6 = .ok (.if_icmp .ge 12, 3) := by decide +kernel
theorem dX4_whoSee_9 : decode cX4_whoSee 9 = .ok (.aload_n 0, 1) := by decide +kernel
theorem dX4_whoSee_10 : decode cX4_whoSee 10 = .ok (.getfield 22, 3) := by decide +kernel
theorem dX4_whoSee_13 : decode cX4_whoSee 13 = .ok (.iload_n 1, 1) := by decide +kernel
theorem dX4_whoSee_14 : decode cX4_whoSee 14 = .ok (.iaload, 1) := by decide +kernel
theorem dX4_whoSee_15 : decode cX4_whoSee 15 = .ok (.goto 4, 3) := by decide +kernel
theorem dX4_whoHear_0 : decode cX4_whoHear 0 = .ok (.iload_n 1, 1) := by decide +kernel
theorem dX4_whoHear_1 : decode cX4_whoHear 1 = .ok (.ifCond .lt 17, 3) := by decide +kernel
theorem dX4_whoHear_18 : decode cX4_whoHear 18 = .ok (.iconst 0, 1) := by decide +kernel
theorem dX4_whoHear_19 : decode cX4_whoHear 19 = .ok (.ireturn, 1) := by decide +kernel
theorem dX4_whoHear_4 : decode cX4_whoHear 4 = .ok (.iload_n 1, 1) := by decide +kernel
theorem dX4_whoHear_5 : decode cX4_whoHear 5 = .ok (.iconst 5, 1) := by decide +kernel
theorem dX4_whoHear_6 : decode cX4_whoHear 6 = .ok (.if_icmp .ge 12, 3) := by decide +kernel
theorem dX4_whoHear_9 : decode cX4_whoHear 9 = .ok (.aload_n 0, 1) := by decide +kernel
theorem dX4_whoHear_10 : decode cX4_whoHear 10 = .ok (.getfield 26, 3) := by decide +kernel
theorem dX4_whoHear_13 : decode cX4_whoHear 13 = .ok (.iload_n 1, 1) := by decide +kernel
theorem dX4_whoHear_14 : decode cX4_whoHear 14 = .ok (.iaload, 1) := by decide +kernel
theorem dX4_whoHear_15 : decode cX4_whoHear 15 = .ok (.goto 4, 3) := by decide +kernel
theorem dX4_whoNotice_0 : decode cX4_whoNotice 0 = .ok (.iload_n 1, 1) := by decide +kernel
theorem dX4_whoNotice_1 : decode cX4_whoNotice 1 = .ok (.ifCond .lt 9, 3) := by decide +kernel
theorem dX4_whoNotice_10 : decode cX4_whoNotice 10 = .ok (.iconst 0, 1) := by decide +kernel
theorem dX4_whoNotice_11 : decode cX4_whoNotice 11 = .ok (.ireturn, 1) := by decide +kernel
theorem dX4_whoNotice_4 : decode cX4_whoNotice 4 = .ok (.iload_n 1, 1) := by decide +kernel
theorem dX4_whoNotice_5 : decode cX4_whoNotice 5 = .ok (.bipush 36, 2) := by decide +kernel
theorem dX4_whoNotice_7 : decode cX4_whoNotice 7 = .ok (.if_icmp .lt 5, 3) := by decide +kernel
theorem dX4_whoNotice_12 : decode cX4_whoNotice 12 = .ok (.iload_n 2, 1) := by decide +kernel
theorem dX4_whoNotice_13 : decode cX4_whoNotice 13 = .ok (.ifCond .ne 12, 3) := by decide +kernel
theorem dX4_whoNotice_25 : decode cX4_whoNotice 25 = .ok (.aload_n 0, 1) := by decide +kernel
theorem dX4_whoNotice_26 : decode cX4_whoNotice 26 = .ok (.getfield 32, 3) := by decide +kernel
theorem dX4_whoNotice_29 : decode cX4_whoNotice 29 = .ok (.iload_n 1, 1) := by decide +kernel
theorem dX4_whoNotice_30 : decode cX4_whoNotice 30 = .ok (.iaload, 1) := by decide +kernel
theorem dX4_whoNotice_31 : decode cX4_whoNotice 31 = .ok (.ireturn, 1) := by decide +kernel
theorem dX4_whoNotice_16 : decode cX4_whoNotice 16 = .ok (.aload_n 0, 1) := by decide +kernel
theorem dX4_whoNotice_17 : decode cX4_whoNotice 17 = .ok (.getfield 29, 3) := by decide +kernel
theorem dX4_whoNotice_20 : decode cX4_whoNotice 20 = .ok (.iload_n 1, 1) := by decide +kernel
theorem dX4_whoNotice_21 : decode cX4_whoNotice 21 = .ok (.iaload, 1) := by decide +kernel
theorem dX4_whoNotice_22 : decode cX4_whoNotice 22 = .ok (.goto 9, 3) := by decide +kernel
theorem dX4_kindOf_0 : decode cX4_kindOf 0 = .ok (.aload_n 0, 1) := by decide +kernel
theorem dX4_kindOf_1 : decode cX4_kindOf 1 = .ok (.getfield 35, 3) := by decide +kernel
theorem dX4_kindOf_4 : decode cX4_kindOf 4 = .ok (.iload_n 1, 1) := by decide +kernel
set_option maxRecDepth 20000 in
theorem ggX4_kindOf_X3_kindOf : GoodIn wsX4_kindOf wsX3_kindOf := goodIn_r _ [8, 9, 10, 11, 12, 7, 13, 14, 24, 25, 26, 27, 28, 29, 30, 31, 32, 33, 34, 35, 36, 37, 38, 39] (by decide +kernel) (by decide +kernel)
set_option maxRecDepth 20000 in
theorem gX4_kindOf_X3_kindOf : GoodIn wsX4_kindOf (wsV RX4 114 RX3 yX3_kindOf wsX3_kindOf) := goodIn_app (goodIn_of _ (by decide +kernel)) ggX4_kindOf_X3_kindOf
theorem dX4_kindOf_5 : decode cX4_kindOf 5 = .ok (.invokevirtual 114, 3) := by decide +kernel
theorem dX4_kindOf_8 : decode cX4_kindOf 8 = .ok (.istore_n 2, 1) := by decide +kernel
theorem dX4_kindOf_9 : decode cX4_kindOf 9 = .ok (.iload_n 2, 1) := by decide +kernel
theorem dX4_kindOf_10 : decode cX4_kindOf 10 = .ok (.ifCond .lt 30, 3) := by decide +kernel
theorem dX4_kindOf_40 : decode cX4_kindOf 40 = .ok (.aload_n 0, 1) := by decide +kernel
theorem dX4_kindOf_41 : decode cX4_kindOf 41 = .ok (.getfield 12, 3) := by decide +kernel
theorem dX4_kindOf_44 : decode cX4_kindOf 44 = .ok (.areturn, 1) := by decide +kernel
theorem dX4_kindOf_13 : decode cX4_kindOf 13 = .ok (.iload_n 2, 1) := by decide +kernel
theorem dX4_kindOf_14 : decode cX4_kindOf 14 = .ok (.aload_n 0, 1) := by decide +kernel
theorem dX4_kindOf_15 : decode cX4_kindOf 15 = .ok (.getfield 18, 3) := by decide +kernel
theorem dX4_kindOf_18 : decode cX4_kindOf 18 = .ok (.arraylength, 1) := by decide +kernel
theorem dX4_kindOf_19 : decode cX4_kindOf 19 = .ok (.if_icmp .ge 21, 3) := by decide +kernel
theorem dX4_kindOf_22 : decode cX4_kindOf 22 = .ok (.aload_n 0, 1) := by decide +kernel
theorem dX4_kindOf_23 : decode cX4_kindOf 23 = .ok (.getfield 18, 3) := by decide +kernel
theorem dX4_kindOf_26 : decode cX4_kindOf 26 = .ok (.iload_n 2, 1) := by decide +kernel
theorem dX4_kindOf_27 : decode cX4_kindOf 27 = .ok (.aaload, 1) := by decide +kernel
theorem dX4_kindOf_28 : decode cX4_kindOf 28 = .ok (.ifnull 12, 3) := by decide +kernel
theorem dX4_kindOf_31 : decode cX4_kindOf 31 = .ok (.aload_n 0, 1) := by decide +kernel
theorem dX4_kindOf_32 : decode cX4_kindOf 32 = .ok (.getfield 18, 3) := by decide +kernel
theorem dX4_kindOf_35 : decode cX4_kindOf 35 = .ok (.iload_n 2, 1) := by decide +kernel
theorem dX4_kindOf_36 : decode cX4_kindOf 36 = .ok (.aaload, 1) := by decide +kernel
theorem dX4_kindOf_37 : decode cX4_kindOf 37 = .ok (.goto 7, 3) := by decide +kernel
theorem dX4_mark_0 : decode cX4_mark 0 = .ok (.iload_n 1, 1) := by decide +kernel
theorem dX4_mark_1 : decode cX4_mark 1 = .ok (.ifCond .lt 35, 3) := by decide +kernel
theorem dX4_mark_36 : decode cX4_mark 36 = .ok (.return_, 1) := by decide +kernel
theorem dX4_mark_4 : decode cX4_mark 4 = .ok (.iload_n 1, 1) := by decide +kernel
theorem dX4_mark_5 : decode cX4_mark 5 = .ok (.aload_n 0, 1) := by decide +kernel
theorem dX4_mark_6 : decode cX4_mark 6 = .ok (.arraylength, 1) := by decide +kernel
theorem dX4_mark_7 : decode cX4_mark 7 = .ok (.if_icmp .ge 29, 3) := by decide +kernel
theorem dX4_mark_10 : decode cX4_mark 10 = .ok (.aload_n 0, 1) := by decide +kernel
theorem dX4_mark_11 : decode cX4_mark 11 = .ok (.iload_n 1, 1) := by decide +kernel
theorem dX4_mark_12 : decode cX4_mark 12 = .ok (.iload_n 3, 1) := by decide +kernel
theorem dX4_mark_13 : decode cX4_mark 13 = .ok (.ifCond .eq 13, 3) := by decide +kernel
theorem dX4_mark_26 : decode cX4_mark 26 = .ok (.aload_n 0, 1) := by decide +kernel
theorem dX4_mark_27 : decode cX4_mark 27 = .ok (.iload_n 1, 1) := by decide +kernel
theorem dX4_mark_28 : decode cX4_mark 28 = .ok (.iaload, 1) := by decide +kernel
theorem dX4_mark_29 : decode cX4_mark 29 = .ok (.iconst 1, 1) := by decide +kernel
theorem dX4_mark_30 : decode cX4_mark 30 = .ok (.iload_n 2, 1) := by decide +kernel
theorem dX4_mark_31 : decode cX4_mark 31 = .ok (.ishl, 1) := by decide +kernel
theorem dX4_mark_32 : decode cX4_mark 32 = .ok (.iconst (-1), 1) := by decide +kernel
theorem dX4_mark_33 : decode cX4_mark 33 = .ok (.ixor, 1) := by decide +kernel
theorem dX4_mark_34 : decode cX4_mark 34 = .ok (.iand, 1) := by decide +kernel
theorem dX4_mark_35 : decode cX4_mark 35 = .ok (.iastore, 1) := by decide +kernel
theorem dX4_mark_16 : decode cX4_mark 16 = .ok (.aload_n 0, 1) := by decide +kernel
theorem dX4_mark_17 : decode cX4_mark 17 = .ok (.iload_n 1, 1) := by decide +kernel
theorem dX4_mark_18 : decode cX4_mark 18 = .ok (.iaload, 1) := by decide +kernel
theorem dX4_mark_19 : decode cX4_mark 19 = .ok (.iconst 1, 1) := by decide +kernel
theorem dX4_mark_20 : decode cX4_mark 20 = .ok (.iload_n 2, 1) := by decide +kernel
theorem dX4_mark_21 : decode cX4_mark 21 = .ok (.ishl, 1) := by decide +kernel
theorem dX4_mark_22 : decode cX4_mark 22 = .ok (.ior, 1) := by decide +kernel
theorem dX4_mark_23 : decode cX4_mark 23 = .ok (.goto 12, 3) := by decide +kernel
theorem dX4_maySpeak_0 : decode cX4_maySpeak 0 = .ok (.aload_n 0, 1) := by decide +kernel
theorem dX4_maySpeak_1 : decode cX4_maySpeak 1 = .ok (.iload_n 1, 1) := by decide +kernel
set_option maxRecDepth 20000 in
theorem ggX4_maySpeak_X4_whoSee : GoodIn wsX4_maySpeak wsX4_whoSee := goodIn_r _ [6, 7, 13, 14, 15, 16, 17, 18, 19, 20, 21] (by decide +kernel) (by decide +kernel)
set_option maxRecDepth 20000 in
theorem gX4_maySpeak_X4_whoSee : GoodIn wsX4_maySpeak (wsV RX4 116 RX4 yX4_whoSee wsX4_whoSee) := goodIn_app (goodIn_of _ (by decide +kernel)) ggX4_maySpeak_X4_whoSee
theorem dX4_maySpeak_2 : decode cX4_maySpeak 2 = .ok (.invokevirtual 116, 3) := by decide +kernel
theorem dX4_maySpeak_5 : decode cX4_maySpeak 5 = .ok (.aload_n 0, 1) := by decide +kernel
theorem dX4_maySpeak_6 : decode cX4_maySpeak 6 = .ok (.iload_n 1, 1) := by decide +kernel
set_option maxRecDepth 20000 in
theorem ggX4_maySpeak_X4_whoHear : GoodIn wsX4_maySpeak wsX4_whoHear := goodIn_r _ [11, 12, 13, 14, 15, 16, 17, 18, 19, 20, 21] (by decide +kernel) (by decide +kernel)
set_option maxRecDepth 20000 in
theorem gX4_maySpeak_X4_whoHear : GoodIn wsX4_maySpeak (wsV RX4 119 RX4 yX4_whoHear wsX4_whoHear) := goodIn_app (goodIn_of _ (by decide +kernel)) ggX4_maySpeak_X4_whoHear
theorem dX4_maySpeak_7 : decode cX4_maySpeak 7 = .ok (.invokevirtual 119, 3) := by decide +kernel
theorem dX4_maySpeak_10 : decode cX4_maySpeak 10 = .ok (.iand, 1) := by decide +kernel
theorem dX4_maySpeak_11 : decode cX4_maySpeak 11 = .ok (.aload_n 0, 1) := by decide +kernel
theorem dX4_maySpeak_12 : decode cX4_maySpeak 12 = .ok (.getfield 64, 3) := by decide +kernel
theorem dX4_maySpeak_15 : decode cX4_maySpeak 15 = .ok (.iand, 1) := by decide +kernel
theorem dX4_maySpeak_16 : decode cX4_maySpeak 16 = .ok (.ifCond .ne 7, 3) := by decide +kernel
theorem dX4_maySpeak_23 : decode cX4_maySpeak 23 = .ok (.iconst 0, 1) := by decide +kernel
theorem dX4_maySpeak_24 : decode cX4_maySpeak 24 = .ok (.ireturn, 1) := by decide +kernel
theorem dX4_maySpeak_19 : decode cX4_maySpeak 19 = .ok (.iconst 1, 1) := by decide +kernel
theorem dX4_maySpeak_20 : decode cX4_maySpeak 20 = .ok (.goto 4, 3) := by decide +kernel
theorem dX4_mayMask_0 : decode cX4_mayMask 0 = .ok (.iconst 0, 1) := by decide +kernel
theorem dX4_mayMask_1 : decode cX4_mayMask 1 = .ok (.istore_n 1, 1) := by decide +kernel
theorem dX4_mayMask_2 : decode cX4_mayMask 2 = .ok (.iconst 0, 1) := by decide +kernel
theorem dX4_mayMask_3 : decode cX4_mayMask 3 = .ok (.istore_n 2, 1) := by decide +kernel
theorem dX4_mayMask_4 : decode cX4_mayMask 4 = .ok (.iload_n 2, 1) := by decide +kernel
theorem dX4_mayMask_5 : decode cX4_mayMask 5 = .ok (.aload_n 0, 1) := by decide +kernel
theorem dX4_mayMask_6 : decode cX4_mayMask 6 = .ok (.getfield 35, 3) := by decide +kernel
theorem dX4_mayMask_9 : decode cX4_mayMask 9 = .ok (.getfield 68, 3) := by decide +kernel
theorem dX4_mayMask_12 : decode cX4_mayMask 12 = .ok (.if_icmp .ge 23, 3) := by decide +kernel
theorem dX4_mayMask_35 : decode cX4_mayMask 35 = .ok (.iload_n 1, 1) := by decide +kernel
theorem dX4_mayMask_36 : decode cX4_mayMask 36 = .ok (.ireturn, 1) := by decide +kernel
theorem dX4_mayMask_15 : decode cX4_mayMask 15 = .ok (.aload_n 0, 1) := by decide +kernel
theorem dX4_mayMask_16 : decode cX4_mayMask 16 = .ok (.iload_n 2, 1) := by decide +kernel
set_option maxRecDepth 20000 in
theorem ggX4_mayMask_X4_maySpeak : GoodIn wsX4_mayMask wsX4_maySpeak := goodIn_r _ [7, 8, 9, 10, 11, 6, 12, 13, 14, 15, 16, 17, 18, 19, 20, 21, 22, 23, 24, 25, 26, 27] (by decide +kernel) (by decide +kernel)
set_option maxRecDepth 20000 in
theorem gX4_mayMask_X4_maySpeak : GoodIn wsX4_mayMask (wsV RX4 122 RX4 yX4_maySpeak wsX4_maySpeak) := goodIn_app (goodIn_of _ (by decide +kernel)) ggX4_mayMask_X4_maySpeak
theorem dX4_mayMask_17 : decode cX4_mayMask 17 = .ok (.invokevirtual 122, 3) := by decide +kernel
theorem dX4_mayMask_20 : decode cX4_mayMask 20 = .ok (.ifCond .eq 9, 3) := by decide +kernel
theorem dX4_mayMask_29 : decode cX4_mayMask 29 = .ok (.iinc 2 1, 3) := by decide +kernel
theorem dX4_mayMask_32 : decode cX4_mayMask 32 = .ok (.goto (-28), 3) := by decide +kernel
theorem dX4_mayMask_23 : decode cX4_mayMask 23 = .ok (.iload_n 1, 1) := by decide +kernel
theorem dX4_mayMask_24 : decode cX4_mayMask 24 = .ok (.iconst 1, 1) := by decide +kernel
theorem dX4_mayMask_25 : decode cX4_mayMask 25 = .ok (.iload_n 2, 1) := by decide +kernel
theorem dX4_mayMask_26 : decode cX4_mayMask 26 = .ok (.ishl, 1) := by decide +kernel
theorem dX4_mayMask_27 : decode cX4_mayMask 27 = .ok (.ior, 1) := by decide +kernel
theorem dX4_mayMask_28 : decode cX4_mayMask 28 = .ok (.istore_n 1, 1) := by decide +kernel
theorem dX4_firstBreach_0 : decode cX4_firstBreach 0 = .ok (.iconst 0, 1) := by decide +kernel
theorem dX4_firstBreach_1 : decode cX4_firstBreach 1 = .ok (.istore_n 2, 1) := by decide +kernel
theorem dX4_firstBreach_2 : decode cX4_firstBreach 2 = .ok (.iload_n 2, 1) := by decide +kernel
theorem dX4_firstBreach_3 : decode cX4_firstBreach 3 = .ok (.aload_n 0, 1) := by decide +kernel
theorem dX4_firstBreach_4 : decode cX4_firstBreach 4 = .ok (.getfield 35, 3) := by decide +kernel
theorem dX4_firstBreach_7 : decode cX4_firstBreach 7 = .ok (.getfield 68, 3) := by decide +kernel
theorem dX4_firstBreach_10 : decode cX4_firstBreach 10 = .ok (.if_icmp .ge 66, 3) := by decide +kernel
theorem dX4_firstBreach_76 : decode cX4_firstBreach 76 = .ok (.iconst (-1), 1) := by decide +kernel
theorem dX4_firstBreach_77 : decode cX4_firstBreach 77 = .ok (.ireturn, 1) := by decide +kernel
theorem dX4_firstBreach_13 : decode cX4_firstBreach 13 = .ok (.iconst 0, 1) := by decide +kernel
theorem dX4_firstBreach_14 : decode cX4_firstBreach 14 = .ok (.istore_n 3, 1) := by decide +kernel
theorem dX4_firstBreach_15 : decode cX4_firstBreach 15 = .ok (.iload_n 3, 1) := by decide +kernel
theorem dX4_firstBreach_16 : decode cX4_firstBreach 16 = .ok (.aload_n 0, 1) := by decide +kernel
theorem dX4_firstBreach_17 : decode cX4_firstBreach 17 = .ok (.getfield 35, 3) := by decide +kernel
theorem dX4_firstBreach_20 : decode cX4_firstBreach 20 = .ok (.getfield 68, 3) := by decide +kernel
theorem dX4_firstBreach_23 : decode cX4_firstBreach 23 = .ok (.if_icmp .ge 47, 3) := by decide +kernel
theorem dX4_firstBreach_70 : decode cX4_firstBreach 70 = .ok (.iinc 2 1, 3) := by decide +kernel
theorem dX4_firstBreach_73 : decode cX4_firstBreach 73 = .ok (.goto (-71), 3) := by decide +kernel
theorem dX4_firstBreach_26 : decode cX4_firstBreach 26 = .ok (.iload_n 1, 1) := by decide +kernel
theorem dX4_firstBreach_27 : decode cX4_firstBreach 27 = .ok (.iload_n 3, 1) := by decide +kernel
set_option maxRecDepth 20000 in
theorem ggX4_firstBreach_X10_isIn : GoodIn wsX4_firstBreach wsX10_isIn := goodIn_r _ [6] (by decide +kernel) (by decide +kernel)
set_option maxRecDepth 20000 in
theorem gX4_firstBreach_X10_isIn_n126 : GoodIn wsX4_firstBreach (wsX10_isIn) := ggX4_firstBreach_X10_isIn
theorem dX4_firstBreach_28 : decode cX4_firstBreach 28 = .ok (.invokestatic 126, 3) := by decide +kernel
theorem dX4_firstBreach_31 : decode cX4_firstBreach 31 = .ok (.ifCond .eq 33, 3) := by decide +kernel
theorem dX4_firstBreach_64 : decode cX4_firstBreach 64 = .ok (.iinc 3 1, 3) := by decide +kernel
theorem dX4_firstBreach_67 : decode cX4_firstBreach 67 = .ok (.goto (-52), 3) := by decide +kernel
theorem dX4_firstBreach_34 : decode cX4_firstBreach 34 = .ok (.aload_n 0, 1) := by decide +kernel
theorem dX4_firstBreach_35 : decode cX4_firstBreach 35 = .ok (.iload_n 3, 1) := by decide +kernel
set_option maxRecDepth 20000 in
theorem ggX4_firstBreach_X4_whoSee : GoodIn wsX4_firstBreach wsX4_whoSee := goodIn_r _ [11, 12, 18, 19, 20, 21, 22, 23, 24, 25, 26] (by decide +kernel) (by decide +kernel)
set_option maxRecDepth 20000 in
theorem gX4_firstBreach_X4_whoSee : GoodIn wsX4_firstBreach (wsV RX4 116 RX4 yX4_whoSee wsX4_whoSee) := goodIn_app (goodIn_of _ (by decide +kernel)) ggX4_firstBreach_X4_whoSee
theorem dX4_firstBreach_36 : decode cX4_firstBreach 36 = .ok (.invokevirtual 116, 3) := by decide +kernel
theorem dX4_firstBreach_39 : decode cX4_firstBreach 39 = .ok (.aload_n 0, 1) := by decide +kernel
theorem dX4_firstBreach_40 : decode cX4_firstBreach 40 = .ok (.iload_n 3, 1) := by decide +kernel
set_option maxRecDepth 20000 in
theorem ggX4_firstBreach_X4_whoHear : GoodIn wsX4_firstBreach wsX4_whoHear := goodIn_r _ [16, 17, 18, 19, 20, 21, 22, 23, 24, 25, 26] (by decide +kernel) (by decide +kernel)
set_option maxRecDepth 20000 in
theorem gX4_firstBreach_X4_whoHear : GoodIn wsX4_firstBreach (wsV RX4 119 RX4 yX4_whoHear wsX4_whoHear) := goodIn_app (goodIn_of _ (by decide +kernel)) ggX4_firstBreach_X4_whoHear
theorem dX4_firstBreach_41 : decode cX4_firstBreach 41 = .ok (.invokevirtual 119, 3) := by decide +kernel
theorem dX4_firstBreach_44 : decode cX4_firstBreach 44 = .ok (.iand, 1) := by decide +kernel
theorem dX4_firstBreach_45 : decode cX4_firstBreach 45 = .ok (.aload_n 0, 1) := by decide +kernel
theorem dX4_firstBreach_46 : decode cX4_firstBreach 46 = .ok (.getfield 64, 3) := by decide +kernel
theorem dX4_firstBreach_49 : decode cX4_firstBreach 49 = .ok (.iand, 1) := by decide +kernel
theorem dX4_firstBreach_50 : decode cX4_firstBreach 50 = .ok (.iload_n 2, 1) := by decide +kernel
theorem dX4_firstBreach_51 : decode cX4_firstBreach 51 = .ok (.invokestatic 126, 3) := by decide +kernel
theorem dX4_firstBreach_54 : decode cX4_firstBreach 54 = .ok (.ifCond .eq 10, 3) := by decide +kernel
theorem dX4_firstBreach_57 : decode cX4_firstBreach 57 = .ok (.bipush 10, 2) := by decide +kernel
theorem dX4_firstBreach_59 : decode cX4_firstBreach 59 = .ok (.iload_n 2, 1) := by decide +kernel
theorem dX4_firstBreach_60 : decode cX4_firstBreach 60 = .ok (.imul, 1) := by decide +kernel
theorem dX4_firstBreach_61 : decode cX4_firstBreach 61 = .ok (.iload_n 3, 1) := by decide +kernel
theorem dX4_firstBreach_62 : decode cX4_firstBreach 62 = .ok (.iadd, 1) := by decide +kernel
theorem dX4_firstBreach_63 : decode cX4_firstBreach 63 = .ok (.ireturn, 1) := by decide +kernel
theorem dX4_isAllTold_0 : decode cX4_isAllTold 0 = .ok (.iconst 0, 1) := by decide +kernel
theorem dX4_isAllTold_1 : decode cX4_isAllTold 1 = .ok (.istore_n 2, 1) := by decide +kernel
theorem dX4_isAllTold_2 : decode cX4_isAllTold 2 = .ok (.iload_n 2, 1) := by decide +kernel
theorem dX4_isAllTold_3 : decode cX4_isAllTold 3 = .ok (.aload_n 0, 1) := by decide +kernel
theorem dX4_isAllTold_4 : decode cX4_isAllTold 4 = .ok (.getfield 35, 3) := by decide +kernel
theorem dX4_isAllTold_7 : decode cX4_isAllTold 7 = .ok (.getfield 129, 3) := by decide +kernel
theorem dX4_isAllTold_10 : decode cX4_isAllTold 10 = .ok (.if_icmp .ge 66, 3) := by decide +kernel
theorem dX4_isAllTold_76 : decode cX4_isAllTold 76 = .ok (.iconst 1, 1) := by decide +kernel
theorem dX4_isAllTold_77 : decode cX4_isAllTold 77 = .ok (.ireturn, 1) := by decide +kernel
theorem dX4_isAllTold_13 : decode cX4_isAllTold 13 = .ok (.iload_n 2, 1) := by decide +kernel
theorem dX4_isAllTold_14 : decode cX4_isAllTold 14 = .ok (.bipush 6, 2) := by decide +kernel
theorem dX4_isAllTold_16 : decode cX4_isAllTold 16 = .ok (.if_icmp .ge 60, 3) := by decide +kernel
theorem dX4_isAllTold_19 : decode cX4_isAllTold 19 = .ok (.aload_n 0, 1) := by decide +kernel
theorem dX4_isAllTold_20 : decode cX4_isAllTold 20 = .ok (.getfield 35, 3) := by decide +kernel
theorem dX4_isAllTold_23 : decode cX4_isAllTold 23 = .ok (.getfield 132, 3) := by decide +kernel
theorem dX4_isAllTold_26 : decode cX4_isAllTold 26 = .ok (.iload_n 2, 1) := by decide +kernel
theorem dX4_isAllTold_27 : decode cX4_isAllTold 27 = .ok (.iaload, 1) := by decide +kernel
theorem dX4_isAllTold_28 : decode cX4_isAllTold 28 = .ok (.istore_n 3, 1) := by decide +kernel
theorem dX4_isAllTold_29 : decode cX4_isAllTold 29 = .ok (.aload_n 0, 1) := by decide +kernel
theorem dX4_isAllTold_30 : decode cX4_isAllTold 30 = .ok (.iload_n 3, 1) := by decide +kernel
set_option maxRecDepth 20000 in
theorem ggX4_isAllTold_X4_whoHear : GoodIn wsX4_isAllTold wsX4_whoHear := goodIn_r _ [9, 10, 24, 25, 26, 27, 28, 29, 30, 31, 32] (by decide +kernel) (by decide +kernel)
set_option maxRecDepth 20000 in
theorem gX4_isAllTold_X4_whoHear : GoodIn wsX4_isAllTold (wsV RX4 119 RX4 yX4_whoHear wsX4_whoHear) := goodIn_app (goodIn_of _ (by decide +kernel)) ggX4_isAllTold_X4_whoHear
theorem dX4_isAllTold_31 : decode cX4_isAllTold 31 = .ok (.invokevirtual 119, 3) := by decide +kernel
theorem dX4_isAllTold_34 : decode cX4_isAllTold 34 = .ok (.istore 4, 2) := by decide +kernel
theorem dX4_isAllTold_36 : decode cX4_isAllTold 36 = .ok (.aload_n 0, 1) := by decide +kernel
theorem dX4_isAllTold_37 : decode cX4_isAllTold 37 = .ok (.iload_n 3, 1) := by decide +kernel
set_option maxRecDepth 20000 in
theorem ggX4_isAllTold_X4_maySpeak : GoodIn wsX4_isAllTold wsX4_maySpeak := goodIn_r _ [14, 15, 16, 17, 18, 8, 19, 20, 5, 6, 7, 9, 10, 24, 25, 26, 27, 28, 29, 30, 31, 32] (by decide +kernel) (by decide +kernel)
set_option maxRecDepth 20000 in
theorem gX4_isAllTold_X4_maySpeak : GoodIn wsX4_isAllTold (wsV RX4 122 RX4 yX4_maySpeak wsX4_maySpeak) := goodIn_app (goodIn_of _ (by decide +kernel)) ggX4_isAllTold_X4_maySpeak
theorem dX4_isAllTold_38 : decode cX4_isAllTold 38 = .ok (.invokevirtual 122, 3) := by decide +kernel
theorem dX4_isAllTold_41 : decode cX4_isAllTold 41 = .ok (.ifCond .eq 27, 3) := by decide +kernel
theorem dX4_isAllTold_68 : decode cX4_isAllTold 68 = .ok (.iconst 0, 1) := by decide +kernel
theorem dX4_isAllTold_69 : decode cX4_isAllTold 69 = .ok (.ireturn, 1) := by decide +kernel
theorem dX4_isAllTold_44 : decode cX4_isAllTold 44 = .ok (.iload 4, 2) := by decide +kernel
theorem dX4_isAllTold_46 : decode cX4_isAllTold 46 = .ok (.aload_n 0, 1) := by decide +kernel
theorem dX4_isAllTold_47 : decode cX4_isAllTold 47 = .ok (.getfield 35, 3) := by decide +kernel
theorem dX4_isAllTold_50 : decode cX4_isAllTold 50 = .ok (.getfield 135, 3) := by decide +kernel
theorem dX4_isAllTold_53 : decode cX4_isAllTold 53 = .ok (.iload_n 2, 1) := by decide +kernel
theorem dX4_isAllTold_54 : decode cX4_isAllTold 54 = .ok (.iaload, 1) := by decide +kernel
set_option maxRecDepth 20000 in
theorem ggX4_isAllTold_X10_isIn : GoodIn wsX4_isAllTold wsX10_isIn := goodIn_r _ [23] (by decide +kernel) (by decide +kernel)
set_option maxRecDepth 20000 in
theorem gX4_isAllTold_X10_isIn_n126 : GoodIn wsX4_isAllTold (wsX10_isIn) := ggX4_isAllTold_X10_isIn
theorem dX4_isAllTold_55 : decode cX4_isAllTold 55 = .ok (.invokestatic 126, 3) := by decide +kernel
theorem dX4_isAllTold_58 : decode cX4_isAllTold 58 = .ok (.ifCond .eq 10, 3) := by decide +kernel
theorem dX4_isAllTold_61 : decode cX4_isAllTold 61 = .ok (.iload 4, 2) := by decide +kernel
theorem dX4_isAllTold_63 : decode cX4_isAllTold 63 = .ok (.iload_n 1, 1) := by decide +kernel
theorem dX4_isAllTold_64 : decode cX4_isAllTold 64 = .ok (.iand, 1) := by decide +kernel
theorem dX4_isAllTold_65 : decode cX4_isAllTold 65 = .ok (.ifCond .eq 5, 3) := by decide +kernel
theorem dX4_isAllTold_70 : decode cX4_isAllTold 70 = .ok (.iinc 2 1, 3) := by decide +kernel
theorem dX4_isAllTold_73 : decode cX4_isAllTold 73 = .ok (.goto (-71), 3) := by decide +kernel
theorem dX4_isAsReported_0 : decode cX4_isAsReported 0 = .ok (.iconst 0, 1) := by decide +kernel
theorem dX4_isAsReported_1 : decode cX4_isAsReported 1 = .ok (.istore_n 2, 1) := by decide +kernel
theorem dX4_isAsReported_2 : decode cX4_isAsReported 2 = .ok (.iload_n 2, 1) := by decide +kernel
theorem dX4_isAsReported_3 : decode cX4_isAsReported 3 = .ok (.aload_n 0, 1) := by decide +kernel
theorem dX4_isAsReported_4 : decode cX4_isAsReported 4 = .ok (.getfield 35, 3) := by decide +kernel
theorem dX4_isAsReported_7 : decode cX4_isAsReported 7 = .ok (.getfield 138, 3) := by decide +kernel
theorem dX4_isAsReported_10 : decode cX4_isAsReported 10 = .ok (.if_icmp .ge 106, 3) := by decide +kernel
theorem dX4_isAsReported_116 : decode cX4_isAsReported 116 = .ok (.iconst 1, 1) := by decide +kernel
theorem dX4_isAsReported_117 : decode cX4_isAsReported 117 = .ok (.ireturn, 1) := by decide +kernel
theorem dX4_isAsReported_13 : decode cX4_isAsReported 13 = .ok (.iload_n 2, 1) := by decide +kernel
theorem dX4_isAsReported_14 : decode cX4_isAsReported 14 = .ok (.bipush 8, 2) := by decide +kernel
theorem dX4_isAsReported_16 : decode cX4_isAsReported 16 = .ok (.if_icmp .ge 100, 3) := by decide +kernel
theorem dX4_isAsReported_19 : decode cX4_isAsReported 19 = .ok (.aload_n 0, 1) := by decide +kernel
theorem dX4_isAsReported_20 : decode cX4_isAsReported 20 = .ok (.getfield 35, 3) := by decide +kernel
theorem dX4_isAsReported_23 : decode cX4_isAsReported 23 = .ok (.getfield 141, 3) := by decide +kernel
theorem dX4_isAsReported_26 : decode cX4_isAsReported 26 = .ok (.iload_n 2, 1) := by decide +kernel
theorem dX4_isAsReported_27 : decode cX4_isAsReported 27 = .ok (.iaload, 1) := by decide +kernel
theorem dX4_isAsReported_28 : decode cX4_isAsReported 28 = .ok (.istore_n 3, 1) := by decide +kernel
theorem dX4_isAsReported_29 : decode cX4_isAsReported 29 = .ok (.aload_n 0, 1) := by decide +kernel
theorem dX4_isAsReported_30 : decode cX4_isAsReported 30 = .ok (.getfield 35, 3) := by decide +kernel
theorem dX4_isAsReported_33 : decode cX4_isAsReported 33 = .ok (.getfield 144, 3) := by decide +kernel
theorem dX4_isAsReported_36 : decode cX4_isAsReported 36 = .ok (.iload_n 2, 1) := by decide +kernel
theorem dX4_isAsReported_37 : decode cX4_isAsReported 37 = .ok (.iaload, 1) := by decide +kernel
theorem dX4_isAsReported_38 : decode cX4_isAsReported 38 = .ok (.istore 4, 2) := by decide +kernel
theorem dX4_isAsReported_40 : decode cX4_isAsReported 40 = .ok (.iload 4, 2) := by decide +kernel
theorem dX4_isAsReported_56 : decode cX4_isAsReported 56 = .ok (.istore 5, 2) := by decide +kernel
theorem dX4_isAsReported_58 : decode cX4_isAsReported 58 = .ok (.iload 5, 2) := by decide +kernel
theorem dX4_isAsReported_76 : decode cX4_isAsReported 76 = .ok (.iload_n 3, 1) := by decide +kernel
set_option maxRecDepth 20000 in
theorem ggX4_isAsReported_X10_isIn : GoodIn wsX4_isAsReported wsX10_isIn := goodIn_r _ [18] (by decide +kernel) (by decide +kernel)
set_option maxRecDepth 20000 in
theorem gX4_isAsReported_X10_isIn_n126 : GoodIn wsX4_isAsReported (wsX10_isIn) := ggX4_isAsReported_X10_isIn
theorem dX4_isAsReported_77 : decode cX4_isAsReported 77 = .ok (.invokestatic 126, 3) := by decide +kernel
theorem dX4_isAsReported_80 : decode cX4_isAsReported 80 = .ok (.istore 6, 2) := by decide +kernel
theorem dX4_isAsReported_82 : decode cX4_isAsReported 82 = .ok (.iload_n 3, 1) := by decide +kernel
theorem dX4_isAsReported_83 : decode cX4_isAsReported 83 = .ok (.iload_n 1, 1) := by decide +kernel
theorem dX4_isAsReported_84 : decode cX4_isAsReported 84 = .ok (.if_icmp .eq 26, 3) := by decide +kernel
theorem dX4_isAsReported_110 : decode cX4_isAsReported 110 = .ok (.iinc 2 1, 3) := by decide +kernel
theorem dX4_isAsReported_113 : decode cX4_isAsReported 113 = .ok (.goto (-111), 3) := by decide +kernel
theorem dX4_isAsReported_87 : decode cX4_isAsReported 87 = .ok (.iload 6, 2) := by decide +kernel
theorem dX4_isAsReported_89 : decode cX4_isAsReported 89 = .ok (.iload 4, 2) := by decide +kernel
theorem dX4_isAsReported_105 : decode cX4_isAsReported 105 = .ok (.if_icmp .eq 5, 3) := by decide +kernel
theorem dX4_isAsReported_108 : decode cX4_isAsReported 108 = .ok (.iconst 0, 1) := by decide +kernel
theorem dX4_isAsReported_109 : decode cX4_isAsReported 109 = .ok (.ireturn, 1) := by decide +kernel
theorem dX4_isAsReported_91 : decode cX4_isAsReported 91 = .ok (.ifCond .eq 9, 3) := by decide +kernel
theorem dX4_isAsReported_100 : decode cX4_isAsReported 100 = .ok (.iconst 1, 1) := by decide +kernel
theorem dX4_isAsReported_101 : decode cX4_isAsReported 101 = .ok (.goto 4, 3) := by decide +kernel
theorem dX4_isAsReported_94 : decode cX4_isAsReported 94 = .ok (.iload 4, 2) := by decide +kernel
theorem dX4_isAsReported_96 : decode cX4_isAsReported 96 = .ok (.iconst 2, 1) := by decide +kernel
theorem dX4_isAsReported_97 : decode cX4_isAsReported 97 = .ok (.if_icmp .ne 7, 3) := by decide +kernel
theorem dX4_isAsReported_104 : decode cX4_isAsReported 104 = .ok (.iconst 0, 1) := by decide +kernel
theorem dX4_isAsReported_60 : decode cX4_isAsReported 60 = .ok (.ifCond .eq 11, 3) := by decide +kernel
theorem dX4_isAsReported_71 : decode cX4_isAsReported 71 = .ok (.aload_n 0, 1) := by decide +kernel
theorem dX4_isAsReported_72 : decode cX4_isAsReported 72 = .ok (.iload_n 1, 1) := by decide +kernel
set_option maxRecDepth 20000 in
theorem ggX4_isAsReported_X4_whoHear : GoodIn wsX4_isAsReported wsX4_whoHear := goodIn_r _ [14, 15, 19, 20, 21, 22, 23, 24, 25, 26, 27] (by decide +kernel) (by decide +kernel)
set_option maxRecDepth 20000 in
theorem gX4_isAsReported_X4_whoHear : GoodIn wsX4_isAsReported (wsV RX4 119 RX4 yX4_whoHear wsX4_whoHear) := goodIn_app (goodIn_of _ (by decide +kernel)) ggX4_isAsReported_X4_whoHear
theorem dX4_isAsReported_73 : decode cX4_isAsReported 73 = .ok (.invokevirtual 119, 3) := by decide +kernel
theorem dX4_isAsReported_63 : decode cX4_isAsReported 63 = .ok (.aload_n 0, 1) := by decide +kernel
theorem dX4_isAsReported_64 : decode cX4_isAsReported 64 = .ok (.iload_n 1, 1) := by decide +kernel
set_option maxRecDepth 20000 in
theorem ggX4_isAsReported_X4_whoSee : GoodIn wsX4_isAsReported wsX4_whoSee := goodIn_r _ [9, 10, 19, 20, 21, 22, 23, 24, 25, 26, 27] (by decide +kernel) (by decide +kernel)
set_option maxRecDepth 20000 in
theorem gX4_isAsReported_X4_whoSee : GoodIn wsX4_isAsReported (wsV RX4 116 RX4 yX4_whoSee wsX4_whoSee) := goodIn_app (goodIn_of _ (by decide +kernel)) ggX4_isAsReported_X4_whoSee
theorem dX4_isAsReported_65 : decode cX4_isAsReported 65 = .ok (.invokevirtual 116, 3) := by decide +kernel
theorem dX4_isAsReported_68 : decode cX4_isAsReported 68 = .ok (.goto 8, 3) := by decide +kernel
theorem dX4_isAsReported_42 : decode cX4_isAsReported 42 = .ok (.ifCond .eq 9, 3) := by decide +kernel
theorem dX4_isAsReported_51 : decode cX4_isAsReported 51 = .ok (.iconst 1, 1) := by decide +kernel
theorem dX4_isAsReported_52 : decode cX4_isAsReported 52 = .ok (.goto 4, 3) := by decide +kernel
theorem dX4_isAsReported_45 : decode cX4_isAsReported 45 = .ok (.iload 4, 2) := by decide +kernel
theorem dX4_isAsReported_47 : decode cX4_isAsReported 47 = .ok (.iconst 1, 1) := by decide +kernel
theorem dX4_isAsReported_48 : decode cX4_isAsReported 48 = .ok (.if_icmp .ne 7, 3) := by decide +kernel
theorem dX4_isAsReported_55 : decode cX4_isAsReported 55 = .ok (.iconst 0, 1) := by decide +kernel
theorem dX4_holds_0 : decode cX4_holds 0 = .ok (.iload_n 1, 1) := by decide +kernel
theorem dX4_holds_1 : decode cX4_holds 1 = .ok (.tableswitch 81 0 4 #[35, 41, 47, 81, 62], 35) := by decide +kernel
theorem dX4_holds_36 : decode cX4_holds 36 = .ok (.aload_n 0, 1) := by decide +kernel
theorem dX4_holds_37 : decode cX4_holds 37 = .ok (.iload_n 3, 1) := by decide +kernel
set_option maxRecDepth 20000 in
theorem ggX4_holds_X4_isAllTold : GoodIn wsX4_holds wsX4_isAllTold := goodIn_r _ [6, 7, 8, 9, 10, 11, 12, 13, 5, 14, 15, 16, 17, 18, 19, 1, 20, 21, 22, 23, 24, 25, 26, 27, 40, 41, 42, 43, 44, 45, 46, 47, 48, 49, 50, 51, 52, 53, 54, 55, 56, 57, 58, 59, 60, 61, 62, 63, 64] (by decide +kernel) (by decide +kernel)
set_option maxRecDepth 20000 in
theorem gX4_holds_X4_isAllTold : GoodIn wsX4_holds (wsV RX4 147 RX4 yX4_isAllTold wsX4_isAllTold) := goodIn_app (goodIn_of _ (by decide +kernel)) ggX4_holds_X4_isAllTold
theorem dX4_holds_38 : decode cX4_holds 38 = .ok (.invokevirtual 147, 3) := by decide +kernel
theorem dX4_holds_41 : decode cX4_holds 41 = .ok (.ireturn, 1) := by decide +kernel
theorem dX4_holds_42 : decode cX4_holds 42 = .ok (.aload_n 0, 1) := by decide +kernel
theorem dX4_holds_43 : decode cX4_holds 43 = .ok (.iload_n 2, 1) := by decide +kernel
set_option maxRecDepth 20000 in
theorem ggX4_holds_X4_isAsReported : GoodIn wsX4_holds wsX4_isAsReported := goodIn_r _ [31, 7, 32, 33, 34, 20, 21, 22, 5, 23, 24, 11, 12, 13, 14, 15, 25, 26, 27, 40, 41, 42, 43, 44, 45, 46, 47, 48, 49, 50, 51, 52, 53, 54, 55, 56, 57, 58, 59, 60, 61, 62, 63, 64] (by decide +kernel) (by decide +kernel)
set_option maxRecDepth 20000 in
theorem gX4_holds_X4_isAsReported : GoodIn wsX4_holds (wsV RX4 150 RX4 yX4_isAsReported wsX4_isAsReported) := goodIn_app (goodIn_of _ (by decide +kernel)) ggX4_holds_X4_isAsReported
theorem dX4_holds_44 : decode cX4_holds 44 = .ok (.invokevirtual 150, 3) := by decide +kernel
theorem dX4_holds_47 : decode cX4_holds 47 = .ok (.ireturn, 1) := by decide +kernel
theorem dX4_holds_48 : decode cX4_holds 48 = .ok (.aload_n 0, 1) := by decide +kernel
theorem dX4_holds_49 : decode cX4_holds 49 = .ok (.iload_n 3, 1) := by decide +kernel
set_option maxRecDepth 20000 in
theorem ggX4_holds_X4_firstBreach : GoodIn wsX4_holds wsX4_firstBreach := goodIn_r _ [38, 7, 39, 1, 25, 26, 27, 20, 21, 22, 5, 23, 24, 11, 12, 13, 14, 15, 40, 41, 42, 43, 44, 45, 46, 47, 48, 49, 50, 51, 52, 53, 54, 55, 56, 57, 58, 59, 60, 61, 62, 63, 64] (by decide +kernel) (by decide +kernel)
set_option maxRecDepth 20000 in
theorem gX4_holds_X4_firstBreach : GoodIn wsX4_holds (wsV RX4 153 RX4 yX4_firstBreach wsX4_firstBreach) := goodIn_app (goodIn_of _ (by decide +kernel)) ggX4_holds_X4_firstBreach
theorem dX4_holds_50 : decode cX4_holds 50 = .ok (.invokevirtual 153, 3) := by decide +kernel
theorem dX4_holds_53 : decode cX4_holds 53 = .ok (.iconst (-1), 1) := by decide +kernel
theorem dX4_holds_54 : decode cX4_holds 54 = .ok (.if_icmp .ne 7, 3) := by decide +kernel
theorem dX4_holds_61 : decode cX4_holds 61 = .ok (.iconst 0, 1) := by decide +kernel
theorem dX4_holds_62 : decode cX4_holds 62 = .ok (.ireturn, 1) := by decide +kernel
theorem dX4_holds_57 : decode cX4_holds 57 = .ok (.iconst 1, 1) := by decide +kernel
theorem dX4_holds_58 : decode cX4_holds 58 = .ok (.goto 4, 3) := by decide +kernel
theorem dX4_holds_82 : decode cX4_holds 82 = .ok (.iconst 1, 1) := by decide +kernel
theorem dX4_holds_83 : decode cX4_holds 83 = .ok (.ireturn, 1) := by decide +kernel
theorem dX4_holds_63 : decode cX4_holds 63 = .ok (.aload_n 0, 1) := by decide +kernel
theorem dX4_holds_64 : decode cX4_holds 64 = .ok (.iload_n 2, 1) := by decide +kernel
set_option maxRecDepth 20000 in
theorem ggX4_holds_X4_whoSee : GoodIn wsX4_holds wsX4_whoSee := goodIn_r _ [23, 24, 40, 41, 42, 43, 44, 45, 46, 47, 48] (by decide +kernel) (by decide +kernel)
set_option maxRecDepth 20000 in
theorem gX4_holds_X4_whoSee : GoodIn wsX4_holds (wsV RX4 116 RX4 yX4_whoSee wsX4_whoSee) := goodIn_app (goodIn_of _ (by decide +kernel)) ggX4_holds_X4_whoSee
theorem dX4_holds_65 : decode cX4_holds 65 = .ok (.invokevirtual 116, 3) := by decide +kernel
theorem dX4_holds_68 : decode cX4_holds 68 = .ok (.aload_n 0, 1) := by decide +kernel
theorem dX4_holds_69 : decode cX4_holds 69 = .ok (.getfield 64, 3) := by decide +kernel
theorem dX4_holds_72 : decode cX4_holds 72 = .ok (.iand, 1) := by decide +kernel
theorem dX4_holds_73 : decode cX4_holds 73 = .ok (.ifCond .ne 7, 3) := by decide +kernel
theorem dX4_holds_80 : decode cX4_holds 80 = .ok (.iconst 0, 1) := by decide +kernel
theorem dX4_holds_81 : decode cX4_holds 81 = .ok (.ireturn, 1) := by decide +kernel
theorem dX4_holds_76 : decode cX4_holds 76 = .ok (.iconst 1, 1) := by decide +kernel
theorem dX4_holds_77 : decode cX4_holds 77 = .ok (.goto 4, 3) := by decide +kernel
theorem dX4_hearersOf_0 : decode cX4_hearersOf 0 = .ok (.iconst 0, 1) := by decide +kernel
theorem dX4_hearersOf_1 : decode cX4_hearersOf 1 = .ok (.istore_n 3, 1) := by decide +kernel
theorem dX4_hearersOf_2 : decode cX4_hearersOf 2 = .ok (.iconst 0, 1) := by decide +kernel
theorem dX4_hearersOf_3 : decode cX4_hearersOf 3 = .ok (.istore 4, 2) := by decide +kernel
theorem dX4_hearersOf_5 : decode cX4_hearersOf 5 = .ok (.iload 4, 2) := by decide +kernel
theorem dX4_hearersOf_7 : decode cX4_hearersOf 7 = .ok (.aload_n 0, 1) := by decide +kernel
theorem dX4_hearersOf_8 : decode cX4_hearersOf 8 = .ok (.getfield 35, 3) := by decide +kernel
theorem dX4_hearersOf_11 : decode cX4_hearersOf 11 = .ok (.getfield 68, 3) := by decide +kernel
theorem dX4_hearersOf_14 : decode cX4_hearersOf 14 = .ok (.if_icmp .ge 47, 3) := by decide +kernel
theorem dX4_hearersOf_61 : decode cX4_hearersOf 61 = .ok (.iload_n 3, 1) := by decide +kernel
theorem dX4_hearersOf_62 : decode cX4_hearersOf 62 = .ok (.ireturn, 1) := by decide +kernel
theorem dX4_hearersOf_17 : decode cX4_hearersOf 17 = .ok (.iload_n 1, 1) := by decide +kernel
theorem dX4_hearersOf_18 : decode cX4_hearersOf 18 = .ok (.iload 4, 2) := by decide +kernel
set_option maxRecDepth 20000 in
theorem ggX4_hearersOf_X10_isIn : GoodIn wsX4_hearersOf wsX10_isIn := goodIn_r _ [5] (by decide +kernel) (by decide +kernel)
set_option maxRecDepth 20000 in
theorem gX4_hearersOf_X10_isIn_n126 : GoodIn wsX4_hearersOf (wsX10_isIn) := ggX4_hearersOf_X10_isIn
theorem dX4_hearersOf_20 : decode cX4_hearersOf 20 = .ok (.invokestatic 126, 3) := by decide +kernel
theorem dX4_hearersOf_23 : decode cX4_hearersOf 23 = .ok (.ifCond .eq 32, 3) := by decide +kernel
theorem dX4_hearersOf_55 : decode cX4_hearersOf 55 = .ok (.iinc 4 1, 3) := by decide +kernel
theorem dX4_hearersOf_58 : decode cX4_hearersOf 58 = .ok (.goto (-53), 3) := by decide +kernel
theorem dX4_hearersOf_26 : decode cX4_hearersOf 26 = .ok (.aload_n 0, 1) := by decide +kernel
theorem dX4_hearersOf_27 : decode cX4_hearersOf 27 = .ok (.iload 4, 2) := by decide +kernel
set_option maxRecDepth 20000 in
theorem ggX4_hearersOf_X4_maySpeak : GoodIn wsX4_hearersOf wsX4_maySpeak := goodIn_r _ [10, 11, 12, 13, 14, 9, 15, 16, 17, 18, 19, 20, 21, 22, 23, 24, 25, 26, 27, 28, 29, 30] (by decide +kernel) (by decide +kernel)
set_option maxRecDepth 20000 in
theorem gX4_hearersOf_X4_maySpeak : GoodIn wsX4_hearersOf (wsV RX4 122 RX4 yX4_maySpeak wsX4_maySpeak) := goodIn_app (goodIn_of _ (by decide +kernel)) ggX4_hearersOf_X4_maySpeak
theorem dX4_hearersOf_29 : decode cX4_hearersOf 29 = .ok (.invokevirtual 122, 3) := by decide +kernel
theorem dX4_hearersOf_32 : decode cX4_hearersOf 32 = .ok (.ifCond .eq 23, 3) := by decide +kernel
theorem dX4_hearersOf_35 : decode cX4_hearersOf 35 = .ok (.aload_n 0, 1) := by decide +kernel
theorem dX4_hearersOf_36 : decode cX4_hearersOf 36 = .ok (.iload 4, 2) := by decide +kernel
set_option maxRecDepth 20000 in
theorem ggX4_hearersOf_X4_whoHear : GoodIn wsX4_hearersOf wsX4_whoHear := goodIn_r _ [20, 21, 22, 23, 24, 25, 26, 27, 28, 29, 30] (by decide +kernel) (by decide +kernel)
set_option maxRecDepth 20000 in
theorem gX4_hearersOf_X4_whoHear : GoodIn wsX4_hearersOf (wsV RX4 119 RX4 yX4_whoHear wsX4_whoHear) := goodIn_app (goodIn_of _ (by decide +kernel)) ggX4_hearersOf_X4_whoHear
theorem dX4_hearersOf_38 : decode cX4_hearersOf 38 = .ok (.invokevirtual 119, 3) := by decide +kernel
theorem dX4_hearersOf_41 : decode cX4_hearersOf 41 = .ok (.iload_n 2, 1) := by decide +kernel
theorem dX4_hearersOf_42 : decode cX4_hearersOf 42 = .ok (.iand, 1) := by decide +kernel
theorem dX4_hearersOf_43 : decode cX4_hearersOf 43 = .ok (.ifCond .ne 12, 3) := by decide +kernel
theorem dX4_hearersOf_46 : decode cX4_hearersOf 46 = .ok (.iload_n 3, 1) := by decide +kernel
theorem dX4_hearersOf_47 : decode cX4_hearersOf 47 = .ok (.aload_n 0, 1) := by decide +kernel
theorem dX4_hearersOf_48 : decode cX4_hearersOf 48 = .ok (.iload 4, 2) := by decide +kernel
theorem dX4_hearersOf_50 : decode cX4_hearersOf 50 = .ok (.invokevirtual 119, 3) := by decide +kernel
theorem dX4_hearersOf_53 : decode cX4_hearersOf 53 = .ok (.ior, 1) := by decide +kernel
theorem dX4_hearersOf_54 : decode cX4_hearersOf 54 = .ok (.istore_n 3, 1) := by decide +kernel
theorem dX4_speakerCount_0 : decode cX4_speakerCount 0 = .ok (.iconst 0, 1) := by decide +kernel
theorem dX4_speakerCount_1 : decode cX4_speakerCount 1 = .ok (.istore_n 1, 1) := by decide +kernel
theorem dX4_speakerCount_2 : decode cX4_speakerCount 2 = .ok (.iconst 0, 1) := by decide +kernel
theorem dX4_speakerCount_3 : decode cX4_speakerCount 3 = .ok (.istore_n 2, 1) := by decide +kernel
theorem dX4_speakerCount_4 : decode cX4_speakerCount 4 = .ok (.iload_n 2, 1) := by decide +kernel
theorem dX4_speakerCount_5 : decode cX4_speakerCount 5 = .ok (.aload_n 0, 1) := by decide +kernel
theorem dX4_speakerCount_6 : decode cX4_speakerCount 6 = .ok (.getfield 35, 3) := by decide +kernel
theorem dX4_speakerCount_9 : decode cX4_speakerCount 9 = .ok (.getfield 68, 3) := by decide +kernel
theorem dX4_speakerCount_12 : decode cX4_speakerCount 12 = .ok (.if_icmp .ge 28, 3) := by decide +kernel
theorem dX4_speakerCount_40 : decode cX4_speakerCount 40 = .ok (.iload_n 1, 1) := by decide +kernel
theorem dX4_speakerCount_41 : decode cX4_speakerCount 41 = .ok (.ireturn, 1) := by decide +kernel
theorem dX4_speakerCount_15 : decode cX4_speakerCount 15 = .ok (.aload_n 0, 1) := by decide +kernel
theorem dX4_speakerCount_16 : decode cX4_speakerCount 16 = .ok (.iload_n 2, 1) := by decide +kernel
set_option maxRecDepth 20000 in
theorem ggX4_speakerCount_X4_maySpeak : GoodIn wsX4_speakerCount wsX4_maySpeak := goodIn_r _ [7, 8, 9, 10, 11, 6, 12, 13, 14, 15, 16, 17, 18, 19, 20, 21, 22, 23, 24, 25, 26, 27] (by decide +kernel) (by decide +kernel)
set_option maxRecDepth 20000 in
theorem gX4_speakerCount_X4_maySpeak : GoodIn wsX4_speakerCount (wsV RX4 122 RX4 yX4_maySpeak wsX4_maySpeak) := goodIn_app (goodIn_of _ (by decide +kernel)) ggX4_speakerCount_X4_maySpeak
theorem dX4_speakerCount_17 : decode cX4_speakerCount 17 = .ok (.invokevirtual 122, 3) := by decide +kernel
theorem dX4_speakerCount_20 : decode cX4_speakerCount 20 = .ok (.ifCond .eq 14, 3) := by decide +kernel
theorem dX4_speakerCount_34 : decode cX4_speakerCount 34 = .ok (.iinc 2 1, 3) := by decide +kernel
theorem dX4_speakerCount_37 : decode cX4_speakerCount 37 = .ok (.goto (-33), 3) := by decide +kernel
theorem dX4_speakerCount_23 : decode cX4_speakerCount 23 = .ok (.aload_n 0, 1) := by decide +kernel
theorem dX4_speakerCount_24 : decode cX4_speakerCount 24 = .ok (.iload_n 2, 1) := by decide +kernel
set_option maxRecDepth 20000 in
theorem ggX4_speakerCount_X4_whoHear : GoodIn wsX4_speakerCount wsX4_whoHear := goodIn_r _ [17, 18, 19, 20, 21, 22, 23, 24, 25, 26, 27] (by decide +kernel) (by decide +kernel)
set_option maxRecDepth 20000 in
theorem gX4_speakerCount_X4_whoHear : GoodIn wsX4_speakerCount (wsV RX4 119 RX4 yX4_whoHear wsX4_whoHear) := goodIn_app (goodIn_of _ (by decide +kernel)) ggX4_speakerCount_X4_whoHear
theorem dX4_speakerCount_25 : decode cX4_speakerCount 25 = .ok (.invokevirtual 119, 3) := by decide +kernel
theorem dX4_speakerCount_28 : decode cX4_speakerCount 28 = .ok (.ifCond .eq 6, 3) := by decide +kernel
theorem dX4_speakerCount_31 : decode cX4_speakerCount 31 = .ok (.iinc 1 1, 3) := by decide +kernel
set_option maxHeartbeats 4000000 in
set_option maxRecDepth 100000 in
theorem n_X0_isShown (l : Launch) (D : va_G) (cy : Nat → ClassId) (a_me : Nat) (px : Int32) (sz : Nat)  : Met l yX0_isShown wsX0_isShown ({ frames := 0, cells := 0, slots := 0, locals := 0 }) (va_Pc [.ref a_me, .int px] (kPre D cy [] sz)) (va_Qi (fun (r : Int32) (u : Unit) => (r = 1 ∧ True) ∨ (r = 0 ∧ True)) (fun _ _ => True) (fun q : Nat => sz ≤ q)) 0 0 (fun q : Nat => sz ≤ q) := by
  refine Met.ofW (cc := cX0_isShown) (maxL := 2) (ret := (some .boolean)) (by decide) rfl ?_
  intro p e s m args below meth c s₁ B hml hv
  obtain ⟨rfl, hsz, hP, hKA, hD0⟩ := hv
  have hx := B.exec
  have hb := B.bytes
  have hr := B.returns
  have hts := atoms_spec (ws := wsX0_isShown) B.pre
  have hown : s.vm.findClass RX0 = some m.cls := findClass_of_methodNamed B.named
  have hlocks := B.notSynchronized
  subst hsz
  have hK := hKA.1
  have hD := hD0
  generalize hAe : (fun q : Nat => s.heap.size ≤ q) = A
  have hA : ∀ q : Nat, s.heap.size ≤ q → A q := fun q h => by rw [← hAe]; exact h
  have hS : va_S A s.heap s.heap [] := va_S.rf
  have hP : va_P D vwCl [] s.heap := hP
  have hl := lv_entry ([.ref a_me, .int px]) (n := 2) (Nat.le_of_ble_eq_true rfl)
  rw [lg_entry_eq]
  generalize (lg_sl ([.ref a_me, .int px]) ++ List.replicate (2 - (lg_sl ([.ref a_me, .int px])).length) Slot.unset).toArray = ls at hl ⊢
  have hl : lv_has ls 2 [(0, .ref a_me), (1, .int px)] := hl
  refine qW (fun QF hQF => ?_)
  refine lv_iconst (v := 0) hx hb dX0_isShown_0 (by decide) ?_
  subst hQF
  exact W.zret (v := 0) hx hb hr rfl (fun t ht hW => ⟨⟨0, (), rfl, (Or.inr ⟨rfl, trivial⟩), trivial⟩, hS.F ht⟩) hS.2.2 dX0_isShown_1

set_option maxHeartbeats 4000000 in
set_option maxRecDepth 100000 in
theorem n_X0_isAudible (l : Launch) (D : va_G) (cy : Nat → ClassId) (a_me : Nat) (sz : Nat)  : Met l yX0_isAudible wsX0_isAudible ({ frames := 0, cells := 0, slots := 0, locals := 0 }) (va_Pc [.ref a_me] (kPre D cy [] sz)) (va_Qi (fun (r : Int32) (u : Unit) => (r = 1 ∧ True) ∨ (r = 0 ∧ True)) (fun _ _ => True) (fun q : Nat => sz ≤ q)) 0 0 (fun q : Nat => sz ≤ q) := by
  refine Met.ofW (cc := cX0_isAudible) (maxL := 1) (ret := (some .boolean)) (by decide) rfl ?_
  intro p e s m args below meth c s₁ B hml hv
  obtain ⟨rfl, hsz, hP, hKA, hD0⟩ := hv
  have hx := B.exec
  have hb := B.bytes
  have hr := B.returns
  have hts := atoms_spec (ws := wsX0_isAudible) B.pre
  have hown : s.vm.findClass RX0 = some m.cls := findClass_of_methodNamed B.named
  have hlocks := B.notSynchronized
  subst hsz
  have hK := hKA.1
  have hD := hD0
  generalize hAe : (fun q : Nat => s.heap.size ≤ q) = A
  have hA : ∀ q : Nat, s.heap.size ≤ q → A q := fun q h => by rw [← hAe]; exact h
  have hS : va_S A s.heap s.heap [] := va_S.rf
  have hP : va_P D vwCl [] s.heap := hP
  have hl := lv_entry ([.ref a_me]) (n := 1) (Nat.le_of_ble_eq_true rfl)
  rw [lg_entry_eq]
  generalize (lg_sl ([.ref a_me]) ++ List.replicate (1 - (lg_sl ([.ref a_me])).length) Slot.unset).toArray = ls at hl ⊢
  have hl : lv_has ls 1 [(0, .ref a_me)] := hl
  refine qW (fun QF hQF => ?_)
  refine lv_iconst (v := 0) hx hb dX0_isAudible_0 (by decide) ?_
  subst hQF
  exact W.zret (v := 0) hx hb hr rfl (fun t ht hW => ⟨⟨0, (), rfl, (Or.inr ⟨rfl, trivial⟩), trivial⟩, hS.F ht⟩) hS.2.2 dX0_isAudible_1

set_option maxHeartbeats 4000000 in
set_option maxRecDepth 100000 in
theorem n_X0_isBoundByLaw (l : Launch) (D : va_G) (cy : Nat → ClassId) (a_me : Nat) (sz : Nat)  : Met l yX0_isBoundByLaw wsX0_isBoundByLaw ({ frames := 0, cells := 0, slots := 0, locals := 0 }) (va_Pc [.ref a_me] (kPre D cy [] sz)) (va_Qi (fun (r : Int32) (u : Unit) => (r = 1 ∧ True) ∨ (r = 0 ∧ True)) (fun _ _ => True) (fun q : Nat => sz ≤ q)) 0 0 (fun q : Nat => sz ≤ q) := by
  refine Met.ofW (cc := cX0_isBoundByLaw) (maxL := 1) (ret := (some .boolean)) (by decide) rfl ?_
  intro p e s m args below meth c s₁ B hml hv
  obtain ⟨rfl, hsz, hP, hKA, hD0⟩ := hv
  have hx := B.exec
  have hb := B.bytes
  have hr := B.returns
  have hts := atoms_spec (ws := wsX0_isBoundByLaw) B.pre
  have hown : s.vm.findClass RX0 = some m.cls := findClass_of_methodNamed B.named
  have hlocks := B.notSynchronized
  subst hsz
  have hK := hKA.1
  have hD := hD0
  generalize hAe : (fun q : Nat => s.heap.size ≤ q) = A
  have hA : ∀ q : Nat, s.heap.size ≤ q → A q := fun q h => by rw [← hAe]; exact h
  have hS : va_S A s.heap s.heap [] := va_S.rf
  have hP : va_P D vwCl [] s.heap := hP
  have hl := lv_entry ([.ref a_me]) (n := 1) (Nat.le_of_ble_eq_true rfl)
  rw [lg_entry_eq]
  generalize (lg_sl ([.ref a_me]) ++ List.replicate (1 - (lg_sl ([.ref a_me])).length) Slot.unset).toArray = ls at hl ⊢
  have hl : lv_has ls 1 [(0, .ref a_me)] := hl
  refine qW (fun QF hQF => ?_)
  refine lv_iconst (v := 0) hx hb dX0_isBoundByLaw_0 (by decide) ?_
  subst hQF
  exact W.zret (v := 0) hx hb hr rfl (fun t ht hW => ⟨⟨0, (), rfl, (Or.inr ⟨rfl, trivial⟩), trivial⟩, hS.F ht⟩) hS.2.2 dX0_isBoundByLaw_1

set_option maxHeartbeats 4000000 in
set_option maxRecDepth 100000 in
theorem n_X7_isShown (l : Launch) (D : va_G) (cy : Nat → ClassId) (a_me : Nat) (px : Int32) (sz : Nat)  : Met l yX7_isShown wsX7_isShown ({ frames := 0, cells := 0, slots := 0, locals := 0 }) (va_Pc [.ref a_me, .int px] (kPre D cy [] sz)) (va_Qi (fun (r : Int32) (u : Unit) => (r = 1 ∧ True) ∨ (r = 0 ∧ True)) (fun _ _ => True) (fun q : Nat => sz ≤ q)) 0 0 (fun q : Nat => sz ≤ q) := by
  refine Met.ofW (cc := cX7_isShown) (maxL := 2) (ret := (some .boolean)) (by decide) rfl ?_
  intro p e s m args below meth c s₁ B hml hv
  obtain ⟨rfl, hsz, hP, hKA, hD0⟩ := hv
  have hx := B.exec
  have hb := B.bytes
  have hr := B.returns
  have hts := atoms_spec (ws := wsX7_isShown) B.pre
  have hown : s.vm.findClass RX7 = some m.cls := findClass_of_methodNamed B.named
  have hlocks := B.notSynchronized
  subst hsz
  have hK := hKA.1
  have hD := hD0
  generalize hAe : (fun q : Nat => s.heap.size ≤ q) = A
  have hA : ∀ q : Nat, s.heap.size ≤ q → A q := fun q h => by rw [← hAe]; exact h
  have hS : va_S A s.heap s.heap [] := va_S.rf
  have hP : va_P D vwCl [] s.heap := hP
  have hl := lv_entry ([.ref a_me, .int px]) (n := 2) (Nat.le_of_ble_eq_true rfl)
  rw [lg_entry_eq]
  generalize (lg_sl ([.ref a_me, .int px]) ++ List.replicate (2 - (lg_sl ([.ref a_me, .int px])).length) Slot.unset).toArray = ls at hl ⊢
  have hl : lv_has ls 2 [(0, .ref a_me), (1, .int px)] := hl
  refine qW (fun QF hQF => ?_)
  refine lv_iconst (v := 1) hx hb dX7_isShown_0 (by decide) ?_
  subst hQF
  exact W.zret (v := 1) hx hb hr rfl (fun t ht hW => ⟨⟨1, (), rfl, (Or.inl ⟨rfl, trivial⟩), trivial⟩, hS.F ht⟩) hS.2.2 dX7_isShown_1

set_option maxHeartbeats 4000000 in
set_option maxRecDepth 100000 in
theorem n_X7_isAudible (l : Launch) (D : va_G) (cy : Nat → ClassId) (a_me : Nat) (sz : Nat)  : Met l yX7_isAudible wsX7_isAudible ({ frames := 0, cells := 0, slots := 0, locals := 0 }) (va_Pc [.ref a_me] (kPre D cy [] sz)) (va_Qi (fun (r : Int32) (u : Unit) => (r = 1 ∧ True) ∨ (r = 0 ∧ True)) (fun _ _ => True) (fun q : Nat => sz ≤ q)) 0 0 (fun q : Nat => sz ≤ q) := by
  refine Met.ofW (cc := cX7_isAudible) (maxL := 1) (ret := (some .boolean)) (by decide) rfl ?_
  intro p e s m args below meth c s₁ B hml hv
  obtain ⟨rfl, hsz, hP, hKA, hD0⟩ := hv
  have hx := B.exec
  have hb := B.bytes
  have hr := B.returns
  have hts := atoms_spec (ws := wsX7_isAudible) B.pre
  have hown : s.vm.findClass RX7 = some m.cls := findClass_of_methodNamed B.named
  have hlocks := B.notSynchronized
  subst hsz
  have hK := hKA.1
  have hD := hD0
  generalize hAe : (fun q : Nat => s.heap.size ≤ q) = A
  have hA : ∀ q : Nat, s.heap.size ≤ q → A q := fun q h => by rw [← hAe]; exact h
  have hS : va_S A s.heap s.heap [] := va_S.rf
  have hP : va_P D vwCl [] s.heap := hP
  have hl := lv_entry ([.ref a_me]) (n := 1) (Nat.le_of_ble_eq_true rfl)
  rw [lg_entry_eq]
  generalize (lg_sl ([.ref a_me]) ++ List.replicate (1 - (lg_sl ([.ref a_me])).length) Slot.unset).toArray = ls at hl ⊢
  have hl : lv_has ls 1 [(0, .ref a_me)] := hl
  refine qW (fun QF hQF => ?_)
  refine lv_iconst (v := 1) hx hb dX7_isAudible_0 (by decide) ?_
  subst hQF
  exact W.zret (v := 1) hx hb hr rfl (fun t ht hW => ⟨⟨1, (), rfl, (Or.inl ⟨rfl, trivial⟩), trivial⟩, hS.F ht⟩) hS.2.2 dX7_isAudible_1

set_option maxHeartbeats 4000000 in
set_option maxRecDepth 100000 in
theorem n_X7_isBoundByLaw (l : Launch) (D : va_G) (cy : Nat → ClassId) (a_me : Nat) (sz : Nat)  : Met l yX7_isBoundByLaw wsX7_isBoundByLaw ({ frames := 0, cells := 0, slots := 0, locals := 0 }) (va_Pc [.ref a_me] (kPre D cy [] sz)) (va_Qi (fun (r : Int32) (u : Unit) => (r = 1 ∧ True) ∨ (r = 0 ∧ True)) (fun _ _ => True) (fun q : Nat => sz ≤ q)) 0 0 (fun q : Nat => sz ≤ q) := by
  refine Met.ofW (cc := cX7_isBoundByLaw) (maxL := 1) (ret := (some .boolean)) (by decide) rfl ?_
  intro p e s m args below meth c s₁ B hml hv
  obtain ⟨rfl, hsz, hP, hKA, hD0⟩ := hv
  have hx := B.exec
  have hb := B.bytes
  have hr := B.returns
  have hts := atoms_spec (ws := wsX7_isBoundByLaw) B.pre
  have hown : s.vm.findClass RX7 = some m.cls := findClass_of_methodNamed B.named
  have hlocks := B.notSynchronized
  subst hsz
  have hK := hKA.1
  have hD := hD0
  generalize hAe : (fun q : Nat => s.heap.size ≤ q) = A
  have hA : ∀ q : Nat, s.heap.size ≤ q → A q := fun q h => by rw [← hAe]; exact h
  have hS : va_S A s.heap s.heap [] := va_S.rf
  have hP : va_P D vwCl [] s.heap := hP
  have hl := lv_entry ([.ref a_me]) (n := 1) (Nat.le_of_ble_eq_true rfl)
  rw [lg_entry_eq]
  generalize (lg_sl ([.ref a_me]) ++ List.replicate (1 - (lg_sl ([.ref a_me])).length) Slot.unset).toArray = ls at hl ⊢
  have hl : lv_has ls 1 [(0, .ref a_me)] := hl
  refine qW (fun QF hQF => ?_)
  refine lv_iconst (v := 1) hx hb dX7_isBoundByLaw_0 (by decide) ?_
  subst hQF
  exact W.zret (v := 1) hx hb hr rfl (fun t ht hW => ⟨⟨1, (), rfl, (Or.inl ⟨rfl, trivial⟩), trivial⟩, hS.F ht⟩) hS.2.2 dX7_isBoundByLaw_1

set_option maxHeartbeats 4000000 in
set_option maxRecDepth 100000 in
theorem n_X9_isShown (l : Launch) (D : va_G) (cy : Nat → ClassId) (a_me : Nat) (px : Int32) (sz : Nat)  : Met l yX9_isShown wsX9_isShown ({ frames := 0, cells := 0, slots := 0, locals := 0 }) (va_Pc [.ref a_me, .int px] (kPre D cy [] sz)) (va_Qi (fun (r : Int32) (u : Unit) => (r = 1 ∧ True) ∨ (r = 0 ∧ True)) (fun _ _ => True) (fun q : Nat => sz ≤ q)) 0 0 (fun q : Nat => sz ≤ q) := by
  refine Met.ofW (cc := cX9_isShown) (maxL := 2) (ret := (some .boolean)) (by decide) rfl ?_
  intro p e s m args below meth c s₁ B hml hv
  obtain ⟨rfl, hsz, hP, hKA, hD0⟩ := hv
  have hx := B.exec
  have hb := B.bytes
  have hr := B.returns
  have hts := atoms_spec (ws := wsX9_isShown) B.pre
  have hown : s.vm.findClass RX9 = some m.cls := findClass_of_methodNamed B.named
  have hlocks := B.notSynchronized
  subst hsz
  have hK := hKA.1
  have hD := hD0
  generalize hAe : (fun q : Nat => s.heap.size ≤ q) = A
  have hA : ∀ q : Nat, s.heap.size ≤ q → A q := fun q h => by rw [← hAe]; exact h
  have hS : va_S A s.heap s.heap [] := va_S.rf
  have hP : va_P D vwCl [] s.heap := hP
  have hl := lv_entry ([.ref a_me, .int px]) (n := 2) (Nat.le_of_ble_eq_true rfl)
  rw [lg_entry_eq]
  generalize (lg_sl ([.ref a_me, .int px]) ++ List.replicate (2 - (lg_sl ([.ref a_me, .int px])).length) Slot.unset).toArray = ls at hl ⊢
  have hl : lv_has ls 2 [(0, .ref a_me), (1, .int px)] := hl
  refine qW (fun QF hQF => ?_)
  refine lv_iload_n hx hb dX9_isShown_0 rfl (lv_at hl 1 rfl) ?_
  refine lv_if_ne (tgt := 8) hx hb dX9_isShown_1 (by decide) (fun c1 => ?_) (fun c1 => ?_)
  · skip
    refine lv_iconst (v := 0) hx hb dX9_isShown_8 (by decide) ?_
    subst hQF
    exact W.zret (v := 0) hx hb hr rfl (fun t ht hW => ⟨⟨0, (), rfl, (Or.inr ⟨rfl, trivial⟩), trivial⟩, hS.F ht⟩) hS.2.2 dX9_isShown_9
  · skip
    refine lv_iconst (v := 1) hx hb dX9_isShown_4 (by decide) ?_
    refine lv_goto (tgt := 9) hx hb dX9_isShown_5 (by decide) ?_
    subst hQF
    exact W.zret (v := 1) hx hb hr rfl (fun t ht hW => ⟨⟨1, (), rfl, (Or.inl ⟨rfl, trivial⟩), trivial⟩, hS.F ht⟩) hS.2.2 dX9_isShown_9

set_option maxHeartbeats 4000000 in
set_option maxRecDepth 100000 in
theorem n_X0_sees (l : Launch) (D : va_G) (cy : Nat → ClassId) (a_me : Nat) (a_px : Nat) (py : Int32) (pz : Int32) (sz : Nat)  : Met l yX0_sees wsX0_sees ({ frames := 0, cells := 0, slots := 0, locals := 0 }) (va_Pc [.ref a_me, .ref a_px, .int py, .int pz] (kPre D cy [] sz)) (va_Qi (fun (r : Int32) (u : Unit) => (r = 1 ∧ True) ∨ (r = 0 ∧ True)) (fun _ _ => True) (fun q : Nat => sz ≤ q)) 0 0 (fun q : Nat => sz ≤ q) := by
  refine Met.ofW (cc := cX0_sees) (maxL := 4) (ret := (some .boolean)) (by decide) rfl ?_
  intro p e s m args below meth c s₁ B hml hv
  obtain ⟨rfl, hsz, hP, hKA, hD0⟩ := hv
  have hx := B.exec
  have hb := B.bytes
  have hr := B.returns
  have hts := atoms_spec (ws := wsX0_sees) B.pre
  have hown : s.vm.findClass RX0 = some m.cls := findClass_of_methodNamed B.named
  have hlocks := B.notSynchronized
  subst hsz
  have hK := hKA.1
  have hD := hD0
  generalize hAe : (fun q : Nat => s.heap.size ≤ q) = A
  have hA : ∀ q : Nat, s.heap.size ≤ q → A q := fun q h => by rw [← hAe]; exact h
  have hS : va_S A s.heap s.heap [] := va_S.rf
  have hP : va_P D vwCl [] s.heap := hP
  have hl := lv_entry ([.ref a_me, .ref a_px, .int py, .int pz]) (n := 4) (Nat.le_of_ble_eq_true rfl)
  rw [lg_entry_eq]
  generalize (lg_sl ([.ref a_me, .ref a_px, .int py, .int pz]) ++ List.replicate (4 - (lg_sl ([.ref a_me, .ref a_px, .int py, .int pz])).length) Slot.unset).toArray = ls at hl ⊢
  have hl : lv_has ls 4 [(0, .ref a_me), (1, .ref a_px), (2, .int py), (3, .int pz)] := hl
  refine qW (fun QF hQF => ?_)
  refine lv_iconst (v := 1) hx hb dX0_sees_0 (by decide) ?_
  subst hQF
  exact W.zret (v := 1) hx hb hr rfl (fun t ht hW => ⟨⟨1, (), rfl, (Or.inl ⟨rfl, trivial⟩), trivial⟩, hS.F ht⟩) hS.2.2 dX0_sees_1

set_option maxHeartbeats 4000000 in
set_option maxRecDepth 100000 in
theorem n_X0_hears (l : Launch) (D : va_G) (cy : Nat → ClassId) (a_me : Nat) (a_px : Nat) (py : Int32) (pz : Int32) (sz : Nat)  : Met l yX0_hears wsX0_hears ({ frames := 0, cells := 0, slots := 0, locals := 0 }) (va_Pc [.ref a_me, .ref a_px, .int py, .int pz] (kPre D cy [] sz)) (va_Qi (fun (r : Int32) (u : Unit) => (r = 1 ∧ True) ∨ (r = 0 ∧ True)) (fun _ _ => True) (fun q : Nat => sz ≤ q)) 0 0 (fun q : Nat => sz ≤ q) := by
  refine Met.ofW (cc := cX0_hears) (maxL := 4) (ret := (some .boolean)) (by decide) rfl ?_
  intro p e s m args below meth c s₁ B hml hv
  obtain ⟨rfl, hsz, hP, hKA, hD0⟩ := hv
  have hx := B.exec
  have hb := B.bytes
  have hr := B.returns
  have hts := atoms_spec (ws := wsX0_hears) B.pre
  have hown : s.vm.findClass RX0 = some m.cls := findClass_of_methodNamed B.named
  have hlocks := B.notSynchronized
  subst hsz
  have hK := hKA.1
  have hD := hD0
  generalize hAe : (fun q : Nat => s.heap.size ≤ q) = A
  have hA : ∀ q : Nat, s.heap.size ≤ q → A q := fun q h => by rw [← hAe]; exact h
  have hS : va_S A s.heap s.heap [] := va_S.rf
  have hP : va_P D vwCl [] s.heap := hP
  have hl := lv_entry ([.ref a_me, .ref a_px, .int py, .int pz]) (n := 4) (Nat.le_of_ble_eq_true rfl)
  rw [lg_entry_eq]
  generalize (lg_sl ([.ref a_me, .ref a_px, .int py, .int pz]) ++ List.replicate (4 - (lg_sl ([.ref a_me, .ref a_px, .int py, .int pz])).length) Slot.unset).toArray = ls at hl ⊢
  have hl : lv_has ls 4 [(0, .ref a_me), (1, .ref a_px), (2, .int py), (3, .int pz)] := hl
  refine qW (fun QF hQF => ?_)
  refine lv_iconst (v := 1) hx hb dX0_hears_0 (by decide) ?_
  subst hQF
  exact W.zret (v := 1) hx hb hr rfl (fun t ht hW => ⟨⟨1, (), rfl, (Or.inl ⟨rfl, trivial⟩), trivial⟩, hS.F ht⟩) hS.2.2 dX0_hears_1

set_option maxHeartbeats 4000000 in
set_option maxRecDepth 100000 in
theorem n_X1_sees (l : Launch) (D : va_G) (cy : Nat → ClassId) (a_me : Nat) (a_px : Nat) (py : Int32) (pz : Int32) (sz : Nat)  : Met l yX1_sees wsX1_sees ({ frames := 0, cells := 0, slots := 0, locals := 0 }) (va_Pc [.ref a_me, .ref a_px, .int py, .int pz] (kPre D cy [] sz)) (va_Qi (fun (r : Int32) (u : Unit) => (r = 1 ∧ True) ∨ (r = 0 ∧ True)) (fun _ _ => True) (fun q : Nat => sz ≤ q)) 0 0 (fun q : Nat => sz ≤ q) := by
  refine Met.ofW (cc := cX1_sees) (maxL := 4) (ret := (some .boolean)) (by decide) rfl ?_
  intro p e s m args below meth c s₁ B hml hv
  obtain ⟨rfl, hsz, hP, hKA, hD0⟩ := hv
  have hx := B.exec
  have hb := B.bytes
  have hr := B.returns
  have hts := atoms_spec (ws := wsX1_sees) B.pre
  have hown : s.vm.findClass RX1 = some m.cls := findClass_of_methodNamed B.named
  have hlocks := B.notSynchronized
  subst hsz
  have hK := hKA.1
  have hD := hD0
  generalize hAe : (fun q : Nat => s.heap.size ≤ q) = A
  have hA : ∀ q : Nat, s.heap.size ≤ q → A q := fun q h => by rw [← hAe]; exact h
  have hS : va_S A s.heap s.heap [] := va_S.rf
  have hP : va_P D vwCl [] s.heap := hP
  have hl := lv_entry ([.ref a_me, .ref a_px, .int py, .int pz]) (n := 4) (Nat.le_of_ble_eq_true rfl)
  rw [lg_entry_eq]
  generalize (lg_sl ([.ref a_me, .ref a_px, .int py, .int pz]) ++ List.replicate (4 - (lg_sl ([.ref a_me, .ref a_px, .int py, .int pz])).length) Slot.unset).toArray = ls at hl ⊢
  have hl : lv_has ls 4 [(0, .ref a_me), (1, .ref a_px), (2, .int py), (3, .int pz)] := hl
  refine qW (fun QF hQF => ?_)
  refine lv_iconst (v := 0) hx hb dX1_sees_0 (by decide) ?_
  subst hQF
  exact W.zret (v := 0) hx hb hr rfl (fun t ht hW => ⟨⟨0, (), rfl, (Or.inr ⟨rfl, trivial⟩), trivial⟩, hS.F ht⟩) hS.2.2 dX1_sees_1

set_option maxHeartbeats 4000000 in
set_option maxRecDepth 100000 in
theorem n_X2_hears (l : Launch) (D : va_G) (cy : Nat → ClassId) (a_me : Nat) (a_px : Nat) (py : Int32) (pz : Int32) (sz : Nat)  : Met l yX2_hears wsX2_hears ({ frames := 0, cells := 0, slots := 0, locals := 0 }) (va_Pc [.ref a_me, .ref a_px, .int py, .int pz] (kPre D cy [] sz)) (va_Qi (fun (r : Int32) (u : Unit) => (r = 1 ∧ True) ∨ (r = 0 ∧ True)) (fun _ _ => True) (fun q : Nat => sz ≤ q)) 0 0 (fun q : Nat => sz ≤ q) := by
  refine Met.ofW (cc := cX2_hears) (maxL := 4) (ret := (some .boolean)) (by decide) rfl ?_
  intro p e s m args below meth c s₁ B hml hv
  obtain ⟨rfl, hsz, hP, hKA, hD0⟩ := hv
  have hx := B.exec
  have hb := B.bytes
  have hr := B.returns
  have hts := atoms_spec (ws := wsX2_hears) B.pre
  have hown : s.vm.findClass RX2 = some m.cls := findClass_of_methodNamed B.named
  have hlocks := B.notSynchronized
  subst hsz
  have hK := hKA.1
  have hD := hD0
  generalize hAe : (fun q : Nat => s.heap.size ≤ q) = A
  have hA : ∀ q : Nat, s.heap.size ≤ q → A q := fun q h => by rw [← hAe]; exact h
  have hS : va_S A s.heap s.heap [] := va_S.rf
  have hP : va_P D vwCl [] s.heap := hP
  have hl := lv_entry ([.ref a_me, .ref a_px, .int py, .int pz]) (n := 4) (Nat.le_of_ble_eq_true rfl)
  rw [lg_entry_eq]
  generalize (lg_sl ([.ref a_me, .ref a_px, .int py, .int pz]) ++ List.replicate (4 - (lg_sl ([.ref a_me, .ref a_px, .int py, .int pz])).length) Slot.unset).toArray = ls at hl ⊢
  have hl : lv_has ls 4 [(0, .ref a_me), (1, .ref a_px), (2, .int py), (3, .int pz)] := hl
  refine qW (fun QF hQF => ?_)
  refine lv_iconst (v := 0) hx hb dX2_hears_0 (by decide) ?_
  subst hQF
  exact W.zret (v := 0) hx hb hr rfl (fun t ht hW => ⟨⟨0, (), rfl, (Or.inr ⟨rfl, trivial⟩), trivial⟩, hS.F ht⟩) hS.2.2 dX2_hears_1

set_option maxHeartbeats 4000000 in
set_option maxRecDepth 100000 in
theorem n_X7_sees (l : Launch) (D : va_G) (cy : Nat → ClassId) (a_px : Nat) (a_pl : Nat) (a_de : Nat) (a_bl : Nat) (a_sc : Nat) (a_ne : Nat) (a_ab : Nat) (a_me : Nat) (py : Int32) (pz : Int32) (sz : Nat) (hot : a_px = a_pl ∨ a_px = a_de ∨ a_px = a_bl ∨ a_px = a_sc ∨ a_px = a_ne ∨ a_px = a_ab) : Met l yX7_sees wsX7_sees ({ frames := 1, cells := 0, slots := 0, locals := 21 }) (va_Pc [.ref a_me, .ref a_px, .int py, .int pz] (kPre D cy [(a_pl, .inr (7, [])), (a_de, .inr (2, [])), (a_bl, .inr (1, [])), (a_sc, .inr (9, [])), (a_ne, .inr (5, [])), (a_ab, .inr (0, []))] sz)) (va_Qi (fun (r : Int32) (u : Unit) => (r = 1 ∧ True) ∨ (r = 0 ∧ True)) (fun _ _ => True) (fun q : Nat => sz ≤ q)) 0 0 (fun q : Nat => sz ≤ q) := by
  refine Met.ofW (cc := cX7_sees) (maxL := 4) (ret := (some .boolean)) (by decide) rfl ?_
  intro p e s m args below meth c s₁ B hml hv
  obtain ⟨rfl, hsz, hP, hKA, hD0⟩ := hv
  have hx := B.exec
  have hb := B.bytes
  have hr := B.returns
  have hts := atoms_spec (ws := wsX7_sees) B.pre
  have hown : s.vm.findClass RX7 = some m.cls := findClass_of_methodNamed B.named
  have hlocks := B.notSynchronized
  subst hsz
  have hK := hKA.1
  have hD := hD0
  generalize hAe : (fun q : Nat => s.heap.size ≤ q) = A
  have hA : ∀ q : Nat, s.heap.size ≤ q → A q := fun q h => by rw [← hAe]; exact h
  have hS : va_S A s.heap s.heap [] := va_S.rf
  have hP : va_P D vwCl [(a_pl, .inr (7, [])), (a_de, .inr (2, [])), (a_bl, .inr (1, [])), (a_sc, .inr (9, [])), (a_ne, .inr (5, [])), (a_ab, .inr (0, []))] s.heap := hP
  have hl := lv_entry ([.ref a_me, .ref a_px, .int py, .int pz]) (n := 4) (Nat.le_of_ble_eq_true rfl)
  rw [lg_entry_eq]
  generalize (lg_sl ([.ref a_me, .ref a_px, .int py, .int pz]) ++ List.replicate (4 - (lg_sl ([.ref a_me, .ref a_px, .int py, .int pz])).length) Slot.unset).toArray = ls at hl ⊢
  have hl : lv_has ls 4 [(0, .ref a_me), (1, .ref a_px), (2, .int py), (3, .int pz)] := hl
  refine qW (fun QF hQF => ?_)
  refine lv_iload_n hx hb dX7_sees_0 rfl (lv_at hl 2 rfl) ?_
  refine lv_if_eq (tgt := 16) hx hb dX7_sees_1 (by decide) (fun c1 => ?_) (fun c1 => ?_)
  · skip
    refine lv_iconst (v := 0) hx hb dX7_sees_16 (by decide) ?_
    subst hQF
    exact W.zret (v := 0) hx hb hr rfl (fun t ht hW => ⟨⟨0, (), rfl, (Or.inr ⟨rfl, trivial⟩), trivial⟩, hS.F ht⟩) hS.2.2 dX7_sees_17
  · skip
    refine lv_aload_n hx hb dX7_sees_4 rfl (lv_at hl 1 rfl) ?_
    refine lv_iload_n hx hb dX7_sees_5 rfl (lv_at hl 3 rfl) ?_
    have jv6 : ∀ (w6_ : Int32) (bw6_ : w6_ = 1 ∨ w6_ = 0) (H : Heap) (locs : List Loc), va_P D vwCl [(a_pl, .inr (7, [])), (a_de, .inr (2, [])), (a_bl, .inr (1, [])), (a_sc, .inr (9, [])), (a_ne, .inr (5, [])), (a_ab, .inr (0, []))] H → va_D (fun _ => True) [(a_pl, .inr (7, [])), (a_de, .inr (2, [])), (a_bl, .inr (1, [])), (a_sc, .inr (9, [])), (a_ne, .inr (5, [])), (a_ab, .inr (0, []))] → va_S A s.heap H locs → ∀ ls : Array Slot, lv_has ls 4 [(0, .ref a_me), (1, .ref a_px), (2, .int py), (3, .int pz)] → W p l e (headSpec wsX7_sees ({ frames := 1, cells := 0, slots := 0, locals := 21 })).room s m [.ref a_me, .ref a_px, .int py, .int pz].toArray below meth c H locs 0 0 QF (F0 m 9 ls [.int w6_]) := by
      intro w6_ bw6_ H locs hP hD hS ls hl
      refine lv_if_eq (tgt := 16) hx hb dX7_sees_9 (by decide) (fun c2 => ?_) (fun c2 => ?_)
      · skip
        refine lv_iconst (v := 0) hx hb dX7_sees_16 (by decide) ?_
        subst hQF
        exact W.zret (v := 0) hx hb hr rfl (fun t ht hW => ⟨⟨0, (), rfl, (Or.inr ⟨rfl, trivial⟩), trivial⟩, hS.F ht⟩) hS.2.2 dX7_sees_17
      · skip
        refine lv_iconst (v := 1) hx hb dX7_sees_12 (by decide) ?_
        refine lv_goto (tgt := 17) hx hb dX7_sees_13 (by decide) ?_
        subst hQF
        exact W.zret (v := 1) hx hb hr rfl (fun t ht hW => ⟨⟨1, (), rfl, (Or.inl ⟨rfl, trivial⟩), trivial⟩, hS.F ht⟩) hS.2.2 dX7_sees_17
    rcases hot with h9 | h9 | h9 | h9 | h9 | h9
    · refine W.eq (g2 := F0 m 6 ls [.int pz, .ref a_pl]) (by subst h9; rfl) ?_
      exact rd_i (va_runV (As := [.int pz]) (rest := []) ⟨hx, hb, hml, hown, hts⟩ (n_X7_isShown l D cy a_pl pz _ ) (cwV 1 hts gX7_sees_X7_isShown rfl rfl rfl (by decide +kernel) ⟨Nat.le_of_ble_eq_true rfl, Nat.le_of_ble_eq_true rfl⟩) (pV2 (ci := 7) (k := 0) hKA hP rfl rfl pE (dE (A := A))) rfl rfl hl.1 rfl (lv_room (Nat.le_of_ble_eq_true rfl)) dX7_sees_6 ⟨Nat.le_of_ble_eq_true rfl, Nat.le_of_ble_eq_true rfl⟩) hP hS hA (fun r H1 locs1 hw hP hS => jv6 r (z_bo hw) H1 locs1 hP hD hS ls hl)
    · refine W.eq (g2 := F0 m 6 ls [.int pz, .ref a_de]) (by subst h9; rfl) ?_
      exact rd_i (va_runU (As := [.int pz]) (rest := []) ⟨hx, hb, hml, hown, hts⟩ (n_X7_isShown l D cy a_de pz _ ) (va_cwU 1 hts gX7_sees_X7_isShown_u7X2 rfl rfl rfl rfl (by decide +kernel) ⟨Nat.le_of_ble_eq_true rfl, Nat.le_of_ble_eq_true rfl⟩) (pV2 (ci := 2) (k := 1) hKA hP rfl rfl pE (dE (A := A))) rfl rfl hl.1 rfl (lv_room (Nat.le_of_ble_eq_true rfl)) dX7_sees_6 ⟨Nat.le_of_ble_eq_true rfl, Nat.le_of_ble_eq_true rfl⟩) hP hS hA (fun r H1 locs1 hw hP hS => jv6 r (z_bo hw) H1 locs1 hP hD hS ls hl)
    · refine W.eq (g2 := F0 m 6 ls [.int pz, .ref a_bl]) (by subst h9; rfl) ?_
      exact rd_i (va_runU (As := [.int pz]) (rest := []) ⟨hx, hb, hml, hown, hts⟩ (n_X7_isShown l D cy a_bl pz _ ) (va_cwU 1 hts gX7_sees_X7_isShown_u7X1 rfl rfl rfl rfl (by decide +kernel) ⟨Nat.le_of_ble_eq_true rfl, Nat.le_of_ble_eq_true rfl⟩) (pV2 (ci := 1) (k := 2) hKA hP rfl rfl pE (dE (A := A))) rfl rfl hl.1 rfl (lv_room (Nat.le_of_ble_eq_true rfl)) dX7_sees_6 ⟨Nat.le_of_ble_eq_true rfl, Nat.le_of_ble_eq_true rfl⟩) hP hS hA (fun r H1 locs1 hw hP hS => jv6 r (z_bo hw) H1 locs1 hP hD hS ls hl)
    · refine W.eq (g2 := F0 m 6 ls [.int pz, .ref a_sc]) (by subst h9; rfl) ?_
      exact rd_i (va_runU (As := [.int pz]) (rest := []) ⟨hx, hb, hml, hown, hts⟩ (n_X9_isShown l D cy a_sc pz _ ) (va_cwO 1 hts gX7_sees_X9_isShown_u7X9 rfl rfl rfl (b0 := cX7_isShown) (m0 := 2) (r0 := some .boolean) (by decide +kernel) (by decide +kernel) ⟨Nat.le_of_ble_eq_true rfl, Nat.le_of_ble_eq_true rfl⟩) (pV2 (ci := 9) (k := 3) hKA hP rfl rfl pE (dE (A := A))) rfl rfl hl.1 rfl (lv_room (Nat.le_of_ble_eq_true rfl)) dX7_sees_6 ⟨Nat.le_of_ble_eq_true rfl, Nat.le_of_ble_eq_true rfl⟩) hP hS hA (fun r H1 locs1 hw hP hS => jv6 r (z_bo hw) H1 locs1 hP hD hS ls hl)
    · refine W.eq (g2 := F0 m 6 ls [.int pz, .ref a_ne]) (by subst h9; rfl) ?_
      exact rd_i (va_runU (As := [.int pz]) (rest := []) ⟨hx, hb, hml, hown, hts⟩ (n_X7_isShown l D cy a_ne pz _ ) (va_cwU 1 hts gX7_sees_X7_isShown_u7X5 rfl rfl rfl rfl (by decide +kernel) ⟨Nat.le_of_ble_eq_true rfl, Nat.le_of_ble_eq_true rfl⟩) (pV2 (ci := 5) (k := 4) hKA hP rfl rfl pE (dE (A := A))) rfl rfl hl.1 rfl (lv_room (Nat.le_of_ble_eq_true rfl)) dX7_sees_6 ⟨Nat.le_of_ble_eq_true rfl, Nat.le_of_ble_eq_true rfl⟩) hP hS hA (fun r H1 locs1 hw hP hS => jv6 r (z_bo hw) H1 locs1 hP hD hS ls hl)
    · refine W.eq (g2 := F0 m 6 ls [.int pz, .ref a_ab]) (by subst h9; rfl) ?_
      exact rd_i (va_runU (As := [.int pz]) (rest := []) ⟨hx, hb, hml, hown, hts⟩ (n_X0_isShown l D cy a_ab pz _ ) (va_cwO 1 hts gX7_sees_X0_isShown_u7X0 rfl rfl rfl (b0 := cX7_isShown) (m0 := 2) (r0 := some .boolean) (by decide +kernel) (by decide +kernel) ⟨Nat.le_of_ble_eq_true rfl, Nat.le_of_ble_eq_true rfl⟩) (pV2 (ci := 0) (k := 5) hKA hP rfl rfl pE (dE (A := A))) rfl rfl hl.1 rfl (lv_room (Nat.le_of_ble_eq_true rfl)) dX7_sees_6 ⟨Nat.le_of_ble_eq_true rfl, Nat.le_of_ble_eq_true rfl⟩) hP hS hA (fun r H1 locs1 hw hP hS => jv6 r (z_bo hw) H1 locs1 hP hD hS ls hl)

set_option maxHeartbeats 4000000 in
set_option maxRecDepth 100000 in
theorem n_X7_hears (l : Launch) (D : va_G) (cy : Nat → ClassId) (a_px : Nat) (a_pl : Nat) (a_de : Nat) (a_bl : Nat) (a_sc : Nat) (a_ne : Nat) (a_ab : Nat) (a_me : Nat) (py : Int32) (pz : Int32) (sz : Nat) (hot : a_px = a_pl ∨ a_px = a_de ∨ a_px = a_bl ∨ a_px = a_sc ∨ a_px = a_ne ∨ a_px = a_ab) : Met l yX7_hears wsX7_hears ({ frames := 1, cells := 0, slots := 0, locals := 20 }) (va_Pc [.ref a_me, .ref a_px, .int py, .int pz] (kPre D cy [(a_pl, .inr (7, [])), (a_de, .inr (2, [])), (a_bl, .inr (1, [])), (a_sc, .inr (9, [])), (a_ne, .inr (5, [])), (a_ab, .inr (0, []))] sz)) (va_Qi (fun (r : Int32) (u : Unit) => (r = 1 ∧ True) ∨ (r = 0 ∧ True)) (fun _ _ => True) (fun q : Nat => sz ≤ q)) 0 0 (fun q : Nat => sz ≤ q) := by
  refine Met.ofW (cc := cX7_hears) (maxL := 4) (ret := (some .boolean)) (by decide) rfl ?_
  intro p e s m args below meth c s₁ B hml hv
  obtain ⟨rfl, hsz, hP, hKA, hD0⟩ := hv
  have hx := B.exec
  have hb := B.bytes
  have hr := B.returns
  have hts := atoms_spec (ws := wsX7_hears) B.pre
  have hown : s.vm.findClass RX7 = some m.cls := findClass_of_methodNamed B.named
  have hlocks := B.notSynchronized
  subst hsz
  have hK := hKA.1
  have hD := hD0
  generalize hAe : (fun q : Nat => s.heap.size ≤ q) = A
  have hA : ∀ q : Nat, s.heap.size ≤ q → A q := fun q h => by rw [← hAe]; exact h
  have hS : va_S A s.heap s.heap [] := va_S.rf
  have hP : va_P D vwCl [(a_pl, .inr (7, [])), (a_de, .inr (2, [])), (a_bl, .inr (1, [])), (a_sc, .inr (9, [])), (a_ne, .inr (5, [])), (a_ab, .inr (0, []))] s.heap := hP
  have hl := lv_entry ([.ref a_me, .ref a_px, .int py, .int pz]) (n := 4) (Nat.le_of_ble_eq_true rfl)
  rw [lg_entry_eq]
  generalize (lg_sl ([.ref a_me, .ref a_px, .int py, .int pz]) ++ List.replicate (4 - (lg_sl ([.ref a_me, .ref a_px, .int py, .int pz])).length) Slot.unset).toArray = ls at hl ⊢
  have hl : lv_has ls 4 [(0, .ref a_me), (1, .ref a_px), (2, .int py), (3, .int pz)] := hl
  refine qW (fun QF hQF => ?_)
  refine lv_iload_n hx hb dX7_hears_0 rfl (lv_at hl 2 rfl) ?_
  refine lv_if_eq (tgt := 15) hx hb dX7_hears_1 (by decide) (fun c1 => ?_) (fun c1 => ?_)
  · skip
    refine lv_iconst (v := 0) hx hb dX7_hears_15 (by decide) ?_
    subst hQF
    exact W.zret (v := 0) hx hb hr rfl (fun t ht hW => ⟨⟨0, (), rfl, (Or.inr ⟨rfl, trivial⟩), trivial⟩, hS.F ht⟩) hS.2.2 dX7_hears_16
  · skip
    refine lv_aload_n hx hb dX7_hears_4 rfl (lv_at hl 1 rfl) ?_
    have jv5 : ∀ (w5_ : Int32) (bw5_ : w5_ = 1 ∨ w5_ = 0) (H : Heap) (locs : List Loc), va_P D vwCl [(a_pl, .inr (7, [])), (a_de, .inr (2, [])), (a_bl, .inr (1, [])), (a_sc, .inr (9, [])), (a_ne, .inr (5, [])), (a_ab, .inr (0, []))] H → va_D (fun _ => True) [(a_pl, .inr (7, [])), (a_de, .inr (2, [])), (a_bl, .inr (1, [])), (a_sc, .inr (9, [])), (a_ne, .inr (5, [])), (a_ab, .inr (0, []))] → va_S A s.heap H locs → ∀ ls : Array Slot, lv_has ls 4 [(0, .ref a_me), (1, .ref a_px), (2, .int py), (3, .int pz)] → W p l e (headSpec wsX7_hears ({ frames := 1, cells := 0, slots := 0, locals := 20 })).room s m [.ref a_me, .ref a_px, .int py, .int pz].toArray below meth c H locs 0 0 QF (F0 m 8 ls [.int w5_]) := by
      intro w5_ bw5_ H locs hP hD hS ls hl
      refine lv_if_eq (tgt := 15) hx hb dX7_hears_8 (by decide) (fun c2 => ?_) (fun c2 => ?_)
      · skip
        refine lv_iconst (v := 0) hx hb dX7_hears_15 (by decide) ?_
        subst hQF
        exact W.zret (v := 0) hx hb hr rfl (fun t ht hW => ⟨⟨0, (), rfl, (Or.inr ⟨rfl, trivial⟩), trivial⟩, hS.F ht⟩) hS.2.2 dX7_hears_16
      · skip
        refine lv_iconst (v := 1) hx hb dX7_hears_11 (by decide) ?_
        refine lv_goto (tgt := 16) hx hb dX7_hears_12 (by decide) ?_
        subst hQF
        exact W.zret (v := 1) hx hb hr rfl (fun t ht hW => ⟨⟨1, (), rfl, (Or.inl ⟨rfl, trivial⟩), trivial⟩, hS.F ht⟩) hS.2.2 dX7_hears_16
    rcases hot with h9 | h9 | h9 | h9 | h9 | h9
    · refine W.eq (g2 := F0 m 5 ls [.ref a_pl]) (by subst h9; rfl) ?_
      exact rd_i (va_runV (As := []) (rest := []) ⟨hx, hb, hml, hown, hts⟩ (n_X7_isAudible l D cy a_pl _ ) (cwV 0 hts gX7_hears_X7_isAudible rfl rfl rfl (by decide +kernel) ⟨Nat.le_of_ble_eq_true rfl, Nat.le_of_ble_eq_true rfl⟩) (pV2 (ci := 7) (k := 0) hKA hP rfl rfl pE (dE (A := A))) rfl rfl hl.1 rfl (lv_room (Nat.le_of_ble_eq_true rfl)) dX7_hears_5 ⟨Nat.le_of_ble_eq_true rfl, Nat.le_of_ble_eq_true rfl⟩) hP hS hA (fun r H1 locs1 hw hP hS => jv5 r (z_bo hw) H1 locs1 hP hD hS ls hl)
    · refine W.eq (g2 := F0 m 5 ls [.ref a_de]) (by subst h9; rfl) ?_
      exact rd_i (va_runU (As := []) (rest := []) ⟨hx, hb, hml, hown, hts⟩ (n_X7_isAudible l D cy a_de _ ) (va_cwU 0 hts gX7_hears_X7_isAudible_u13X2 rfl rfl rfl rfl (by decide +kernel) ⟨Nat.le_of_ble_eq_true rfl, Nat.le_of_ble_eq_true rfl⟩) (pV2 (ci := 2) (k := 1) hKA hP rfl rfl pE (dE (A := A))) rfl rfl hl.1 rfl (lv_room (Nat.le_of_ble_eq_true rfl)) dX7_hears_5 ⟨Nat.le_of_ble_eq_true rfl, Nat.le_of_ble_eq_true rfl⟩) hP hS hA (fun r H1 locs1 hw hP hS => jv5 r (z_bo hw) H1 locs1 hP hD hS ls hl)
    · refine W.eq (g2 := F0 m 5 ls [.ref a_bl]) (by subst h9; rfl) ?_
      exact rd_i (va_runU (As := []) (rest := []) ⟨hx, hb, hml, hown, hts⟩ (n_X7_isAudible l D cy a_bl _ ) (va_cwU 0 hts gX7_hears_X7_isAudible_u13X1 rfl rfl rfl rfl (by decide +kernel) ⟨Nat.le_of_ble_eq_true rfl, Nat.le_of_ble_eq_true rfl⟩) (pV2 (ci := 1) (k := 2) hKA hP rfl rfl pE (dE (A := A))) rfl rfl hl.1 rfl (lv_room (Nat.le_of_ble_eq_true rfl)) dX7_hears_5 ⟨Nat.le_of_ble_eq_true rfl, Nat.le_of_ble_eq_true rfl⟩) hP hS hA (fun r H1 locs1 hw hP hS => jv5 r (z_bo hw) H1 locs1 hP hD hS ls hl)
    · refine W.eq (g2 := F0 m 5 ls [.ref a_sc]) (by subst h9; rfl) ?_
      exact rd_i (va_runU (As := []) (rest := []) ⟨hx, hb, hml, hown, hts⟩ (n_X7_isAudible l D cy a_sc _ ) (va_cwU 0 hts gX7_hears_X7_isAudible_u13X9 rfl rfl rfl rfl (by decide +kernel) ⟨Nat.le_of_ble_eq_true rfl, Nat.le_of_ble_eq_true rfl⟩) (pV2 (ci := 9) (k := 3) hKA hP rfl rfl pE (dE (A := A))) rfl rfl hl.1 rfl (lv_room (Nat.le_of_ble_eq_true rfl)) dX7_hears_5 ⟨Nat.le_of_ble_eq_true rfl, Nat.le_of_ble_eq_true rfl⟩) hP hS hA (fun r H1 locs1 hw hP hS => jv5 r (z_bo hw) H1 locs1 hP hD hS ls hl)
    · refine W.eq (g2 := F0 m 5 ls [.ref a_ne]) (by subst h9; rfl) ?_
      exact rd_i (va_runU (As := []) (rest := []) ⟨hx, hb, hml, hown, hts⟩ (n_X7_isAudible l D cy a_ne _ ) (va_cwU 0 hts gX7_hears_X7_isAudible_u13X5 rfl rfl rfl rfl (by decide +kernel) ⟨Nat.le_of_ble_eq_true rfl, Nat.le_of_ble_eq_true rfl⟩) (pV2 (ci := 5) (k := 4) hKA hP rfl rfl pE (dE (A := A))) rfl rfl hl.1 rfl (lv_room (Nat.le_of_ble_eq_true rfl)) dX7_hears_5 ⟨Nat.le_of_ble_eq_true rfl, Nat.le_of_ble_eq_true rfl⟩) hP hS hA (fun r H1 locs1 hw hP hS => jv5 r (z_bo hw) H1 locs1 hP hD hS ls hl)
    · refine W.eq (g2 := F0 m 5 ls [.ref a_ab]) (by subst h9; rfl) ?_
      exact rd_i (va_runU (As := []) (rest := []) ⟨hx, hb, hml, hown, hts⟩ (n_X0_isAudible l D cy a_ab _ ) (va_cwO 0 hts gX7_hears_X0_isAudible_u13X0 rfl rfl rfl (b0 := cX7_isAudible) (m0 := 1) (r0 := some .boolean) (by decide +kernel) (by decide +kernel) ⟨Nat.le_of_ble_eq_true rfl, Nat.le_of_ble_eq_true rfl⟩) (pV2 (ci := 0) (k := 5) hKA hP rfl rfl pE (dE (A := A))) rfl rfl hl.1 rfl (lv_room (Nat.le_of_ble_eq_true rfl)) dX7_hears_5 ⟨Nat.le_of_ble_eq_true rfl, Nat.le_of_ble_eq_true rfl⟩) hP hS hA (fun r H1 locs1 hw hP hS => jv5 r (z_bo hw) H1 locs1 hP hD hS ls hl)

set_option maxHeartbeats 4000000 in
set_option maxRecDepth 100000 in
theorem n_X5_hears (l : Launch) (D : va_G) (cy : Nat → ClassId) (a_px : Nat) (a_pl : Nat) (a_de : Nat) (a_bl : Nat) (a_sc : Nat) (a_ne : Nat) (a_ab : Nat) (a_me : Nat) (py : Int32) (pz : Int32) (sz : Nat) (hot : a_px = a_pl ∨ a_px = a_de ∨ a_px = a_bl ∨ a_px = a_sc ∨ a_px = a_ne ∨ a_px = a_ab) : Met l yX5_hears wsX5_hears ({ frames := 1, cells := 0, slots := 0, locals := 20 }) (va_Pc [.ref a_me, .ref a_px, .int py, .int pz] (kPre D cy [(a_pl, .inr (7, [])), (a_de, .inr (2, [])), (a_bl, .inr (1, [])), (a_sc, .inr (9, [])), (a_ne, .inr (5, [])), (a_ab, .inr (0, []))] sz)) (va_Qi (fun (r : Int32) (u : Unit) => (r = 1 ∧ True) ∨ (r = 0 ∧ True)) (fun _ _ => True) (fun q : Nat => sz ≤ q)) 0 0 (fun q : Nat => sz ≤ q) := by
  refine Met.ofW (cc := cX5_hears) (maxL := 4) (ret := (some .boolean)) (by decide) rfl ?_
  intro p e s m args below meth c s₁ B hml hv
  obtain ⟨rfl, hsz, hP, hKA, hD0⟩ := hv
  have hx := B.exec
  have hb := B.bytes
  have hr := B.returns
  have hts := atoms_spec (ws := wsX5_hears) B.pre
  have hown : s.vm.findClass RX5 = some m.cls := findClass_of_methodNamed B.named
  have hlocks := B.notSynchronized
  subst hsz
  have hK := hKA.1
  have hD := hD0
  generalize hAe : (fun q : Nat => s.heap.size ≤ q) = A
  have hA : ∀ q : Nat, s.heap.size ≤ q → A q := fun q h => by rw [← hAe]; exact h
  have hS : va_S A s.heap s.heap [] := va_S.rf
  have hP : va_P D vwCl [(a_pl, .inr (7, [])), (a_de, .inr (2, [])), (a_bl, .inr (1, [])), (a_sc, .inr (9, [])), (a_ne, .inr (5, [])), (a_ab, .inr (0, []))] s.heap := hP
  have hl := lv_entry ([.ref a_me, .ref a_px, .int py, .int pz]) (n := 4) (Nat.le_of_ble_eq_true rfl)
  rw [lg_entry_eq]
  generalize (lg_sl ([.ref a_me, .ref a_px, .int py, .int pz]) ++ List.replicate (4 - (lg_sl ([.ref a_me, .ref a_px, .int py, .int pz])).length) Slot.unset).toArray = ls at hl ⊢
  have hl : lv_has ls 4 [(0, .ref a_me), (1, .ref a_px), (2, .int py), (3, .int pz)] := hl
  refine qW (fun QF hQF => ?_)
  refine lv_iload_n hx hb dX5_hears_0 rfl (lv_at hl 3 rfl) ?_
  refine lv_iconst (v := 1) hx hb dX5_hears_1 (by decide) ?_
  refine lv_icmp_ne (tgt := 20) hx hb dX5_hears_2 (by decide) (fun c1 => ?_) (fun c1 => ?_)
  · skip
    refine lv_iconst (v := 0) hx hb dX5_hears_20 (by decide) ?_
    subst hQF
    exact W.zret (v := 0) hx hb hr rfl (fun t ht hW => ⟨⟨0, (), rfl, (Or.inr ⟨rfl, trivial⟩), trivial⟩, hS.F ht⟩) hS.2.2 dX5_hears_21
  · skip
    refine lv_iload_n hx hb dX5_hears_5 rfl (lv_at hl 2 rfl) ?_
    refine lv_if_eq (tgt := 20) hx hb dX5_hears_6 (by decide) (fun c2 => ?_) (fun c2 => ?_)
    · skip
      refine lv_iconst (v := 0) hx hb dX5_hears_20 (by decide) ?_
      subst hQF
      exact W.zret (v := 0) hx hb hr rfl (fun t ht hW => ⟨⟨0, (), rfl, (Or.inr ⟨rfl, trivial⟩), trivial⟩, hS.F ht⟩) hS.2.2 dX5_hears_21
    · skip
      refine lv_aload_n hx hb dX5_hears_9 rfl (lv_at hl 1 rfl) ?_
      have jv10 : ∀ (w10_ : Int32) (bw10_ : w10_ = 1 ∨ w10_ = 0) (H : Heap) (locs : List Loc), va_P D vwCl [(a_pl, .inr (7, [])), (a_de, .inr (2, [])), (a_bl, .inr (1, [])), (a_sc, .inr (9, [])), (a_ne, .inr (5, [])), (a_ab, .inr (0, []))] H → va_D (fun _ => True) [(a_pl, .inr (7, [])), (a_de, .inr (2, [])), (a_bl, .inr (1, [])), (a_sc, .inr (9, [])), (a_ne, .inr (5, [])), (a_ab, .inr (0, []))] → va_S A s.heap H locs → ∀ ls : Array Slot, lv_has ls 4 [(0, .ref a_me), (1, .ref a_px), (2, .int py), (3, .int pz)] → W p l e (headSpec wsX5_hears ({ frames := 1, cells := 0, slots := 0, locals := 20 })).room s m [.ref a_me, .ref a_px, .int py, .int pz].toArray below meth c H locs 0 0 QF (F0 m 13 ls [.int w10_]) := by
        intro w10_ bw10_ H locs hP hD hS ls hl
        refine lv_if_eq (tgt := 20) hx hb dX5_hears_13 (by decide) (fun c3 => ?_) (fun c3 => ?_)
        · skip
          refine lv_iconst (v := 0) hx hb dX5_hears_20 (by decide) ?_
          subst hQF
          exact W.zret (v := 0) hx hb hr rfl (fun t ht hW => ⟨⟨0, (), rfl, (Or.inr ⟨rfl, trivial⟩), trivial⟩, hS.F ht⟩) hS.2.2 dX5_hears_21
        · skip
          refine lv_iconst (v := 1) hx hb dX5_hears_16 (by decide) ?_
          refine lv_goto (tgt := 21) hx hb dX5_hears_17 (by decide) ?_
          subst hQF
          exact W.zret (v := 1) hx hb hr rfl (fun t ht hW => ⟨⟨1, (), rfl, (Or.inl ⟨rfl, trivial⟩), trivial⟩, hS.F ht⟩) hS.2.2 dX5_hears_21
      rcases hot with h9 | h9 | h9 | h9 | h9 | h9
      · refine W.eq (g2 := F0 m 10 ls [.ref a_pl]) (by subst h9; rfl) ?_
        exact rd_i (va_runV (As := []) (rest := []) ⟨hx, hb, hml, hown, hts⟩ (n_X7_isAudible l D cy a_pl _ ) (cwV 0 hts gX5_hears_X7_isAudible rfl rfl rfl (by decide +kernel) ⟨Nat.le_of_ble_eq_true rfl, Nat.le_of_ble_eq_true rfl⟩) (pV2 (ci := 7) (k := 0) hKA hP rfl rfl pE (dE (A := A))) rfl rfl hl.1 rfl (lv_room (Nat.le_of_ble_eq_true rfl)) dX5_hears_10 ⟨Nat.le_of_ble_eq_true rfl, Nat.le_of_ble_eq_true rfl⟩) hP hS hA (fun r H1 locs1 hw hP hS => jv10 r (z_bo hw) H1 locs1 hP hD hS ls hl)
      · refine W.eq (g2 := F0 m 10 ls [.ref a_de]) (by subst h9; rfl) ?_
        exact rd_i (va_runU (As := []) (rest := []) ⟨hx, hb, hml, hown, hts⟩ (n_X7_isAudible l D cy a_de _ ) (va_cwU 0 hts gX5_hears_X7_isAudible_u7X2 rfl rfl rfl rfl (by decide +kernel) ⟨Nat.le_of_ble_eq_true rfl, Nat.le_of_ble_eq_true rfl⟩) (pV2 (ci := 2) (k := 1) hKA hP rfl rfl pE (dE (A := A))) rfl rfl hl.1 rfl (lv_room (Nat.le_of_ble_eq_true rfl)) dX5_hears_10 ⟨Nat.le_of_ble_eq_true rfl, Nat.le_of_ble_eq_true rfl⟩) hP hS hA (fun r H1 locs1 hw hP hS => jv10 r (z_bo hw) H1 locs1 hP hD hS ls hl)
      · refine W.eq (g2 := F0 m 10 ls [.ref a_bl]) (by subst h9; rfl) ?_
        exact rd_i (va_runU (As := []) (rest := []) ⟨hx, hb, hml, hown, hts⟩ (n_X7_isAudible l D cy a_bl _ ) (va_cwU 0 hts gX5_hears_X7_isAudible_u7X1 rfl rfl rfl rfl (by decide +kernel) ⟨Nat.le_of_ble_eq_true rfl, Nat.le_of_ble_eq_true rfl⟩) (pV2 (ci := 1) (k := 2) hKA hP rfl rfl pE (dE (A := A))) rfl rfl hl.1 rfl (lv_room (Nat.le_of_ble_eq_true rfl)) dX5_hears_10 ⟨Nat.le_of_ble_eq_true rfl, Nat.le_of_ble_eq_true rfl⟩) hP hS hA (fun r H1 locs1 hw hP hS => jv10 r (z_bo hw) H1 locs1 hP hD hS ls hl)
      · refine W.eq (g2 := F0 m 10 ls [.ref a_sc]) (by subst h9; rfl) ?_
        exact rd_i (va_runU (As := []) (rest := []) ⟨hx, hb, hml, hown, hts⟩ (n_X7_isAudible l D cy a_sc _ ) (va_cwU 0 hts gX5_hears_X7_isAudible_u7X9 rfl rfl rfl rfl (by decide +kernel) ⟨Nat.le_of_ble_eq_true rfl, Nat.le_of_ble_eq_true rfl⟩) (pV2 (ci := 9) (k := 3) hKA hP rfl rfl pE (dE (A := A))) rfl rfl hl.1 rfl (lv_room (Nat.le_of_ble_eq_true rfl)) dX5_hears_10 ⟨Nat.le_of_ble_eq_true rfl, Nat.le_of_ble_eq_true rfl⟩) hP hS hA (fun r H1 locs1 hw hP hS => jv10 r (z_bo hw) H1 locs1 hP hD hS ls hl)
      · refine W.eq (g2 := F0 m 10 ls [.ref a_ne]) (by subst h9; rfl) ?_
        exact rd_i (va_runU (As := []) (rest := []) ⟨hx, hb, hml, hown, hts⟩ (n_X7_isAudible l D cy a_ne _ ) (va_cwU 0 hts gX5_hears_X7_isAudible_u7X5 rfl rfl rfl rfl (by decide +kernel) ⟨Nat.le_of_ble_eq_true rfl, Nat.le_of_ble_eq_true rfl⟩) (pV2 (ci := 5) (k := 4) hKA hP rfl rfl pE (dE (A := A))) rfl rfl hl.1 rfl (lv_room (Nat.le_of_ble_eq_true rfl)) dX5_hears_10 ⟨Nat.le_of_ble_eq_true rfl, Nat.le_of_ble_eq_true rfl⟩) hP hS hA (fun r H1 locs1 hw hP hS => jv10 r (z_bo hw) H1 locs1 hP hD hS ls hl)
      · refine W.eq (g2 := F0 m 10 ls [.ref a_ab]) (by subst h9; rfl) ?_
        exact rd_i (va_runU (As := []) (rest := []) ⟨hx, hb, hml, hown, hts⟩ (n_X0_isAudible l D cy a_ab _ ) (va_cwO 0 hts gX5_hears_X0_isAudible_u7X0 rfl rfl rfl (b0 := cX7_isAudible) (m0 := 1) (r0 := some .boolean) (by decide +kernel) (by decide +kernel) ⟨Nat.le_of_ble_eq_true rfl, Nat.le_of_ble_eq_true rfl⟩) (pV2 (ci := 0) (k := 5) hKA hP rfl rfl pE (dE (A := A))) rfl rfl hl.1 rfl (lv_room (Nat.le_of_ble_eq_true rfl)) dX5_hears_10 ⟨Nat.le_of_ble_eq_true rfl, Nat.le_of_ble_eq_true rfl⟩) hP hS hA (fun r H1 locs1 hw hP hS => jv10 r (z_bo hw) H1 locs1 hP hD hS ls hl)

set_option maxHeartbeats 4000000 in
set_option maxRecDepth 100000 in
theorem n_X4_whoSee (l : Launch) (D : va_G) (cy : Nat → ClassId) (a_w : Nat) (a_g : Nat) (a_pl : Nat) (a_kd : Nat) (a_sb : Nat) (a_hb : Nat) (a_sf : Nat) (a_hf : Nat) (w_bound : Int32) (w_drowned : Int64) (sb_f : Nat → Int32) (px : Int32) (sz : Nat)  : Met l yX4_whoSee wsX4_whoSee ({ frames := 0, cells := 0, slots := 0, locals := 0 }) (va_Pc [.ref a_w, .int px] (kPre D cy [(a_w, .inr (4, [.ref a_g, .ref a_pl, .ref a_kd, .ref a_sb, .ref a_hb, .ref a_sf, .ref a_hf, .int w_bound, .long w_drowned])), (a_sb, .inl (cy 1, 5, .inl sb_f))] sz)) (va_Qi (fun (r : Int32) (u : Unit) => True) (fun _ _ => True) (fun q : Nat => sz ≤ q)) 0 0 (fun q : Nat => sz ≤ q) := by
  refine Met.ofW (cc := cX4_whoSee) (maxL := 2) (ret := (some .int)) (by decide) rfl ?_
  intro p e s m args below meth c s₁ B hml hv
  obtain ⟨rfl, hsz, hP, hKA, hD0⟩ := hv
  have hx := B.exec
  have hb := B.bytes
  have hr := B.returns
  have hts := atoms_spec (ws := wsX4_whoSee) B.pre
  have hown : s.vm.findClass RX4 = some m.cls := findClass_of_methodNamed B.named
  have hlocks := B.notSynchronized
  subst hsz
  have hK := hKA.1
  have hD := hD0
  generalize hAe : (fun q : Nat => s.heap.size ≤ q) = A
  have hA : ∀ q : Nat, s.heap.size ≤ q → A q := fun q h => by rw [← hAe]; exact h
  have hS : va_S A s.heap s.heap [] := va_S.rf
  have hP : va_P D vwCl [(a_w, .inr (4, [.ref a_g, .ref a_pl, .ref a_kd, .ref a_sb, .ref a_hb, .ref a_sf, .ref a_hf, .int w_bound, .long w_drowned])), (a_sb, .inl (cy 1, 5, .inl sb_f))] s.heap := hP
  have hl := lv_entry ([.ref a_w, .int px]) (n := 2) (Nat.le_of_ble_eq_true rfl)
  rw [lg_entry_eq]
  generalize (lg_sl ([.ref a_w, .int px]) ++ List.replicate (2 - (lg_sl ([.ref a_w, .int px])).length) Slot.unset).toArray = ls at hl ⊢
  have hl : lv_has ls 2 [(0, .ref a_w), (1, .int px)] := hl
  refine qW (fun QF hQF => ?_)
  have z0_ := hts (.fieldLink RX4 22 "HeardSeen$Law" "seenBy" "[I") (by decide +kernel)
  have zi4_ : ∀ w ∈ u_ws RX4 TX4 9, w ∈ wsX4_whoSee := by decide +kernel
  refine lv_iload_n hx hb dX4_whoSee_0 rfl (lv_at hl 1 rfl) ?_
  refine lv_if_lt (tgt := 18) hx hb dX4_whoSee_1 (by decide) (fun c1 => ?_) (fun c1 => ?_)
  · skip
    refine lv_iconst (v := 0) hx hb dX4_whoSee_18 (by decide) ?_
    subst hQF
    exact W.iret (v := 0) hx hb hr (fun t ht hW => ⟨⟨0, (), rfl, trivial, trivial⟩, hS.F ht⟩) hS.2.2 dX4_whoSee_19
  · skip
    refine lv_iload_n hx hb dX4_whoSee_4 rfl (lv_at hl 1 rfl) ?_
    refine lv_iconst (v := 5) hx hb dX4_whoSee_5 (by decide) ?_
    refine lv_icmp_ge (tgt := 18) hx hb dX4_whoSee_6 (by decide) (fun c2 => ?_) (fun c2 => ?_)
    · skip
      refine lv_iconst (v := 0) hx hb dX4_whoSee_18 (by decide) ?_
      subst hQF
      exact W.iret (v := 0) hx hb hr (fun t ht hW => ⟨⟨0, (), rfl, trivial, trivial⟩, hS.F ht⟩) hS.2.2 dX4_whoSee_19
    · skip
      refine lv_aload_n hx hb dX4_whoSee_9 rfl (lv_at hl 0 rfl) ?_
      refine va_get (D := D) (ci := 4) (v := .ref a_sb) (C := RX4) (T := TX4) (N := 9) hx hb hts zi4_ hown hK hP 0 rfl rfl 3 (by decide) z0_ (fun _ h9 => h9) rfl dX4_whoSee_10 ?_
      refine lv_iload_n hx hb dX4_whoSee_13 rfl (lv_at hl 1 rfl) ?_
      refine my_iald hx hb hK hP 1 1 rfl rfl (by first | exact in_x (N := 5) (by decide) (by assumption) (by assumption) | exact in_y (N := 5) (by decide) (by assumption) (by assumption) | exact in_z (N := 5) (by decide) (by assumption) (by assumption)) rfl dX4_whoSee_14 ?_
      refine lv_goto (tgt := 19) hx hb dX4_whoSee_15 (by decide) ?_
      refine lv_topi (fun x3 ex3 => ?_)
      subst hQF
      exact W.iret (v := x3) hx hb hr (fun t ht hW => ⟨⟨x3, (), rfl, trivial, trivial⟩, hS.F ht⟩) hS.2.2 dX4_whoSee_19

set_option maxHeartbeats 4000000 in
set_option maxRecDepth 100000 in
theorem n_X4_whoHear (l : Launch) (D : va_G) (cy : Nat → ClassId) (a_w : Nat) (a_g : Nat) (a_pl : Nat) (a_kd : Nat) (a_sb : Nat) (a_hb : Nat) (a_sf : Nat) (a_hf : Nat) (w_bound : Int32) (w_drowned : Int64) (hb_f : Nat → Int32) (px : Int32) (sz : Nat)  : Met l yX4_whoHear wsX4_whoHear ({ frames := 0, cells := 0, slots := 0, locals := 0 }) (va_Pc [.ref a_w, .int px] (kPre D cy [(a_w, .inr (4, [.ref a_g, .ref a_pl, .ref a_kd, .ref a_sb, .ref a_hb, .ref a_sf, .ref a_hf, .int w_bound, .long w_drowned])), (a_hb, .inl (cy 1, 5, .inl hb_f))] sz)) (va_Qi (fun (r : Int32) (u : Unit) => True) (fun _ _ => True) (fun q : Nat => sz ≤ q)) 0 0 (fun q : Nat => sz ≤ q) := by
  refine Met.ofW (cc := cX4_whoHear) (maxL := 2) (ret := (some .int)) (by decide) rfl ?_
  intro p e s m args below meth c s₁ B hml hv
  obtain ⟨rfl, hsz, hP, hKA, hD0⟩ := hv
  have hx := B.exec
  have hb := B.bytes
  have hr := B.returns
  have hts := atoms_spec (ws := wsX4_whoHear) B.pre
  have hown : s.vm.findClass RX4 = some m.cls := findClass_of_methodNamed B.named
  have hlocks := B.notSynchronized
  subst hsz
  have hK := hKA.1
  have hD := hD0
  generalize hAe : (fun q : Nat => s.heap.size ≤ q) = A
  have hA : ∀ q : Nat, s.heap.size ≤ q → A q := fun q h => by rw [← hAe]; exact h
  have hS : va_S A s.heap s.heap [] := va_S.rf
  have hP : va_P D vwCl [(a_w, .inr (4, [.ref a_g, .ref a_pl, .ref a_kd, .ref a_sb, .ref a_hb, .ref a_sf, .ref a_hf, .int w_bound, .long w_drowned])), (a_hb, .inl (cy 1, 5, .inl hb_f))] s.heap := hP
  have hl := lv_entry ([.ref a_w, .int px]) (n := 2) (Nat.le_of_ble_eq_true rfl)
  rw [lg_entry_eq]
  generalize (lg_sl ([.ref a_w, .int px]) ++ List.replicate (2 - (lg_sl ([.ref a_w, .int px])).length) Slot.unset).toArray = ls at hl ⊢
  have hl : lv_has ls 2 [(0, .ref a_w), (1, .int px)] := hl
  refine qW (fun QF hQF => ?_)
  have z0_ := hts (.fieldLink RX4 26 "HeardSeen$Law" "heardBy" "[I") (by decide +kernel)
  have zi4_ : ∀ w ∈ u_ws RX4 TX4 9, w ∈ wsX4_whoHear := by decide +kernel
  refine lv_iload_n hx hb dX4_whoHear_0 rfl (lv_at hl 1 rfl) ?_
  refine lv_if_lt (tgt := 18) hx hb dX4_whoHear_1 (by decide) (fun c1 => ?_) (fun c1 => ?_)
  · skip
    refine lv_iconst (v := 0) hx hb dX4_whoHear_18 (by decide) ?_
    subst hQF
    exact W.iret (v := 0) hx hb hr (fun t ht hW => ⟨⟨0, (), rfl, trivial, trivial⟩, hS.F ht⟩) hS.2.2 dX4_whoHear_19
  · skip
    refine lv_iload_n hx hb dX4_whoHear_4 rfl (lv_at hl 1 rfl) ?_
    refine lv_iconst (v := 5) hx hb dX4_whoHear_5 (by decide) ?_
    refine lv_icmp_ge (tgt := 18) hx hb dX4_whoHear_6 (by decide) (fun c2 => ?_) (fun c2 => ?_)
    · skip
      refine lv_iconst (v := 0) hx hb dX4_whoHear_18 (by decide) ?_
      subst hQF
      exact W.iret (v := 0) hx hb hr (fun t ht hW => ⟨⟨0, (), rfl, trivial, trivial⟩, hS.F ht⟩) hS.2.2 dX4_whoHear_19
    · skip
      refine lv_aload_n hx hb dX4_whoHear_9 rfl (lv_at hl 0 rfl) ?_
      refine va_get (D := D) (ci := 4) (v := .ref a_hb) (C := RX4) (T := TX4) (N := 9) hx hb hts zi4_ hown hK hP 0 rfl rfl 4 (by decide) z0_ (fun _ h9 => h9) rfl dX4_whoHear_10 ?_
      refine lv_iload_n hx hb dX4_whoHear_13 rfl (lv_at hl 1 rfl) ?_
      refine my_iald hx hb hK hP 1 1 rfl rfl (by first | exact in_x (N := 5) (by decide) (by assumption) (by assumption) | exact in_y (N := 5) (by decide) (by assumption) (by assumption) | exact in_z (N := 5) (by decide) (by assumption) (by assumption)) rfl dX4_whoHear_14 ?_
      refine lv_goto (tgt := 19) hx hb dX4_whoHear_15 (by decide) ?_
      refine lv_topi (fun x3 ex3 => ?_)
      subst hQF
      exact W.iret (v := x3) hx hb hr (fun t ht hW => ⟨⟨x3, (), rfl, trivial, trivial⟩, hS.F ht⟩) hS.2.2 dX4_whoHear_19

set_option maxHeartbeats 4000000 in
set_option maxRecDepth 100000 in
theorem n_X4_whoNotice (l : Launch) (D : va_G) (cy : Nat → ClassId) (a_w : Nat) (a_g : Nat) (a_pl : Nat) (a_kd : Nat) (a_sb : Nat) (a_hb : Nat) (a_sf : Nat) (a_hf : Nat) (w_bound : Int32) (w_drowned : Int64) (hf_f : Nat → Int32) (sf_f : Nat → Int32) (px : Int32) (py : Int32) (sz : Nat)  : Met l yX4_whoNotice wsX4_whoNotice ({ frames := 0, cells := 0, slots := 0, locals := 0 }) (va_Pc [.ref a_w, .int px, .int py] (kPre D cy [(a_w, .inr (4, [.ref a_g, .ref a_pl, .ref a_kd, .ref a_sb, .ref a_hb, .ref a_sf, .ref a_hf, .int w_bound, .long w_drowned])), (a_hf, .inl (cy 1, 36, .inl hf_f)), (a_sf, .inl (cy 1, 36, .inl sf_f))] sz)) (va_Qi (fun (r : Int32) (u : Unit) => True) (fun _ _ => True) (fun q : Nat => sz ≤ q)) 0 0 (fun q : Nat => sz ≤ q) := by
  refine Met.ofW (cc := cX4_whoNotice) (maxL := 3) (ret := (some .int)) (by decide) rfl ?_
  intro p e s m args below meth c s₁ B hml hv
  obtain ⟨rfl, hsz, hP, hKA, hD0⟩ := hv
  have hx := B.exec
  have hb := B.bytes
  have hr := B.returns
  have hts := atoms_spec (ws := wsX4_whoNotice) B.pre
  have hown : s.vm.findClass RX4 = some m.cls := findClass_of_methodNamed B.named
  have hlocks := B.notSynchronized
  subst hsz
  have hK := hKA.1
  have hD := hD0
  generalize hAe : (fun q : Nat => s.heap.size ≤ q) = A
  have hA : ∀ q : Nat, s.heap.size ≤ q → A q := fun q h => by rw [← hAe]; exact h
  have hS : va_S A s.heap s.heap [] := va_S.rf
  have hP : va_P D vwCl [(a_w, .inr (4, [.ref a_g, .ref a_pl, .ref a_kd, .ref a_sb, .ref a_hb, .ref a_sf, .ref a_hf, .int w_bound, .long w_drowned])), (a_hf, .inl (cy 1, 36, .inl hf_f)), (a_sf, .inl (cy 1, 36, .inl sf_f))] s.heap := hP
  have hl := lv_entry ([.ref a_w, .int px, .int py]) (n := 3) (Nat.le_of_ble_eq_true rfl)
  rw [lg_entry_eq]
  generalize (lg_sl ([.ref a_w, .int px, .int py]) ++ List.replicate (3 - (lg_sl ([.ref a_w, .int px, .int py])).length) Slot.unset).toArray = ls at hl ⊢
  have hl : lv_has ls 3 [(0, .ref a_w), (1, .int px), (2, .int py)] := hl
  refine qW (fun QF hQF => ?_)
  have z0_ := hts (.fieldLink RX4 32 "HeardSeen$Law" "heardFrom" "[I") (by decide +kernel)
  have zi4_ : ∀ w ∈ u_ws RX4 TX4 9, w ∈ wsX4_whoNotice := by decide +kernel
  have z2_ := hts (.fieldLink RX4 29 "HeardSeen$Law" "seenFrom" "[I") (by decide +kernel)
  refine lv_iload_n hx hb dX4_whoNotice_0 rfl (lv_at hl 1 rfl) ?_
  refine lv_if_lt (tgt := 10) hx hb dX4_whoNotice_1 (by decide) (fun c1 => ?_) (fun c1 => ?_)
  · skip
    refine lv_iconst (v := 0) hx hb dX4_whoNotice_10 (by decide) ?_
    subst hQF
    exact W.iret (v := 0) hx hb hr (fun t ht hW => ⟨⟨0, (), rfl, trivial, trivial⟩, hS.F ht⟩) hS.2.2 dX4_whoNotice_11
  · skip
    refine lv_iload_n hx hb dX4_whoNotice_4 rfl (lv_at hl 1 rfl) ?_
    refine lv_bipush (v := 36) hx hb dX4_whoNotice_5 (by decide) ?_
    refine lv_icmp_lt (tgt := 12) hx hb dX4_whoNotice_7 (by decide) (fun c2 => ?_) (fun c2 => ?_)
    · skip
      refine lv_iload_n hx hb dX4_whoNotice_12 rfl (lv_at hl 2 rfl) ?_
      refine lv_if_ne (tgt := 25) hx hb dX4_whoNotice_13 (by decide) (fun c3 => ?_) (fun c3 => ?_)
      · skip
        refine lv_aload_n hx hb dX4_whoNotice_25 rfl (lv_at hl 0 rfl) ?_
        refine va_get (D := D) (ci := 4) (v := .ref a_hf) (C := RX4) (T := TX4) (N := 9) hx hb hts zi4_ hown hK hP 0 rfl rfl 6 (by decide) z0_ (fun _ h9 => h9) rfl dX4_whoNotice_26 ?_
        refine lv_iload_n hx hb dX4_whoNotice_29 rfl (lv_at hl 1 rfl) ?_
        refine my_iald hx hb hK hP 1 1 rfl rfl (by first | exact in_x (N := 36) (by decide) (by assumption) (by assumption) | exact in_y (N := 36) (by decide) (by assumption) (by assumption) | exact in_z (N := 36) (by decide) (by assumption) (by assumption)) rfl dX4_whoNotice_30 ?_
        refine lv_topi (fun x4 ex4 => ?_)
        subst hQF
        exact W.iret (v := x4) hx hb hr (fun t ht hW => ⟨⟨x4, (), rfl, trivial, trivial⟩, hS.F ht⟩) hS.2.2 dX4_whoNotice_31
      · skip
        refine lv_aload_n hx hb dX4_whoNotice_16 rfl (lv_at hl 0 rfl) ?_
        refine va_get (D := D) (ci := 4) (v := .ref a_sf) (C := RX4) (T := TX4) (N := 9) hx hb hts zi4_ hown hK hP 0 rfl rfl 5 (by decide) z2_ (fun _ h9 => h9) rfl dX4_whoNotice_17 ?_
        refine lv_iload_n hx hb dX4_whoNotice_20 rfl (lv_at hl 1 rfl) ?_
        refine my_iald hx hb hK hP 2 1 rfl rfl (by first | exact in_x (N := 36) (by decide) (by assumption) (by assumption) | exact in_y (N := 36) (by decide) (by assumption) (by assumption) | exact in_z (N := 36) (by decide) (by assumption) (by assumption)) rfl dX4_whoNotice_21 ?_
        refine lv_goto (tgt := 31) hx hb dX4_whoNotice_22 (by decide) ?_
        refine lv_topi (fun x5 ex5 => ?_)
        subst hQF
        exact W.iret (v := x5) hx hb hr (fun t ht hW => ⟨⟨x5, (), rfl, trivial, trivial⟩, hS.F ht⟩) hS.2.2 dX4_whoNotice_31
    · skip
      refine lv_iconst (v := 0) hx hb dX4_whoNotice_10 (by decide) ?_
      subst hQF
      exact W.iret (v := 0) hx hb hr (fun t ht hW => ⟨⟨0, (), rfl, trivial, trivial⟩, hS.F ht⟩) hS.2.2 dX4_whoNotice_11

set_option maxHeartbeats 4000000 in
set_option maxRecDepth 100000 in
theorem n_X4_kindOf (l : Launch) (D : va_G) (cy : Nat → ClassId) (a_pl : Nat) (a_de : Nat) (a_bl : Nat) (a_sc : Nat) (a_ne : Nat) (a_ab : Nat) (a_w : Nat) (a_g : Nat) (a_kd : Nat) (a_sb : Nat) (a_hb : Nat) (a_sf : Nat) (a_hf : Nat) (w_bound : Int32) (w_drowned : Int64) (g_wide : Int32) (g_high : Int32) (g_drown : Int32) (g_wind : Int32) (g_hedges : Int64) (g_fountains : Int64) (g_people : Int32) (g_tellings : Int32) (g_reports : Int32) (a_g_kinds : Nat) (a_g_squares : Nat) (a_g_voices : Nat) (a_g_tellers : Nat) (a_g_listeners : Nat) (a_g_witnesses : Nat) (a_g_claims : Nat) (g_kinds_f : Nat → Int32) (kd_f : Nat → Option Nat) (px : Int32) (sz : Nat) (hkd : ∀ k, k < 6 → ∃ y, kd_f k = some y ∧ (y = a_pl ∨ y = a_de ∨ y = a_bl ∨ y = a_sc ∨ y = a_ne ∨ y = a_ab)) : Met l yX4_kindOf wsX4_kindOf ({ frames := 2, cells := 0, slots := 0, locals := 42 }) (va_Pc [.ref a_w, .int px] (kPre D cy [(a_w, .inr (4, [.ref a_g, .ref a_pl, .ref a_kd, .ref a_sb, .ref a_hb, .ref a_sf, .ref a_hf, .int w_bound, .long w_drowned])), (a_g, .inr (3, [.int g_wide, .int g_high, .int g_drown, .int g_wind, .long g_hedges, .long g_fountains, .int g_people, .int g_tellings, .int g_reports, .ref a_g_kinds, .ref a_g_squares, .ref a_g_voices, .ref a_g_tellers, .ref a_g_listeners, .ref a_g_witnesses, .ref a_g_claims])), (a_g_kinds, .inl (cy 1, 5, .inl g_kinds_f)), (a_kd, .inl (cy 4, 6, .inr (.inr (.inr (.inr kd_f)))))] sz)) (va_Qr (fun (_ : Unit) => True) (fun (_ : Unit) (ra : Nat) (_ : State) => ra = a_pl ∨ ra = a_de ∨ ra = a_bl ∨ ra = a_sc ∨ ra = a_ne ∨ ra = a_ab) (fun q : Nat => sz ≤ q)) 0 0 (fun q : Nat => sz ≤ q) := by
  refine Met.ofW (cc := cX4_kindOf) (maxL := 3) (ret := (some (.object "HeardSeen$Person"))) (by decide) rfl ?_
  intro p e s m args below meth c s₁ B hml hv
  obtain ⟨rfl, hsz, hP, hKA, hD0⟩ := hv
  have hx := B.exec
  have hb := B.bytes
  have hr := B.returns
  have hts := atoms_spec (ws := wsX4_kindOf) B.pre
  have hown : s.vm.findClass RX4 = some m.cls := findClass_of_methodNamed B.named
  have hlocks := B.notSynchronized
  subst hsz
  have hK := hKA.1
  have hD := hD0
  generalize hAe : (fun q : Nat => s.heap.size ≤ q) = A
  have hA : ∀ q : Nat, s.heap.size ≤ q → A q := fun q h => by rw [← hAe]; exact h
  have hS : va_S A s.heap s.heap [] := va_S.rf
  have hP : va_P D vwCl [(a_w, .inr (4, [.ref a_g, .ref a_pl, .ref a_kd, .ref a_sb, .ref a_hb, .ref a_sf, .ref a_hf, .int w_bound, .long w_drowned])), (a_g, .inr (3, [.int g_wide, .int g_high, .int g_drown, .int g_wind, .long g_hedges, .long g_fountains, .int g_people, .int g_tellings, .int g_reports, .ref a_g_kinds, .ref a_g_squares, .ref a_g_voices, .ref a_g_tellers, .ref a_g_listeners, .ref a_g_witnesses, .ref a_g_claims])), (a_g_kinds, .inl (cy 1, 5, .inl g_kinds_f)), (a_kd, .inl (cy 4, 6, .inr (.inr (.inr (.inr kd_f)))))] s.heap := hP
  have hl := lv_entry ([.ref a_w, .int px]) (n := 3) (Nat.le_of_ble_eq_true rfl)
  rw [lg_entry_eq]
  generalize (lg_sl ([.ref a_w, .int px]) ++ List.replicate (3 - (lg_sl ([.ref a_w, .int px])).length) Slot.unset).toArray = ls at hl ⊢
  have hl : lv_has ls 3 [(0, .ref a_w), (1, .int px)] := hl
  refine qW (fun QF hQF => ?_)
  have z0_ := hts (.fieldLink RX4 35 "HeardSeen$Law" "g" "LHeardSeen$Garden;") (by decide +kernel)
  have zi4_ : ∀ w ∈ u_ws RX4 TX4 9, w ∈ wsX4_kindOf := by decide +kernel
  have z2_ := hts (.fieldLink RX4 12 "HeardSeen$Law" "plain" "LHeardSeen$Person;") (by decide +kernel)
  have z3_ := hts (.fieldLink RX4 18 "HeardSeen$Law" "kinds" "[LHeardSeen$Person;") (by decide +kernel)
  refine lv_aload_n hx hb dX4_kindOf_0 rfl (lv_at hl 0 rfl) ?_
  refine va_get (D := D) (ci := 4) (v := .ref a_g) (C := RX4) (T := TX4) (N := 9) hx hb hts zi4_ hown hK hP 0 rfl rfl 0 (by decide) z0_ (fun _ h9 => h9) rfl dX4_kindOf_1 ?_
  refine lv_iload_n hx hb dX4_kindOf_4 rfl (lv_at hl 1 rfl) ?_
  refine rd_i (va_runV (As := [.int px]) (rest := []) ⟨hx, hb, hml, hown, hts⟩ (n_X3_kindOf l D cy a_g g_wide g_high g_drown g_wind g_hedges g_fountains g_people g_tellings g_reports a_g_kinds a_g_squares a_g_voices a_g_tellers a_g_listeners a_g_witnesses a_g_claims g_kinds_f px _ ) (cwV 1 hts gX4_kindOf_X3_kindOf rfl rfl rfl (by decide +kernel) ⟨Nat.le_of_ble_eq_true rfl, Nat.le_of_ble_eq_true rfl⟩) (pV (ci := 3) (k := 0) hKA (hP.sub (ws' := [(a_g, .inr (3, [.int g_wide, .int g_high, .int g_drown, .int g_wind, .long g_hedges, .long g_fountains, .int g_people, .int g_tellings, .int g_reports, .ref a_g_kinds, .ref a_g_squares, .ref a_g_voices, .ref a_g_tellers, .ref a_g_listeners, .ref a_g_witnesses, .ref a_g_claims])), (a_g_kinds, .inl (cy 1, 5, .inl g_kinds_f))]) [1, 2] rfl) (hD.sub (ws' := [(a_g, .inr (3, [.int g_wide, .int g_high, .int g_drown, .int g_wind, .long g_hedges, .long g_fountains, .int g_people, .int g_tellings, .int g_reports, .ref a_g_kinds, .ref a_g_squares, .ref a_g_voices, .ref a_g_tellers, .ref a_g_listeners, .ref a_g_witnesses, .ref a_g_claims])), (a_g_kinds, .inl (cy 1, 5, .inl g_kinds_f))]) [1, 2] (by decide) rfl) rfl rfl) rfl rfl hl.1 rfl (lv_room (Nat.le_of_ble_eq_true rfl)) dX4_kindOf_5 ⟨Nat.le_of_ble_eq_true rfl, Nat.le_of_ble_eq_true rfl⟩) hP hS hA (fun r1 H locs hwr1 hP hS => ?_)
  refine lv_istore_n (lv' := [(2, .int r1), (0, .ref a_w), (1, .int px)]) hx hb dX4_kindOf_8 rfl hl (by decide) rfl (fun ls hl => ?_)
  refine lv_iload_n hx hb dX4_kindOf_9 rfl (lv_at hl 0 rfl) ?_
  refine lv_if_lt (tgt := 40) hx hb dX4_kindOf_10 (by decide) (fun c2 => ?_) (fun c2 => ?_)
  · skip
    refine lv_aload_n hx hb dX4_kindOf_40 rfl (lv_at hl 1 rfl) ?_
    refine va_get (D := D) (ci := 4) (v := .ref a_pl) (C := RX4) (T := TX4) (N := 9) hx hb hts zi4_ hown hK hP 0 rfl rfl 1 (by decide) z2_ (fun _ h9 => h9) rfl dX4_kindOf_41 ?_
    subst hQF
    exact W.aret (v := .ref a_pl) hx hb hr (Or.inl ⟨_, rfl⟩) (Or.inr ⟨_, rfl⟩) (fun t ht hW => ⟨⟨(), a_pl, rfl, trivial, (Or.inl rfl)⟩, hS.F ht⟩) hS.2.2 dX4_kindOf_44
  · skip
    refine lv_iload_n hx hb dX4_kindOf_13 rfl (lv_at hl 0 rfl) ?_
    refine lv_aload_n hx hb dX4_kindOf_14 rfl (lv_at hl 1 rfl) ?_
    refine va_get (D := D) (ci := 4) (v := .ref a_kd) (C := RX4) (T := TX4) (N := 9) hx hb hts zi4_ hown hK hP 0 rfl rfl 2 (by decide) z3_ (fun _ h9 => h9) rfl dX4_kindOf_15 ?_
    refine va_alen hx hb hK hP 3 4 rfl rfl (v := 6) rfl dX4_kindOf_18 ?_
    refine lv_icmp_ge (tgt := 40) hx hb dX4_kindOf_19 (by decide) (fun c3 => ?_) (fun c3 => ?_)
    · skip
      refine lv_aload_n hx hb dX4_kindOf_40 rfl (lv_at hl 1 rfl) ?_
      refine va_get (D := D) (ci := 4) (v := .ref a_pl) (C := RX4) (T := TX4) (N := 9) hx hb hts zi4_ hown hK hP 0 rfl rfl 1 (by decide) z2_ (fun _ h9 => h9) rfl dX4_kindOf_41 ?_
      subst hQF
      exact W.aret (v := .ref a_pl) hx hb hr (Or.inl ⟨_, rfl⟩) (Or.inr ⟨_, rfl⟩) (fun t ht hW => ⟨⟨(), a_pl, rfl, trivial, (Or.inl rfl)⟩, hS.F ht⟩) hS.2.2 dX4_kindOf_44
    · skip
      refine lv_aload_n hx hb dX4_kindOf_22 rfl (lv_at hl 1 rfl) ?_
      refine va_get (D := D) (ci := 4) (v := .ref a_kd) (C := RX4) (T := TX4) (N := 9) hx hb hts zi4_ hown hK hP 0 rfl rfl 2 (by decide) z3_ (fun _ h9 => h9) rfl dX4_kindOf_23 ?_
      refine lv_iload_n hx hb dX4_kindOf_26 rfl (lv_at hl 0 rfl) ?_
      refine my_aldq hx hb hK hP 3 4 rfl rfl (by first | exact in_x (N := 6) (by decide) (by assumption) (by assumption) | exact in_y (N := 6) (by decide) (by assumption) (by assumption) | exact in_z (N := 6) (by decide) (by assumption) (by assumption)) rfl dX4_kindOf_27 ?_
      obtain ⟨y4, hy5, hm6⟩ := hkd _ (in_lt (in_x (N := 6) (n := 6) (by decide) (by assumption) (by assumption)))
      rw [hy5]
      refine W.eq (g2 := F0 m 28 ls [.ref y4]) rfl ?_
      refine lv_ifnull hx hb dX4_kindOf_28 ?_
      refine lv_aload_n hx hb dX4_kindOf_31 rfl (lv_at hl 1 rfl) ?_
      refine va_get (D := D) (ci := 4) (v := .ref a_kd) (C := RX4) (T := TX4) (N := 9) hx hb hts zi4_ hown hK hP 0 rfl rfl 2 (by decide) z3_ (fun _ h9 => h9) rfl dX4_kindOf_32 ?_
      refine lv_iload_n hx hb dX4_kindOf_35 rfl (lv_at hl 0 rfl) ?_
      refine my_aldq hx hb hK hP 3 4 rfl rfl (by first | exact in_x (N := 6) (by decide) (by assumption) (by assumption) | exact in_y (N := 6) (by decide) (by assumption) (by assumption) | exact in_z (N := 6) (by decide) (by assumption) (by assumption)) rfl dX4_kindOf_36 ?_
      obtain ⟨y7, hy8, hm9⟩ := hkd _ (in_lt (in_x (N := 6) (n := 6) (by decide) (by assumption) (by assumption)))
      rw [hy8]
      refine W.eq (g2 := F0 m 37 ls [.ref y7]) rfl ?_
      refine lv_goto (tgt := 44) hx hb dX4_kindOf_37 (by decide) ?_
      subst hQF
      exact W.aret (v := .ref y7) hx hb hr (Or.inl ⟨_, rfl⟩) (Or.inr ⟨_, rfl⟩) (fun t ht hW => ⟨⟨(), y7, rfl, trivial, hm9⟩, hS.F ht⟩) hS.2.2 dX4_kindOf_44

set_option maxHeartbeats 4000000 in
set_option maxRecDepth 100000 in
theorem n_X4_mark (l : Launch) (D : va_G) (cy : Nat → ClassId) (a_row : Nat) (row_f : Nat → Int32) (py : Int32) (pz : Int32) (pt : Int32) (sz : Nat)  : Met l yX4_mark wsX4_mark ({ frames := 0, cells := 0, slots := 0, locals := 0 }) (va_Pc [.ref a_row, .int py, .int pz, .int pt] (kPre D cy [(a_row, .inl (cy 1, 5, .inl row_f))] sz)) (va_Qv (fun (u : (Nat → Int32)) => True) (fun (u : (Nat → Int32)) t => va_P D vwCl ([(a_row, .inl (cy 1, 5, .inl u))]) t.heap ∧ va_D (va_A [(a_row, .inl (cy 1, 5, .inl row_f))] sz) ([(a_row, .inl (cy 1, 5, .inl u))])) (va_A [(a_row, .inl (cy 1, 5, .inl row_f))] sz)) 0 0 (va_A [(a_row, .inl (cy 1, 5, .inl row_f))] sz) := by
  refine Met.ofW (cc := cX4_mark) (maxL := 4) (ret := none) (by decide) rfl ?_
  intro p e s m args below meth c s₁ B hml hv
  obtain ⟨rfl, hsz, hP, hKA, hD0⟩ := hv
  have hx := B.exec
  have hb := B.bytes
  have hr := B.returns
  have hts := atoms_spec (ws := wsX4_mark) B.pre
  have hown : s.vm.findClass RX4 = some m.cls := findClass_of_methodNamed B.named
  have hlocks := B.notSynchronized
  subst hsz
  have hK := hKA.1
  have hD := hD0.self (sz := s.heap.size)
  generalize hAe : va_A [(a_row, .inl (cy 1, 5, .inl row_f))] s.heap.size = A at hD ⊢
  have hA : ∀ q : Nat, s.heap.size ≤ q → A q := fun q h => by rw [← hAe]; exact Or.inr h
  have hS : va_S A s.heap s.heap [] := va_S.rf
  have hP : va_P D vwCl [(a_row, .inl (cy 1, 5, .inl row_f))] s.heap := hP
  have hl := lv_entry ([.ref a_row, .int py, .int pz, .int pt]) (n := 4) (Nat.le_of_ble_eq_true rfl)
  rw [lg_entry_eq]
  generalize (lg_sl ([.ref a_row, .int py, .int pz, .int pt]) ++ List.replicate (4 - (lg_sl ([.ref a_row, .int py, .int pz, .int pt])).length) Slot.unset).toArray = ls at hl ⊢
  have hl : lv_has ls 4 [(0, .ref a_row), (1, .int py), (2, .int pz), (3, .int pt)] := hl
  refine qW (fun QF hQF => ?_)
  refine lv_iload_n hx hb dX4_mark_0 rfl (lv_at hl 1 rfl) ?_
  refine lv_if_lt (tgt := 36) hx hb dX4_mark_1 (by decide) (fun c1 => ?_) (fun c1 => ?_)
  · skip
    subst hQF
    have hP9 := hP
    have hD9 := hD
    exact W.vret hx hb hr (fun t ht hW => ⟨⟨row_f, rfl, trivial, by rw [ht]; exact hP9, hD9⟩, hS.F ht⟩) hS.2.2 dX4_mark_36
  · skip
    refine lv_iload_n hx hb dX4_mark_4 rfl (lv_at hl 1 rfl) ?_
    refine lv_aload_n hx hb dX4_mark_5 rfl (lv_at hl 0 rfl) ?_
    refine va_alen hx hb hK hP 0 1 rfl rfl (v := 5) rfl dX4_mark_6 ?_
    refine lv_icmp_ge (tgt := 36) hx hb dX4_mark_7 (by decide) (fun c2 => ?_) (fun c2 => ?_)
    · skip
      subst hQF
      have hP9 := hP
      have hD9 := hD
      exact W.vret hx hb hr (fun t ht hW => ⟨⟨row_f, rfl, trivial, by rw [ht]; exact hP9, hD9⟩, hS.F ht⟩) hS.2.2 dX4_mark_36
    · skip
      refine lv_aload_n hx hb dX4_mark_10 rfl (lv_at hl 0 rfl) ?_
      refine lv_iload_n hx hb dX4_mark_11 rfl (lv_at hl 1 rfl) ?_
      refine lv_iload_n hx hb dX4_mark_12 rfl (lv_at hl 3 rfl) ?_
      refine lv_if_eq (tgt := 26) hx hb dX4_mark_13 (by decide) (fun c3 => ?_) (fun c3 => ?_)
      · skip
        refine lv_aload_n hx hb dX4_mark_26 rfl (lv_at hl 0 rfl) ?_
        refine lv_iload_n hx hb dX4_mark_27 rfl (lv_at hl 1 rfl) ?_
        refine my_iald hx hb hK hP 0 1 rfl rfl (by first | exact in_x (N := 5) (by decide) (by assumption) (by assumption) | exact in_y (N := 5) (by decide) (by assumption) (by assumption) | exact in_z (N := 5) (by decide) (by assumption) (by assumption)) rfl dX4_mark_28 ?_
        refine lv_iconst (v := 1) hx hb dX4_mark_29 (by decide) ?_
        refine lv_iload_n hx hb dX4_mark_30 rfl (lv_at hl 2 rfl) ?_
        refine lv_ishl hx hb dX4_mark_31 ?_
        refine lv_iconst (v := (-1)) hx hb dX4_mark_32 (by decide) ?_
        refine lv_ixor hx hb dX4_mark_33 ?_
        refine lv_iand hx hb dX4_mark_34 ?_
        refine lv_topi (fun x4 ex4 => ?_)
        refine my_iast hx hb hK hP hD hS 0 1 rfl rfl (by first | exact in_x (N := 5) (by decide) (by assumption) (by assumption) | exact in_y (N := 5) (by decide) (by assumption) (by assumption) | exact in_z (N := 5) (by decide) (by assumption) (by assumption)) rfl dX4_mark_35 (fun H locs hP hD hS => ?_)
        have hP : va_P D vwCl [(a_row, .inl (cy 1, 5, .inl (upd row_f (py : Int32).toNatClampNeg x4)))] H := hP
        have hD : va_D A [(a_row, .inl (cy 1, 5, .inl (upd row_f (py : Int32).toNatClampNeg x4)))] := hD
        subst hQF
        have hP9 := hP
        have hD9 := hD
        exact W.vret hx hb hr (fun t ht hW => ⟨⟨(upd row_f (py : Int32).toNatClampNeg x4), rfl, trivial, by rw [ht]; exact hP9, hD9⟩, hS.F ht⟩) hS.2.2 dX4_mark_36
      · skip
        refine lv_aload_n hx hb dX4_mark_16 rfl (lv_at hl 0 rfl) ?_
        refine lv_iload_n hx hb dX4_mark_17 rfl (lv_at hl 1 rfl) ?_
        refine my_iald hx hb hK hP 0 1 rfl rfl (by first | exact in_x (N := 5) (by decide) (by assumption) (by assumption) | exact in_y (N := 5) (by decide) (by assumption) (by assumption) | exact in_z (N := 5) (by decide) (by assumption) (by assumption)) rfl dX4_mark_18 ?_
        refine lv_iconst (v := 1) hx hb dX4_mark_19 (by decide) ?_
        refine lv_iload_n hx hb dX4_mark_20 rfl (lv_at hl 2 rfl) ?_
        refine lv_ishl hx hb dX4_mark_21 ?_
        refine lv_ior hx hb dX4_mark_22 ?_
        refine lv_goto (tgt := 35) hx hb dX4_mark_23 (by decide) ?_
        refine lv_topi (fun x5 ex5 => ?_)
        refine my_iast hx hb hK hP hD hS 0 1 rfl rfl (by first | exact in_x (N := 5) (by decide) (by assumption) (by assumption) | exact in_y (N := 5) (by decide) (by assumption) (by assumption) | exact in_z (N := 5) (by decide) (by assumption) (by assumption)) rfl dX4_mark_35 (fun H locs hP hD hS => ?_)
        have hP : va_P D vwCl [(a_row, .inl (cy 1, 5, .inl (upd row_f (py : Int32).toNatClampNeg x5)))] H := hP
        have hD : va_D A [(a_row, .inl (cy 1, 5, .inl (upd row_f (py : Int32).toNatClampNeg x5)))] := hD
        subst hQF
        have hP9 := hP
        have hD9 := hD
        exact W.vret hx hb hr (fun t ht hW => ⟨⟨(upd row_f (py : Int32).toNatClampNeg x5), rfl, trivial, by rw [ht]; exact hP9, hD9⟩, hS.F ht⟩) hS.2.2 dX4_mark_36

set_option maxHeartbeats 4000000 in
set_option maxRecDepth 100000 in
theorem n_X4_maySpeak (l : Launch) (D : va_G) (cy : Nat → ClassId) (a_w : Nat) (a_g : Nat) (a_pl : Nat) (a_kd : Nat) (a_sb : Nat) (a_hb : Nat) (a_sf : Nat) (a_hf : Nat) (w_bound : Int32) (w_drowned : Int64) (sb_f : Nat → Int32) (hb_f : Nat → Int32) (px : Int32) (sz : Nat)  : Met l yX4_maySpeak wsX4_maySpeak ({ frames := 1, cells := 0, slots := 0, locals := 21 }) (va_Pc [.ref a_w, .int px] (kPre D cy [(a_w, .inr (4, [.ref a_g, .ref a_pl, .ref a_kd, .ref a_sb, .ref a_hb, .ref a_sf, .ref a_hf, .int w_bound, .long w_drowned])), (a_sb, .inl (cy 1, 5, .inl sb_f)), (a_hb, .inl (cy 1, 5, .inl hb_f))] sz)) (va_Qi (fun (r : Int32) (u : Unit) => (r = 1 ∧ True) ∨ (r = 0 ∧ True)) (fun _ _ => True) (fun q : Nat => sz ≤ q)) 0 0 (fun q : Nat => sz ≤ q) := by
  refine Met.ofW (cc := cX4_maySpeak) (maxL := 2) (ret := (some .boolean)) (by decide) rfl ?_
  intro p e s m args below meth c s₁ B hml hv
  obtain ⟨rfl, hsz, hP, hKA, hD0⟩ := hv
  have hx := B.exec
  have hb := B.bytes
  have hr := B.returns
  have hts := atoms_spec (ws := wsX4_maySpeak) B.pre
  have hown : s.vm.findClass RX4 = some m.cls := findClass_of_methodNamed B.named
  have hlocks := B.notSynchronized
  subst hsz
  have hK := hKA.1
  have hD := hD0
  generalize hAe : (fun q : Nat => s.heap.size ≤ q) = A
  have hA : ∀ q : Nat, s.heap.size ≤ q → A q := fun q h => by rw [← hAe]; exact h
  have hS : va_S A s.heap s.heap [] := va_S.rf
  have hP : va_P D vwCl [(a_w, .inr (4, [.ref a_g, .ref a_pl, .ref a_kd, .ref a_sb, .ref a_hb, .ref a_sf, .ref a_hf, .int w_bound, .long w_drowned])), (a_sb, .inl (cy 1, 5, .inl sb_f)), (a_hb, .inl (cy 1, 5, .inl hb_f))] s.heap := hP
  have hl := lv_entry ([.ref a_w, .int px]) (n := 2) (Nat.le_of_ble_eq_true rfl)
  rw [lg_entry_eq]
  generalize (lg_sl ([.ref a_w, .int px]) ++ List.replicate (2 - (lg_sl ([.ref a_w, .int px])).length) Slot.unset).toArray = ls at hl ⊢
  have hl : lv_has ls 2 [(0, .ref a_w), (1, .int px)] := hl
  refine qW (fun QF hQF => ?_)
  have z0_ := hts (.fieldLink RX4 64 "HeardSeen$Law" "bound" "I") (by decide +kernel)
  have zi4_ : ∀ w ∈ u_ws RX4 TX4 9, w ∈ wsX4_maySpeak := by decide +kernel
  refine lv_aload_n hx hb dX4_maySpeak_0 rfl (lv_at hl 0 rfl) ?_
  refine lv_iload_n hx hb dX4_maySpeak_1 rfl (lv_at hl 1 rfl) ?_
  refine rd_i (va_runV (As := [.int px]) (rest := []) ⟨hx, hb, hml, hown, hts⟩ (n_X4_whoSee l D cy a_w a_g a_pl a_kd a_sb a_hb a_sf a_hf w_bound w_drowned sb_f px _ ) (cwV 1 hts gX4_maySpeak_X4_whoSee rfl rfl rfl (by decide +kernel) ⟨Nat.le_of_ble_eq_true rfl, Nat.le_of_ble_eq_true rfl⟩) (pV (ci := 4) (k := 0) hKA (hP.sub (ws' := [(a_w, .inr (4, [.ref a_g, .ref a_pl, .ref a_kd, .ref a_sb, .ref a_hb, .ref a_sf, .ref a_hf, .int w_bound, .long w_drowned])), (a_sb, .inl (cy 1, 5, .inl sb_f))]) [0, 1] rfl) (hD.sub (ws' := [(a_w, .inr (4, [.ref a_g, .ref a_pl, .ref a_kd, .ref a_sb, .ref a_hb, .ref a_sf, .ref a_hf, .int w_bound, .long w_drowned])), (a_sb, .inl (cy 1, 5, .inl sb_f))]) [0, 1] (by decide) rfl) rfl rfl) rfl rfl hl.1 rfl (lv_room (Nat.le_of_ble_eq_true rfl)) dX4_maySpeak_2 ⟨Nat.le_of_ble_eq_true rfl, Nat.le_of_ble_eq_true rfl⟩) hP hS hA (fun r1 H locs hwr1 hP hS => ?_)
  refine lv_aload_n hx hb dX4_maySpeak_5 rfl (lv_at hl 0 rfl) ?_
  refine lv_iload_n hx hb dX4_maySpeak_6 rfl (lv_at hl 1 rfl) ?_
  refine rd_i (va_runV (As := [.int px]) (rest := [.int r1]) ⟨hx, hb, hml, hown, hts⟩ (n_X4_whoHear l D cy a_w a_g a_pl a_kd a_sb a_hb a_sf a_hf w_bound w_drowned hb_f px _ ) (cwV 1 hts gX4_maySpeak_X4_whoHear rfl rfl rfl (by decide +kernel) ⟨Nat.le_of_ble_eq_true rfl, Nat.le_of_ble_eq_true rfl⟩) (pV (ci := 4) (k := 0) hKA (hP.sub (ws' := [(a_w, .inr (4, [.ref a_g, .ref a_pl, .ref a_kd, .ref a_sb, .ref a_hb, .ref a_sf, .ref a_hf, .int w_bound, .long w_drowned])), (a_hb, .inl (cy 1, 5, .inl hb_f))]) [0, 2] rfl) (hD.sub (ws' := [(a_w, .inr (4, [.ref a_g, .ref a_pl, .ref a_kd, .ref a_sb, .ref a_hb, .ref a_sf, .ref a_hf, .int w_bound, .long w_drowned])), (a_hb, .inl (cy 1, 5, .inl hb_f))]) [0, 2] (by decide) rfl) rfl rfl) rfl rfl hl.1 rfl (lv_room (Nat.le_of_ble_eq_true rfl)) dX4_maySpeak_7 ⟨Nat.le_of_ble_eq_true rfl, Nat.le_of_ble_eq_true rfl⟩) hP hS hA (fun r2 H locs hwr2 hP hS => ?_)
  refine lv_iand hx hb dX4_maySpeak_10 ?_
  refine lv_aload_n hx hb dX4_maySpeak_11 rfl (lv_at hl 0 rfl) ?_
  refine va_get (D := D) (ci := 4) (v := .int w_bound) (C := RX4) (T := TX4) (N := 9) hx hb hts zi4_ hown hK hP 0 rfl rfl 7 (by decide) z0_ (fun _ h9 => h9) rfl dX4_maySpeak_12 ?_
  refine lv_iand hx hb dX4_maySpeak_15 ?_
  refine lv_if_ne (tgt := 23) hx hb dX4_maySpeak_16 (by decide) (fun c3 => ?_) (fun c3 => ?_)
  · skip
    refine lv_iconst (v := 0) hx hb dX4_maySpeak_23 (by decide) ?_
    subst hQF
    exact W.zret (v := 0) hx hb hr rfl (fun t ht hW => ⟨⟨0, (), rfl, (Or.inr ⟨rfl, trivial⟩), trivial⟩, hS.F ht⟩) hS.2.2 dX4_maySpeak_24
  · skip
    refine lv_iconst (v := 1) hx hb dX4_maySpeak_19 (by decide) ?_
    refine lv_goto (tgt := 24) hx hb dX4_maySpeak_20 (by decide) ?_
    subst hQF
    exact W.zret (v := 1) hx hb hr rfl (fun t ht hW => ⟨⟨1, (), rfl, (Or.inl ⟨rfl, trivial⟩), trivial⟩, hS.F ht⟩) hS.2.2 dX4_maySpeak_24

set_option maxHeartbeats 4000000 in
set_option maxRecDepth 100000 in
theorem n_X4_mayMask (l : Launch) (D : va_G) (cy : Nat → ClassId) (a_w : Nat) (a_g : Nat) (a_pl : Nat) (a_kd : Nat) (a_sb : Nat) (a_hb : Nat) (a_sf : Nat) (a_hf : Nat) (w_bound : Int32) (w_drowned : Int64) (g_wide : Int32) (g_high : Int32) (g_drown : Int32) (g_wind : Int32) (g_hedges : Int64) (g_fountains : Int64) (g_people : Int32) (g_tellings : Int32) (g_reports : Int32) (a_g_kinds : Nat) (a_g_squares : Nat) (a_g_voices : Nat) (a_g_tellers : Nat) (a_g_listeners : Nat) (a_g_witnesses : Nat) (a_g_claims : Nat) (sb_f : Nat → Int32) (hb_f : Nat → Int32) (sz : Nat)  : Met l yX4_mayMask wsX4_mayMask ({ frames := 2, cells := 0, slots := 0, locals := 42 }) (va_Pc [.ref a_w] (kPre D cy [(a_w, .inr (4, [.ref a_g, .ref a_pl, .ref a_kd, .ref a_sb, .ref a_hb, .ref a_sf, .ref a_hf, .int w_bound, .long w_drowned])), (a_g, .inr (3, [.int g_wide, .int g_high, .int g_drown, .int g_wind, .long g_hedges, .long g_fountains, .int g_people, .int g_tellings, .int g_reports, .ref a_g_kinds, .ref a_g_squares, .ref a_g_voices, .ref a_g_tellers, .ref a_g_listeners, .ref a_g_witnesses, .ref a_g_claims])), (a_sb, .inl (cy 1, 5, .inl sb_f)), (a_hb, .inl (cy 1, 5, .inl hb_f))] sz)) (va_Qi (fun (r : Int32) (u : Unit) => True) (fun _ _ => True) (fun q : Nat => sz ≤ q)) 0 0 (fun q : Nat => sz ≤ q) := by
  refine Met.ofW (cc := cX4_mayMask) (maxL := 3) (ret := (some .int)) (by decide) rfl ?_
  intro p e s m args below meth c s₁ B hml hv
  obtain ⟨rfl, hsz, hP, hKA, hD0⟩ := hv
  have hx := B.exec
  have hb := B.bytes
  have hr := B.returns
  have hts := atoms_spec (ws := wsX4_mayMask) B.pre
  have hown : s.vm.findClass RX4 = some m.cls := findClass_of_methodNamed B.named
  have hlocks := B.notSynchronized
  subst hsz
  have hK := hKA.1
  have hD := hD0
  generalize hAe : (fun q : Nat => s.heap.size ≤ q) = A
  have hA : ∀ q : Nat, s.heap.size ≤ q → A q := fun q h => by rw [← hAe]; exact h
  have hS : va_S A s.heap s.heap [] := va_S.rf
  have hP : va_P D vwCl [(a_w, .inr (4, [.ref a_g, .ref a_pl, .ref a_kd, .ref a_sb, .ref a_hb, .ref a_sf, .ref a_hf, .int w_bound, .long w_drowned])), (a_g, .inr (3, [.int g_wide, .int g_high, .int g_drown, .int g_wind, .long g_hedges, .long g_fountains, .int g_people, .int g_tellings, .int g_reports, .ref a_g_kinds, .ref a_g_squares, .ref a_g_voices, .ref a_g_tellers, .ref a_g_listeners, .ref a_g_witnesses, .ref a_g_claims])), (a_sb, .inl (cy 1, 5, .inl sb_f)), (a_hb, .inl (cy 1, 5, .inl hb_f))] s.heap := hP
  have hl := lv_entry ([.ref a_w]) (n := 3) (Nat.le_of_ble_eq_true rfl)
  rw [lg_entry_eq]
  generalize (lg_sl ([.ref a_w]) ++ List.replicate (3 - (lg_sl ([.ref a_w])).length) Slot.unset).toArray = ls at hl ⊢
  have hl : lv_has ls 3 [(0, .ref a_w)] := hl
  refine qW (fun QF hQF => ?_)
  have z0_ := hts (.fieldLink RX4 35 "HeardSeen$Law" "g" "LHeardSeen$Garden;") (by decide +kernel)
  have zi4_ : ∀ w ∈ u_ws RX4 TX4 9, w ∈ wsX4_mayMask := by decide +kernel
  have z2_ := hts (.fieldLink RX4 68 "HeardSeen$Garden" "people" "I") (by decide +kernel)
  have zi3_ : ∀ w ∈ u_ws RX3 TX3 16, w ∈ wsX4_mayMask := by decide +kernel
  refine lv_iconst (v := 0) hx hb dX4_mayMask_0 (by decide) ?_
  refine lv_istore_n (lv' := [(1, .int 0), (0, .ref a_w)]) hx hb dX4_mayMask_1 rfl hl (by decide) rfl (fun ls hl => ?_)
  refine lv_iconst (v := 0) hx hb dX4_mayMask_2 (by decide) ?_
  refine lv_istore_n (lv' := [(2, .int 0), (1, .int 0), (0, .ref a_w)]) hx hb dX4_mayMask_3 rfl hl (by decide) rfl (fun ls hl => ?_)
  have lp4 : ∀ (n4 : Nat) (v2_4 : Nat) (v1_4 : Int32) (hv2_4 : v2_4 < 2147483648), 2147483648 - v2_4 < n4 → ∀ (H : Heap) (locs : List Loc), va_P D vwCl [(a_w, .inr (4, [.ref a_g, .ref a_pl, .ref a_kd, .ref a_sb, .ref a_hb, .ref a_sf, .ref a_hf, .int w_bound, .long w_drowned])), (a_g, .inr (3, [.int g_wide, .int g_high, .int g_drown, .int g_wind, .long g_hedges, .long g_fountains, .int g_people, .int g_tellings, .int g_reports, .ref a_g_kinds, .ref a_g_squares, .ref a_g_voices, .ref a_g_tellers, .ref a_g_listeners, .ref a_g_witnesses, .ref a_g_claims])), (a_sb, .inl (cy 1, 5, .inl sb_f)), (a_hb, .inl (cy 1, 5, .inl hb_f))] H → va_D (fun _ => True) [(a_w, .inr (4, [.ref a_g, .ref a_pl, .ref a_kd, .ref a_sb, .ref a_hb, .ref a_sf, .ref a_hf, .int w_bound, .long w_drowned])), (a_g, .inr (3, [.int g_wide, .int g_high, .int g_drown, .int g_wind, .long g_hedges, .long g_fountains, .int g_people, .int g_tellings, .int g_reports, .ref a_g_kinds, .ref a_g_squares, .ref a_g_voices, .ref a_g_tellers, .ref a_g_listeners, .ref a_g_witnesses, .ref a_g_claims])), (a_sb, .inl (cy 1, 5, .inl sb_f)), (a_hb, .inl (cy 1, 5, .inl hb_f))] → va_S A s.heap H locs → ∀ ls : Array Slot, lv_has ls 3 [(2, .int (nI v2_4)), (1, .int v1_4), (0, .ref a_w)] → W p l e (headSpec wsX4_mayMask ({ frames := 2, cells := 0, slots := 0, locals := 42 })).room s m [.ref a_w].toArray below meth c H locs 0 0 QF (F0 m 4 ls []) := by
    intro n4
    induction n4 with
    | zero => intro v2_4 v1_4 hv2_4 hm; exact absurd hm (Nat.not_lt_zero _)
    | succ n4 ih4 =>
      intro v2_4 v1_4 hv2_4 hm4 H locs hP hD hS ls hl
      refine lv_iload_n hx hb dX4_mayMask_4 rfl (lv_at hl 0 rfl) ?_
      refine lv_aload_n hx hb dX4_mayMask_5 rfl (lv_at hl 2 rfl) ?_
      refine va_get (D := D) (ci := 4) (v := .ref a_g) (C := RX4) (T := TX4) (N := 9) hx hb hts zi4_ hown hK hP 0 rfl rfl 0 (by decide) z0_ (fun _ h9 => h9) rfl dX4_mayMask_6 ?_
      refine va_get (D := D) (ci := 3) (v := .int g_people) (C := RX3) (T := TX3) (N := 16) hx hb hts zi3_ hown hK hP 1 rfl rfl 6 (by decide) z2_ (fun _ h9 => h9) rfl dX4_mayMask_9 ?_
      refine lv_icmp_ge (tgt := 35) hx hb dX4_mayMask_12 (by decide) (fun c1 => ?_) (fun c1 => ?_)
      · skip
        refine lv_iload_n hx hb dX4_mayMask_35 rfl (lv_at hl 1 rfl) ?_
        subst hQF
        exact W.iret (v := v1_4) hx hb hr (fun t ht hW => ⟨⟨v1_4, (), rfl, trivial, trivial⟩, hS.F ht⟩) hS.2.2 dX4_mayMask_36
      · skip
        refine lv_aload_n hx hb dX4_mayMask_15 rfl (lv_at hl 2 rfl) ?_
        refine lv_iload_n hx hb dX4_mayMask_16 rfl (lv_at hl 0 rfl) ?_
        refine rd_i (va_runV (As := [.int (nI v2_4)]) (rest := []) ⟨hx, hb, hml, hown, hts⟩ (n_X4_maySpeak l D cy a_w a_g a_pl a_kd a_sb a_hb a_sf a_hf w_bound w_drowned sb_f hb_f (nI v2_4) _ ) (cwV 1 hts gX4_mayMask_X4_maySpeak rfl rfl rfl (by decide +kernel) ⟨Nat.le_of_ble_eq_true rfl, Nat.le_of_ble_eq_true rfl⟩) (pV (ci := 4) (k := 0) hKA (hP.sub (ws' := [(a_w, .inr (4, [.ref a_g, .ref a_pl, .ref a_kd, .ref a_sb, .ref a_hb, .ref a_sf, .ref a_hf, .int w_bound, .long w_drowned])), (a_sb, .inl (cy 1, 5, .inl sb_f)), (a_hb, .inl (cy 1, 5, .inl hb_f))]) [0, 2, 3] rfl) (hD.sub (ws' := [(a_w, .inr (4, [.ref a_g, .ref a_pl, .ref a_kd, .ref a_sb, .ref a_hb, .ref a_sf, .ref a_hf, .int w_bound, .long w_drowned])), (a_sb, .inl (cy 1, 5, .inl sb_f)), (a_hb, .inl (cy 1, 5, .inl hb_f))]) [0, 2, 3] (by decide) rfl) rfl rfl) rfl rfl hl.1 rfl (lv_room (Nat.le_of_ble_eq_true rfl)) dX4_mayMask_17 ⟨Nat.le_of_ble_eq_true rfl, Nat.le_of_ble_eq_true rfl⟩) hP hS hA (fun r2 H locs hwr2 hP hS => ?_)
        have hwr2 : (r2 = 1 ∧ True) ∨ (r2 = 0 ∧ True) := hwr2
        refine lv_if_eq (tgt := 29) hx hb dX4_mayMask_20 (by decide) (fun c3 => ?_) (fun c3 => ?_)
        · skip
          refine lv_iinc (v := nI (v2_4 + 1)) (lv' := [(2, .int (nI (v2_4 + 1))), (1, .int v1_4), (0, .ref a_w)]) hx hb dX4_mayMask_29 hl (k := 0) rfl (nI_1 _) (by decide) rfl (fun ls hl => ?_)
          refine lv_goto (tgt := 4) hx hb dX4_mayMask_32 (by decide) ?_
          exact ih4 (v2_4 + 1) v1_4 (by first | omega | exact nlt_max hv2_4 (by assumption)) (by first | omega | (have := nlt_max hv2_4 (by assumption); omega)) _ _ hP hD hS ls hl
        · skip
          refine lv_iload_n hx hb dX4_mayMask_23 rfl (lv_at hl 1 rfl) ?_
          refine lv_iconst (v := 1) hx hb dX4_mayMask_24 (by decide) ?_
          refine lv_iload_n hx hb dX4_mayMask_25 rfl (lv_at hl 0 rfl) ?_
          refine lv_ishl hx hb dX4_mayMask_26 ?_
          refine lv_ior hx hb dX4_mayMask_27 ?_
          refine lv_topi (fun x4 ex4 => ?_)
          refine lv_istore_n (lv' := [(1, .int x4), (2, .int (nI v2_4)), (0, .ref a_w)]) hx hb dX4_mayMask_28 rfl hl (by decide) rfl (fun ls hl => ?_)
          refine lv_iinc (v := nI (v2_4 + 1)) (lv' := [(2, .int (nI (v2_4 + 1))), (1, .int x4), (0, .ref a_w)]) hx hb dX4_mayMask_29 hl (k := 1) rfl (nI_1 _) (by decide) rfl (fun ls hl => ?_)
          refine lv_goto (tgt := 4) hx hb dX4_mayMask_32 (by decide) ?_
          exact ih4 (v2_4 + 1) x4 (by first | omega | exact nlt_max hv2_4 (by assumption)) (by first | omega | (have := nlt_max hv2_4 (by assumption); omega)) _ _ hP hD hS ls hl
  exact lp4 (2147483648 - 0 + 1) 0 0 (by first | omega | exact nlt_max (by assumption) (by assumption)) (Nat.lt_succ_self _) _ _ hP hD hS ls hl

set_option maxHeartbeats 4000000 in
set_option maxRecDepth 100000 in
theorem n_X4_firstBreach (l : Launch) (D : va_G) (cy : Nat → ClassId) (a_w : Nat) (a_g : Nat) (a_pl : Nat) (a_kd : Nat) (a_sb : Nat) (a_hb : Nat) (a_sf : Nat) (a_hf : Nat) (w_bound : Int32) (w_drowned : Int64) (g_wide : Int32) (g_high : Int32) (g_drown : Int32) (g_wind : Int32) (g_hedges : Int64) (g_fountains : Int64) (g_people : Int32) (g_tellings : Int32) (g_reports : Int32) (a_g_kinds : Nat) (a_g_squares : Nat) (a_g_voices : Nat) (a_g_tellers : Nat) (a_g_listeners : Nat) (a_g_witnesses : Nat) (a_g_claims : Nat) (sb_f : Nat → Int32) (hb_f : Nat → Int32) (px : Int32) (sz : Nat)  : Met l yX4_firstBreach wsX4_firstBreach ({ frames := 1, cells := 0, slots := 0, locals := 21 }) (va_Pc [.ref a_w, .int px] (kPre D cy [(a_w, .inr (4, [.ref a_g, .ref a_pl, .ref a_kd, .ref a_sb, .ref a_hb, .ref a_sf, .ref a_hf, .int w_bound, .long w_drowned])), (a_g, .inr (3, [.int g_wide, .int g_high, .int g_drown, .int g_wind, .long g_hedges, .long g_fountains, .int g_people, .int g_tellings, .int g_reports, .ref a_g_kinds, .ref a_g_squares, .ref a_g_voices, .ref a_g_tellers, .ref a_g_listeners, .ref a_g_witnesses, .ref a_g_claims])), (a_sb, .inl (cy 1, 5, .inl sb_f)), (a_hb, .inl (cy 1, 5, .inl hb_f))] sz)) (va_Qi (fun (r : Int32) (u : Unit) => True) (fun _ _ => True) (fun q : Nat => sz ≤ q)) 0 0 (fun q : Nat => sz ≤ q) := by
  refine Met.ofW (cc := cX4_firstBreach) (maxL := 4) (ret := (some .int)) (by decide) rfl ?_
  intro p e s m args below meth c s₁ B hml hv
  obtain ⟨rfl, hsz, hP, hKA, hD0⟩ := hv
  have hx := B.exec
  have hb := B.bytes
  have hr := B.returns
  have hts := atoms_spec (ws := wsX4_firstBreach) B.pre
  have hown : s.vm.findClass RX4 = some m.cls := findClass_of_methodNamed B.named
  have hlocks := B.notSynchronized
  subst hsz
  have hK := hKA.1
  have hD := hD0
  generalize hAe : (fun q : Nat => s.heap.size ≤ q) = A
  have hA : ∀ q : Nat, s.heap.size ≤ q → A q := fun q h => by rw [← hAe]; exact h
  have hS : va_S A s.heap s.heap [] := va_S.rf
  have hP : va_P D vwCl [(a_w, .inr (4, [.ref a_g, .ref a_pl, .ref a_kd, .ref a_sb, .ref a_hb, .ref a_sf, .ref a_hf, .int w_bound, .long w_drowned])), (a_g, .inr (3, [.int g_wide, .int g_high, .int g_drown, .int g_wind, .long g_hedges, .long g_fountains, .int g_people, .int g_tellings, .int g_reports, .ref a_g_kinds, .ref a_g_squares, .ref a_g_voices, .ref a_g_tellers, .ref a_g_listeners, .ref a_g_witnesses, .ref a_g_claims])), (a_sb, .inl (cy 1, 5, .inl sb_f)), (a_hb, .inl (cy 1, 5, .inl hb_f))] s.heap := hP
  have hl := lv_entry ([.ref a_w, .int px]) (n := 4) (Nat.le_of_ble_eq_true rfl)
  rw [lg_entry_eq]
  generalize (lg_sl ([.ref a_w, .int px]) ++ List.replicate (4 - (lg_sl ([.ref a_w, .int px])).length) Slot.unset).toArray = ls at hl ⊢
  have hl : lv_has ls 4 [(0, .ref a_w), (1, .int px)] := hl
  refine qW (fun QF hQF => ?_)
  have z0_ := hts (.fieldLink RX4 35 "HeardSeen$Law" "g" "LHeardSeen$Garden;") (by decide +kernel)
  have zi4_ : ∀ w ∈ u_ws RX4 TX4 9, w ∈ wsX4_firstBreach := by decide +kernel
  have z2_ := hts (.fieldLink RX4 68 "HeardSeen$Garden" "people" "I") (by decide +kernel)
  have zi3_ : ∀ w ∈ u_ws RX3 TX3 16, w ∈ wsX4_firstBreach := by decide +kernel
  have z4_ := hts (.initialized RX10) (by decide +kernel)
  have z5_ := hts (.static yX10_isIn) (by decide +kernel)
  have z6_ := hts (.fieldLink RX4 64 "HeardSeen$Law" "bound" "I") (by decide +kernel)
  refine lv_iconst (v := 0) hx hb dX4_firstBreach_0 (by decide) ?_
  refine lv_istore_n (lv' := [(2, .int 0), (0, .ref a_w), (1, .int px)]) hx hb dX4_firstBreach_1 rfl hl (by decide) rfl (fun ls hl => ?_)
  have lp2 : ∀ (n2 : Nat) (v2_2 : Nat) (hv2_2 : v2_2 < 2147483648), 2147483648 - v2_2 < n2 → ∀ (H : Heap) (locs : List Loc), va_P D vwCl [(a_w, .inr (4, [.ref a_g, .ref a_pl, .ref a_kd, .ref a_sb, .ref a_hb, .ref a_sf, .ref a_hf, .int w_bound, .long w_drowned])), (a_g, .inr (3, [.int g_wide, .int g_high, .int g_drown, .int g_wind, .long g_hedges, .long g_fountains, .int g_people, .int g_tellings, .int g_reports, .ref a_g_kinds, .ref a_g_squares, .ref a_g_voices, .ref a_g_tellers, .ref a_g_listeners, .ref a_g_witnesses, .ref a_g_claims])), (a_sb, .inl (cy 1, 5, .inl sb_f)), (a_hb, .inl (cy 1, 5, .inl hb_f))] H → va_D (fun _ => True) [(a_w, .inr (4, [.ref a_g, .ref a_pl, .ref a_kd, .ref a_sb, .ref a_hb, .ref a_sf, .ref a_hf, .int w_bound, .long w_drowned])), (a_g, .inr (3, [.int g_wide, .int g_high, .int g_drown, .int g_wind, .long g_hedges, .long g_fountains, .int g_people, .int g_tellings, .int g_reports, .ref a_g_kinds, .ref a_g_squares, .ref a_g_voices, .ref a_g_tellers, .ref a_g_listeners, .ref a_g_witnesses, .ref a_g_claims])), (a_sb, .inl (cy 1, 5, .inl sb_f)), (a_hb, .inl (cy 1, 5, .inl hb_f))] → va_S A s.heap H locs → ∀ ls : Array Slot, lv_has ls 4 [(2, .int (nI v2_2)), (0, .ref a_w), (1, .int px)] → W p l e (headSpec wsX4_firstBreach ({ frames := 1, cells := 0, slots := 0, locals := 21 })).room s m [.ref a_w, .int px].toArray below meth c H locs 0 0 QF (F0 m 2 ls []) := by
    intro n2
    induction n2 with
    | zero => intro v2_2 hv2_2 hm; exact absurd hm (Nat.not_lt_zero _)
    | succ n2 ih2 =>
      intro v2_2 hv2_2 hm2 H locs hP hD hS ls hl
      refine lv_iload_n hx hb dX4_firstBreach_2 rfl (lv_at hl 0 rfl) ?_
      refine lv_aload_n hx hb dX4_firstBreach_3 rfl (lv_at hl 1 rfl) ?_
      refine va_get (D := D) (ci := 4) (v := .ref a_g) (C := RX4) (T := TX4) (N := 9) hx hb hts zi4_ hown hK hP 0 rfl rfl 0 (by decide) z0_ (fun _ h9 => h9) rfl dX4_firstBreach_4 ?_
      refine va_get (D := D) (ci := 3) (v := .int g_people) (C := RX3) (T := TX3) (N := 16) hx hb hts zi3_ hown hK hP 1 rfl rfl 6 (by decide) z2_ (fun _ h9 => h9) rfl dX4_firstBreach_7 ?_
      refine lv_icmp_ge (tgt := 76) hx hb dX4_firstBreach_10 (by decide) (fun c1 => ?_) (fun c1 => ?_)
      · skip
        refine lv_iconst (v := (-1)) hx hb dX4_firstBreach_76 (by decide) ?_
        subst hQF
        exact W.iret (v := (-1)) hx hb hr (fun t ht hW => ⟨⟨(-1), (), rfl, trivial, trivial⟩, hS.F ht⟩) hS.2.2 dX4_firstBreach_77
      · skip
        refine lv_iconst (v := 0) hx hb dX4_firstBreach_13 (by decide) ?_
        refine lv_istore_n (lv' := [(3, .int 0), (2, .int (nI v2_2)), (0, .ref a_w), (1, .int px)]) hx hb dX4_firstBreach_14 rfl hl (by decide) rfl (fun ls hl => ?_)
        have lp15 : ∀ (n15 : Nat) (v3_15 : Nat) (hv3_15 : v3_15 < 2147483648), 2147483648 - v3_15 < n15 → ∀ (H : Heap) (locs : List Loc), va_P D vwCl [(a_w, .inr (4, [.ref a_g, .ref a_pl, .ref a_kd, .ref a_sb, .ref a_hb, .ref a_sf, .ref a_hf, .int w_bound, .long w_drowned])), (a_g, .inr (3, [.int g_wide, .int g_high, .int g_drown, .int g_wind, .long g_hedges, .long g_fountains, .int g_people, .int g_tellings, .int g_reports, .ref a_g_kinds, .ref a_g_squares, .ref a_g_voices, .ref a_g_tellers, .ref a_g_listeners, .ref a_g_witnesses, .ref a_g_claims])), (a_sb, .inl (cy 1, 5, .inl sb_f)), (a_hb, .inl (cy 1, 5, .inl hb_f))] H → va_D (fun _ => True) [(a_w, .inr (4, [.ref a_g, .ref a_pl, .ref a_kd, .ref a_sb, .ref a_hb, .ref a_sf, .ref a_hf, .int w_bound, .long w_drowned])), (a_g, .inr (3, [.int g_wide, .int g_high, .int g_drown, .int g_wind, .long g_hedges, .long g_fountains, .int g_people, .int g_tellings, .int g_reports, .ref a_g_kinds, .ref a_g_squares, .ref a_g_voices, .ref a_g_tellers, .ref a_g_listeners, .ref a_g_witnesses, .ref a_g_claims])), (a_sb, .inl (cy 1, 5, .inl sb_f)), (a_hb, .inl (cy 1, 5, .inl hb_f))] → va_S A s.heap H locs → ∀ ls : Array Slot, lv_has ls 4 [(3, .int (nI v3_15)), (2, .int (nI v2_2)), (0, .ref a_w), (1, .int px)] → W p l e (headSpec wsX4_firstBreach ({ frames := 1, cells := 0, slots := 0, locals := 21 })).room s m [.ref a_w, .int px].toArray below meth c H locs 0 0 QF (F0 m 15 ls []) := by
          intro n15
          induction n15 with
          | zero => intro v3_15 hv3_15 hm; exact absurd hm (Nat.not_lt_zero _)
          | succ n15 ih15 =>
            intro v3_15 hv3_15 hm15 H locs hP hD hS ls hl
            refine lv_iload_n hx hb dX4_firstBreach_15 rfl (lv_at hl 0 rfl) ?_
            refine lv_aload_n hx hb dX4_firstBreach_16 rfl (lv_at hl 2 rfl) ?_
            refine va_get (D := D) (ci := 4) (v := .ref a_g) (C := RX4) (T := TX4) (N := 9) hx hb hts zi4_ hown hK hP 0 rfl rfl 0 (by decide) z0_ (fun _ h9 => h9) rfl dX4_firstBreach_17 ?_
            refine va_get (D := D) (ci := 3) (v := .int g_people) (C := RX3) (T := TX3) (N := 16) hx hb hts zi3_ hown hK hP 1 rfl rfl 6 (by decide) z2_ (fun _ h9 => h9) rfl dX4_firstBreach_20 ?_
            refine lv_icmp_ge (tgt := 70) hx hb dX4_firstBreach_23 (by decide) (fun c2 => ?_) (fun c2 => ?_)
            · skip
              refine lv_iinc (v := nI (v2_2 + 1)) (lv' := [(2, .int (nI (v2_2 + 1))), (3, .int (nI v3_15)), (0, .ref a_w), (1, .int px)]) hx hb dX4_firstBreach_70 hl (k := 1) rfl (nI_1 _) (by decide) rfl (fun ls hl => ?_)
              refine lv_goto (tgt := 2) hx hb dX4_firstBreach_73 (by decide) ?_
              exact ih2 (v2_2 + 1) (by first | omega | exact nlt_max hv2_2 (by assumption)) (by first | omega | (have := nlt_max hv2_2 (by assumption); omega)) _ _ hP hD hS ls (lv_sub hl [0, 2, 3] rfl)
            · skip
              refine lv_iload_n hx hb dX4_firstBreach_26 rfl (lv_at hl 3 rfl) ?_
              refine lv_iload_n hx hb dX4_firstBreach_27 rfl (lv_at hl 0 rfl) ?_
              refine rd_i (va_runSN (As := [.int px, .int (nI v3_15)]) (rest := []) ⟨hx, hb, hml, hown, hts⟩ (n_X10_isIn l D cy px (nI v3_15) _ ) ⟨(va_cnB 2 hts gX4_firstBreach_X10_isIn_n126 rfl rfl rfl (hKA.2 (.methodLinkNest RX4 126 yX10_isIn RX10) (by decide +kernel)) z4_ (by decide +kernel) ⟨Nat.le_of_ble_eq_true rfl, Nat.le_of_ble_eq_true rfl⟩), z5_, trivial⟩ (pS hKA pE (dE (A := A))) rfl rfl hl.1 rfl (lv_room (Nat.le_of_ble_eq_true rfl)) dX4_firstBreach_28 ⟨Nat.le_of_ble_eq_true rfl, Nat.le_of_ble_eq_true rfl⟩) hP hS hA (fun r3 H locs hwr3 hP hS => ?_)
              have hwr3 : (r3 = 1 ∧ True) ∨ (r3 = 0 ∧ True) := hwr3
              refine lv_if_eq (tgt := 64) hx hb dX4_firstBreach_31 (by decide) (fun c4 => ?_) (fun c4 => ?_)
              · skip
                refine lv_iinc (v := nI (v3_15 + 1)) (lv' := [(3, .int (nI (v3_15 + 1))), (2, .int (nI v2_2)), (0, .ref a_w), (1, .int px)]) hx hb dX4_firstBreach_64 hl (k := 0) rfl (nI_1 _) (by decide) rfl (fun ls hl => ?_)
                refine lv_goto (tgt := 15) hx hb dX4_firstBreach_67 (by decide) ?_
                exact ih15 (v3_15 + 1) (by first | omega | exact nlt_max hv3_15 (by assumption)) (by first | omega | (have := nlt_max hv3_15 (by assumption); omega)) _ _ hP hD hS ls hl
              · skip
                refine lv_aload_n hx hb dX4_firstBreach_34 rfl (lv_at hl 2 rfl) ?_
                refine lv_iload_n hx hb dX4_firstBreach_35 rfl (lv_at hl 0 rfl) ?_
                refine rd_i (va_runV (As := [.int (nI v3_15)]) (rest := []) ⟨hx, hb, hml, hown, hts⟩ (n_X4_whoSee l D cy a_w a_g a_pl a_kd a_sb a_hb a_sf a_hf w_bound w_drowned sb_f (nI v3_15) _ ) (cwV 1 hts gX4_firstBreach_X4_whoSee rfl rfl rfl (by decide +kernel) ⟨Nat.le_of_ble_eq_true rfl, Nat.le_of_ble_eq_true rfl⟩) (pV (ci := 4) (k := 0) hKA (hP.sub (ws' := [(a_w, .inr (4, [.ref a_g, .ref a_pl, .ref a_kd, .ref a_sb, .ref a_hb, .ref a_sf, .ref a_hf, .int w_bound, .long w_drowned])), (a_sb, .inl (cy 1, 5, .inl sb_f))]) [0, 2] rfl) (hD.sub (ws' := [(a_w, .inr (4, [.ref a_g, .ref a_pl, .ref a_kd, .ref a_sb, .ref a_hb, .ref a_sf, .ref a_hf, .int w_bound, .long w_drowned])), (a_sb, .inl (cy 1, 5, .inl sb_f))]) [0, 2] (by decide) rfl) rfl rfl) rfl rfl hl.1 rfl (lv_room (Nat.le_of_ble_eq_true rfl)) dX4_firstBreach_36 ⟨Nat.le_of_ble_eq_true rfl, Nat.le_of_ble_eq_true rfl⟩) hP hS hA (fun r5 H locs hwr5 hP hS => ?_)
                refine lv_aload_n hx hb dX4_firstBreach_39 rfl (lv_at hl 2 rfl) ?_
                refine lv_iload_n hx hb dX4_firstBreach_40 rfl (lv_at hl 0 rfl) ?_
                refine rd_i (va_runV (As := [.int (nI v3_15)]) (rest := [.int r5]) ⟨hx, hb, hml, hown, hts⟩ (n_X4_whoHear l D cy a_w a_g a_pl a_kd a_sb a_hb a_sf a_hf w_bound w_drowned hb_f (nI v3_15) _ ) (cwV 1 hts gX4_firstBreach_X4_whoHear rfl rfl rfl (by decide +kernel) ⟨Nat.le_of_ble_eq_true rfl, Nat.le_of_ble_eq_true rfl⟩) (pV (ci := 4) (k := 0) hKA (hP.sub (ws' := [(a_w, .inr (4, [.ref a_g, .ref a_pl, .ref a_kd, .ref a_sb, .ref a_hb, .ref a_sf, .ref a_hf, .int w_bound, .long w_drowned])), (a_hb, .inl (cy 1, 5, .inl hb_f))]) [0, 3] rfl) (hD.sub (ws' := [(a_w, .inr (4, [.ref a_g, .ref a_pl, .ref a_kd, .ref a_sb, .ref a_hb, .ref a_sf, .ref a_hf, .int w_bound, .long w_drowned])), (a_hb, .inl (cy 1, 5, .inl hb_f))]) [0, 3] (by decide) rfl) rfl rfl) rfl rfl hl.1 rfl (lv_room (Nat.le_of_ble_eq_true rfl)) dX4_firstBreach_41 ⟨Nat.le_of_ble_eq_true rfl, Nat.le_of_ble_eq_true rfl⟩) hP hS hA (fun r6 H locs hwr6 hP hS => ?_)
                refine lv_iand hx hb dX4_firstBreach_44 ?_
                refine lv_aload_n hx hb dX4_firstBreach_45 rfl (lv_at hl 2 rfl) ?_
                refine va_get (D := D) (ci := 4) (v := .int w_bound) (C := RX4) (T := TX4) (N := 9) hx hb hts zi4_ hown hK hP 0 rfl rfl 7 (by decide) z6_ (fun _ h9 => h9) rfl dX4_firstBreach_46 ?_
                refine lv_iand hx hb dX4_firstBreach_49 ?_
                refine lv_iload_n hx hb dX4_firstBreach_50 rfl (lv_at hl 1 rfl) ?_
                refine rd_i (va_runSN (As := [.int ((r5 &&& r6) &&& w_bound), .int (nI v2_2)]) (rest := []) ⟨hx, hb, hml, hown, hts⟩ (n_X10_isIn l D cy ((r5 &&& r6) &&& w_bound) (nI v2_2) _ ) ⟨(va_cnB 2 hts gX4_firstBreach_X10_isIn_n126 rfl rfl rfl (hKA.2 (.methodLinkNest RX4 126 yX10_isIn RX10) (by decide +kernel)) z4_ (by decide +kernel) ⟨Nat.le_of_ble_eq_true rfl, Nat.le_of_ble_eq_true rfl⟩), z5_, trivial⟩ (pS hKA pE (dE (A := A))) rfl rfl hl.1 rfl (lv_room (Nat.le_of_ble_eq_true rfl)) dX4_firstBreach_51 ⟨Nat.le_of_ble_eq_true rfl, Nat.le_of_ble_eq_true rfl⟩) hP hS hA (fun r7 H locs hwr7 hP hS => ?_)
                have hwr7 : (r7 = 1 ∧ True) ∨ (r7 = 0 ∧ True) := hwr7
                refine lv_if_eq (tgt := 64) hx hb dX4_firstBreach_54 (by decide) (fun c8 => ?_) (fun c8 => ?_)
                · skip
                  refine lv_iinc (v := nI (v3_15 + 1)) (lv' := [(3, .int (nI (v3_15 + 1))), (2, .int (nI v2_2)), (0, .ref a_w), (1, .int px)]) hx hb dX4_firstBreach_64 hl (k := 0) rfl (nI_1 _) (by decide) rfl (fun ls hl => ?_)
                  refine lv_goto (tgt := 15) hx hb dX4_firstBreach_67 (by decide) ?_
                  exact ih15 (v3_15 + 1) (by first | omega | exact nlt_max hv3_15 (by assumption)) (by first | omega | (have := nlt_max hv3_15 (by assumption); omega)) _ _ hP hD hS ls hl
                · skip
                  refine lv_bipush (v := 10) hx hb dX4_firstBreach_57 (by decide) ?_
                  refine lv_iload_n hx hb dX4_firstBreach_59 rfl (lv_at hl 1 rfl) ?_
                  refine lv_imul hx hb dX4_firstBreach_60 ?_
                  refine lv_topi (fun x9 ex9 => ?_)
                  obtain rfl : x9 = nI (10 * v2_2) := by rw [ex9]; exact pk_mul _ _
                  refine lv_iload_n hx hb dX4_firstBreach_61 rfl (lv_at hl 0 rfl) ?_
                  refine lv_iadd hx hb dX4_firstBreach_62 ?_
                  refine lv_topi (fun x10 ex10 => ?_)
                  obtain rfl : x10 = nI ((10 * v2_2) + v3_15) := by rw [ex10]; exact nI_add _ _
                  subst hQF
                  exact W.iret (v := nI ((10 * v2_2) + v3_15)) hx hb hr (fun t ht hW => ⟨⟨nI ((10 * v2_2) + v3_15), (), rfl, trivial, trivial⟩, hS.F ht⟩) hS.2.2 dX4_firstBreach_63
        exact lp15 (2147483648 - 0 + 1) 0 (by first | omega | exact nlt_max (by assumption) (by assumption)) (Nat.lt_succ_self _) _ _ hP hD hS ls hl
  exact lp2 (2147483648 - 0 + 1) 0 (by first | omega | exact nlt_max (by assumption) (by assumption)) (Nat.lt_succ_self _) _ _ hP hD hS ls hl

set_option maxHeartbeats 4000000 in
set_option maxRecDepth 100000 in
theorem n_X4_isAllTold (l : Launch) (D : va_G) (cy : Nat → ClassId) (a_w : Nat) (a_g : Nat) (a_pl : Nat) (a_kd : Nat) (a_sb : Nat) (a_hb : Nat) (a_sf : Nat) (a_hf : Nat) (w_bound : Int32) (w_drowned : Int64) (g_wide : Int32) (g_high : Int32) (g_drown : Int32) (g_wind : Int32) (g_hedges : Int64) (g_fountains : Int64) (g_people : Int32) (g_tellings : Int32) (g_reports : Int32) (a_g_kinds : Nat) (a_g_squares : Nat) (a_g_voices : Nat) (a_g_tellers : Nat) (a_g_listeners : Nat) (a_g_witnesses : Nat) (a_g_claims : Nat) (g_tellers_f : Nat → Int32) (hb_f : Nat → Int32) (sb_f : Nat → Int32) (g_listeners_f : Nat → Int32) (px : Int32) (sz : Nat)  : Met l yX4_isAllTold wsX4_isAllTold ({ frames := 2, cells := 0, slots := 0, locals := 42 }) (va_Pc [.ref a_w, .int px] (kPre D cy [(a_w, .inr (4, [.ref a_g, .ref a_pl, .ref a_kd, .ref a_sb, .ref a_hb, .ref a_sf, .ref a_hf, .int w_bound, .long w_drowned])), (a_g, .inr (3, [.int g_wide, .int g_high, .int g_drown, .int g_wind, .long g_hedges, .long g_fountains, .int g_people, .int g_tellings, .int g_reports, .ref a_g_kinds, .ref a_g_squares, .ref a_g_voices, .ref a_g_tellers, .ref a_g_listeners, .ref a_g_witnesses, .ref a_g_claims])), (a_g_tellers, .inl (cy 1, 6, .inl g_tellers_f)), (a_hb, .inl (cy 1, 5, .inl hb_f)), (a_sb, .inl (cy 1, 5, .inl sb_f)), (a_g_listeners, .inl (cy 1, 6, .inl g_listeners_f))] sz)) (va_Qi (fun (r : Int32) (u : Unit) => (r = 1 ∧ True) ∨ (r = 0 ∧ True)) (fun _ _ => True) (fun q : Nat => sz ≤ q)) 0 0 (fun q : Nat => sz ≤ q) := by
  refine Met.ofW (cc := cX4_isAllTold) (maxL := 5) (ret := (some .boolean)) (by decide) rfl ?_
  intro p e s m args below meth c s₁ B hml hv
  obtain ⟨rfl, hsz, hP, hKA, hD0⟩ := hv
  have hx := B.exec
  have hb := B.bytes
  have hr := B.returns
  have hts := atoms_spec (ws := wsX4_isAllTold) B.pre
  have hown : s.vm.findClass RX4 = some m.cls := findClass_of_methodNamed B.named
  have hlocks := B.notSynchronized
  subst hsz
  have hK := hKA.1
  have hD := hD0
  generalize hAe : (fun q : Nat => s.heap.size ≤ q) = A
  have hA : ∀ q : Nat, s.heap.size ≤ q → A q := fun q h => by rw [← hAe]; exact h
  have hS : va_S A s.heap s.heap [] := va_S.rf
  have hP : va_P D vwCl [(a_w, .inr (4, [.ref a_g, .ref a_pl, .ref a_kd, .ref a_sb, .ref a_hb, .ref a_sf, .ref a_hf, .int w_bound, .long w_drowned])), (a_g, .inr (3, [.int g_wide, .int g_high, .int g_drown, .int g_wind, .long g_hedges, .long g_fountains, .int g_people, .int g_tellings, .int g_reports, .ref a_g_kinds, .ref a_g_squares, .ref a_g_voices, .ref a_g_tellers, .ref a_g_listeners, .ref a_g_witnesses, .ref a_g_claims])), (a_g_tellers, .inl (cy 1, 6, .inl g_tellers_f)), (a_hb, .inl (cy 1, 5, .inl hb_f)), (a_sb, .inl (cy 1, 5, .inl sb_f)), (a_g_listeners, .inl (cy 1, 6, .inl g_listeners_f))] s.heap := hP
  have hl := lv_entry ([.ref a_w, .int px]) (n := 5) (Nat.le_of_ble_eq_true rfl)
  rw [lg_entry_eq]
  generalize (lg_sl ([.ref a_w, .int px]) ++ List.replicate (5 - (lg_sl ([.ref a_w, .int px])).length) Slot.unset).toArray = ls at hl ⊢
  have hl : lv_has ls 5 [(0, .ref a_w), (1, .int px)] := hl
  refine qW (fun QF hQF => ?_)
  have z0_ := hts (.fieldLink RX4 35 "HeardSeen$Law" "g" "LHeardSeen$Garden;") (by decide +kernel)
  have zi4_ : ∀ w ∈ u_ws RX4 TX4 9, w ∈ wsX4_isAllTold := by decide +kernel
  have z2_ := hts (.fieldLink RX4 129 "HeardSeen$Garden" "tellings" "I") (by decide +kernel)
  have zi3_ : ∀ w ∈ u_ws RX3 TX3 16, w ∈ wsX4_isAllTold := by decide +kernel
  have z4_ := hts (.fieldLink RX4 132 "HeardSeen$Garden" "tellers" "[I") (by decide +kernel)
  have z5_ := hts (.fieldLink RX4 135 "HeardSeen$Garden" "listeners" "[I") (by decide +kernel)
  have z6_ := hts (.initialized RX10) (by decide +kernel)
  have z7_ := hts (.static yX10_isIn) (by decide +kernel)
  refine lv_iconst (v := 0) hx hb dX4_isAllTold_0 (by decide) ?_
  refine lv_istore_n (lv' := [(2, .int 0), (0, .ref a_w), (1, .int px)]) hx hb dX4_isAllTold_1 rfl hl (by decide) rfl (fun ls hl => ?_)
  have lp2 : ∀ (n2 : Nat) (v2_2 : Nat) (hv2_2 : v2_2 < 2147483648), 2147483648 - v2_2 < n2 → ∀ (H : Heap) (locs : List Loc), va_P D vwCl [(a_w, .inr (4, [.ref a_g, .ref a_pl, .ref a_kd, .ref a_sb, .ref a_hb, .ref a_sf, .ref a_hf, .int w_bound, .long w_drowned])), (a_g, .inr (3, [.int g_wide, .int g_high, .int g_drown, .int g_wind, .long g_hedges, .long g_fountains, .int g_people, .int g_tellings, .int g_reports, .ref a_g_kinds, .ref a_g_squares, .ref a_g_voices, .ref a_g_tellers, .ref a_g_listeners, .ref a_g_witnesses, .ref a_g_claims])), (a_g_tellers, .inl (cy 1, 6, .inl g_tellers_f)), (a_hb, .inl (cy 1, 5, .inl hb_f)), (a_sb, .inl (cy 1, 5, .inl sb_f)), (a_g_listeners, .inl (cy 1, 6, .inl g_listeners_f))] H → va_D (fun _ => True) [(a_w, .inr (4, [.ref a_g, .ref a_pl, .ref a_kd, .ref a_sb, .ref a_hb, .ref a_sf, .ref a_hf, .int w_bound, .long w_drowned])), (a_g, .inr (3, [.int g_wide, .int g_high, .int g_drown, .int g_wind, .long g_hedges, .long g_fountains, .int g_people, .int g_tellings, .int g_reports, .ref a_g_kinds, .ref a_g_squares, .ref a_g_voices, .ref a_g_tellers, .ref a_g_listeners, .ref a_g_witnesses, .ref a_g_claims])), (a_g_tellers, .inl (cy 1, 6, .inl g_tellers_f)), (a_hb, .inl (cy 1, 5, .inl hb_f)), (a_sb, .inl (cy 1, 5, .inl sb_f)), (a_g_listeners, .inl (cy 1, 6, .inl g_listeners_f))] → va_S A s.heap H locs → ∀ ls : Array Slot, lv_has ls 5 [(2, .int (nI v2_2)), (0, .ref a_w), (1, .int px)] → W p l e (headSpec wsX4_isAllTold ({ frames := 2, cells := 0, slots := 0, locals := 42 })).room s m [.ref a_w, .int px].toArray below meth c H locs 0 0 QF (F0 m 2 ls []) := by
    intro n2
    induction n2 with
    | zero => intro v2_2 hv2_2 hm; exact absurd hm (Nat.not_lt_zero _)
    | succ n2 ih2 =>
      intro v2_2 hv2_2 hm2 H locs hP hD hS ls hl
      refine lv_iload_n hx hb dX4_isAllTold_2 rfl (lv_at hl 0 rfl) ?_
      refine lv_aload_n hx hb dX4_isAllTold_3 rfl (lv_at hl 1 rfl) ?_
      refine va_get (D := D) (ci := 4) (v := .ref a_g) (C := RX4) (T := TX4) (N := 9) hx hb hts zi4_ hown hK hP 0 rfl rfl 0 (by decide) z0_ (fun _ h9 => h9) rfl dX4_isAllTold_4 ?_
      refine va_get (D := D) (ci := 3) (v := .int g_tellings) (C := RX3) (T := TX3) (N := 16) hx hb hts zi3_ hown hK hP 1 rfl rfl 7 (by decide) z2_ (fun _ h9 => h9) rfl dX4_isAllTold_7 ?_
      refine lv_icmp_ge (tgt := 76) hx hb dX4_isAllTold_10 (by decide) (fun c1 => ?_) (fun c1 => ?_)
      · skip
        refine lv_iconst (v := 1) hx hb dX4_isAllTold_76 (by decide) ?_
        subst hQF
        exact W.zret (v := 1) hx hb hr rfl (fun t ht hW => ⟨⟨1, (), rfl, (Or.inl ⟨rfl, trivial⟩), trivial⟩, hS.F ht⟩) hS.2.2 dX4_isAllTold_77
      · skip
        refine lv_iload_n hx hb dX4_isAllTold_13 rfl (lv_at hl 0 rfl) ?_
        refine lv_bipush (v := 6) hx hb dX4_isAllTold_14 (by decide) ?_
        refine lv_icmp_ge (tgt := 76) hx hb dX4_isAllTold_16 (by decide) (fun c2 => ?_) (fun c2 => ?_)
        · skip
          refine lv_iconst (v := 1) hx hb dX4_isAllTold_76 (by decide) ?_
          subst hQF
          exact W.zret (v := 1) hx hb hr rfl (fun t ht hW => ⟨⟨1, (), rfl, (Or.inl ⟨rfl, trivial⟩), trivial⟩, hS.F ht⟩) hS.2.2 dX4_isAllTold_77
        · skip
          refine lv_aload_n hx hb dX4_isAllTold_19 rfl (lv_at hl 1 rfl) ?_
          refine va_get (D := D) (ci := 4) (v := .ref a_g) (C := RX4) (T := TX4) (N := 9) hx hb hts zi4_ hown hK hP 0 rfl rfl 0 (by decide) z0_ (fun _ h9 => h9) rfl dX4_isAllTold_20 ?_
          refine va_get (D := D) (ci := 3) (v := .ref a_g_tellers) (C := RX3) (T := TX3) (N := 16) hx hb hts zi3_ hown hK hP 1 rfl rfl 12 (by decide) z4_ (fun _ h9 => h9) rfl dX4_isAllTold_23 ?_
          refine lv_iload_n hx hb dX4_isAllTold_26 rfl (lv_at hl 0 rfl) ?_
          refine my_iald hx hb hK hP 2 1 rfl rfl (by first | exact in_ge (N := 6) (by decide) (by omega) (by assumption) | exact vp_in_nI (by omega) (by omega)) (nI_clamp (by omega)) dX4_isAllTold_27 ?_
          refine lv_topi (fun x3 ex3 => ?_)
          refine lv_istore_n (lv' := [(3, .int x3), (2, .int (nI v2_2)), (0, .ref a_w), (1, .int px)]) hx hb dX4_isAllTold_28 rfl hl (by decide) rfl (fun ls hl => ?_)
          refine lv_aload_n hx hb dX4_isAllTold_29 rfl (lv_at hl 2 rfl) ?_
          refine lv_iload_n hx hb dX4_isAllTold_30 rfl (lv_at hl 0 rfl) ?_
          refine rd_i (va_runV (As := [.int x3]) (rest := []) ⟨hx, hb, hml, hown, hts⟩ (n_X4_whoHear l D cy a_w a_g a_pl a_kd a_sb a_hb a_sf a_hf w_bound w_drowned hb_f x3 _ ) (cwV 1 hts gX4_isAllTold_X4_whoHear rfl rfl rfl (by decide +kernel) ⟨Nat.le_of_ble_eq_true rfl, Nat.le_of_ble_eq_true rfl⟩) (pV (ci := 4) (k := 0) hKA (hP.sub (ws' := [(a_w, .inr (4, [.ref a_g, .ref a_pl, .ref a_kd, .ref a_sb, .ref a_hb, .ref a_sf, .ref a_hf, .int w_bound, .long w_drowned])), (a_hb, .inl (cy 1, 5, .inl hb_f))]) [0, 3] rfl) (hD.sub (ws' := [(a_w, .inr (4, [.ref a_g, .ref a_pl, .ref a_kd, .ref a_sb, .ref a_hb, .ref a_sf, .ref a_hf, .int w_bound, .long w_drowned])), (a_hb, .inl (cy 1, 5, .inl hb_f))]) [0, 3] (by decide) rfl) rfl rfl) rfl rfl hl.1 rfl (lv_room (Nat.le_of_ble_eq_true rfl)) dX4_isAllTold_31 ⟨Nat.le_of_ble_eq_true rfl, Nat.le_of_ble_eq_true rfl⟩) hP hS hA (fun r4 H locs hwr4 hP hS => ?_)
          refine lv_istore (lv' := [(4, .int r4), (3, .int x3), (2, .int (nI v2_2)), (0, .ref a_w), (1, .int px)]) hx hb dX4_isAllTold_34 hl (by decide) rfl (fun ls hl => ?_)
          refine lv_aload_n hx hb dX4_isAllTold_36 rfl (lv_at hl 3 rfl) ?_
          refine lv_iload_n hx hb dX4_isAllTold_37 rfl (lv_at hl 1 rfl) ?_
          refine rd_i (va_runV (As := [.int x3]) (rest := []) ⟨hx, hb, hml, hown, hts⟩ (n_X4_maySpeak l D cy a_w a_g a_pl a_kd a_sb a_hb a_sf a_hf w_bound w_drowned sb_f hb_f x3 _ ) (cwV 1 hts gX4_isAllTold_X4_maySpeak rfl rfl rfl (by decide +kernel) ⟨Nat.le_of_ble_eq_true rfl, Nat.le_of_ble_eq_true rfl⟩) (pV (ci := 4) (k := 0) hKA (hP.sub (ws' := [(a_w, .inr (4, [.ref a_g, .ref a_pl, .ref a_kd, .ref a_sb, .ref a_hb, .ref a_sf, .ref a_hf, .int w_bound, .long w_drowned])), (a_sb, .inl (cy 1, 5, .inl sb_f)), (a_hb, .inl (cy 1, 5, .inl hb_f))]) [0, 4, 3] rfl) (hD.sub (ws' := [(a_w, .inr (4, [.ref a_g, .ref a_pl, .ref a_kd, .ref a_sb, .ref a_hb, .ref a_sf, .ref a_hf, .int w_bound, .long w_drowned])), (a_sb, .inl (cy 1, 5, .inl sb_f)), (a_hb, .inl (cy 1, 5, .inl hb_f))]) [0, 4, 3] (by decide) rfl) rfl rfl) rfl rfl hl.1 rfl (lv_room (Nat.le_of_ble_eq_true rfl)) dX4_isAllTold_38 ⟨Nat.le_of_ble_eq_true rfl, Nat.le_of_ble_eq_true rfl⟩) hP hS hA (fun r5 H locs hwr5 hP hS => ?_)
          have hwr5 : (r5 = 1 ∧ True) ∨ (r5 = 0 ∧ True) := hwr5
          refine lv_if_eq (tgt := 68) hx hb dX4_isAllTold_41 (by decide) (fun c6 => ?_) (fun c6 => ?_)
          · skip
            refine lv_iconst (v := 0) hx hb dX4_isAllTold_68 (by decide) ?_
            subst hQF
            exact W.zret (v := 0) hx hb hr rfl (fun t ht hW => ⟨⟨0, (), rfl, (Or.inr ⟨rfl, trivial⟩), trivial⟩, hS.F ht⟩) hS.2.2 dX4_isAllTold_69
          · skip
            refine lv_iload hx hb dX4_isAllTold_44 (lv_at hl 0 rfl) ?_
            refine lv_aload_n hx hb dX4_isAllTold_46 rfl (lv_at hl 3 rfl) ?_
            refine va_get (D := D) (ci := 4) (v := .ref a_g) (C := RX4) (T := TX4) (N := 9) hx hb hts zi4_ hown hK hP 0 rfl rfl 0 (by decide) z0_ (fun _ h9 => h9) rfl dX4_isAllTold_47 ?_
            refine va_get (D := D) (ci := 3) (v := .ref a_g_listeners) (C := RX3) (T := TX3) (N := 16) hx hb hts zi3_ hown hK hP 1 rfl rfl 13 (by decide) z5_ (fun _ h9 => h9) rfl dX4_isAllTold_50 ?_
            refine lv_iload_n hx hb dX4_isAllTold_53 rfl (lv_at hl 2 rfl) ?_
            refine my_iald hx hb hK hP 5 1 rfl rfl (by first | exact in_ge (N := 6) (by decide) (by omega) (by assumption) | exact vp_in_nI (by omega) (by omega)) (nI_clamp (by omega)) dX4_isAllTold_54 ?_
            refine rd_i (va_runSN (As := [.int r4, .int (g_listeners_f v2_2)]) (rest := []) ⟨hx, hb, hml, hown, hts⟩ (n_X10_isIn l D cy r4 (g_listeners_f v2_2) _ ) ⟨(va_cnB 2 hts gX4_isAllTold_X10_isIn_n126 rfl rfl rfl (hKA.2 (.methodLinkNest RX4 126 yX10_isIn RX10) (by decide +kernel)) z6_ (by decide +kernel) ⟨Nat.le_of_ble_eq_true rfl, Nat.le_of_ble_eq_true rfl⟩), z7_, trivial⟩ (pS hKA pE (dE (A := A))) rfl rfl hl.1 rfl (lv_room (Nat.le_of_ble_eq_true rfl)) dX4_isAllTold_55 ⟨Nat.le_of_ble_eq_true rfl, Nat.le_of_ble_eq_true rfl⟩) hP hS hA (fun r7 H locs hwr7 hP hS => ?_)
            have hwr7 : (r7 = 1 ∧ True) ∨ (r7 = 0 ∧ True) := hwr7
            refine lv_if_eq (tgt := 68) hx hb dX4_isAllTold_58 (by decide) (fun c8 => ?_) (fun c8 => ?_)
            · skip
              refine lv_iconst (v := 0) hx hb dX4_isAllTold_68 (by decide) ?_
              subst hQF
              exact W.zret (v := 0) hx hb hr rfl (fun t ht hW => ⟨⟨0, (), rfl, (Or.inr ⟨rfl, trivial⟩), trivial⟩, hS.F ht⟩) hS.2.2 dX4_isAllTold_69
            · skip
              refine lv_iload hx hb dX4_isAllTold_61 (lv_at hl 0 rfl) ?_
              refine lv_iload_n hx hb dX4_isAllTold_63 rfl (lv_at hl 4 rfl) ?_
              refine lv_iand hx hb dX4_isAllTold_64 ?_
              refine lv_if_eq (tgt := 70) hx hb dX4_isAllTold_65 (by decide) (fun c9 => ?_) (fun c9 => ?_)
              · skip
                refine lv_iinc (v := nI (v2_2 + 1)) (lv' := [(2, .int (nI (v2_2 + 1))), (4, .int r4), (3, .int x3), (0, .ref a_w), (1, .int px)]) hx hb dX4_isAllTold_70 hl (k := 2) rfl (nI_1 _) (by decide) rfl (fun ls hl => ?_)
                refine lv_goto (tgt := 2) hx hb dX4_isAllTold_73 (by decide) ?_
                exact ih2 (v2_2 + 1) (by first | omega | exact nlt_max hv2_2 (by assumption)) (by first | omega | (have := nlt_max hv2_2 (by assumption); omega)) _ _ hP hD hS ls (lv_sub hl [0, 3, 4] rfl)
              · skip
                refine lv_iconst (v := 0) hx hb dX4_isAllTold_68 (by decide) ?_
                subst hQF
                exact W.zret (v := 0) hx hb hr rfl (fun t ht hW => ⟨⟨0, (), rfl, (Or.inr ⟨rfl, trivial⟩), trivial⟩, hS.F ht⟩) hS.2.2 dX4_isAllTold_69
  exact lp2 (2147483648 - 0 + 1) 0 (by first | omega | exact nlt_max (by assumption) (by assumption)) (Nat.lt_succ_self _) _ _ hP hD hS ls hl

set_option maxHeartbeats 4000000 in
set_option maxRecDepth 100000 in
theorem n_X4_isAsReported (l : Launch) (D : va_G) (cy : Nat → ClassId) (a_w : Nat) (a_g : Nat) (a_pl : Nat) (a_kd : Nat) (a_sb : Nat) (a_hb : Nat) (a_sf : Nat) (a_hf : Nat) (w_bound : Int32) (w_drowned : Int64) (g_wide : Int32) (g_high : Int32) (g_drown : Int32) (g_wind : Int32) (g_hedges : Int64) (g_fountains : Int64) (g_people : Int32) (g_tellings : Int32) (g_reports : Int32) (a_g_kinds : Nat) (a_g_squares : Nat) (a_g_voices : Nat) (a_g_tellers : Nat) (a_g_listeners : Nat) (a_g_witnesses : Nat) (a_g_claims : Nat) (g_witnesses_f : Nat → Int32) (g_claims_f : Nat → Int32) (hb_f : Nat → Int32) (sb_f : Nat → Int32) (px : Int32) (sz : Nat)  : Met l yX4_isAsReported wsX4_isAsReported ({ frames := 1, cells := 0, slots := 0, locals := 21 }) (va_Pc [.ref a_w, .int px] (kPre D cy [(a_w, .inr (4, [.ref a_g, .ref a_pl, .ref a_kd, .ref a_sb, .ref a_hb, .ref a_sf, .ref a_hf, .int w_bound, .long w_drowned])), (a_g, .inr (3, [.int g_wide, .int g_high, .int g_drown, .int g_wind, .long g_hedges, .long g_fountains, .int g_people, .int g_tellings, .int g_reports, .ref a_g_kinds, .ref a_g_squares, .ref a_g_voices, .ref a_g_tellers, .ref a_g_listeners, .ref a_g_witnesses, .ref a_g_claims])), (a_g_witnesses, .inl (cy 1, 8, .inl g_witnesses_f)), (a_g_claims, .inl (cy 1, 8, .inl g_claims_f)), (a_hb, .inl (cy 1, 5, .inl hb_f)), (a_sb, .inl (cy 1, 5, .inl sb_f))] sz)) (va_Qi (fun (r : Int32) (u : Unit) => (r = 1 ∧ True) ∨ (r = 0 ∧ True)) (fun _ _ => True) (fun q : Nat => sz ≤ q)) 0 0 (fun q : Nat => sz ≤ q) := by
  refine Met.ofW (cc := cX4_isAsReported) (maxL := 7) (ret := (some .boolean)) (by decide) rfl ?_
  intro p e s m args below meth c s₁ B hml hv
  obtain ⟨rfl, hsz, hP, hKA, hD0⟩ := hv
  have hx := B.exec
  have hb := B.bytes
  have hr := B.returns
  have hts := atoms_spec (ws := wsX4_isAsReported) B.pre
  have hown : s.vm.findClass RX4 = some m.cls := findClass_of_methodNamed B.named
  have hlocks := B.notSynchronized
  subst hsz
  have hK := hKA.1
  have hD := hD0
  generalize hAe : (fun q : Nat => s.heap.size ≤ q) = A
  have hA : ∀ q : Nat, s.heap.size ≤ q → A q := fun q h => by rw [← hAe]; exact h
  have hS : va_S A s.heap s.heap [] := va_S.rf
  have hP : va_P D vwCl [(a_w, .inr (4, [.ref a_g, .ref a_pl, .ref a_kd, .ref a_sb, .ref a_hb, .ref a_sf, .ref a_hf, .int w_bound, .long w_drowned])), (a_g, .inr (3, [.int g_wide, .int g_high, .int g_drown, .int g_wind, .long g_hedges, .long g_fountains, .int g_people, .int g_tellings, .int g_reports, .ref a_g_kinds, .ref a_g_squares, .ref a_g_voices, .ref a_g_tellers, .ref a_g_listeners, .ref a_g_witnesses, .ref a_g_claims])), (a_g_witnesses, .inl (cy 1, 8, .inl g_witnesses_f)), (a_g_claims, .inl (cy 1, 8, .inl g_claims_f)), (a_hb, .inl (cy 1, 5, .inl hb_f)), (a_sb, .inl (cy 1, 5, .inl sb_f))] s.heap := hP
  have hl := lv_entry ([.ref a_w, .int px]) (n := 7) (Nat.le_of_ble_eq_true rfl)
  rw [lg_entry_eq]
  generalize (lg_sl ([.ref a_w, .int px]) ++ List.replicate (7 - (lg_sl ([.ref a_w, .int px])).length) Slot.unset).toArray = ls at hl ⊢
  have hl : lv_has ls 7 [(0, .ref a_w), (1, .int px)] := hl
  refine qW (fun QF hQF => ?_)
  have z0_ := hts (.fieldLink RX4 35 "HeardSeen$Law" "g" "LHeardSeen$Garden;") (by decide +kernel)
  have zi4_ : ∀ w ∈ u_ws RX4 TX4 9, w ∈ wsX4_isAsReported := by decide +kernel
  have z2_ := hts (.fieldLink RX4 138 "HeardSeen$Garden" "reports" "I") (by decide +kernel)
  have zi3_ : ∀ w ∈ u_ws RX3 TX3 16, w ∈ wsX4_isAsReported := by decide +kernel
  have z4_ := hts (.fieldLink RX4 141 "HeardSeen$Garden" "witnesses" "[I") (by decide +kernel)
  have z5_ := hts (.fieldLink RX4 144 "HeardSeen$Garden" "claims" "[I") (by decide +kernel)
  have z6_ := hts (.initialized RX10) (by decide +kernel)
  have z7_ := hts (.static yX10_isIn) (by decide +kernel)
  refine lv_iconst (v := 0) hx hb dX4_isAsReported_0 (by decide) ?_
  refine lv_istore_n (lv' := [(2, .int 0), (0, .ref a_w), (1, .int px)]) hx hb dX4_isAsReported_1 rfl hl (by decide) rfl (fun ls hl => ?_)
  have lp2 : ∀ (n2 : Nat) (v2_2 : Nat) (hv2_2 : v2_2 < 2147483648), 2147483648 - v2_2 < n2 → ∀ (H : Heap) (locs : List Loc), va_P D vwCl [(a_w, .inr (4, [.ref a_g, .ref a_pl, .ref a_kd, .ref a_sb, .ref a_hb, .ref a_sf, .ref a_hf, .int w_bound, .long w_drowned])), (a_g, .inr (3, [.int g_wide, .int g_high, .int g_drown, .int g_wind, .long g_hedges, .long g_fountains, .int g_people, .int g_tellings, .int g_reports, .ref a_g_kinds, .ref a_g_squares, .ref a_g_voices, .ref a_g_tellers, .ref a_g_listeners, .ref a_g_witnesses, .ref a_g_claims])), (a_g_witnesses, .inl (cy 1, 8, .inl g_witnesses_f)), (a_g_claims, .inl (cy 1, 8, .inl g_claims_f)), (a_hb, .inl (cy 1, 5, .inl hb_f)), (a_sb, .inl (cy 1, 5, .inl sb_f))] H → va_D (fun _ => True) [(a_w, .inr (4, [.ref a_g, .ref a_pl, .ref a_kd, .ref a_sb, .ref a_hb, .ref a_sf, .ref a_hf, .int w_bound, .long w_drowned])), (a_g, .inr (3, [.int g_wide, .int g_high, .int g_drown, .int g_wind, .long g_hedges, .long g_fountains, .int g_people, .int g_tellings, .int g_reports, .ref a_g_kinds, .ref a_g_squares, .ref a_g_voices, .ref a_g_tellers, .ref a_g_listeners, .ref a_g_witnesses, .ref a_g_claims])), (a_g_witnesses, .inl (cy 1, 8, .inl g_witnesses_f)), (a_g_claims, .inl (cy 1, 8, .inl g_claims_f)), (a_hb, .inl (cy 1, 5, .inl hb_f)), (a_sb, .inl (cy 1, 5, .inl sb_f))] → va_S A s.heap H locs → ∀ ls : Array Slot, lv_has ls 7 [(2, .int (nI v2_2)), (0, .ref a_w), (1, .int px)] → W p l e (headSpec wsX4_isAsReported ({ frames := 1, cells := 0, slots := 0, locals := 21 })).room s m [.ref a_w, .int px].toArray below meth c H locs 0 0 QF (F0 m 2 ls []) := by
    intro n2
    induction n2 with
    | zero => intro v2_2 hv2_2 hm; exact absurd hm (Nat.not_lt_zero _)
    | succ n2 ih2 =>
      intro v2_2 hv2_2 hm2 H locs hP hD hS ls hl
      refine lv_iload_n hx hb dX4_isAsReported_2 rfl (lv_at hl 0 rfl) ?_
      refine lv_aload_n hx hb dX4_isAsReported_3 rfl (lv_at hl 1 rfl) ?_
      refine va_get (D := D) (ci := 4) (v := .ref a_g) (C := RX4) (T := TX4) (N := 9) hx hb hts zi4_ hown hK hP 0 rfl rfl 0 (by decide) z0_ (fun _ h9 => h9) rfl dX4_isAsReported_4 ?_
      refine va_get (D := D) (ci := 3) (v := .int g_reports) (C := RX3) (T := TX3) (N := 16) hx hb hts zi3_ hown hK hP 1 rfl rfl 8 (by decide) z2_ (fun _ h9 => h9) rfl dX4_isAsReported_7 ?_
      refine lv_icmp_ge (tgt := 116) hx hb dX4_isAsReported_10 (by decide) (fun c1 => ?_) (fun c1 => ?_)
      · skip
        refine lv_iconst (v := 1) hx hb dX4_isAsReported_116 (by decide) ?_
        subst hQF
        exact W.zret (v := 1) hx hb hr rfl (fun t ht hW => ⟨⟨1, (), rfl, (Or.inl ⟨rfl, trivial⟩), trivial⟩, hS.F ht⟩) hS.2.2 dX4_isAsReported_117
      · skip
        refine lv_iload_n hx hb dX4_isAsReported_13 rfl (lv_at hl 0 rfl) ?_
        refine lv_bipush (v := 8) hx hb dX4_isAsReported_14 (by decide) ?_
        refine lv_icmp_ge (tgt := 116) hx hb dX4_isAsReported_16 (by decide) (fun c2 => ?_) (fun c2 => ?_)
        · skip
          refine lv_iconst (v := 1) hx hb dX4_isAsReported_116 (by decide) ?_
          subst hQF
          exact W.zret (v := 1) hx hb hr rfl (fun t ht hW => ⟨⟨1, (), rfl, (Or.inl ⟨rfl, trivial⟩), trivial⟩, hS.F ht⟩) hS.2.2 dX4_isAsReported_117
        · skip
          refine lv_aload_n hx hb dX4_isAsReported_19 rfl (lv_at hl 1 rfl) ?_
          refine va_get (D := D) (ci := 4) (v := .ref a_g) (C := RX4) (T := TX4) (N := 9) hx hb hts zi4_ hown hK hP 0 rfl rfl 0 (by decide) z0_ (fun _ h9 => h9) rfl dX4_isAsReported_20 ?_
          refine va_get (D := D) (ci := 3) (v := .ref a_g_witnesses) (C := RX3) (T := TX3) (N := 16) hx hb hts zi3_ hown hK hP 1 rfl rfl 14 (by decide) z4_ (fun _ h9 => h9) rfl dX4_isAsReported_23 ?_
          refine lv_iload_n hx hb dX4_isAsReported_26 rfl (lv_at hl 0 rfl) ?_
          refine my_iald hx hb hK hP 2 1 rfl rfl (by first | exact in_ge (N := 8) (by decide) (by omega) (by assumption) | exact vp_in_nI (by omega) (by omega)) (nI_clamp (by omega)) dX4_isAsReported_27 ?_
          refine lv_topi (fun x3 ex3 => ?_)
          refine lv_istore_n (lv' := [(3, .int x3), (2, .int (nI v2_2)), (0, .ref a_w), (1, .int px)]) hx hb dX4_isAsReported_28 rfl hl (by decide) rfl (fun ls hl => ?_)
          refine lv_aload_n hx hb dX4_isAsReported_29 rfl (lv_at hl 2 rfl) ?_
          refine va_get (D := D) (ci := 4) (v := .ref a_g) (C := RX4) (T := TX4) (N := 9) hx hb hts zi4_ hown hK hP 0 rfl rfl 0 (by decide) z0_ (fun _ h9 => h9) rfl dX4_isAsReported_30 ?_
          refine va_get (D := D) (ci := 3) (v := .ref a_g_claims) (C := RX3) (T := TX3) (N := 16) hx hb hts zi3_ hown hK hP 1 rfl rfl 15 (by decide) z5_ (fun _ h9 => h9) rfl dX4_isAsReported_33 ?_
          refine lv_iload_n hx hb dX4_isAsReported_36 rfl (lv_at hl 1 rfl) ?_
          refine my_iald hx hb hK hP 3 1 rfl rfl (by first | exact in_ge (N := 8) (by decide) (by omega) (by assumption) | exact vp_in_nI (by omega) (by omega)) (nI_clamp (by omega)) dX4_isAsReported_37 ?_
          refine lv_topi (fun x4 ex4 => ?_)
          refine lv_istore (lv' := [(4, .int x4), (3, .int x3), (2, .int (nI v2_2)), (0, .ref a_w), (1, .int px)]) hx hb dX4_isAsReported_38 hl (by decide) rfl (fun ls hl => ?_)
          refine lv_iload hx hb dX4_isAsReported_40 (lv_at hl 0 rfl) ?_
          have j56 : ∀ (s1_56 : Int32) (bs1_56 : s1_56 = 1 ∨ s1_56 = 0) (H : Heap) (locs : List Loc), va_P D vwCl [(a_w, .inr (4, [.ref a_g, .ref a_pl, .ref a_kd, .ref a_sb, .ref a_hb, .ref a_sf, .ref a_hf, .int w_bound, .long w_drowned])), (a_g, .inr (3, [.int g_wide, .int g_high, .int g_drown, .int g_wind, .long g_hedges, .long g_fountains, .int g_people, .int g_tellings, .int g_reports, .ref a_g_kinds, .ref a_g_squares, .ref a_g_voices, .ref a_g_tellers, .ref a_g_listeners, .ref a_g_witnesses, .ref a_g_claims])), (a_g_witnesses, .inl (cy 1, 8, .inl g_witnesses_f)), (a_g_claims, .inl (cy 1, 8, .inl g_claims_f)), (a_hb, .inl (cy 1, 5, .inl hb_f)), (a_sb, .inl (cy 1, 5, .inl sb_f))] H → va_D (fun _ => True) [(a_w, .inr (4, [.ref a_g, .ref a_pl, .ref a_kd, .ref a_sb, .ref a_hb, .ref a_sf, .ref a_hf, .int w_bound, .long w_drowned])), (a_g, .inr (3, [.int g_wide, .int g_high, .int g_drown, .int g_wind, .long g_hedges, .long g_fountains, .int g_people, .int g_tellings, .int g_reports, .ref a_g_kinds, .ref a_g_squares, .ref a_g_voices, .ref a_g_tellers, .ref a_g_listeners, .ref a_g_witnesses, .ref a_g_claims])), (a_g_witnesses, .inl (cy 1, 8, .inl g_witnesses_f)), (a_g_claims, .inl (cy 1, 8, .inl g_claims_f)), (a_hb, .inl (cy 1, 5, .inl hb_f)), (a_sb, .inl (cy 1, 5, .inl sb_f))] → va_S A s.heap H locs → ∀ ls : Array Slot, lv_has ls 7 [(4, .int x4), (3, .int x3), (2, .int (nI v2_2)), (0, .ref a_w), (1, .int px)] → W p l e (headSpec wsX4_isAsReported ({ frames := 1, cells := 0, slots := 0, locals := 21 })).room s m [.ref a_w, .int px].toArray below meth c H locs 0 0 QF (F0 m 56 ls [.int s1_56]) := by
            intro s1_56 bs1_56 H locs hP hD hS ls hl
            refine lv_istore (lv' := [(5, .int s1_56), (4, .int x4), (3, .int x3), (2, .int (nI v2_2)), (0, .ref a_w), (1, .int px)]) hx hb dX4_isAsReported_56 hl (by decide) rfl (fun ls hl => ?_)
            refine lv_iload hx hb dX4_isAsReported_58 (lv_at hl 0 rfl) ?_
            have j76 : ∀ (s1_76 : Int32) (H : Heap) (locs : List Loc), va_P D vwCl [(a_w, .inr (4, [.ref a_g, .ref a_pl, .ref a_kd, .ref a_sb, .ref a_hb, .ref a_sf, .ref a_hf, .int w_bound, .long w_drowned])), (a_g, .inr (3, [.int g_wide, .int g_high, .int g_drown, .int g_wind, .long g_hedges, .long g_fountains, .int g_people, .int g_tellings, .int g_reports, .ref a_g_kinds, .ref a_g_squares, .ref a_g_voices, .ref a_g_tellers, .ref a_g_listeners, .ref a_g_witnesses, .ref a_g_claims])), (a_g_witnesses, .inl (cy 1, 8, .inl g_witnesses_f)), (a_g_claims, .inl (cy 1, 8, .inl g_claims_f)), (a_hb, .inl (cy 1, 5, .inl hb_f)), (a_sb, .inl (cy 1, 5, .inl sb_f))] H → va_D (fun _ => True) [(a_w, .inr (4, [.ref a_g, .ref a_pl, .ref a_kd, .ref a_sb, .ref a_hb, .ref a_sf, .ref a_hf, .int w_bound, .long w_drowned])), (a_g, .inr (3, [.int g_wide, .int g_high, .int g_drown, .int g_wind, .long g_hedges, .long g_fountains, .int g_people, .int g_tellings, .int g_reports, .ref a_g_kinds, .ref a_g_squares, .ref a_g_voices, .ref a_g_tellers, .ref a_g_listeners, .ref a_g_witnesses, .ref a_g_claims])), (a_g_witnesses, .inl (cy 1, 8, .inl g_witnesses_f)), (a_g_claims, .inl (cy 1, 8, .inl g_claims_f)), (a_hb, .inl (cy 1, 5, .inl hb_f)), (a_sb, .inl (cy 1, 5, .inl sb_f))] → va_S A s.heap H locs → ∀ ls : Array Slot, lv_has ls 7 [(5, .int s1_56), (4, .int x4), (3, .int x3), (2, .int (nI v2_2)), (0, .ref a_w), (1, .int px)] → W p l e (headSpec wsX4_isAsReported ({ frames := 1, cells := 0, slots := 0, locals := 21 })).room s m [.ref a_w, .int px].toArray below meth c H locs 0 0 QF (F0 m 76 ls [.int s1_76]) := by
              intro s1_76 H locs hP hD hS ls hl
              refine lv_iload_n hx hb dX4_isAsReported_76 rfl (lv_at hl 2 rfl) ?_
              refine rd_i (va_runSN (As := [.int s1_76, .int x3]) (rest := []) ⟨hx, hb, hml, hown, hts⟩ (n_X10_isIn l D cy s1_76 x3 _ ) ⟨(va_cnB 2 hts gX4_isAsReported_X10_isIn_n126 rfl rfl rfl (hKA.2 (.methodLinkNest RX4 126 yX10_isIn RX10) (by decide +kernel)) z6_ (by decide +kernel) ⟨Nat.le_of_ble_eq_true rfl, Nat.le_of_ble_eq_true rfl⟩), z7_, trivial⟩ (pS hKA pE (dE (A := A))) rfl rfl hl.1 rfl (lv_room (Nat.le_of_ble_eq_true rfl)) dX4_isAsReported_77 ⟨Nat.le_of_ble_eq_true rfl, Nat.le_of_ble_eq_true rfl⟩) hP hS hA (fun r5 H locs hwr5 hP hS => ?_)
              have hwr5 : (r5 = 1 ∧ True) ∨ (r5 = 0 ∧ True) := hwr5
              refine lv_istore (lv' := [(6, .int r5), (5, .int s1_56), (4, .int x4), (3, .int x3), (2, .int (nI v2_2)), (0, .ref a_w), (1, .int px)]) hx hb dX4_isAsReported_80 hl (by decide) rfl (fun ls hl => ?_)
              refine lv_iload_n hx hb dX4_isAsReported_82 rfl (lv_at hl 3 rfl) ?_
              refine lv_iload_n hx hb dX4_isAsReported_83 rfl (lv_at hl 6 rfl) ?_
              refine lv_icmp_eq (tgt := 110) hx hb dX4_isAsReported_84 (by decide) (fun c6 => ?_) (fun c6 => ?_)
              · skip
                refine lv_iinc (v := nI (v2_2 + 1)) (lv' := [(2, .int (nI (v2_2 + 1))), (6, .int r5), (5, .int s1_56), (4, .int x4), (3, .int x3), (0, .ref a_w), (1, .int px)]) hx hb dX4_isAsReported_110 hl (k := 4) rfl (nI_1 _) (by decide) rfl (fun ls hl => ?_)
                refine lv_goto (tgt := 2) hx hb dX4_isAsReported_113 (by decide) ?_
                exact ih2 (v2_2 + 1) (by first | omega | exact nlt_max hv2_2 (by assumption)) (by first | omega | (have := nlt_max hv2_2 (by assumption); omega)) _ _ hP hD hS ls (lv_sub hl [0, 5, 6] rfl)
              · skip
                refine lv_iload hx hb dX4_isAsReported_87 (lv_at hl 0 rfl) ?_
                refine lv_iload hx hb dX4_isAsReported_89 (lv_at hl 2 rfl) ?_
                have j105 : ∀ (s2_105 : Int32) (bs2_105 : s2_105 = 1 ∨ s2_105 = 0) (H : Heap) (locs : List Loc), va_P D vwCl [(a_w, .inr (4, [.ref a_g, .ref a_pl, .ref a_kd, .ref a_sb, .ref a_hb, .ref a_sf, .ref a_hf, .int w_bound, .long w_drowned])), (a_g, .inr (3, [.int g_wide, .int g_high, .int g_drown, .int g_wind, .long g_hedges, .long g_fountains, .int g_people, .int g_tellings, .int g_reports, .ref a_g_kinds, .ref a_g_squares, .ref a_g_voices, .ref a_g_tellers, .ref a_g_listeners, .ref a_g_witnesses, .ref a_g_claims])), (a_g_witnesses, .inl (cy 1, 8, .inl g_witnesses_f)), (a_g_claims, .inl (cy 1, 8, .inl g_claims_f)), (a_hb, .inl (cy 1, 5, .inl hb_f)), (a_sb, .inl (cy 1, 5, .inl sb_f))] H → va_D (fun _ => True) [(a_w, .inr (4, [.ref a_g, .ref a_pl, .ref a_kd, .ref a_sb, .ref a_hb, .ref a_sf, .ref a_hf, .int w_bound, .long w_drowned])), (a_g, .inr (3, [.int g_wide, .int g_high, .int g_drown, .int g_wind, .long g_hedges, .long g_fountains, .int g_people, .int g_tellings, .int g_reports, .ref a_g_kinds, .ref a_g_squares, .ref a_g_voices, .ref a_g_tellers, .ref a_g_listeners, .ref a_g_witnesses, .ref a_g_claims])), (a_g_witnesses, .inl (cy 1, 8, .inl g_witnesses_f)), (a_g_claims, .inl (cy 1, 8, .inl g_claims_f)), (a_hb, .inl (cy 1, 5, .inl hb_f)), (a_sb, .inl (cy 1, 5, .inl sb_f))] → va_S A s.heap H locs → ∀ ls : Array Slot, lv_has ls 7 [(6, .int r5), (5, .int s1_56), (4, .int x4), (3, .int x3), (2, .int (nI v2_2)), (0, .ref a_w), (1, .int px)] → W p l e (headSpec wsX4_isAsReported ({ frames := 1, cells := 0, slots := 0, locals := 21 })).room s m [.ref a_w, .int px].toArray below meth c H locs 0 0 QF (F0 m 105 ls [.int s2_105, .int r5]) := by
                  intro s2_105 bs2_105 H locs hP hD hS ls hl
                  refine lv_icmp_eq (tgt := 110) hx hb dX4_isAsReported_105 (by decide) (fun c7 => ?_) (fun c7 => ?_)
                  · skip
                    refine lv_iinc (v := nI (v2_2 + 1)) (lv' := [(2, .int (nI (v2_2 + 1))), (6, .int r5), (5, .int s1_56), (4, .int x4), (3, .int x3), (0, .ref a_w), (1, .int px)]) hx hb dX4_isAsReported_110 hl (k := 4) rfl (nI_1 _) (by decide) rfl (fun ls hl => ?_)
                    refine lv_goto (tgt := 2) hx hb dX4_isAsReported_113 (by decide) ?_
                    exact ih2 (v2_2 + 1) (by first | omega | exact nlt_max hv2_2 (by assumption)) (by first | omega | (have := nlt_max hv2_2 (by assumption); omega)) _ _ hP hD hS ls (lv_sub hl [0, 5, 6] rfl)
                  · skip
                    refine lv_iconst (v := 0) hx hb dX4_isAsReported_108 (by decide) ?_
                    subst hQF
                    exact W.zret (v := 0) hx hb hr rfl (fun t ht hW => ⟨⟨0, (), rfl, (Or.inr ⟨rfl, trivial⟩), trivial⟩, hS.F ht⟩) hS.2.2 dX4_isAsReported_109
                refine lv_if_eq (tgt := 100) hx hb dX4_isAsReported_91 (by decide) (fun c8 => ?_) (fun c8 => ?_)
                · skip
                  refine lv_iconst (v := 1) hx hb dX4_isAsReported_100 (by decide) ?_
                  refine lv_goto (tgt := 105) hx hb dX4_isAsReported_101 (by decide) ?_
                  exact j105 1 (Or.inl rfl) _ _ hP hD hS ls hl
                · skip
                  refine lv_iload hx hb dX4_isAsReported_94 (lv_at hl 2 rfl) ?_
                  refine lv_iconst (v := 2) hx hb dX4_isAsReported_96 (by decide) ?_
                  refine lv_icmp_ne (tgt := 104) hx hb dX4_isAsReported_97 (by decide) (fun c9 => ?_) (fun c9 => ?_)
                  · skip
                    refine lv_iconst (v := 0) hx hb dX4_isAsReported_104 (by decide) ?_
                    exact j105 0 (Or.inr rfl) _ _ hP hD hS ls hl
                  · skip
                    refine lv_iconst (v := 1) hx hb dX4_isAsReported_100 (by decide) ?_
                    refine lv_goto (tgt := 105) hx hb dX4_isAsReported_101 (by decide) ?_
                    exact j105 1 (Or.inl rfl) _ _ hP hD hS ls hl
            refine lv_if_eq (tgt := 71) hx hb dX4_isAsReported_60 (by decide) (fun c10 => ?_) (fun c10 => ?_)
            · skip
              refine lv_aload_n hx hb dX4_isAsReported_71 rfl (lv_at hl 4 rfl) ?_
              refine lv_iload_n hx hb dX4_isAsReported_72 rfl (lv_at hl 5 rfl) ?_
              refine rd_i (va_runV (As := [.int px]) (rest := []) ⟨hx, hb, hml, hown, hts⟩ (n_X4_whoHear l D cy a_w a_g a_pl a_kd a_sb a_hb a_sf a_hf w_bound w_drowned hb_f px _ ) (cwV 1 hts gX4_isAsReported_X4_whoHear rfl rfl rfl (by decide +kernel) ⟨Nat.le_of_ble_eq_true rfl, Nat.le_of_ble_eq_true rfl⟩) (pV (ci := 4) (k := 0) hKA (hP.sub (ws' := [(a_w, .inr (4, [.ref a_g, .ref a_pl, .ref a_kd, .ref a_sb, .ref a_hb, .ref a_sf, .ref a_hf, .int w_bound, .long w_drowned])), (a_hb, .inl (cy 1, 5, .inl hb_f))]) [0, 4] rfl) (hD.sub (ws' := [(a_w, .inr (4, [.ref a_g, .ref a_pl, .ref a_kd, .ref a_sb, .ref a_hb, .ref a_sf, .ref a_hf, .int w_bound, .long w_drowned])), (a_hb, .inl (cy 1, 5, .inl hb_f))]) [0, 4] (by decide) rfl) rfl rfl) rfl rfl hl.1 rfl (lv_room (Nat.le_of_ble_eq_true rfl)) dX4_isAsReported_73 ⟨Nat.le_of_ble_eq_true rfl, Nat.le_of_ble_eq_true rfl⟩) hP hS hA (fun r11 H locs hwr11 hP hS => ?_)
              exact j76 r11 _ _ hP hD hS ls hl
            · skip
              refine lv_aload_n hx hb dX4_isAsReported_63 rfl (lv_at hl 4 rfl) ?_
              refine lv_iload_n hx hb dX4_isAsReported_64 rfl (lv_at hl 5 rfl) ?_
              refine rd_i (va_runV (As := [.int px]) (rest := []) ⟨hx, hb, hml, hown, hts⟩ (n_X4_whoSee l D cy a_w a_g a_pl a_kd a_sb a_hb a_sf a_hf w_bound w_drowned sb_f px _ ) (cwV 1 hts gX4_isAsReported_X4_whoSee rfl rfl rfl (by decide +kernel) ⟨Nat.le_of_ble_eq_true rfl, Nat.le_of_ble_eq_true rfl⟩) (pV (ci := 4) (k := 0) hKA (hP.sub (ws' := [(a_w, .inr (4, [.ref a_g, .ref a_pl, .ref a_kd, .ref a_sb, .ref a_hb, .ref a_sf, .ref a_hf, .int w_bound, .long w_drowned])), (a_sb, .inl (cy 1, 5, .inl sb_f))]) [0, 5] rfl) (hD.sub (ws' := [(a_w, .inr (4, [.ref a_g, .ref a_pl, .ref a_kd, .ref a_sb, .ref a_hb, .ref a_sf, .ref a_hf, .int w_bound, .long w_drowned])), (a_sb, .inl (cy 1, 5, .inl sb_f))]) [0, 5] (by decide) rfl) rfl rfl) rfl rfl hl.1 rfl (lv_room (Nat.le_of_ble_eq_true rfl)) dX4_isAsReported_65 ⟨Nat.le_of_ble_eq_true rfl, Nat.le_of_ble_eq_true rfl⟩) hP hS hA (fun r12 H locs hwr12 hP hS => ?_)
              refine lv_goto (tgt := 76) hx hb dX4_isAsReported_68 (by decide) ?_
              exact j76 r12 _ _ hP hD hS ls hl
          refine lv_if_eq (tgt := 51) hx hb dX4_isAsReported_42 (by decide) (fun c13 => ?_) (fun c13 => ?_)
          · skip
            refine lv_iconst (v := 1) hx hb dX4_isAsReported_51 (by decide) ?_
            refine lv_goto (tgt := 56) hx hb dX4_isAsReported_52 (by decide) ?_
            exact j56 1 (Or.inl rfl) _ _ hP hD hS ls hl
          · skip
            refine lv_iload hx hb dX4_isAsReported_45 (lv_at hl 0 rfl) ?_
            refine lv_iconst (v := 1) hx hb dX4_isAsReported_47 (by decide) ?_
            refine lv_icmp_ne (tgt := 55) hx hb dX4_isAsReported_48 (by decide) (fun c14 => ?_) (fun c14 => ?_)
            · skip
              refine lv_iconst (v := 0) hx hb dX4_isAsReported_55 (by decide) ?_
              exact j56 0 (Or.inr rfl) _ _ hP hD hS ls hl
            · skip
              refine lv_iconst (v := 1) hx hb dX4_isAsReported_51 (by decide) ?_
              refine lv_goto (tgt := 56) hx hb dX4_isAsReported_52 (by decide) ?_
              exact j56 1 (Or.inl rfl) _ _ hP hD hS ls hl
  exact lp2 (2147483648 - 0 + 1) 0 (by first | omega | exact nlt_max (by assumption) (by assumption)) (Nat.lt_succ_self _) _ _ hP hD hS ls hl

set_option maxHeartbeats 4000000 in
set_option maxRecDepth 100000 in
theorem n_X4_holds (l : Launch) (D : va_G) (cy : Nat → ClassId) (a_w : Nat) (a_g : Nat) (a_pl : Nat) (a_kd : Nat) (a_sb : Nat) (a_hb : Nat) (a_sf : Nat) (a_hf : Nat) (w_bound : Int32) (w_drowned : Int64) (g_wide : Int32) (g_high : Int32) (g_drown : Int32) (g_wind : Int32) (g_hedges : Int64) (g_fountains : Int64) (g_people : Int32) (g_tellings : Int32) (g_reports : Int32) (a_g_kinds : Nat) (a_g_squares : Nat) (a_g_voices : Nat) (a_g_tellers : Nat) (a_g_listeners : Nat) (a_g_witnesses : Nat) (a_g_claims : Nat) (g_tellers_f : Nat → Int32) (hb_f : Nat → Int32) (sb_f : Nat → Int32) (g_listeners_f : Nat → Int32) (g_witnesses_f : Nat → Int32) (g_claims_f : Nat → Int32) (px : Int32) (py : Int32) (pz : Int32) (sz : Nat)  : Met l yX4_holds wsX4_holds ({ frames := 3, cells := 0, slots := 0, locals := 66 }) (va_Pc [.ref a_w, .int px, .int py, .int pz] (kPre D cy [(a_w, .inr (4, [.ref a_g, .ref a_pl, .ref a_kd, .ref a_sb, .ref a_hb, .ref a_sf, .ref a_hf, .int w_bound, .long w_drowned])), (a_g, .inr (3, [.int g_wide, .int g_high, .int g_drown, .int g_wind, .long g_hedges, .long g_fountains, .int g_people, .int g_tellings, .int g_reports, .ref a_g_kinds, .ref a_g_squares, .ref a_g_voices, .ref a_g_tellers, .ref a_g_listeners, .ref a_g_witnesses, .ref a_g_claims])), (a_g_tellers, .inl (cy 1, 6, .inl g_tellers_f)), (a_hb, .inl (cy 1, 5, .inl hb_f)), (a_sb, .inl (cy 1, 5, .inl sb_f)), (a_g_listeners, .inl (cy 1, 6, .inl g_listeners_f)), (a_g_witnesses, .inl (cy 1, 8, .inl g_witnesses_f)), (a_g_claims, .inl (cy 1, 8, .inl g_claims_f))] sz)) (va_Qi (fun (r : Int32) (u : Unit) => (r = 1 ∧ True) ∨ (r = 0 ∧ True)) (fun _ _ => True) (fun q : Nat => sz ≤ q)) 0 0 (fun q : Nat => sz ≤ q) := by
  refine Met.ofW (cc := cX4_holds) (maxL := 4) (ret := (some .boolean)) (by decide) rfl ?_
  intro p e s m args below meth c s₁ B hml hv
  obtain ⟨rfl, hsz, hP, hKA, hD0⟩ := hv
  have hx := B.exec
  have hb := B.bytes
  have hr := B.returns
  have hts := atoms_spec (ws := wsX4_holds) B.pre
  have hown : s.vm.findClass RX4 = some m.cls := findClass_of_methodNamed B.named
  have hlocks := B.notSynchronized
  subst hsz
  have hK := hKA.1
  have hD := hD0
  generalize hAe : (fun q : Nat => s.heap.size ≤ q) = A
  have hA : ∀ q : Nat, s.heap.size ≤ q → A q := fun q h => by rw [← hAe]; exact h
  have hS : va_S A s.heap s.heap [] := va_S.rf
  have hP : va_P D vwCl [(a_w, .inr (4, [.ref a_g, .ref a_pl, .ref a_kd, .ref a_sb, .ref a_hb, .ref a_sf, .ref a_hf, .int w_bound, .long w_drowned])), (a_g, .inr (3, [.int g_wide, .int g_high, .int g_drown, .int g_wind, .long g_hedges, .long g_fountains, .int g_people, .int g_tellings, .int g_reports, .ref a_g_kinds, .ref a_g_squares, .ref a_g_voices, .ref a_g_tellers, .ref a_g_listeners, .ref a_g_witnesses, .ref a_g_claims])), (a_g_tellers, .inl (cy 1, 6, .inl g_tellers_f)), (a_hb, .inl (cy 1, 5, .inl hb_f)), (a_sb, .inl (cy 1, 5, .inl sb_f)), (a_g_listeners, .inl (cy 1, 6, .inl g_listeners_f)), (a_g_witnesses, .inl (cy 1, 8, .inl g_witnesses_f)), (a_g_claims, .inl (cy 1, 8, .inl g_claims_f))] s.heap := hP
  have hl := lv_entry ([.ref a_w, .int px, .int py, .int pz]) (n := 4) (Nat.le_of_ble_eq_true rfl)
  rw [lg_entry_eq]
  generalize (lg_sl ([.ref a_w, .int px, .int py, .int pz]) ++ List.replicate (4 - (lg_sl ([.ref a_w, .int px, .int py, .int pz])).length) Slot.unset).toArray = ls at hl ⊢
  have hl : lv_has ls 4 [(0, .ref a_w), (1, .int px), (2, .int py), (3, .int pz)] := hl
  refine qW (fun QF hQF => ?_)
  have z0_ := hts (.fieldLink RX4 64 "HeardSeen$Law" "bound" "I") (by decide +kernel)
  have zi4_ : ∀ w ∈ u_ws RX4 TX4 9, w ∈ wsX4_holds := by decide +kernel
  refine lv_iload_n hx hb dX4_holds_0 rfl (lv_at hl 1 rfl) ?_
  by_cases c1 : px = 0
  · skip
    refine lv_tableIn (tgt := 36) hx hb dX4_holds_1 (by rw [c1]; decide) (by rw [c1]; decide) (by rw [c1]; rfl) (by decide) ?_
    refine lv_aload_n hx hb dX4_holds_36 rfl (lv_at hl 0 rfl) ?_
    refine lv_iload_n hx hb dX4_holds_37 rfl (lv_at hl 3 rfl) ?_
    refine rd_i (va_runV (As := [.int pz]) (rest := []) ⟨hx, hb, hml, hown, hts⟩ (n_X4_isAllTold l D cy a_w a_g a_pl a_kd a_sb a_hb a_sf a_hf w_bound w_drowned g_wide g_high g_drown g_wind g_hedges g_fountains g_people g_tellings g_reports a_g_kinds a_g_squares a_g_voices a_g_tellers a_g_listeners a_g_witnesses a_g_claims g_tellers_f hb_f sb_f g_listeners_f pz _ ) (cwV 1 hts gX4_holds_X4_isAllTold rfl rfl rfl (by decide +kernel) ⟨Nat.le_of_ble_eq_true rfl, Nat.le_of_ble_eq_true rfl⟩) (pV (ci := 4) (k := 0) hKA (hP.sub (ws' := [(a_w, .inr (4, [.ref a_g, .ref a_pl, .ref a_kd, .ref a_sb, .ref a_hb, .ref a_sf, .ref a_hf, .int w_bound, .long w_drowned])), (a_g, .inr (3, [.int g_wide, .int g_high, .int g_drown, .int g_wind, .long g_hedges, .long g_fountains, .int g_people, .int g_tellings, .int g_reports, .ref a_g_kinds, .ref a_g_squares, .ref a_g_voices, .ref a_g_tellers, .ref a_g_listeners, .ref a_g_witnesses, .ref a_g_claims])), (a_g_tellers, .inl (cy 1, 6, .inl g_tellers_f)), (a_hb, .inl (cy 1, 5, .inl hb_f)), (a_sb, .inl (cy 1, 5, .inl sb_f)), (a_g_listeners, .inl (cy 1, 6, .inl g_listeners_f))]) [0, 1, 2, 3, 4, 5] rfl) (hD.sub (ws' := [(a_w, .inr (4, [.ref a_g, .ref a_pl, .ref a_kd, .ref a_sb, .ref a_hb, .ref a_sf, .ref a_hf, .int w_bound, .long w_drowned])), (a_g, .inr (3, [.int g_wide, .int g_high, .int g_drown, .int g_wind, .long g_hedges, .long g_fountains, .int g_people, .int g_tellings, .int g_reports, .ref a_g_kinds, .ref a_g_squares, .ref a_g_voices, .ref a_g_tellers, .ref a_g_listeners, .ref a_g_witnesses, .ref a_g_claims])), (a_g_tellers, .inl (cy 1, 6, .inl g_tellers_f)), (a_hb, .inl (cy 1, 5, .inl hb_f)), (a_sb, .inl (cy 1, 5, .inl sb_f)), (a_g_listeners, .inl (cy 1, 6, .inl g_listeners_f))]) [0, 1, 2, 3, 4, 5] (by decide) rfl) rfl rfl) rfl rfl hl.1 rfl (lv_room (Nat.le_of_ble_eq_true rfl)) dX4_holds_38 ⟨Nat.le_of_ble_eq_true rfl, Nat.le_of_ble_eq_true rfl⟩) hP hS hA (fun r2 H locs hwr2 hP hS => ?_)
    have hwr2 : (r2 = 1 ∧ True) ∨ (r2 = 0 ∧ True) := hwr2
    subst hQF
    exact W.zret (v := r2) hx hb hr (z_bn hwr2) (fun t ht hW => ⟨⟨r2, (), rfl, (z_bt hwr2), trivial⟩, hS.F ht⟩) hS.2.2 dX4_holds_41
  by_cases c3 : px = 1
  · skip
    refine lv_tableIn (tgt := 42) hx hb dX4_holds_1 (by rw [c3]; decide) (by rw [c3]; decide) (by rw [c3]; rfl) (by decide) ?_
    refine lv_aload_n hx hb dX4_holds_42 rfl (lv_at hl 0 rfl) ?_
    refine lv_iload_n hx hb dX4_holds_43 rfl (lv_at hl 2 rfl) ?_
    refine rd_i (va_runV (As := [.int py]) (rest := []) ⟨hx, hb, hml, hown, hts⟩ (n_X4_isAsReported l D cy a_w a_g a_pl a_kd a_sb a_hb a_sf a_hf w_bound w_drowned g_wide g_high g_drown g_wind g_hedges g_fountains g_people g_tellings g_reports a_g_kinds a_g_squares a_g_voices a_g_tellers a_g_listeners a_g_witnesses a_g_claims g_witnesses_f g_claims_f hb_f sb_f py _ ) (cwV 1 hts gX4_holds_X4_isAsReported rfl rfl rfl (by decide +kernel) ⟨Nat.le_of_ble_eq_true rfl, Nat.le_of_ble_eq_true rfl⟩) (pV (ci := 4) (k := 0) hKA (hP.sub (ws' := [(a_w, .inr (4, [.ref a_g, .ref a_pl, .ref a_kd, .ref a_sb, .ref a_hb, .ref a_sf, .ref a_hf, .int w_bound, .long w_drowned])), (a_g, .inr (3, [.int g_wide, .int g_high, .int g_drown, .int g_wind, .long g_hedges, .long g_fountains, .int g_people, .int g_tellings, .int g_reports, .ref a_g_kinds, .ref a_g_squares, .ref a_g_voices, .ref a_g_tellers, .ref a_g_listeners, .ref a_g_witnesses, .ref a_g_claims])), (a_g_witnesses, .inl (cy 1, 8, .inl g_witnesses_f)), (a_g_claims, .inl (cy 1, 8, .inl g_claims_f)), (a_hb, .inl (cy 1, 5, .inl hb_f)), (a_sb, .inl (cy 1, 5, .inl sb_f))]) [0, 1, 6, 7, 3, 4] rfl) (hD.sub (ws' := [(a_w, .inr (4, [.ref a_g, .ref a_pl, .ref a_kd, .ref a_sb, .ref a_hb, .ref a_sf, .ref a_hf, .int w_bound, .long w_drowned])), (a_g, .inr (3, [.int g_wide, .int g_high, .int g_drown, .int g_wind, .long g_hedges, .long g_fountains, .int g_people, .int g_tellings, .int g_reports, .ref a_g_kinds, .ref a_g_squares, .ref a_g_voices, .ref a_g_tellers, .ref a_g_listeners, .ref a_g_witnesses, .ref a_g_claims])), (a_g_witnesses, .inl (cy 1, 8, .inl g_witnesses_f)), (a_g_claims, .inl (cy 1, 8, .inl g_claims_f)), (a_hb, .inl (cy 1, 5, .inl hb_f)), (a_sb, .inl (cy 1, 5, .inl sb_f))]) [0, 1, 6, 7, 3, 4] (by decide) rfl) rfl rfl) rfl rfl hl.1 rfl (lv_room (Nat.le_of_ble_eq_true rfl)) dX4_holds_44 ⟨Nat.le_of_ble_eq_true rfl, Nat.le_of_ble_eq_true rfl⟩) hP hS hA (fun r4 H locs hwr4 hP hS => ?_)
    have hwr4 : (r4 = 1 ∧ True) ∨ (r4 = 0 ∧ True) := hwr4
    subst hQF
    exact W.zret (v := r4) hx hb hr (z_bn hwr4) (fun t ht hW => ⟨⟨r4, (), rfl, (z_bt hwr4), trivial⟩, hS.F ht⟩) hS.2.2 dX4_holds_47
  by_cases c5 : px = 2
  · skip
    refine lv_tableIn (tgt := 48) hx hb dX4_holds_1 (by rw [c5]; decide) (by rw [c5]; decide) (by rw [c5]; rfl) (by decide) ?_
    refine lv_aload_n hx hb dX4_holds_48 rfl (lv_at hl 0 rfl) ?_
    refine lv_iload_n hx hb dX4_holds_49 rfl (lv_at hl 3 rfl) ?_
    refine rd_i (va_runV (As := [.int pz]) (rest := []) ⟨hx, hb, hml, hown, hts⟩ (n_X4_firstBreach l D cy a_w a_g a_pl a_kd a_sb a_hb a_sf a_hf w_bound w_drowned g_wide g_high g_drown g_wind g_hedges g_fountains g_people g_tellings g_reports a_g_kinds a_g_squares a_g_voices a_g_tellers a_g_listeners a_g_witnesses a_g_claims sb_f hb_f pz _ ) (cwV 1 hts gX4_holds_X4_firstBreach rfl rfl rfl (by decide +kernel) ⟨Nat.le_of_ble_eq_true rfl, Nat.le_of_ble_eq_true rfl⟩) (pV (ci := 4) (k := 0) hKA (hP.sub (ws' := [(a_w, .inr (4, [.ref a_g, .ref a_pl, .ref a_kd, .ref a_sb, .ref a_hb, .ref a_sf, .ref a_hf, .int w_bound, .long w_drowned])), (a_g, .inr (3, [.int g_wide, .int g_high, .int g_drown, .int g_wind, .long g_hedges, .long g_fountains, .int g_people, .int g_tellings, .int g_reports, .ref a_g_kinds, .ref a_g_squares, .ref a_g_voices, .ref a_g_tellers, .ref a_g_listeners, .ref a_g_witnesses, .ref a_g_claims])), (a_sb, .inl (cy 1, 5, .inl sb_f)), (a_hb, .inl (cy 1, 5, .inl hb_f))]) [0, 1, 4, 3] rfl) (hD.sub (ws' := [(a_w, .inr (4, [.ref a_g, .ref a_pl, .ref a_kd, .ref a_sb, .ref a_hb, .ref a_sf, .ref a_hf, .int w_bound, .long w_drowned])), (a_g, .inr (3, [.int g_wide, .int g_high, .int g_drown, .int g_wind, .long g_hedges, .long g_fountains, .int g_people, .int g_tellings, .int g_reports, .ref a_g_kinds, .ref a_g_squares, .ref a_g_voices, .ref a_g_tellers, .ref a_g_listeners, .ref a_g_witnesses, .ref a_g_claims])), (a_sb, .inl (cy 1, 5, .inl sb_f)), (a_hb, .inl (cy 1, 5, .inl hb_f))]) [0, 1, 4, 3] (by decide) rfl) rfl rfl) rfl rfl hl.1 rfl (lv_room (Nat.le_of_ble_eq_true rfl)) dX4_holds_50 ⟨Nat.le_of_ble_eq_true rfl, Nat.le_of_ble_eq_true rfl⟩) hP hS hA (fun r6 H locs hwr6 hP hS => ?_)
    refine lv_iconst (v := (-1)) hx hb dX4_holds_53 (by decide) ?_
    refine lv_icmp_ne (tgt := 61) hx hb dX4_holds_54 (by decide) (fun c7 => ?_) (fun c7 => ?_)
    · skip
      refine lv_iconst (v := 0) hx hb dX4_holds_61 (by decide) ?_
      subst hQF
      exact W.zret (v := 0) hx hb hr rfl (fun t ht hW => ⟨⟨0, (), rfl, (Or.inr ⟨rfl, trivial⟩), trivial⟩, hS.F ht⟩) hS.2.2 dX4_holds_62
    · skip
      refine lv_iconst (v := 1) hx hb dX4_holds_57 (by decide) ?_
      refine lv_goto (tgt := 62) hx hb dX4_holds_58 (by decide) ?_
      subst hQF
      exact W.zret (v := 1) hx hb hr rfl (fun t ht hW => ⟨⟨1, (), rfl, (Or.inl ⟨rfl, trivial⟩), trivial⟩, hS.F ht⟩) hS.2.2 dX4_holds_62
  by_cases c8 : px = 3
  · skip
    refine lv_tableIn (tgt := 82) hx hb dX4_holds_1 (by rw [c8]; decide) (by rw [c8]; decide) (by rw [c8]; rfl) (by decide) ?_
    refine lv_iconst (v := 1) hx hb dX4_holds_82 (by decide) ?_
    subst hQF
    exact W.zret (v := 1) hx hb hr rfl (fun t ht hW => ⟨⟨1, (), rfl, (Or.inl ⟨rfl, trivial⟩), trivial⟩, hS.F ht⟩) hS.2.2 dX4_holds_83
  by_cases c9 : px = 4
  · skip
    refine lv_tableIn (tgt := 63) hx hb dX4_holds_1 (by rw [c9]; decide) (by rw [c9]; decide) (by rw [c9]; rfl) (by decide) ?_
    refine lv_aload_n hx hb dX4_holds_63 rfl (lv_at hl 0 rfl) ?_
    refine lv_iload_n hx hb dX4_holds_64 rfl (lv_at hl 2 rfl) ?_
    refine rd_i (va_runV (As := [.int py]) (rest := []) ⟨hx, hb, hml, hown, hts⟩ (n_X4_whoSee l D cy a_w a_g a_pl a_kd a_sb a_hb a_sf a_hf w_bound w_drowned sb_f py _ ) (cwV 1 hts gX4_holds_X4_whoSee rfl rfl rfl (by decide +kernel) ⟨Nat.le_of_ble_eq_true rfl, Nat.le_of_ble_eq_true rfl⟩) (pV (ci := 4) (k := 0) hKA (hP.sub (ws' := [(a_w, .inr (4, [.ref a_g, .ref a_pl, .ref a_kd, .ref a_sb, .ref a_hb, .ref a_sf, .ref a_hf, .int w_bound, .long w_drowned])), (a_sb, .inl (cy 1, 5, .inl sb_f))]) [0, 4] rfl) (hD.sub (ws' := [(a_w, .inr (4, [.ref a_g, .ref a_pl, .ref a_kd, .ref a_sb, .ref a_hb, .ref a_sf, .ref a_hf, .int w_bound, .long w_drowned])), (a_sb, .inl (cy 1, 5, .inl sb_f))]) [0, 4] (by decide) rfl) rfl rfl) rfl rfl hl.1 rfl (lv_room (Nat.le_of_ble_eq_true rfl)) dX4_holds_65 ⟨Nat.le_of_ble_eq_true rfl, Nat.le_of_ble_eq_true rfl⟩) hP hS hA (fun r10 H locs hwr10 hP hS => ?_)
    refine lv_aload_n hx hb dX4_holds_68 rfl (lv_at hl 0 rfl) ?_
    refine va_get (D := D) (ci := 4) (v := .int w_bound) (C := RX4) (T := TX4) (N := 9) hx hb hts zi4_ hown hK hP 0 rfl rfl 7 (by decide) z0_ (fun _ h9 => h9) rfl dX4_holds_69 ?_
    refine lv_iand hx hb dX4_holds_72 ?_
    refine lv_if_ne (tgt := 80) hx hb dX4_holds_73 (by decide) (fun c11 => ?_) (fun c11 => ?_)
    · skip
      refine lv_iconst (v := 0) hx hb dX4_holds_80 (by decide) ?_
      subst hQF
      exact W.zret (v := 0) hx hb hr rfl (fun t ht hW => ⟨⟨0, (), rfl, (Or.inr ⟨rfl, trivial⟩), trivial⟩, hS.F ht⟩) hS.2.2 dX4_holds_81
    · skip
      refine lv_iconst (v := 1) hx hb dX4_holds_76 (by decide) ?_
      refine lv_goto (tgt := 81) hx hb dX4_holds_77 (by decide) ?_
      subst hQF
      exact W.zret (v := 1) hx hb hr rfl (fun t ht hW => ⟨⟨1, (), rfl, (Or.inl ⟨rfl, trivial⟩), trivial⟩, hS.F ht⟩) hS.2.2 dX4_holds_81
  refine lv_tableOut (tgt := 82) hx hb dX4_holds_1 (by have q0 : ¬ px.toInt = 0 := fun h2 => absurd (Int32.toInt_inj.mp (h2.trans (by decide : (0 : Int) = (0 : Int32).toInt))) (by assumption); have q1 : ¬ px.toInt = 1 := fun h2 => absurd (Int32.toInt_inj.mp (h2.trans (by decide : (1 : Int) = (1 : Int32).toInt))) (by assumption); have q2 : ¬ px.toInt = 2 := fun h2 => absurd (Int32.toInt_inj.mp (h2.trans (by decide : (2 : Int) = (2 : Int32).toInt))) (by assumption); have q3 : ¬ px.toInt = 3 := fun h2 => absurd (Int32.toInt_inj.mp (h2.trans (by decide : (3 : Int) = (3 : Int32).toInt))) (by assumption); have q4 : ¬ px.toInt = 4 := fun h2 => absurd (Int32.toInt_inj.mp (h2.trans (by decide : (4 : Int) = (4 : Int32).toInt))) (by assumption); omega) (by decide) ?_
  refine lv_iconst (v := 1) hx hb dX4_holds_82 (by decide) ?_
  subst hQF
  exact W.zret (v := 1) hx hb hr rfl (fun t ht hW => ⟨⟨1, (), rfl, (Or.inl ⟨rfl, trivial⟩), trivial⟩, hS.F ht⟩) hS.2.2 dX4_holds_83

set_option maxHeartbeats 4000000 in
set_option maxRecDepth 100000 in
theorem n_X4_hearersOf (l : Launch) (D : va_G) (cy : Nat → ClassId) (a_w : Nat) (a_g : Nat) (a_pl : Nat) (a_kd : Nat) (a_sb : Nat) (a_hb : Nat) (a_sf : Nat) (a_hf : Nat) (w_bound : Int32) (w_drowned : Int64) (g_wide : Int32) (g_high : Int32) (g_drown : Int32) (g_wind : Int32) (g_hedges : Int64) (g_fountains : Int64) (g_people : Int32) (g_tellings : Int32) (g_reports : Int32) (a_g_kinds : Nat) (a_g_squares : Nat) (a_g_voices : Nat) (a_g_tellers : Nat) (a_g_listeners : Nat) (a_g_witnesses : Nat) (a_g_claims : Nat) (sb_f : Nat → Int32) (hb_f : Nat → Int32) (px : Int32) (py : Int32) (sz : Nat)  : Met l yX4_hearersOf wsX4_hearersOf ({ frames := 2, cells := 0, slots := 0, locals := 42 }) (va_Pc [.ref a_w, .int px, .int py] (kPre D cy [(a_w, .inr (4, [.ref a_g, .ref a_pl, .ref a_kd, .ref a_sb, .ref a_hb, .ref a_sf, .ref a_hf, .int w_bound, .long w_drowned])), (a_g, .inr (3, [.int g_wide, .int g_high, .int g_drown, .int g_wind, .long g_hedges, .long g_fountains, .int g_people, .int g_tellings, .int g_reports, .ref a_g_kinds, .ref a_g_squares, .ref a_g_voices, .ref a_g_tellers, .ref a_g_listeners, .ref a_g_witnesses, .ref a_g_claims])), (a_sb, .inl (cy 1, 5, .inl sb_f)), (a_hb, .inl (cy 1, 5, .inl hb_f))] sz)) (va_Qi (fun (r : Int32) (u : Unit) => True) (fun _ _ => True) (fun q : Nat => sz ≤ q)) 0 0 (fun q : Nat => sz ≤ q) := by
  refine Met.ofW (cc := cX4_hearersOf) (maxL := 5) (ret := (some .int)) (by decide) rfl ?_
  intro p e s m args below meth c s₁ B hml hv
  obtain ⟨rfl, hsz, hP, hKA, hD0⟩ := hv
  have hx := B.exec
  have hb := B.bytes
  have hr := B.returns
  have hts := atoms_spec (ws := wsX4_hearersOf) B.pre
  have hown : s.vm.findClass RX4 = some m.cls := findClass_of_methodNamed B.named
  have hlocks := B.notSynchronized
  subst hsz
  have hK := hKA.1
  have hD := hD0
  generalize hAe : (fun q : Nat => s.heap.size ≤ q) = A
  have hA : ∀ q : Nat, s.heap.size ≤ q → A q := fun q h => by rw [← hAe]; exact h
  have hS : va_S A s.heap s.heap [] := va_S.rf
  have hP : va_P D vwCl [(a_w, .inr (4, [.ref a_g, .ref a_pl, .ref a_kd, .ref a_sb, .ref a_hb, .ref a_sf, .ref a_hf, .int w_bound, .long w_drowned])), (a_g, .inr (3, [.int g_wide, .int g_high, .int g_drown, .int g_wind, .long g_hedges, .long g_fountains, .int g_people, .int g_tellings, .int g_reports, .ref a_g_kinds, .ref a_g_squares, .ref a_g_voices, .ref a_g_tellers, .ref a_g_listeners, .ref a_g_witnesses, .ref a_g_claims])), (a_sb, .inl (cy 1, 5, .inl sb_f)), (a_hb, .inl (cy 1, 5, .inl hb_f))] s.heap := hP
  have hl := lv_entry ([.ref a_w, .int px, .int py]) (n := 5) (Nat.le_of_ble_eq_true rfl)
  rw [lg_entry_eq]
  generalize (lg_sl ([.ref a_w, .int px, .int py]) ++ List.replicate (5 - (lg_sl ([.ref a_w, .int px, .int py])).length) Slot.unset).toArray = ls at hl ⊢
  have hl : lv_has ls 5 [(0, .ref a_w), (1, .int px), (2, .int py)] := hl
  refine qW (fun QF hQF => ?_)
  have z0_ := hts (.fieldLink RX4 35 "HeardSeen$Law" "g" "LHeardSeen$Garden;") (by decide +kernel)
  have zi4_ : ∀ w ∈ u_ws RX4 TX4 9, w ∈ wsX4_hearersOf := by decide +kernel
  have z2_ := hts (.fieldLink RX4 68 "HeardSeen$Garden" "people" "I") (by decide +kernel)
  have zi3_ : ∀ w ∈ u_ws RX3 TX3 16, w ∈ wsX4_hearersOf := by decide +kernel
  have z4_ := hts (.initialized RX10) (by decide +kernel)
  have z5_ := hts (.static yX10_isIn) (by decide +kernel)
  refine lv_iconst (v := 0) hx hb dX4_hearersOf_0 (by decide) ?_
  refine lv_istore_n (lv' := [(3, .int 0), (0, .ref a_w), (1, .int px), (2, .int py)]) hx hb dX4_hearersOf_1 rfl hl (by decide) rfl (fun ls hl => ?_)
  refine lv_iconst (v := 0) hx hb dX4_hearersOf_2 (by decide) ?_
  refine lv_istore (lv' := [(4, .int 0), (3, .int 0), (0, .ref a_w), (1, .int px), (2, .int py)]) hx hb dX4_hearersOf_3 hl (by decide) rfl (fun ls hl => ?_)
  have lp5 : ∀ (n5 : Nat) (v4_5 : Nat) (v3_5 : Int32) (hv4_5 : v4_5 < 2147483648), 2147483648 - v4_5 < n5 → ∀ (H : Heap) (locs : List Loc), va_P D vwCl [(a_w, .inr (4, [.ref a_g, .ref a_pl, .ref a_kd, .ref a_sb, .ref a_hb, .ref a_sf, .ref a_hf, .int w_bound, .long w_drowned])), (a_g, .inr (3, [.int g_wide, .int g_high, .int g_drown, .int g_wind, .long g_hedges, .long g_fountains, .int g_people, .int g_tellings, .int g_reports, .ref a_g_kinds, .ref a_g_squares, .ref a_g_voices, .ref a_g_tellers, .ref a_g_listeners, .ref a_g_witnesses, .ref a_g_claims])), (a_sb, .inl (cy 1, 5, .inl sb_f)), (a_hb, .inl (cy 1, 5, .inl hb_f))] H → va_D (fun _ => True) [(a_w, .inr (4, [.ref a_g, .ref a_pl, .ref a_kd, .ref a_sb, .ref a_hb, .ref a_sf, .ref a_hf, .int w_bound, .long w_drowned])), (a_g, .inr (3, [.int g_wide, .int g_high, .int g_drown, .int g_wind, .long g_hedges, .long g_fountains, .int g_people, .int g_tellings, .int g_reports, .ref a_g_kinds, .ref a_g_squares, .ref a_g_voices, .ref a_g_tellers, .ref a_g_listeners, .ref a_g_witnesses, .ref a_g_claims])), (a_sb, .inl (cy 1, 5, .inl sb_f)), (a_hb, .inl (cy 1, 5, .inl hb_f))] → va_S A s.heap H locs → ∀ ls : Array Slot, lv_has ls 5 [(4, .int (nI v4_5)), (3, .int v3_5), (0, .ref a_w), (1, .int px), (2, .int py)] → W p l e (headSpec wsX4_hearersOf ({ frames := 2, cells := 0, slots := 0, locals := 42 })).room s m [.ref a_w, .int px, .int py].toArray below meth c H locs 0 0 QF (F0 m 5 ls []) := by
    intro n5
    induction n5 with
    | zero => intro v4_5 v3_5 hv4_5 hm; exact absurd hm (Nat.not_lt_zero _)
    | succ n5 ih5 =>
      intro v4_5 v3_5 hv4_5 hm5 H locs hP hD hS ls hl
      refine lv_iload hx hb dX4_hearersOf_5 (lv_at hl 0 rfl) ?_
      refine lv_aload_n hx hb dX4_hearersOf_7 rfl (lv_at hl 2 rfl) ?_
      refine va_get (D := D) (ci := 4) (v := .ref a_g) (C := RX4) (T := TX4) (N := 9) hx hb hts zi4_ hown hK hP 0 rfl rfl 0 (by decide) z0_ (fun _ h9 => h9) rfl dX4_hearersOf_8 ?_
      refine va_get (D := D) (ci := 3) (v := .int g_people) (C := RX3) (T := TX3) (N := 16) hx hb hts zi3_ hown hK hP 1 rfl rfl 6 (by decide) z2_ (fun _ h9 => h9) rfl dX4_hearersOf_11 ?_
      refine lv_icmp_ge (tgt := 61) hx hb dX4_hearersOf_14 (by decide) (fun c1 => ?_) (fun c1 => ?_)
      · skip
        refine lv_iload_n hx hb dX4_hearersOf_61 rfl (lv_at hl 1 rfl) ?_
        subst hQF
        exact W.iret (v := v3_5) hx hb hr (fun t ht hW => ⟨⟨v3_5, (), rfl, trivial, trivial⟩, hS.F ht⟩) hS.2.2 dX4_hearersOf_62
      · skip
        refine lv_iload_n hx hb dX4_hearersOf_17 rfl (lv_at hl 3 rfl) ?_
        refine lv_iload hx hb dX4_hearersOf_18 (lv_at hl 0 rfl) ?_
        refine rd_i (va_runSN (As := [.int px, .int (nI v4_5)]) (rest := []) ⟨hx, hb, hml, hown, hts⟩ (n_X10_isIn l D cy px (nI v4_5) _ ) ⟨(va_cnB 2 hts gX4_hearersOf_X10_isIn_n126 rfl rfl rfl (hKA.2 (.methodLinkNest RX4 126 yX10_isIn RX10) (by decide +kernel)) z4_ (by decide +kernel) ⟨Nat.le_of_ble_eq_true rfl, Nat.le_of_ble_eq_true rfl⟩), z5_, trivial⟩ (pS hKA pE (dE (A := A))) rfl rfl hl.1 rfl (lv_room (Nat.le_of_ble_eq_true rfl)) dX4_hearersOf_20 ⟨Nat.le_of_ble_eq_true rfl, Nat.le_of_ble_eq_true rfl⟩) hP hS hA (fun r2 H locs hwr2 hP hS => ?_)
        have hwr2 : (r2 = 1 ∧ True) ∨ (r2 = 0 ∧ True) := hwr2
        refine lv_if_eq (tgt := 55) hx hb dX4_hearersOf_23 (by decide) (fun c3 => ?_) (fun c3 => ?_)
        · skip
          refine lv_iinc (v := nI (v4_5 + 1)) (lv' := [(4, .int (nI (v4_5 + 1))), (3, .int v3_5), (0, .ref a_w), (1, .int px), (2, .int py)]) hx hb dX4_hearersOf_55 hl (k := 0) rfl (nI_1 _) (by decide) rfl (fun ls hl => ?_)
          refine lv_goto (tgt := 5) hx hb dX4_hearersOf_58 (by decide) ?_
          exact ih5 (v4_5 + 1) v3_5 (by first | omega | exact nlt_max hv4_5 (by assumption)) (by first | omega | (have := nlt_max hv4_5 (by assumption); omega)) _ _ hP hD hS ls hl
        · skip
          refine lv_aload_n hx hb dX4_hearersOf_26 rfl (lv_at hl 2 rfl) ?_
          refine lv_iload hx hb dX4_hearersOf_27 (lv_at hl 0 rfl) ?_
          refine rd_i (va_runV (As := [.int (nI v4_5)]) (rest := []) ⟨hx, hb, hml, hown, hts⟩ (n_X4_maySpeak l D cy a_w a_g a_pl a_kd a_sb a_hb a_sf a_hf w_bound w_drowned sb_f hb_f (nI v4_5) _ ) (cwV 1 hts gX4_hearersOf_X4_maySpeak rfl rfl rfl (by decide +kernel) ⟨Nat.le_of_ble_eq_true rfl, Nat.le_of_ble_eq_true rfl⟩) (pV (ci := 4) (k := 0) hKA (hP.sub (ws' := [(a_w, .inr (4, [.ref a_g, .ref a_pl, .ref a_kd, .ref a_sb, .ref a_hb, .ref a_sf, .ref a_hf, .int w_bound, .long w_drowned])), (a_sb, .inl (cy 1, 5, .inl sb_f)), (a_hb, .inl (cy 1, 5, .inl hb_f))]) [0, 2, 3] rfl) (hD.sub (ws' := [(a_w, .inr (4, [.ref a_g, .ref a_pl, .ref a_kd, .ref a_sb, .ref a_hb, .ref a_sf, .ref a_hf, .int w_bound, .long w_drowned])), (a_sb, .inl (cy 1, 5, .inl sb_f)), (a_hb, .inl (cy 1, 5, .inl hb_f))]) [0, 2, 3] (by decide) rfl) rfl rfl) rfl rfl hl.1 rfl (lv_room (Nat.le_of_ble_eq_true rfl)) dX4_hearersOf_29 ⟨Nat.le_of_ble_eq_true rfl, Nat.le_of_ble_eq_true rfl⟩) hP hS hA (fun r4 H locs hwr4 hP hS => ?_)
          have hwr4 : (r4 = 1 ∧ True) ∨ (r4 = 0 ∧ True) := hwr4
          refine lv_if_eq (tgt := 55) hx hb dX4_hearersOf_32 (by decide) (fun c5 => ?_) (fun c5 => ?_)
          · skip
            refine lv_iinc (v := nI (v4_5 + 1)) (lv' := [(4, .int (nI (v4_5 + 1))), (3, .int v3_5), (0, .ref a_w), (1, .int px), (2, .int py)]) hx hb dX4_hearersOf_55 hl (k := 0) rfl (nI_1 _) (by decide) rfl (fun ls hl => ?_)
            refine lv_goto (tgt := 5) hx hb dX4_hearersOf_58 (by decide) ?_
            exact ih5 (v4_5 + 1) v3_5 (by first | omega | exact nlt_max hv4_5 (by assumption)) (by first | omega | (have := nlt_max hv4_5 (by assumption); omega)) _ _ hP hD hS ls hl
          · skip
            refine lv_aload_n hx hb dX4_hearersOf_35 rfl (lv_at hl 2 rfl) ?_
            refine lv_iload hx hb dX4_hearersOf_36 (lv_at hl 0 rfl) ?_
            refine rd_i (va_runV (As := [.int (nI v4_5)]) (rest := []) ⟨hx, hb, hml, hown, hts⟩ (n_X4_whoHear l D cy a_w a_g a_pl a_kd a_sb a_hb a_sf a_hf w_bound w_drowned hb_f (nI v4_5) _ ) (cwV 1 hts gX4_hearersOf_X4_whoHear rfl rfl rfl (by decide +kernel) ⟨Nat.le_of_ble_eq_true rfl, Nat.le_of_ble_eq_true rfl⟩) (pV (ci := 4) (k := 0) hKA (hP.sub (ws' := [(a_w, .inr (4, [.ref a_g, .ref a_pl, .ref a_kd, .ref a_sb, .ref a_hb, .ref a_sf, .ref a_hf, .int w_bound, .long w_drowned])), (a_hb, .inl (cy 1, 5, .inl hb_f))]) [0, 3] rfl) (hD.sub (ws' := [(a_w, .inr (4, [.ref a_g, .ref a_pl, .ref a_kd, .ref a_sb, .ref a_hb, .ref a_sf, .ref a_hf, .int w_bound, .long w_drowned])), (a_hb, .inl (cy 1, 5, .inl hb_f))]) [0, 3] (by decide) rfl) rfl rfl) rfl rfl hl.1 rfl (lv_room (Nat.le_of_ble_eq_true rfl)) dX4_hearersOf_38 ⟨Nat.le_of_ble_eq_true rfl, Nat.le_of_ble_eq_true rfl⟩) hP hS hA (fun r6 H locs hwr6 hP hS => ?_)
            refine lv_iload_n hx hb dX4_hearersOf_41 rfl (lv_at hl 4 rfl) ?_
            refine lv_iand hx hb dX4_hearersOf_42 ?_
            refine lv_if_ne (tgt := 55) hx hb dX4_hearersOf_43 (by decide) (fun c7 => ?_) (fun c7 => ?_)
            · skip
              refine lv_iinc (v := nI (v4_5 + 1)) (lv' := [(4, .int (nI (v4_5 + 1))), (3, .int v3_5), (0, .ref a_w), (1, .int px), (2, .int py)]) hx hb dX4_hearersOf_55 hl (k := 0) rfl (nI_1 _) (by decide) rfl (fun ls hl => ?_)
              refine lv_goto (tgt := 5) hx hb dX4_hearersOf_58 (by decide) ?_
              exact ih5 (v4_5 + 1) v3_5 (by first | omega | exact nlt_max hv4_5 (by assumption)) (by first | omega | (have := nlt_max hv4_5 (by assumption); omega)) _ _ hP hD hS ls hl
            · skip
              refine lv_iload_n hx hb dX4_hearersOf_46 rfl (lv_at hl 1 rfl) ?_
              refine lv_aload_n hx hb dX4_hearersOf_47 rfl (lv_at hl 2 rfl) ?_
              refine lv_iload hx hb dX4_hearersOf_48 (lv_at hl 0 rfl) ?_
              refine rd_i (va_runV (As := [.int (nI v4_5)]) (rest := [.int v3_5]) ⟨hx, hb, hml, hown, hts⟩ (n_X4_whoHear l D cy a_w a_g a_pl a_kd a_sb a_hb a_sf a_hf w_bound w_drowned hb_f (nI v4_5) _ ) (cwV 1 hts gX4_hearersOf_X4_whoHear rfl rfl rfl (by decide +kernel) ⟨Nat.le_of_ble_eq_true rfl, Nat.le_of_ble_eq_true rfl⟩) (pV (ci := 4) (k := 0) hKA (hP.sub (ws' := [(a_w, .inr (4, [.ref a_g, .ref a_pl, .ref a_kd, .ref a_sb, .ref a_hb, .ref a_sf, .ref a_hf, .int w_bound, .long w_drowned])), (a_hb, .inl (cy 1, 5, .inl hb_f))]) [0, 3] rfl) (hD.sub (ws' := [(a_w, .inr (4, [.ref a_g, .ref a_pl, .ref a_kd, .ref a_sb, .ref a_hb, .ref a_sf, .ref a_hf, .int w_bound, .long w_drowned])), (a_hb, .inl (cy 1, 5, .inl hb_f))]) [0, 3] (by decide) rfl) rfl rfl) rfl rfl hl.1 rfl (lv_room (Nat.le_of_ble_eq_true rfl)) dX4_hearersOf_50 ⟨Nat.le_of_ble_eq_true rfl, Nat.le_of_ble_eq_true rfl⟩) hP hS hA (fun r8 H locs hwr8 hP hS => ?_)
              refine lv_ior hx hb dX4_hearersOf_53 ?_
              refine lv_topi (fun x9 ex9 => ?_)
              refine lv_istore_n (lv' := [(3, .int x9), (4, .int (nI v4_5)), (0, .ref a_w), (1, .int px), (2, .int py)]) hx hb dX4_hearersOf_54 rfl hl (by decide) rfl (fun ls hl => ?_)
              refine lv_iinc (v := nI (v4_5 + 1)) (lv' := [(4, .int (nI (v4_5 + 1))), (3, .int x9), (0, .ref a_w), (1, .int px), (2, .int py)]) hx hb dX4_hearersOf_55 hl (k := 1) rfl (nI_1 _) (by decide) rfl (fun ls hl => ?_)
              refine lv_goto (tgt := 5) hx hb dX4_hearersOf_58 (by decide) ?_
              exact ih5 (v4_5 + 1) x9 (by first | omega | exact nlt_max hv4_5 (by assumption)) (by first | omega | (have := nlt_max hv4_5 (by assumption); omega)) _ _ hP hD hS ls hl
  exact lp5 (2147483648 - 0 + 1) 0 0 (by first | omega | exact nlt_max (by assumption) (by assumption)) (Nat.lt_succ_self _) _ _ hP hD hS ls hl

set_option maxHeartbeats 4000000 in
set_option maxRecDepth 100000 in
theorem n_X4_speakerCount (l : Launch) (D : va_G) (cy : Nat → ClassId) (a_w : Nat) (a_g : Nat) (a_pl : Nat) (a_kd : Nat) (a_sb : Nat) (a_hb : Nat) (a_sf : Nat) (a_hf : Nat) (w_bound : Int32) (w_drowned : Int64) (g_wide : Int32) (g_high : Int32) (g_drown : Int32) (g_wind : Int32) (g_hedges : Int64) (g_fountains : Int64) (g_people : Int32) (g_tellings : Int32) (g_reports : Int32) (a_g_kinds : Nat) (a_g_squares : Nat) (a_g_voices : Nat) (a_g_tellers : Nat) (a_g_listeners : Nat) (a_g_witnesses : Nat) (a_g_claims : Nat) (sb_f : Nat → Int32) (hb_f : Nat → Int32) (sz : Nat)  : Met l yX4_speakerCount wsX4_speakerCount ({ frames := 2, cells := 0, slots := 0, locals := 42 }) (va_Pc [.ref a_w] (kPre D cy [(a_w, .inr (4, [.ref a_g, .ref a_pl, .ref a_kd, .ref a_sb, .ref a_hb, .ref a_sf, .ref a_hf, .int w_bound, .long w_drowned])), (a_g, .inr (3, [.int g_wide, .int g_high, .int g_drown, .int g_wind, .long g_hedges, .long g_fountains, .int g_people, .int g_tellings, .int g_reports, .ref a_g_kinds, .ref a_g_squares, .ref a_g_voices, .ref a_g_tellers, .ref a_g_listeners, .ref a_g_witnesses, .ref a_g_claims])), (a_sb, .inl (cy 1, 5, .inl sb_f)), (a_hb, .inl (cy 1, 5, .inl hb_f))] sz)) (va_Qi (fun (r : Int32) (u : Unit) => True) (fun _ _ => True) (fun q : Nat => sz ≤ q)) 0 0 (fun q : Nat => sz ≤ q) := by
  refine Met.ofW (cc := cX4_speakerCount) (maxL := 3) (ret := (some .int)) (by decide) rfl ?_
  intro p e s m args below meth c s₁ B hml hv
  obtain ⟨rfl, hsz, hP, hKA, hD0⟩ := hv
  have hx := B.exec
  have hb := B.bytes
  have hr := B.returns
  have hts := atoms_spec (ws := wsX4_speakerCount) B.pre
  have hown : s.vm.findClass RX4 = some m.cls := findClass_of_methodNamed B.named
  have hlocks := B.notSynchronized
  subst hsz
  have hK := hKA.1
  have hD := hD0
  generalize hAe : (fun q : Nat => s.heap.size ≤ q) = A
  have hA : ∀ q : Nat, s.heap.size ≤ q → A q := fun q h => by rw [← hAe]; exact h
  have hS : va_S A s.heap s.heap [] := va_S.rf
  have hP : va_P D vwCl [(a_w, .inr (4, [.ref a_g, .ref a_pl, .ref a_kd, .ref a_sb, .ref a_hb, .ref a_sf, .ref a_hf, .int w_bound, .long w_drowned])), (a_g, .inr (3, [.int g_wide, .int g_high, .int g_drown, .int g_wind, .long g_hedges, .long g_fountains, .int g_people, .int g_tellings, .int g_reports, .ref a_g_kinds, .ref a_g_squares, .ref a_g_voices, .ref a_g_tellers, .ref a_g_listeners, .ref a_g_witnesses, .ref a_g_claims])), (a_sb, .inl (cy 1, 5, .inl sb_f)), (a_hb, .inl (cy 1, 5, .inl hb_f))] s.heap := hP
  have hl := lv_entry ([.ref a_w]) (n := 3) (Nat.le_of_ble_eq_true rfl)
  rw [lg_entry_eq]
  generalize (lg_sl ([.ref a_w]) ++ List.replicate (3 - (lg_sl ([.ref a_w])).length) Slot.unset).toArray = ls at hl ⊢
  have hl : lv_has ls 3 [(0, .ref a_w)] := hl
  refine qW (fun QF hQF => ?_)
  have z0_ := hts (.fieldLink RX4 35 "HeardSeen$Law" "g" "LHeardSeen$Garden;") (by decide +kernel)
  have zi4_ : ∀ w ∈ u_ws RX4 TX4 9, w ∈ wsX4_speakerCount := by decide +kernel
  have z2_ := hts (.fieldLink RX4 68 "HeardSeen$Garden" "people" "I") (by decide +kernel)
  have zi3_ : ∀ w ∈ u_ws RX3 TX3 16, w ∈ wsX4_speakerCount := by decide +kernel
  refine lv_iconst (v := 0) hx hb dX4_speakerCount_0 (by decide) ?_
  refine lv_istore_n (lv' := [(1, .int 0), (0, .ref a_w)]) hx hb dX4_speakerCount_1 rfl hl (by decide) rfl (fun ls hl => ?_)
  refine lv_iconst (v := 0) hx hb dX4_speakerCount_2 (by decide) ?_
  refine lv_istore_n (lv' := [(2, .int 0), (1, .int 0), (0, .ref a_w)]) hx hb dX4_speakerCount_3 rfl hl (by decide) rfl (fun ls hl => ?_)
  have lp4 : ∀ (n4 : Nat) (v2_4 : Nat) (v1_4 : Int32) (hv2_4 : v2_4 < 2147483648), 2147483648 - v2_4 < n4 → ∀ (H : Heap) (locs : List Loc), va_P D vwCl [(a_w, .inr (4, [.ref a_g, .ref a_pl, .ref a_kd, .ref a_sb, .ref a_hb, .ref a_sf, .ref a_hf, .int w_bound, .long w_drowned])), (a_g, .inr (3, [.int g_wide, .int g_high, .int g_drown, .int g_wind, .long g_hedges, .long g_fountains, .int g_people, .int g_tellings, .int g_reports, .ref a_g_kinds, .ref a_g_squares, .ref a_g_voices, .ref a_g_tellers, .ref a_g_listeners, .ref a_g_witnesses, .ref a_g_claims])), (a_sb, .inl (cy 1, 5, .inl sb_f)), (a_hb, .inl (cy 1, 5, .inl hb_f))] H → va_D (fun _ => True) [(a_w, .inr (4, [.ref a_g, .ref a_pl, .ref a_kd, .ref a_sb, .ref a_hb, .ref a_sf, .ref a_hf, .int w_bound, .long w_drowned])), (a_g, .inr (3, [.int g_wide, .int g_high, .int g_drown, .int g_wind, .long g_hedges, .long g_fountains, .int g_people, .int g_tellings, .int g_reports, .ref a_g_kinds, .ref a_g_squares, .ref a_g_voices, .ref a_g_tellers, .ref a_g_listeners, .ref a_g_witnesses, .ref a_g_claims])), (a_sb, .inl (cy 1, 5, .inl sb_f)), (a_hb, .inl (cy 1, 5, .inl hb_f))] → va_S A s.heap H locs → ∀ ls : Array Slot, lv_has ls 3 [(2, .int (nI v2_4)), (1, .int v1_4), (0, .ref a_w)] → W p l e (headSpec wsX4_speakerCount ({ frames := 2, cells := 0, slots := 0, locals := 42 })).room s m [.ref a_w].toArray below meth c H locs 0 0 QF (F0 m 4 ls []) := by
    intro n4
    induction n4 with
    | zero => intro v2_4 v1_4 hv2_4 hm; exact absurd hm (Nat.not_lt_zero _)
    | succ n4 ih4 =>
      intro v2_4 v1_4 hv2_4 hm4 H locs hP hD hS ls hl
      refine lv_iload_n hx hb dX4_speakerCount_4 rfl (lv_at hl 0 rfl) ?_
      refine lv_aload_n hx hb dX4_speakerCount_5 rfl (lv_at hl 2 rfl) ?_
      refine va_get (D := D) (ci := 4) (v := .ref a_g) (C := RX4) (T := TX4) (N := 9) hx hb hts zi4_ hown hK hP 0 rfl rfl 0 (by decide) z0_ (fun _ h9 => h9) rfl dX4_speakerCount_6 ?_
      refine va_get (D := D) (ci := 3) (v := .int g_people) (C := RX3) (T := TX3) (N := 16) hx hb hts zi3_ hown hK hP 1 rfl rfl 6 (by decide) z2_ (fun _ h9 => h9) rfl dX4_speakerCount_9 ?_
      refine lv_icmp_ge (tgt := 40) hx hb dX4_speakerCount_12 (by decide) (fun c1 => ?_) (fun c1 => ?_)
      · skip
        refine lv_iload_n hx hb dX4_speakerCount_40 rfl (lv_at hl 1 rfl) ?_
        subst hQF
        exact W.iret (v := v1_4) hx hb hr (fun t ht hW => ⟨⟨v1_4, (), rfl, trivial, trivial⟩, hS.F ht⟩) hS.2.2 dX4_speakerCount_41
      · skip
        refine lv_aload_n hx hb dX4_speakerCount_15 rfl (lv_at hl 2 rfl) ?_
        refine lv_iload_n hx hb dX4_speakerCount_16 rfl (lv_at hl 0 rfl) ?_
        refine rd_i (va_runV (As := [.int (nI v2_4)]) (rest := []) ⟨hx, hb, hml, hown, hts⟩ (n_X4_maySpeak l D cy a_w a_g a_pl a_kd a_sb a_hb a_sf a_hf w_bound w_drowned sb_f hb_f (nI v2_4) _ ) (cwV 1 hts gX4_speakerCount_X4_maySpeak rfl rfl rfl (by decide +kernel) ⟨Nat.le_of_ble_eq_true rfl, Nat.le_of_ble_eq_true rfl⟩) (pV (ci := 4) (k := 0) hKA (hP.sub (ws' := [(a_w, .inr (4, [.ref a_g, .ref a_pl, .ref a_kd, .ref a_sb, .ref a_hb, .ref a_sf, .ref a_hf, .int w_bound, .long w_drowned])), (a_sb, .inl (cy 1, 5, .inl sb_f)), (a_hb, .inl (cy 1, 5, .inl hb_f))]) [0, 2, 3] rfl) (hD.sub (ws' := [(a_w, .inr (4, [.ref a_g, .ref a_pl, .ref a_kd, .ref a_sb, .ref a_hb, .ref a_sf, .ref a_hf, .int w_bound, .long w_drowned])), (a_sb, .inl (cy 1, 5, .inl sb_f)), (a_hb, .inl (cy 1, 5, .inl hb_f))]) [0, 2, 3] (by decide) rfl) rfl rfl) rfl rfl hl.1 rfl (lv_room (Nat.le_of_ble_eq_true rfl)) dX4_speakerCount_17 ⟨Nat.le_of_ble_eq_true rfl, Nat.le_of_ble_eq_true rfl⟩) hP hS hA (fun r2 H locs hwr2 hP hS => ?_)
        have hwr2 : (r2 = 1 ∧ True) ∨ (r2 = 0 ∧ True) := hwr2
        refine lv_if_eq (tgt := 34) hx hb dX4_speakerCount_20 (by decide) (fun c3 => ?_) (fun c3 => ?_)
        · skip
          refine lv_iinc (v := nI (v2_4 + 1)) (lv' := [(2, .int (nI (v2_4 + 1))), (1, .int v1_4), (0, .ref a_w)]) hx hb dX4_speakerCount_34 hl (k := 0) rfl (nI_1 _) (by decide) rfl (fun ls hl => ?_)
          refine lv_goto (tgt := 4) hx hb dX4_speakerCount_37 (by decide) ?_
          exact ih4 (v2_4 + 1) v1_4 (by first | omega | exact nlt_max hv2_4 (by assumption)) (by first | omega | (have := nlt_max hv2_4 (by assumption); omega)) _ _ hP hD hS ls hl
        · skip
          refine lv_aload_n hx hb dX4_speakerCount_23 rfl (lv_at hl 2 rfl) ?_
          refine lv_iload_n hx hb dX4_speakerCount_24 rfl (lv_at hl 0 rfl) ?_
          refine rd_i (va_runV (As := [.int (nI v2_4)]) (rest := []) ⟨hx, hb, hml, hown, hts⟩ (n_X4_whoHear l D cy a_w a_g a_pl a_kd a_sb a_hb a_sf a_hf w_bound w_drowned hb_f (nI v2_4) _ ) (cwV 1 hts gX4_speakerCount_X4_whoHear rfl rfl rfl (by decide +kernel) ⟨Nat.le_of_ble_eq_true rfl, Nat.le_of_ble_eq_true rfl⟩) (pV (ci := 4) (k := 0) hKA (hP.sub (ws' := [(a_w, .inr (4, [.ref a_g, .ref a_pl, .ref a_kd, .ref a_sb, .ref a_hb, .ref a_sf, .ref a_hf, .int w_bound, .long w_drowned])), (a_hb, .inl (cy 1, 5, .inl hb_f))]) [0, 3] rfl) (hD.sub (ws' := [(a_w, .inr (4, [.ref a_g, .ref a_pl, .ref a_kd, .ref a_sb, .ref a_hb, .ref a_sf, .ref a_hf, .int w_bound, .long w_drowned])), (a_hb, .inl (cy 1, 5, .inl hb_f))]) [0, 3] (by decide) rfl) rfl rfl) rfl rfl hl.1 rfl (lv_room (Nat.le_of_ble_eq_true rfl)) dX4_speakerCount_25 ⟨Nat.le_of_ble_eq_true rfl, Nat.le_of_ble_eq_true rfl⟩) hP hS hA (fun r4 H locs hwr4 hP hS => ?_)
          refine lv_if_eq (tgt := 34) hx hb dX4_speakerCount_28 (by decide) (fun c5 => ?_) (fun c5 => ?_)
          · skip
            refine lv_iinc (v := nI (v2_4 + 1)) (lv' := [(2, .int (nI (v2_4 + 1))), (1, .int v1_4), (0, .ref a_w)]) hx hb dX4_speakerCount_34 hl (k := 0) rfl (nI_1 _) (by decide) rfl (fun ls hl => ?_)
            refine lv_goto (tgt := 4) hx hb dX4_speakerCount_37 (by decide) ?_
            exact ih4 (v2_4 + 1) v1_4 (by first | omega | exact nlt_max hv2_4 (by assumption)) (by first | omega | (have := nlt_max hv2_4 (by assumption); omega)) _ _ hP hD hS ls hl
          · skip
            obtain ⟨x6, ex6⟩ : ∃ y : Int32, y = v1_4 + 1 := ⟨_, rfl⟩
            refine lv_iinc (v := x6) (lv' := [(1, .int x6), (2, .int (nI v2_4)), (0, .ref a_w)]) hx hb dX4_speakerCount_31 hl (k := 1) rfl (by rw [ex6]; rfl) (by decide) rfl (fun ls hl => ?_)
            refine lv_iinc (v := nI (v2_4 + 1)) (lv' := [(2, .int (nI (v2_4 + 1))), (1, .int x6), (0, .ref a_w)]) hx hb dX4_speakerCount_34 hl (k := 1) rfl (nI_1 _) (by decide) rfl (fun ls hl => ?_)
            refine lv_goto (tgt := 4) hx hb dX4_speakerCount_37 (by decide) ?_
            exact ih4 (v2_4 + 1) x6 (by first | omega | exact nlt_max hv2_4 (by assumption)) (by first | omega | (have := nlt_max hv2_4 (by assumption); omega)) _ _ hP hD hS ls hl
  exact lp4 (2147483648 - 0 + 1) 0 0 (by first | omega | exact nlt_max (by assumption) (by assumption)) (Nat.lt_succ_self _) _ _ hP hD hS ls hl
