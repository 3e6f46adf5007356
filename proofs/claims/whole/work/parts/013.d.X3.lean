set_option maxRecDepth 20000 in
theorem ggX3_init_X1_init : GoodIn wsX3_init wsX1_init := goodIn_r _ [21, 22, 2, 3, 23, 47, 48, 49] (by decide +kernel) (by decide +kernel)
set_option maxRecDepth 20000 in
theorem gX3_init_X1_init : GoodIn wsX3_init (wsX1_init) := ggX3_init_X1_init
set_option maxRecDepth 20000 in
theorem ggX3_init_X2_init : GoodIn wsX3_init wsX2_init := goodIn_r _ [25, 26, 2, 3, 27, 28, 50] (by decide +kernel) (by decide +kernel)
set_option maxRecDepth 20000 in
theorem gX3_init_X2_init_n35 : GoodIn wsX3_init (wsX2_init) := ggX3_init_X2_init
theorem dX3_init_0 : decode cX3_init 0 = .ok (.aload_n 0, 1) := by decide +kernel
theorem dX3_init_1 : decode cX3_init 1 = .ok (.invokespecial 3, 3) := by decide +kernel
theorem dX3_init_4 : decode cX3_init 4 = .ok (.aload_n 0, 1) := by decide +kernel
theorem dX3_init_5 : decode cX3_init 5 = .ok (.bipush 7, 2) := by decide +kernel
theorem dX3_init_7 : decode cX3_init 7 = .ok (.putfield 9, 3) := by decide +kernel
theorem dX3_init_10 : decode cX3_init 10 = .ok (.aload_n 0, 1) := by decide +kernel
theorem dX3_init_11 : decode cX3_init 11 = .ok (.bipush 15, 2) := by decide +kernel
theorem dX3_init_13 : decode cX3_init 13 = .ok (.putfield 15, 3) := by decide +kernel
theorem dX3_init_16 : decode cX3_init 16 = .ok (.aload_n 0, 1) := by decide +kernel
theorem dX3_init_17 : decode cX3_init 17 = .ok (.iconst 1, 1) := by decide +kernel
theorem dX3_init_18 : decode cX3_init 18 = .ok (.putfield 18, 3) := by decide +kernel
theorem dX3_init_21 : decode cX3_init 21 = .ok (.aload_n 0, 1) := by decide +kernel
theorem dX3_init_22 : decode cX3_init 22 = .ok (.new 21, 3) := by decide +kernel
theorem dX3_init_25 : decode cX3_init 25 = .ok (.dup, 1) := by decide +kernel
theorem dX3_init_26 : decode cX3_init 26 = .ok (.iconst 0, 1) := by decide +kernel
theorem dX3_init_27 : decode cX3_init 27 = .ok (.invokespecial 23, 3) := by decide +kernel
theorem dX3_init_30 : decode cX3_init 30 = .ok (.putfield 26, 3) := by decide +kernel
theorem dX3_init_33 : decode cX3_init 33 = .ok (.aload_n 0, 1) := by decide +kernel
theorem dX3_init_34 : decode cX3_init 34 = .ok (.new 21, 3) := by decide +kernel
theorem dX3_init_37 : decode cX3_init 37 = .ok (.dup, 1) := by decide +kernel
theorem dX3_init_38 : decode cX3_init 38 = .ok (.iconst 1, 1) := by decide +kernel
theorem dX3_init_39 : decode cX3_init 39 = .ok (.invokespecial 23, 3) := by decide +kernel
theorem dX3_init_42 : decode cX3_init 42 = .ok (.putfield 30, 3) := by decide +kernel
theorem dX3_init_45 : decode cX3_init 45 = .ok (.aload_n 0, 1) := by decide +kernel
theorem dX3_init_46 : decode cX3_init 46 = .ok (.new 33, 3) := by decide +kernel
theorem dX3_init_49 : decode cX3_init 49 = .ok (.dup, 1) := by decide +kernel
theorem dX3_init_50 : decode cX3_init 50 = .ok (.invokespecial 35, 3) := by decide +kernel
theorem dX3_init_53 : decode cX3_init 53 = .ok (.putfield 36, 3) := by decide +kernel
theorem dX3_init_56 : decode cX3_init 56 = .ok (.aload_n 0, 1) := by decide +kernel
theorem dX3_init_57 : decode cX3_init 57 = .ok (.iload_n 2, 1) := by decide +kernel
theorem dX3_init_58 : decode cX3_init 58 = .ok (.putfield 40, 3) := by decide +kernel
theorem dX3_init_61 : decode cX3_init 61 = .ok (.aload_n 0, 1) := by decide +kernel
theorem dX3_init_62 : decode cX3_init 62 = .ok (.iload_n 1, 1) := by decide +kernel
theorem dX3_init_63 : decode cX3_init 63 = .ok (.ifCond .ne 10, 3) := by decide +kernel
theorem dX3_init_66 : decode cX3_init 66 = .ok (.aload_n 0, 1) := by decide +kernel
theorem dX3_init_67 : decode cX3_init 67 = .ok (.getfield 26, 3) := by decide +kernel
theorem dX3_init_70 : decode cX3_init 70 = .ok (.goto 7, 3) := by decide +kernel
theorem dX3_init_73 : decode cX3_init 73 = .ok (.aload_n 0, 1) := by decide +kernel
theorem dX3_init_74 : decode cX3_init 74 = .ok (.getfield 30, 3) := by decide +kernel
theorem dX3_init_77 : decode cX3_init 77 = .ok (.putfield 43, 3) := by decide +kernel
theorem dX3_init_80 : decode cX3_init 80 = .ok (.aload_n 0, 1) := by decide +kernel
theorem dX3_init_81 : decode cX3_init 81 = .ok (.iload_n 1, 1) := by decide +kernel
theorem dX3_init_82 : decode cX3_init 82 = .ok (.ifCond .ne 10, 3) := by decide +kernel
theorem dX3_init_85 : decode cX3_init 85 = .ok (.aload_n 0, 1) := by decide +kernel
theorem dX3_init_86 : decode cX3_init 86 = .ok (.getfield 30, 3) := by decide +kernel
theorem dX3_init_89 : decode cX3_init 89 = .ok (.goto 7, 3) := by decide +kernel
theorem dX3_init_92 : decode cX3_init 92 = .ok (.aload_n 0, 1) := by decide +kernel
theorem dX3_init_93 : decode cX3_init 93 = .ok (.getfield 26, 3) := by decide +kernel
theorem dX3_init_96 : decode cX3_init 96 = .ok (.putfield 46, 3) := by decide +kernel
theorem dX3_init_99 : decode cX3_init 99 = .ok (.return_, 1) := by decide +kernel
theorem dX3_rest_0 : decode cX3_rest 0 = .ok (.aload_n 0, 1) := by decide +kernel
theorem dX3_rest_1 : decode cX3_rest 1 = .ok (.iconst 0, 1) := by decide +kernel
theorem dX3_rest_2 : decode cX3_rest 2 = .ok (.putfield 49, 3) := by decide +kernel
theorem dX3_rest_5 : decode cX3_rest 5 = .ok (.aload_n 0, 1) := by decide +kernel
theorem dX3_rest_6 : decode cX3_rest 6 = .ok (.iconst 0, 1) := by decide +kernel
theorem dX3_rest_7 : decode cX3_rest 7 = .ok (.putfield 52, 3) := by decide +kernel
theorem dX3_rest_10 : decode cX3_rest 10 = .ok (.aload_n 0, 1) := by decide +kernel
theorem dX3_rest_11 : decode cX3_rest 11 = .ok (.iconst 1, 1) := by decide +kernel
theorem dX3_rest_12 : decode cX3_rest 12 = .ok (.putfield 18, 3) := by decide +kernel
theorem dX3_rest_15 : decode cX3_rest 15 = .ok (.return_, 1) := by decide +kernel
theorem dX3_fail_0 : decode cX3_fail 0 = .ok (.aload_n 0, 1) := by decide +kernel
theorem dX3_fail_1 : decode cX3_fail 1 = .ok (.iconst 5, 1) := by decide +kernel
theorem dX3_fail_2 : decode cX3_fail 2 = .ok (.putfield 49, 3) := by decide +kernel
theorem dX3_fail_5 : decode cX3_fail 5 = .ok (.aload_n 0, 1) := by decide +kernel
theorem dX3_fail_6 : decode cX3_fail 6 = .ok (.iload_n 1, 1) := by decide +kernel
theorem dX3_fail_7 : decode cX3_fail 7 = .ok (.putfield 52, 3) := by decide +kernel
theorem dX3_fail_10 : decode cX3_fail 10 = .ok (.return_, 1) := by decide +kernel
set_option maxRecDepth 20000 in
theorem ggX3_join_X8_mix : GoodIn wsX3_join wsX8_mix := goodIn_r _ [9, 10] (by decide +kernel) (by decide +kernel)
set_option maxRecDepth 20000 in
theorem gX3_join_X8_mix_n58 : GoodIn wsX3_join (wsX8_mix) := ggX3_join_X8_mix
set_option maxRecDepth 20000 in
theorem ggX3_join_X1_open : GoodIn wsX3_join wsX1_open := goodIn_r _ [15, 16, 17, 36, 37, 38] (by decide +kernel) (by decide +kernel)
set_option maxRecDepth 20000 in
theorem gX3_join_X1_open : GoodIn wsX3_join (wsV RX3 65 RX1 yX1_open wsX1_open) := goodIn_app (goodIn_of _ (by decide +kernel)) ggX3_join_X1_open
theorem dX3_join_0 : decode cX3_join 0 = .ok (.aload_n 0, 1) := by decide +kernel
theorem dX3_join_1 : decode cX3_join 1 = .ok (.iconst 4, 1) := by decide +kernel
theorem dX3_join_2 : decode cX3_join 2 = .ok (.putfield 49, 3) := by decide +kernel
theorem dX3_join_5 : decode cX3_join 5 = .ok (.aload_n 0, 1) := by decide +kernel
theorem dX3_join_6 : decode cX3_join 6 = .ok (.aload_n 0, 1) := by decide +kernel
theorem dX3_join_7 : decode cX3_join 7 = .ok (.getfield 55, 3) := by decide +kernel
theorem dX3_join_10 : decode cX3_join 10 = .ok (.aload_n 0, 1) := by decide +kernel
theorem dX3_join_11 : decode cX3_join 11 = .ok (.getfield 18, 3) := by decide +kernel
theorem dX3_join_14 : decode cX3_join 14 = .ok (.invokestatic 58, 3) := by decide +kernel
theorem dX3_join_17 : decode cX3_join 17 = .ok (.putfield 62, 3) := by decide +kernel
theorem dX3_join_20 : decode cX3_join 20 = .ok (.aload_n 0, 1) := by decide +kernel
theorem dX3_join_21 : decode cX3_join 21 = .ok (.getfield 26, 3) := by decide +kernel
theorem dX3_join_24 : decode cX3_join 24 = .ok (.invokevirtual 65, 3) := by decide +kernel
theorem dX3_join_27 : decode cX3_join 27 = .ok (.aload_n 0, 1) := by decide +kernel
theorem dX3_join_28 : decode cX3_join 28 = .ok (.getfield 30, 3) := by decide +kernel
theorem dX3_join_31 : decode cX3_join 31 = .ok (.invokevirtual 65, 3) := by decide +kernel
theorem dX3_join_34 : decode cX3_join 34 = .ok (.return_, 1) := by decide +kernel
set_option maxRecDepth 20000 in
theorem ggX3_takeIn_X2_at : GoodIn wsX3_takeIn wsX2_at := goodIn_r _ [6, 7, 8, 9, 5, 10, 37] (by decide +kernel) (by decide +kernel)
set_option maxRecDepth 20000 in
theorem gX3_takeIn_X2_at : GoodIn wsX3_takeIn (wsV RX3 68 RX2 yX2_at wsX2_at) := goodIn_app (goodIn_of _ (by decide +kernel)) ggX3_takeIn_X2_at
set_option maxRecDepth 20000 in
theorem ggX3_takeIn_X2_mixInto : GoodIn wsX3_takeIn wsX2_mixInto := goodIn_r _ [14, 7, 15, 16, 17, 18, 37] (by decide +kernel) (by decide +kernel)
set_option maxRecDepth 20000 in
theorem gX3_takeIn_X2_mixInto : GoodIn wsX3_takeIn (wsV RX3 72 RX2 yX2_mixInto wsX2_mixInto) := goodIn_app (goodIn_of _ (by decide +kernel)) ggX3_takeIn_X2_mixInto
theorem dX3_takeIn_0 : decode cX3_takeIn 0 = .ok (.aload_n 1, 1) := by decide +kernel
theorem dX3_takeIn_1 : decode cX3_takeIn 1 = .ok (.iconst 0, 1) := by decide +kernel
theorem dX3_takeIn_2 : decode cX3_takeIn 2 = .ok (.invokevirtual 68, 3) := by decide +kernel
theorem dX3_takeIn_5 : decode cX3_takeIn 5 = .ok (.iconst 3, 1) := by decide +kernel
theorem dX3_takeIn_6 : decode cX3_takeIn 6 = .ok (.if_icmp .ne 7, 3) := by decide +kernel
theorem dX3_takeIn_9 : decode cX3_takeIn 9 = .ok (.iconst 1, 1) := by decide +kernel
theorem dX3_takeIn_10 : decode cX3_takeIn 10 = .ok (.goto 4, 3) := by decide +kernel
theorem dX3_takeIn_13 : decode cX3_takeIn 13 = .ok (.iconst 0, 1) := by decide +kernel
theorem dX3_takeIn_14 : decode cX3_takeIn 14 = .ok (.istore_n 2, 1) := by decide +kernel
theorem dX3_takeIn_15 : decode cX3_takeIn 15 = .ok (.aload_n 0, 1) := by decide +kernel
theorem dX3_takeIn_16 : decode cX3_takeIn 16 = .ok (.aload_n 1, 1) := by decide +kernel
theorem dX3_takeIn_17 : decode cX3_takeIn 17 = .ok (.aload_n 0, 1) := by decide +kernel
theorem dX3_takeIn_18 : decode cX3_takeIn 18 = .ok (.getfield 18, 3) := by decide +kernel
theorem dX3_takeIn_21 : decode cX3_takeIn 21 = .ok (.iload_n 2, 1) := by decide +kernel
theorem dX3_takeIn_22 : decode cX3_takeIn 22 = .ok (.ifCond .eq 8, 3) := by decide +kernel
theorem dX3_takeIn_25 : decode cX3_takeIn 25 = .ok (.bipush 6, 2) := by decide +kernel
theorem dX3_takeIn_27 : decode cX3_takeIn 27 = .ok (.goto 5, 3) := by decide +kernel
theorem dX3_takeIn_30 : decode cX3_takeIn 30 = .ok (.bipush 8, 2) := by decide +kernel
theorem dX3_takeIn_32 : decode cX3_takeIn 32 = .ok (.invokevirtual 72, 3) := by decide +kernel
theorem dX3_takeIn_35 : decode cX3_takeIn 35 = .ok (.putfield 18, 3) := by decide +kernel
theorem dX3_takeIn_38 : decode cX3_takeIn 38 = .ok (.return_, 1) := by decide +kernel
set_option maxRecDepth 20000 in
theorem ggX3_proof_X8_mix : GoodIn wsX3_proof wsX8_mix := goodIn_r _ [5, 6] (by decide +kernel) (by decide +kernel)
set_option maxRecDepth 20000 in
theorem gX3_proof_X8_mix_n58 : GoodIn wsX3_proof (wsX8_mix) := ggX3_proof_X8_mix
theorem dX3_proof_0 : decode cX3_proof 0 = .ok (.aload_n 0, 1) := by decide +kernel
theorem dX3_proof_1 : decode cX3_proof 1 = .ok (.getfield 55, 3) := by decide +kernel
theorem dX3_proof_4 : decode cX3_proof 4 = .ok (.aload_n 0, 1) := by decide +kernel
theorem dX3_proof_5 : decode cX3_proof 5 = .ok (.getfield 18, 3) := by decide +kernel
theorem dX3_proof_8 : decode cX3_proof 8 = .ok (.invokestatic 58, 3) := by decide +kernel
theorem dX3_proof_11 : decode cX3_proof 11 = .ok (.iload_n 1, 1) := by decide +kernel
theorem dX3_proof_12 : decode cX3_proof 12 = .ok (.invokestatic 58, 3) := by decide +kernel
theorem dX3_proof_15 : decode cX3_proof 15 = .ok (.ireturn, 1) := by decide +kernel
set_option maxRecDepth 20000 in
theorem ggX3_sendLetter_X1_veil : GoodIn wsX3_sendLetter wsX1_veil := goodIn_r _ [9, 10, 11, 12, 13, 8, 14, 15, 16, 17, 18, 19, 20, 68, 69, 70] (by decide +kernel) (by decide +kernel)
set_option maxRecDepth 20000 in
theorem gX3_sendLetter_X1_veil : GoodIn wsX3_sendLetter (wsV RX3 75 RX1 yX1_veil wsX1_veil) := goodIn_app (goodIn_of _ (by decide +kernel)) ggX3_sendLetter_X1_veil
set_option maxRecDepth 20000 in
theorem ggX3_sendLetter_X2_begin : GoodIn wsX3_sendLetter wsX2_begin := goodIn_r _ [25, 26, 71] (by decide +kernel) (by decide +kernel)
set_option maxRecDepth 20000 in
theorem gX3_sendLetter_X2_begin : GoodIn wsX3_sendLetter (wsV RX3 78 RX2 yX2_begin wsX2_begin) := goodIn_app (goodIn_of _ (by decide +kernel)) ggX3_sendLetter_X2_begin
set_option maxRecDepth 20000 in
theorem ggX3_sendLetter_X2_put : GoodIn wsX3_sendLetter wsX2_put := goodIn_r _ [30, 26, 31, 32, 24, 33, 71] (by decide +kernel) (by decide +kernel)
set_option maxRecDepth 20000 in
theorem gX3_sendLetter_X2_put : GoodIn wsX3_sendLetter (wsV RX3 81 RX2 yX2_put wsX2_put) := goodIn_app (goodIn_of _ (by decide +kernel)) ggX3_sendLetter_X2_put
set_option maxRecDepth 20000 in
theorem ggX3_sendLetter_X1_tagOf : GoodIn wsX3_sendLetter wsX1_tagOf := goodIn_r _ [37, 10, 11, 12, 13, 8, 14, 15, 16, 17, 18, 19, 20, 68, 69, 70] (by decide +kernel) (by decide +kernel)
set_option maxRecDepth 20000 in
theorem gX3_sendLetter_X1_tagOf : GoodIn wsX3_sendLetter (wsV RX3 85 RX1 yX1_tagOf wsX1_tagOf) := goodIn_app (goodIn_of _ (by decide +kernel)) ggX3_sendLetter_X1_tagOf
set_option maxRecDepth 20000 in
theorem ggX3_sendLetter_X4_send : GoodIn wsX3_sendLetter wsX4_send := goodIn_r _ [42, 43, 44, 45, 46, 47, 48, 24, 49, 26, 72, 73, 74, 71] (by decide +kernel) (by decide +kernel)
set_option maxRecDepth 20000 in
theorem gX3_sendLetter_X4_send : GoodIn wsX3_sendLetter (wsV RX3 88 RX4 yX4_send wsX4_send) := goodIn_app (goodIn_of _ (by decide +kernel)) ggX3_sendLetter_X4_send
theorem dX3_sendLetter_0 : decode cX3_sendLetter 0 = .ok (.aload_n 0, 1) := by decide +kernel
theorem dX3_sendLetter_1 : decode cX3_sendLetter 1 = .ok (.getfield 46, 3) := by decide +kernel
theorem dX3_sendLetter_4 : decode cX3_sendLetter 4 = .ok (.aload_n 0, 1) := by decide +kernel
theorem dX3_sendLetter_5 : decode cX3_sendLetter 5 = .ok (.getfield 62, 3) := by decide +kernel
theorem dX3_sendLetter_8 : decode cX3_sendLetter 8 = .ok (.iload_n 1, 1) := by decide +kernel
theorem dX3_sendLetter_9 : decode cX3_sendLetter 9 = .ok (.invokevirtual 75, 3) := by decide +kernel
theorem dX3_sendLetter_12 : decode cX3_sendLetter 12 = .ok (.istore_n 3, 1) := by decide +kernel
theorem dX3_sendLetter_13 : decode cX3_sendLetter 13 = .ok (.aload_n 0, 1) := by decide +kernel
theorem dX3_sendLetter_14 : decode cX3_sendLetter 14 = .ok (.getfield 36, 3) := by decide +kernel
theorem dX3_sendLetter_17 : decode cX3_sendLetter 17 = .ok (.bipush 6, 2) := by decide +kernel
theorem dX3_sendLetter_19 : decode cX3_sendLetter 19 = .ok (.invokevirtual 78, 3) := by decide +kernel
theorem dX3_sendLetter_22 : decode cX3_sendLetter 22 = .ok (.aload_n 0, 1) := by decide +kernel
theorem dX3_sendLetter_23 : decode cX3_sendLetter 23 = .ok (.getfield 36, 3) := by decide +kernel
theorem dX3_sendLetter_26 : decode cX3_sendLetter 26 = .ok (.iconst 1, 1) := by decide +kernel
theorem dX3_sendLetter_27 : decode cX3_sendLetter 27 = .ok (.iload_n 3, 1) := by decide +kernel
theorem dX3_sendLetter_28 : decode cX3_sendLetter 28 = .ok (.invokevirtual 81, 3) := by decide +kernel
theorem dX3_sendLetter_31 : decode cX3_sendLetter 31 = .ok (.aload_n 0, 1) := by decide +kernel
theorem dX3_sendLetter_32 : decode cX3_sendLetter 32 = .ok (.getfield 36, 3) := by decide +kernel
theorem dX3_sendLetter_35 : decode cX3_sendLetter 35 = .ok (.iconst 2, 1) := by decide +kernel
theorem dX3_sendLetter_36 : decode cX3_sendLetter 36 = .ok (.aload_n 0, 1) := by decide +kernel
theorem dX3_sendLetter_37 : decode cX3_sendLetter 37 = .ok (.getfield 46, 3) := by decide +kernel
theorem dX3_sendLetter_40 : decode cX3_sendLetter 40 = .ok (.aload_n 0, 1) := by decide +kernel
theorem dX3_sendLetter_41 : decode cX3_sendLetter 41 = .ok (.getfield 62, 3) := by decide +kernel
theorem dX3_sendLetter_44 : decode cX3_sendLetter 44 = .ok (.iload_n 3, 1) := by decide +kernel
theorem dX3_sendLetter_45 : decode cX3_sendLetter 45 = .ok (.invokevirtual 85, 3) := by decide +kernel
theorem dX3_sendLetter_48 : decode cX3_sendLetter 48 = .ok (.invokevirtual 81, 3) := by decide +kernel
theorem dX3_sendLetter_51 : decode cX3_sendLetter 51 = .ok (.aload_n 2, 1) := by decide +kernel
theorem dX3_sendLetter_52 : decode cX3_sendLetter 52 = .ok (.aload_n 0, 1) := by decide +kernel
theorem dX3_sendLetter_53 : decode cX3_sendLetter 53 = .ok (.getfield 36, 3) := by decide +kernel
theorem dX3_sendLetter_56 : decode cX3_sendLetter 56 = .ok (.invokevirtual 88, 3) := by decide +kernel
theorem dX3_sendLetter_59 : decode cX3_sendLetter 59 = .ok (.aload_n 0, 1) := by decide +kernel
theorem dX3_sendLetter_60 : decode cX3_sendLetter 60 = .ok (.getfield 46, 3) := by decide +kernel
theorem dX3_sendLetter_63 : decode cX3_sendLetter 63 = .ok (.dup, 1) := by decide +kernel
theorem dX3_sendLetter_64 : decode cX3_sendLetter 64 = .ok (.getfield 94, 3) := by decide +kernel
theorem dX3_sendLetter_67 : decode cX3_sendLetter 67 = .ok (.iconst 1, 1) := by decide +kernel
theorem dX3_sendLetter_68 : decode cX3_sendLetter 68 = .ok (.iadd, 1) := by decide +kernel
theorem dX3_sendLetter_69 : decode cX3_sendLetter 69 = .ok (.putfield 94, 3) := by decide +kernel
theorem dX3_sendLetter_72 : decode cX3_sendLetter 72 = .ok (.iload_n 3, 1) := by decide +kernel
theorem dX3_sendLetter_73 : decode cX3_sendLetter 73 = .ok (.ireturn, 1) := by decide +kernel
set_option maxRecDepth 20000 in
theorem ggX3_sendUpdate_X2_begin : GoodIn wsX3_sendUpdate wsX2_begin := goodIn_r _ [10, 11, 68] (by decide +kernel) (by decide +kernel)
set_option maxRecDepth 20000 in
theorem gX3_sendUpdate_X2_begin : GoodIn wsX3_sendUpdate (wsV RX3 78 RX2 yX2_begin wsX2_begin) := goodIn_app (goodIn_of _ (by decide +kernel)) ggX3_sendUpdate_X2_begin
set_option maxRecDepth 20000 in
theorem ggX3_sendUpdate_X1_tagOf : GoodIn wsX3_sendUpdate wsX1_tagOf := goodIn_r _ [16, 17, 18, 19, 20, 15, 21, 22, 23, 24, 25, 26, 27, 65, 66, 67] (by decide +kernel) (by decide +kernel)
set_option maxRecDepth 20000 in
theorem gX3_sendUpdate_X1_tagOf : GoodIn wsX3_sendUpdate (wsV RX3 85 RX1 yX1_tagOf wsX1_tagOf) := goodIn_app (goodIn_of _ (by decide +kernel)) ggX3_sendUpdate_X1_tagOf
set_option maxRecDepth 20000 in
theorem ggX3_sendUpdate_X2_put : GoodIn wsX3_sendUpdate wsX2_put := goodIn_r _ [31, 11, 32, 33, 9, 34, 68] (by decide +kernel) (by decide +kernel)
set_option maxRecDepth 20000 in
theorem gX3_sendUpdate_X2_put : GoodIn wsX3_sendUpdate (wsV RX3 81 RX2 yX2_put wsX2_put) := goodIn_app (goodIn_of _ (by decide +kernel)) ggX3_sendUpdate_X2_put
set_option maxRecDepth 20000 in
theorem ggX3_sendUpdate_X4_send : GoodIn wsX3_sendUpdate wsX4_send := goodIn_r _ [39, 40, 41, 42, 43, 44, 45, 9, 46, 11, 69, 70, 71, 68] (by decide +kernel) (by decide +kernel)
set_option maxRecDepth 20000 in
theorem gX3_sendUpdate_X4_send : GoodIn wsX3_sendUpdate (wsV RX3 88 RX4 yX4_send wsX4_send) := goodIn_app (goodIn_of _ (by decide +kernel)) ggX3_sendUpdate_X4_send
theorem dX3_sendUpdate_0 : decode cX3_sendUpdate 0 = .ok (.aload_n 0, 1) := by decide +kernel
theorem dX3_sendUpdate_1 : decode cX3_sendUpdate 1 = .ok (.getfield 36, 3) := by decide +kernel
theorem dX3_sendUpdate_4 : decode cX3_sendUpdate 4 = .ok (.bipush 7, 2) := by decide +kernel
theorem dX3_sendUpdate_6 : decode cX3_sendUpdate 6 = .ok (.invokevirtual 78, 3) := by decide +kernel
theorem dX3_sendUpdate_9 : decode cX3_sendUpdate 9 = .ok (.aload_n 0, 1) := by decide +kernel
theorem dX3_sendUpdate_10 : decode cX3_sendUpdate 10 = .ok (.getfield 36, 3) := by decide +kernel
theorem dX3_sendUpdate_13 : decode cX3_sendUpdate 13 = .ok (.iconst 1, 1) := by decide +kernel
theorem dX3_sendUpdate_14 : decode cX3_sendUpdate 14 = .ok (.aload_n 0, 1) := by decide +kernel
theorem dX3_sendUpdate_15 : decode cX3_sendUpdate 15 = .ok (.getfield 46, 3) := by decide +kernel
theorem dX3_sendUpdate_18 : decode cX3_sendUpdate 18 = .ok (.aload_n 0, 1) := by decide +kernel
theorem dX3_sendUpdate_19 : decode cX3_sendUpdate 19 = .ok (.getfield 62, 3) := by decide +kernel
theorem dX3_sendUpdate_22 : decode cX3_sendUpdate 22 = .ok (.iconst (-1), 1) := by decide +kernel
theorem dX3_sendUpdate_23 : decode cX3_sendUpdate 23 = .ok (.invokevirtual 85, 3) := by decide +kernel
theorem dX3_sendUpdate_26 : decode cX3_sendUpdate 26 = .ok (.invokevirtual 81, 3) := by decide +kernel
theorem dX3_sendUpdate_29 : decode cX3_sendUpdate 29 = .ok (.aload_n 1, 1) := by decide +kernel
theorem dX3_sendUpdate_30 : decode cX3_sendUpdate 30 = .ok (.aload_n 0, 1) := by decide +kernel
theorem dX3_sendUpdate_31 : decode cX3_sendUpdate 31 = .ok (.getfield 36, 3) := by decide +kernel
theorem dX3_sendUpdate_34 : decode cX3_sendUpdate 34 = .ok (.invokevirtual 88, 3) := by decide +kernel
theorem dX3_sendUpdate_37 : decode cX3_sendUpdate 37 = .ok (.aload_n 0, 1) := by decide +kernel
theorem dX3_sendUpdate_38 : decode cX3_sendUpdate 38 = .ok (.getfield 46, 3) := by decide +kernel
theorem dX3_sendUpdate_41 : decode cX3_sendUpdate 41 = .ok (.dup, 1) := by decide +kernel
theorem dX3_sendUpdate_42 : decode cX3_sendUpdate 42 = .ok (.getfield 97, 3) := by decide +kernel
theorem dX3_sendUpdate_45 : decode cX3_sendUpdate 45 = .ok (.iconst 1, 1) := by decide +kernel
theorem dX3_sendUpdate_46 : decode cX3_sendUpdate 46 = .ok (.iadd, 1) := by decide +kernel
theorem dX3_sendUpdate_47 : decode cX3_sendUpdate 47 = .ok (.putfield 97, 3) := by decide +kernel
theorem dX3_sendUpdate_50 : decode cX3_sendUpdate 50 = .ok (.aload_n 0, 1) := by decide +kernel
theorem dX3_sendUpdate_51 : decode cX3_sendUpdate 51 = .ok (.getfield 46, 3) := by decide +kernel
theorem dX3_sendUpdate_54 : decode cX3_sendUpdate 54 = .ok (.dup, 1) := by decide +kernel
theorem dX3_sendUpdate_55 : decode cX3_sendUpdate 55 = .ok (.getfield 94, 3) := by decide +kernel
theorem dX3_sendUpdate_58 : decode cX3_sendUpdate 58 = .ok (.iconst 1, 1) := by decide +kernel
theorem dX3_sendUpdate_59 : decode cX3_sendUpdate 59 = .ok (.iadd, 1) := by decide +kernel
theorem dX3_sendUpdate_60 : decode cX3_sendUpdate 60 = .ok (.putfield 94, 3) := by decide +kernel
theorem dX3_sendUpdate_63 : decode cX3_sendUpdate 63 = .ok (.aload_n 0, 1) := by decide +kernel
theorem dX3_sendUpdate_64 : decode cX3_sendUpdate 64 = .ok (.getfield 46, 3) := by decide +kernel
theorem dX3_sendUpdate_67 : decode cX3_sendUpdate 67 = .ok (.getfield 97, 3) := by decide +kernel
theorem dX3_sendUpdate_70 : decode cX3_sendUpdate 70 = .ok (.ireturn, 1) := by decide +kernel
set_option maxRecDepth 20000 in
theorem ggX3_receive_X2_at : GoodIn wsX3_receive wsX2_at := goodIn_r _ [6, 7, 8, 9, 5, 10, 69] (by decide +kernel) (by decide +kernel)
set_option maxRecDepth 20000 in
theorem gX3_receive_X2_at : GoodIn wsX3_receive (wsV RX3 68 RX2 yX2_at wsX2_at) := goodIn_app (goodIn_of _ (by decide +kernel)) ggX3_receive_X2_at
set_option maxRecDepth 20000 in
theorem ggX3_receive_X3_receiveLetter : GoodIn wsX3_receive wsX3_receiveLetter := goodIn_r _ [15, 16, 17, 18, 19, 20, 21, 22, 23, 24, 25, 26, 27, 28, 29, 30, 31, 32, 33, 34, 35, 36, 37, 38, 39, 14, 40, 1, 41, 42, 43, 44, 45, 51, 52, 53, 54, 55, 56, 57, 58, 59, 60, 61, 62, 63, 64, 65, 66, 67, 68, 70, 71, 72] (by decide +kernel) (by decide +kernel)
set_option maxRecDepth 20000 in
theorem gX3_receive_X3_receiveLetter : GoodIn wsX3_receive (wsV RX3 100 RX3 yX3_receiveLetter wsX3_receiveLetter) := goodIn_app (goodIn_of _ (by decide +kernel)) ggX3_receive_X3_receiveLetter
set_option maxRecDepth 20000 in
theorem ggX3_receive_X3_receiveUpdate : GoodIn wsX3_receive wsX3_receiveUpdate := goodIn_r _ [49, 16, 17, 50, 20, 21, 22, 23, 24, 25, 26, 27, 28, 29, 30, 31, 32, 33, 34, 35, 36, 37, 38, 39, 14, 40, 1, 41, 51, 52, 53, 54, 55, 56, 57, 58, 59, 60, 61, 62, 63, 64, 65, 66, 67, 68, 70, 71, 72] (by decide +kernel) (by decide +kernel)
set_option maxRecDepth 20000 in
theorem gX3_receive_X3_receiveUpdate : GoodIn wsX3_receive (wsV RX3 103 RX3 yX3_receiveUpdate wsX3_receiveUpdate) := goodIn_app (goodIn_of _ (by decide +kernel)) ggX3_receive_X3_receiveUpdate
set_option maxRecDepth 20000 in
theorem ggX3_receive_X3_fail : GoodIn wsX3_receive wsX3_fail := goodIn_r _ [40, 1, 41, 51, 52, 53, 54, 55, 56, 57, 58, 59, 60, 61, 62, 63, 64, 65, 66, 67, 68] (by decide +kernel) (by decide +kernel)
set_option maxRecDepth 20000 in
theorem gX3_receive_X3_fail : GoodIn wsX3_receive (wsV RX3 106 RX3 yX3_fail wsX3_fail) := goodIn_app (goodIn_of _ (by decide +kernel)) ggX3_receive_X3_fail
theorem dX3_receive_0 : decode cX3_receive 0 = .ok (.aload_n 1, 1) := by decide +kernel
theorem dX3_receive_1 : decode cX3_receive 1 = .ok (.iconst 0, 1) := by decide +kernel
theorem dX3_receive_2 : decode cX3_receive 2 = .ok (.invokevirtual 68, 3) := by decide +kernel
theorem dX3_receive_5 : decode cX3_receive 5 = .ok (.istore_n 2, 1) := by decide +kernel
theorem dX3_receive_6 : decode cX3_receive 6 = .ok (.aload_n 0, 1) := by decide +kernel
theorem dX3_receive_7 : decode cX3_receive 7 = .ok (.getfield 49, 3) := by decide +kernel
theorem dX3_receive_10 : decode cX3_receive 10 = .ok (.iconst 4, 1) := by decide +kernel
theorem dX3_receive_11 : decode cX3_receive 11 = .ok (.if_icmp .ne 26, 3) := by decide +kernel
theorem dX3_receive_14 : decode cX3_receive 14 = .ok (.iload_n 2, 1) := by decide +kernel
theorem dX3_receive_15 : decode cX3_receive 15 = .ok (.bipush 6, 2) := by decide +kernel
theorem dX3_receive_17 : decode cX3_receive 17 = .ok (.if_icmp .ne 20, 3) := by decide +kernel
theorem dX3_receive_20 : decode cX3_receive 20 = .ok (.aload_n 0, 1) := by decide +kernel
theorem dX3_receive_21 : decode cX3_receive 21 = .ok (.aload_n 1, 1) := by decide +kernel
theorem dX3_receive_22 : decode cX3_receive 22 = .ok (.iconst 1, 1) := by decide +kernel
theorem dX3_receive_23 : decode cX3_receive 23 = .ok (.invokevirtual 68, 3) := by decide +kernel
theorem dX3_receive_26 : decode cX3_receive 26 = .ok (.aload_n 1, 1) := by decide +kernel
theorem dX3_receive_27 : decode cX3_receive 27 = .ok (.iconst 2, 1) := by decide +kernel
theorem dX3_receive_28 : decode cX3_receive 28 = .ok (.invokevirtual 68, 3) := by decide +kernel
theorem dX3_receive_31 : decode cX3_receive 31 = .ok (.invokevirtual 100, 3) := by decide +kernel
theorem dX3_receive_34 : decode cX3_receive 34 = .ok (.goto 42, 3) := by decide +kernel
theorem dX3_receive_37 : decode cX3_receive 37 = .ok (.aload_n 0, 1) := by decide +kernel
theorem dX3_receive_38 : decode cX3_receive 38 = .ok (.getfield 49, 3) := by decide +kernel
theorem dX3_receive_41 : decode cX3_receive 41 = .ok (.iconst 4, 1) := by decide +kernel
theorem dX3_receive_42 : decode cX3_receive 42 = .ok (.if_icmp .ne 21, 3) := by decide +kernel
theorem dX3_receive_45 : decode cX3_receive 45 = .ok (.iload_n 2, 1) := by decide +kernel
theorem dX3_receive_46 : decode cX3_receive 46 = .ok (.bipush 7, 2) := by decide +kernel
theorem dX3_receive_48 : decode cX3_receive 48 = .ok (.if_icmp .ne 15, 3) := by decide +kernel
theorem dX3_receive_51 : decode cX3_receive 51 = .ok (.aload_n 0, 1) := by decide +kernel
theorem dX3_receive_52 : decode cX3_receive 52 = .ok (.aload_n 1, 1) := by decide +kernel
theorem dX3_receive_53 : decode cX3_receive 53 = .ok (.iconst 1, 1) := by decide +kernel
theorem dX3_receive_54 : decode cX3_receive 54 = .ok (.invokevirtual 68, 3) := by decide +kernel
theorem dX3_receive_57 : decode cX3_receive 57 = .ok (.invokevirtual 103, 3) := by decide +kernel
theorem dX3_receive_60 : decode cX3_receive 60 = .ok (.goto 16, 3) := by decide +kernel
theorem dX3_receive_63 : decode cX3_receive 63 = .ok (.aload_n 0, 1) := by decide +kernel
theorem dX3_receive_64 : decode cX3_receive 64 = .ok (.getfield 49, 3) := by decide +kernel
theorem dX3_receive_67 : decode cX3_receive 67 = .ok (.iconst 5, 1) := by decide +kernel
theorem dX3_receive_68 : decode cX3_receive 68 = .ok (.if_icmp .eq 8, 3) := by decide +kernel
theorem dX3_receive_71 : decode cX3_receive 71 = .ok (.aload_n 0, 1) := by decide +kernel
theorem dX3_receive_72 : decode cX3_receive 72 = .ok (.iconst 1, 1) := by decide +kernel
theorem dX3_receive_73 : decode cX3_receive 73 = .ok (.invokevirtual 106, 3) := by decide +kernel
theorem dX3_receive_76 : decode cX3_receive 76 = .ok (.return_, 1) := by decide +kernel
set_option maxRecDepth 20000 in
theorem ggX3_receiveLetter_X1_tagOf : GoodIn wsX3_receiveLetter wsX1_tagOf := goodIn_r _ [10, 11, 12, 13, 14, 9, 15, 16, 17, 18, 19, 20, 21, 51, 52, 53] (by decide +kernel) (by decide +kernel)
set_option maxRecDepth 20000 in
theorem gX3_receiveLetter_X1_tagOf : GoodIn wsX3_receiveLetter (wsV RX3 85 RX1 yX1_tagOf wsX1_tagOf) := goodIn_app (goodIn_of _ (by decide +kernel)) ggX3_receiveLetter_X1_tagOf
set_option maxRecDepth 20000 in
theorem ggX3_receiveLetter_X3_fail : GoodIn wsX3_receiveLetter wsX3_fail := goodIn_r _ [26, 27, 28, 33, 34, 35, 36, 37, 38, 39, 40, 41, 42, 43, 44, 45, 46, 47, 48, 49, 50] (by decide +kernel) (by decide +kernel)
set_option maxRecDepth 20000 in
theorem gX3_receiveLetter_X3_fail : GoodIn wsX3_receiveLetter (wsV RX3 106 RX3 yX3_fail wsX3_fail) := goodIn_app (goodIn_of _ (by decide +kernel)) ggX3_receiveLetter_X3_fail
set_option maxRecDepth 20000 in
theorem ggX3_receiveLetter_X1_veil : GoodIn wsX3_receiveLetter wsX1_veil := goodIn_r _ [32, 11, 12, 13, 14, 9, 15, 16, 17, 18, 19, 20, 21, 51, 52, 53] (by decide +kernel) (by decide +kernel)
set_option maxRecDepth 20000 in
theorem gX3_receiveLetter_X1_veil : GoodIn wsX3_receiveLetter (wsV RX3 75 RX1 yX1_veil wsX1_veil) := goodIn_app (goodIn_of _ (by decide +kernel)) ggX3_receiveLetter_X1_veil
theorem dX3_receiveLetter_0 : decode cX3_receiveLetter 0 = .ok (.iload_n 2, 1) := by decide +kernel
theorem dX3_receiveLetter_1 : decode cX3_receiveLetter 1 = .ok (.aload_n 0, 1) := by decide +kernel
theorem dX3_receiveLetter_2 : decode cX3_receiveLetter 2 = .ok (.getfield 43, 3) := by decide +kernel
theorem dX3_receiveLetter_5 : decode cX3_receiveLetter 5 = .ok (.aload_n 0, 1) := by decide +kernel
theorem dX3_receiveLetter_6 : decode cX3_receiveLetter 6 = .ok (.getfield 62, 3) := by decide +kernel
theorem dX3_receiveLetter_9 : decode cX3_receiveLetter 9 = .ok (.iload_n 1, 1) := by decide +kernel
theorem dX3_receiveLetter_10 : decode cX3_receiveLetter 10 = .ok (.invokevirtual 85, 3) := by decide +kernel
theorem dX3_receiveLetter_13 : decode cX3_receiveLetter 13 = .ok (.if_icmp .eq 10, 3) := by decide +kernel
theorem dX3_receiveLetter_16 : decode cX3_receiveLetter 16 = .ok (.aload_n 0, 1) := by decide +kernel
theorem dX3_receiveLetter_17 : decode cX3_receiveLetter 17 = .ok (.bipush 9, 2) := by decide +kernel
theorem dX3_receiveLetter_19 : decode cX3_receiveLetter 19 = .ok (.invokevirtual 106, 3) := by decide +kernel
theorem dX3_receiveLetter_22 : decode cX3_receiveLetter 22 = .ok (.return_, 1) := by decide +kernel
theorem dX3_receiveLetter_23 : decode cX3_receiveLetter 23 = .ok (.aload_n 0, 1) := by decide +kernel
theorem dX3_receiveLetter_24 : decode cX3_receiveLetter 24 = .ok (.dup, 1) := by decide +kernel
theorem dX3_receiveLetter_25 : decode cX3_receiveLetter 25 = .ok (.getfield 109, 3) := by decide +kernel
theorem dX3_receiveLetter_28 : decode cX3_receiveLetter 28 = .ok (.iconst 1, 1) := by decide +kernel
theorem dX3_receiveLetter_29 : decode cX3_receiveLetter 29 = .ok (.iadd, 1) := by decide +kernel
theorem dX3_receiveLetter_30 : decode cX3_receiveLetter 30 = .ok (.putfield 109, 3) := by decide +kernel
theorem dX3_receiveLetter_33 : decode cX3_receiveLetter 33 = .ok (.aload_n 0, 1) := by decide +kernel
theorem dX3_receiveLetter_34 : decode cX3_receiveLetter 34 = .ok (.dup, 1) := by decide +kernel
theorem dX3_receiveLetter_35 : decode cX3_receiveLetter 35 = .ok (.getfield 112, 3) := by decide +kernel
theorem dX3_receiveLetter_38 : decode cX3_receiveLetter 38 = .ok (.aload_n 0, 1) := by decide +kernel
theorem dX3_receiveLetter_39 : decode cX3_receiveLetter 39 = .ok (.getfield 43, 3) := by decide +kernel
theorem dX3_receiveLetter_42 : decode cX3_receiveLetter 42 = .ok (.aload_n 0, 1) := by decide +kernel
theorem dX3_receiveLetter_43 : decode cX3_receiveLetter 43 = .ok (.getfield 62, 3) := by decide +kernel
theorem dX3_receiveLetter_46 : decode cX3_receiveLetter 46 = .ok (.iload_n 1, 1) := by decide +kernel
theorem dX3_receiveLetter_47 : decode cX3_receiveLetter 47 = .ok (.invokevirtual 75, 3) := by decide +kernel
theorem dX3_receiveLetter_50 : decode cX3_receiveLetter 50 = .ok (.iadd, 1) := by decide +kernel
theorem dX3_receiveLetter_51 : decode cX3_receiveLetter 51 = .ok (.putfield 112, 3) := by decide +kernel
theorem dX3_receiveLetter_54 : decode cX3_receiveLetter 54 = .ok (.aload_n 0, 1) := by decide +kernel
theorem dX3_receiveLetter_55 : decode cX3_receiveLetter 55 = .ok (.getfield 43, 3) := by decide +kernel
theorem dX3_receiveLetter_58 : decode cX3_receiveLetter 58 = .ok (.dup, 1) := by decide +kernel
theorem dX3_receiveLetter_59 : decode cX3_receiveLetter 59 = .ok (.getfield 94, 3) := by decide +kernel
theorem dX3_receiveLetter_62 : decode cX3_receiveLetter 62 = .ok (.iconst 1, 1) := by decide +kernel
theorem dX3_receiveLetter_63 : decode cX3_receiveLetter 63 = .ok (.iadd, 1) := by decide +kernel
theorem dX3_receiveLetter_64 : decode cX3_receiveLetter 64 = .ok (.putfield 94, 3) := by decide +kernel
theorem dX3_receiveLetter_67 : decode cX3_receiveLetter 67 = .ok (.return_, 1) := by decide +kernel
set_option maxRecDepth 20000 in
theorem ggX3_receiveUpdate_X1_tagOf : GoodIn wsX3_receiveUpdate wsX1_tagOf := goodIn_r _ [9, 10, 11, 12, 13, 8, 14, 15, 16, 17, 18, 19, 20, 46, 47, 48] (by decide +kernel) (by decide +kernel)
set_option maxRecDepth 20000 in
theorem gX3_receiveUpdate_X1_tagOf : GoodIn wsX3_receiveUpdate (wsV RX3 85 RX1 yX1_tagOf wsX1_tagOf) := goodIn_app (goodIn_of _ (by decide +kernel)) ggX3_receiveUpdate_X1_tagOf
set_option maxRecDepth 20000 in
theorem ggX3_receiveUpdate_X3_fail : GoodIn wsX3_receiveUpdate wsX3_fail := goodIn_r _ [25, 26, 27, 28, 29, 30, 31, 32, 33, 34, 35, 36, 37, 38, 39, 40, 41, 42, 43, 44, 45] (by decide +kernel) (by decide +kernel)
set_option maxRecDepth 20000 in
theorem gX3_receiveUpdate_X3_fail : GoodIn wsX3_receiveUpdate (wsV RX3 106 RX3 yX3_fail wsX3_fail) := goodIn_app (goodIn_of _ (by decide +kernel)) ggX3_receiveUpdate_X3_fail
theorem dX3_receiveUpdate_0 : decode cX3_receiveUpdate 0 = .ok (.iload_n 1, 1) := by decide +kernel
theorem dX3_receiveUpdate_1 : decode cX3_receiveUpdate 1 = .ok (.aload_n 0, 1) := by decide +kernel
theorem dX3_receiveUpdate_2 : decode cX3_receiveUpdate 2 = .ok (.getfield 43, 3) := by decide +kernel
theorem dX3_receiveUpdate_5 : decode cX3_receiveUpdate 5 = .ok (.aload_n 0, 1) := by decide +kernel
theorem dX3_receiveUpdate_6 : decode cX3_receiveUpdate 6 = .ok (.getfield 62, 3) := by decide +kernel
theorem dX3_receiveUpdate_9 : decode cX3_receiveUpdate 9 = .ok (.iconst (-1), 1) := by decide +kernel
theorem dX3_receiveUpdate_10 : decode cX3_receiveUpdate 10 = .ok (.invokevirtual 85, 3) := by decide +kernel
theorem dX3_receiveUpdate_13 : decode cX3_receiveUpdate 13 = .ok (.if_icmp .eq 10, 3) := by decide +kernel
theorem dX3_receiveUpdate_16 : decode cX3_receiveUpdate 16 = .ok (.aload_n 0, 1) := by decide +kernel
theorem dX3_receiveUpdate_17 : decode cX3_receiveUpdate 17 = .ok (.bipush 9, 2) := by decide +kernel
theorem dX3_receiveUpdate_19 : decode cX3_receiveUpdate 19 = .ok (.invokevirtual 106, 3) := by decide +kernel
theorem dX3_receiveUpdate_22 : decode cX3_receiveUpdate 22 = .ok (.return_, 1) := by decide +kernel
theorem dX3_receiveUpdate_23 : decode cX3_receiveUpdate 23 = .ok (.aload_n 0, 1) := by decide +kernel
theorem dX3_receiveUpdate_24 : decode cX3_receiveUpdate 24 = .ok (.getfield 43, 3) := by decide +kernel
theorem dX3_receiveUpdate_27 : decode cX3_receiveUpdate 27 = .ok (.dup, 1) := by decide +kernel
theorem dX3_receiveUpdate_28 : decode cX3_receiveUpdate 28 = .ok (.getfield 97, 3) := by decide +kernel
theorem dX3_receiveUpdate_31 : decode cX3_receiveUpdate 31 = .ok (.iconst 1, 1) := by decide +kernel
theorem dX3_receiveUpdate_32 : decode cX3_receiveUpdate 32 = .ok (.iadd, 1) := by decide +kernel
theorem dX3_receiveUpdate_33 : decode cX3_receiveUpdate 33 = .ok (.putfield 97, 3) := by decide +kernel
theorem dX3_receiveUpdate_36 : decode cX3_receiveUpdate 36 = .ok (.aload_n 0, 1) := by decide +kernel
theorem dX3_receiveUpdate_37 : decode cX3_receiveUpdate 37 = .ok (.getfield 43, 3) := by decide +kernel
theorem dX3_receiveUpdate_40 : decode cX3_receiveUpdate 40 = .ok (.dup, 1) := by decide +kernel
theorem dX3_receiveUpdate_41 : decode cX3_receiveUpdate 41 = .ok (.getfield 94, 3) := by decide +kernel
theorem dX3_receiveUpdate_44 : decode cX3_receiveUpdate 44 = .ok (.iconst 1, 1) := by decide +kernel
theorem dX3_receiveUpdate_45 : decode cX3_receiveUpdate 45 = .ok (.iadd, 1) := by decide +kernel
theorem dX3_receiveUpdate_46 : decode cX3_receiveUpdate 46 = .ok (.putfield 94, 3) := by decide +kernel
theorem dX3_receiveUpdate_49 : decode cX3_receiveUpdate 49 = .ok (.return_, 1) := by decide +kernel
set_option maxRecDepth 20000 in
theorem ggX3_tell_X3_tellJoined : GoodIn wsX3_tell wsX3_tellJoined := goodIn_r _ [8, 9, 10, 11, 12, 13, 14, 15, 16, 17, 18, 19, 20, 21, 22, 23, 24, 25, 26, 27, 28, 29, 30, 31, 32, 33, 34, 35, 36, 37, 38] (by decide +kernel) (by decide +kernel)
set_option maxRecDepth 20000 in
theorem gX3_tell_X3_tellJoined : GoodIn wsX3_tell (wsV RX3 115 RX3 yX3_tellJoined wsX3_tellJoined) := goodIn_app (goodIn_of _ (by decide +kernel)) ggX3_tell_X3_tellJoined
theorem dX3_tell_0 : decode cX3_tell 0 = .ok (.iload_n 1, 1) := by decide +kernel
theorem dX3_tell_1 : decode cX3_tell 1 = .ok (.tableswitch 42 0 2 #[27, 32, 37], 27) := by decide +kernel
theorem dX3_tell_28 : decode cX3_tell 28 = .ok (.aload_n 0, 1) := by decide +kernel
theorem dX3_tell_29 : decode cX3_tell 29 = .ok (.getfield 49, 3) := by decide +kernel
theorem dX3_tell_32 : decode cX3_tell 32 = .ok (.ireturn, 1) := by decide +kernel
theorem dX3_tell_33 : decode cX3_tell 33 = .ok (.aload_n 0, 1) := by decide +kernel
theorem dX3_tell_34 : decode cX3_tell 34 = .ok (.getfield 52, 3) := by decide +kernel
theorem dX3_tell_37 : decode cX3_tell 37 = .ok (.ireturn, 1) := by decide +kernel
theorem dX3_tell_38 : decode cX3_tell 38 = .ok (.aload_n 0, 1) := by decide +kernel
theorem dX3_tell_39 : decode cX3_tell 39 = .ok (.getfield 18, 3) := by decide +kernel
theorem dX3_tell_42 : decode cX3_tell 42 = .ok (.ireturn, 1) := by decide +kernel
theorem dX3_tell_43 : decode cX3_tell 43 = .ok (.aload_n 0, 1) := by decide +kernel
theorem dX3_tell_44 : decode cX3_tell 44 = .ok (.getfield 49, 3) := by decide +kernel
theorem dX3_tell_47 : decode cX3_tell 47 = .ok (.iconst 4, 1) := by decide +kernel
theorem dX3_tell_48 : decode cX3_tell 48 = .ok (.if_icmp .ne 11, 3) := by decide +kernel
theorem dX3_tell_51 : decode cX3_tell 51 = .ok (.aload_n 0, 1) := by decide +kernel
theorem dX3_tell_52 : decode cX3_tell 52 = .ok (.iload_n 1, 1) := by decide +kernel
theorem dX3_tell_53 : decode cX3_tell 53 = .ok (.invokevirtual 115, 3) := by decide +kernel
theorem dX3_tell_56 : decode cX3_tell 56 = .ok (.goto 4, 3) := by decide +kernel
theorem dX3_tell_59 : decode cX3_tell 59 = .ok (.iconst (-1), 1) := by decide +kernel
theorem dX3_tell_60 : decode cX3_tell 60 = .ok (.ireturn, 1) := by decide +kernel
theorem dX3_tellJoined_0 : decode cX3_tellJoined 0 = .ok (.iload_n 1, 1) := by decide +kernel
theorem dX3_tellJoined_1 : decode cX3_tellJoined 1 = .ok (.tableswitch 104 3 10 #[47, 52, 57, 70, 75, 80, 88, 96], 47) := by decide +kernel
theorem dX3_tellJoined_48 : decode cX3_tellJoined 48 = .ok (.aload_n 0, 1) := by decide +kernel
theorem dX3_tellJoined_49 : decode cX3_tellJoined 49 = .ok (.getfield 118, 3) := by decide +kernel
theorem dX3_tellJoined_52 : decode cX3_tellJoined 52 = .ok (.ireturn, 1) := by decide +kernel
theorem dX3_tellJoined_53 : decode cX3_tellJoined 53 = .ok (.aload_n 0, 1) := by decide +kernel
theorem dX3_tellJoined_54 : decode cX3_tellJoined 54 = .ok (.getfield 121, 3) := by decide +kernel
theorem dX3_tellJoined_57 : decode cX3_tellJoined 57 = .ok (.ireturn, 1) := by decide +kernel
theorem dX3_tellJoined_58 : decode cX3_tellJoined 58 = .ok (.aload_n 0, 1) := by decide +kernel
theorem dX3_tellJoined_59 : decode cX3_tellJoined 59 = .ok (.getfield 124, 3) := by decide +kernel
theorem dX3_tellJoined_62 : decode cX3_tellJoined 62 = .ok (.ifCond .eq 7, 3) := by decide +kernel
theorem dX3_tellJoined_65 : decode cX3_tellJoined 65 = .ok (.iconst 1, 1) := by decide +kernel
theorem dX3_tellJoined_66 : decode cX3_tellJoined 66 = .ok (.goto 4, 3) := by decide +kernel
theorem dX3_tellJoined_69 : decode cX3_tellJoined 69 = .ok (.iconst 0, 1) := by decide +kernel
theorem dX3_tellJoined_70 : decode cX3_tellJoined 70 = .ok (.ireturn, 1) := by decide +kernel
theorem dX3_tellJoined_71 : decode cX3_tellJoined 71 = .ok (.aload_n 0, 1) := by decide +kernel
theorem dX3_tellJoined_72 : decode cX3_tellJoined 72 = .ok (.getfield 55, 3) := by decide +kernel
theorem dX3_tellJoined_75 : decode cX3_tellJoined 75 = .ok (.ireturn, 1) := by decide +kernel
theorem dX3_tellJoined_76 : decode cX3_tellJoined 76 = .ok (.aload_n 0, 1) := by decide +kernel
theorem dX3_tellJoined_77 : decode cX3_tellJoined 77 = .ok (.getfield 62, 3) := by decide +kernel
theorem dX3_tellJoined_80 : decode cX3_tellJoined 80 = .ok (.ireturn, 1) := by decide +kernel
theorem dX3_tellJoined_81 : decode cX3_tellJoined 81 = .ok (.aload_n 0, 1) := by decide +kernel
theorem dX3_tellJoined_82 : decode cX3_tellJoined 82 = .ok (.getfield 26, 3) := by decide +kernel
theorem dX3_tellJoined_85 : decode cX3_tellJoined 85 = .ok (.getfield 97, 3) := by decide +kernel
theorem dX3_tellJoined_88 : decode cX3_tellJoined 88 = .ok (.ireturn, 1) := by decide +kernel
theorem dX3_tellJoined_89 : decode cX3_tellJoined 89 = .ok (.aload_n 0, 1) := by decide +kernel
theorem dX3_tellJoined_90 : decode cX3_tellJoined 90 = .ok (.getfield 30, 3) := by decide +kernel
theorem dX3_tellJoined_93 : decode cX3_tellJoined 93 = .ok (.getfield 97, 3) := by decide +kernel
theorem dX3_tellJoined_96 : decode cX3_tellJoined 96 = .ok (.ireturn, 1) := by decide +kernel
theorem dX3_tellJoined_97 : decode cX3_tellJoined 97 = .ok (.aload_n 0, 1) := by decide +kernel
theorem dX3_tellJoined_98 : decode cX3_tellJoined 98 = .ok (.getfield 26, 3) := by decide +kernel
theorem dX3_tellJoined_101 : decode cX3_tellJoined 101 = .ok (.getfield 94, 3) := by decide +kernel
theorem dX3_tellJoined_104 : decode cX3_tellJoined 104 = .ok (.ireturn, 1) := by decide +kernel
theorem dX3_tellJoined_105 : decode cX3_tellJoined 105 = .ok (.aload_n 0, 1) := by decide +kernel
theorem dX3_tellJoined_106 : decode cX3_tellJoined 106 = .ok (.getfield 30, 3) := by decide +kernel
theorem dX3_tellJoined_109 : decode cX3_tellJoined 109 = .ok (.getfield 94, 3) := by decide +kernel
theorem dX3_tellJoined_112 : decode cX3_tellJoined 112 = .ok (.ireturn, 1) := by decide +kernel
