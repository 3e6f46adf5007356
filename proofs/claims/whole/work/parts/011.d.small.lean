theorem dX1_init_0 : decode cX1_init 0 = .ok (.aload_n 0, 1) := by decide +kernel
theorem dX1_init_1 : decode cX1_init 1 = .ok (.invokespecial 1, 3) := by decide +kernel
theorem dX1_init_4 : decode cX1_init 4 = .ok (.aload_n 0, 1) := by decide +kernel
theorem dX1_init_5 : decode cX1_init 5 = .ok (.iload_n 1, 1) := by decide +kernel
theorem dX1_init_6 : decode cX1_init 6 = .ok (.putfield 7, 3) := by decide +kernel
theorem dX1_init_9 : decode cX1_init 9 = .ok (.return_, 1) := by decide +kernel
theorem dX1_open_0 : decode cX1_open 0 = .ok (.aload_n 0, 1) := by decide +kernel
theorem dX1_open_1 : decode cX1_open 1 = .ok (.iconst 0, 1) := by decide +kernel
theorem dX1_open_2 : decode cX1_open 2 = .ok (.putfield 13, 3) := by decide +kernel
theorem dX1_open_5 : decode cX1_open 5 = .ok (.aload_n 0, 1) := by decide +kernel
theorem dX1_open_6 : decode cX1_open 6 = .ok (.iconst 0, 1) := by decide +kernel
theorem dX1_open_7 : decode cX1_open 7 = .ok (.putfield 16, 3) := by decide +kernel
theorem dX1_open_10 : decode cX1_open 10 = .ok (.return_, 1) := by decide +kernel
set_option maxRecDepth 20000 in
theorem ggX1_lockOf_X8_mix : GoodIn wsX1_lockOf wsX8_mix := goodIn_r _ [5, 6] (by decide +kernel) (by decide +kernel)
set_option maxRecDepth 20000 in
theorem gX1_lockOf_X8_mix_n19 : GoodIn wsX1_lockOf (wsX8_mix) := ggX1_lockOf_X8_mix
theorem dX1_lockOf_0 : decode cX1_lockOf 0 = .ok (.iload_n 1, 1) := by decide +kernel
theorem dX1_lockOf_1 : decode cX1_lockOf 1 = .ok (.aload_n 0, 1) := by decide +kernel
theorem dX1_lockOf_2 : decode cX1_lockOf 2 = .ok (.getfield 7, 3) := by decide +kernel
theorem dX1_lockOf_5 : decode cX1_lockOf 5 = .ok (.invokestatic 19, 3) := by decide +kernel
theorem dX1_lockOf_8 : decode cX1_lockOf 8 = .ok (.aload_n 0, 1) := by decide +kernel
theorem dX1_lockOf_9 : decode cX1_lockOf 9 = .ok (.getfield 13, 3) := by decide +kernel
theorem dX1_lockOf_12 : decode cX1_lockOf 12 = .ok (.invokestatic 19, 3) := by decide +kernel
theorem dX1_lockOf_15 : decode cX1_lockOf 15 = .ok (.ireturn, 1) := by decide +kernel
set_option maxRecDepth 20000 in
theorem ggX1_tagOf_X1_lockOf : GoodIn wsX1_tagOf wsX1_lockOf := goodIn_r _ [6, 7, 8, 9, 10, 11, 12, 13, 14, 15] (by decide +kernel) (by decide +kernel)
set_option maxRecDepth 20000 in
theorem gX1_tagOf_X1_lockOf : GoodIn wsX1_tagOf (wsV RX1 25 RX1 yX1_lockOf wsX1_lockOf) := goodIn_app (goodIn_of _ (by decide +kernel)) ggX1_tagOf_X1_lockOf
set_option maxRecDepth 20000 in
theorem ggX1_tagOf_X8_mix : GoodIn wsX1_tagOf wsX8_mix := goodIn_r _ [11, 12] (by decide +kernel) (by decide +kernel)
set_option maxRecDepth 20000 in
theorem gX1_tagOf_X8_mix_n19 : GoodIn wsX1_tagOf (wsX8_mix) := ggX1_tagOf_X8_mix
theorem dX1_tagOf_0 : decode cX1_tagOf 0 = .ok (.aload_n 0, 1) := by decide +kernel
theorem dX1_tagOf_1 : decode cX1_tagOf 1 = .ok (.iload_n 1, 1) := by decide +kernel
theorem dX1_tagOf_2 : decode cX1_tagOf 2 = .ok (.invokevirtual 25, 3) := by decide +kernel
theorem dX1_tagOf_5 : decode cX1_tagOf 5 = .ok (.iload_n 2, 1) := by decide +kernel
theorem dX1_tagOf_6 : decode cX1_tagOf 6 = .ok (.invokestatic 19, 3) := by decide +kernel
theorem dX1_tagOf_9 : decode cX1_tagOf 9 = .ok (.aload_n 0, 1) := by decide +kernel
theorem dX1_tagOf_10 : decode cX1_tagOf 10 = .ok (.getfield 16, 3) := by decide +kernel
theorem dX1_tagOf_13 : decode cX1_tagOf 13 = .ok (.invokestatic 19, 3) := by decide +kernel
theorem dX1_tagOf_16 : decode cX1_tagOf 16 = .ok (.ireturn, 1) := by decide +kernel
set_option maxRecDepth 20000 in
theorem ggX1_veil_X1_lockOf : GoodIn wsX1_veil wsX1_lockOf := goodIn_r _ [6, 7, 8, 9, 10, 11, 12, 13, 14, 15] (by decide +kernel) (by decide +kernel)
set_option maxRecDepth 20000 in
theorem gX1_veil_X1_lockOf : GoodIn wsX1_veil (wsV RX1 25 RX1 yX1_lockOf wsX1_lockOf) := goodIn_app (goodIn_of _ (by decide +kernel)) ggX1_veil_X1_lockOf
set_option maxRecDepth 20000 in
theorem ggX1_veil_X8_mix : GoodIn wsX1_veil wsX8_mix := goodIn_r _ [11, 12] (by decide +kernel) (by decide +kernel)
set_option maxRecDepth 20000 in
theorem gX1_veil_X8_mix_n19 : GoodIn wsX1_veil (wsX8_mix) := ggX1_veil_X8_mix
theorem dX1_veil_0 : decode cX1_veil 0 = .ok (.iload_n 2, 1) := by decide +kernel
theorem dX1_veil_1 : decode cX1_veil 1 = .ok (.aload_n 0, 1) := by decide +kernel
theorem dX1_veil_2 : decode cX1_veil 2 = .ok (.iload_n 1, 1) := by decide +kernel
theorem dX1_veil_3 : decode cX1_veil 3 = .ok (.invokevirtual 25, 3) := by decide +kernel
theorem dX1_veil_6 : decode cX1_veil 6 = .ok (.aload_n 0, 1) := by decide +kernel
theorem dX1_veil_7 : decode cX1_veil 7 = .ok (.getfield 16, 3) := by decide +kernel
theorem dX1_veil_10 : decode cX1_veil 10 = .ok (.invokestatic 19, 3) := by decide +kernel
theorem dX1_veil_13 : decode cX1_veil 13 = .ok (.sipush 1023, 3) := by decide +kernel
theorem dX1_veil_16 : decode cX1_veil 16 = .ok (.iand, 1) := by decide +kernel
theorem dX1_veil_17 : decode cX1_veil 17 = .ok (.ixor, 1) := by decide +kernel
theorem dX1_veil_18 : decode cX1_veil 18 = .ok (.ireturn, 1) := by decide +kernel
theorem dX2_init_0 : decode cX2_init 0 = .ok (.aload_n 0, 1) := by decide +kernel
theorem dX2_init_1 : decode cX2_init 1 = .ok (.invokespecial 1, 3) := by decide +kernel
theorem dX2_init_4 : decode cX2_init 4 = .ok (.aload_n 0, 1) := by decide +kernel
theorem dX2_init_5 : decode cX2_init 5 = .ok (.bipush 9, 2) := by decide +kernel
theorem dX2_init_7 : decode cX2_init 7 = .ok (.newarray .int, 2) := by decide +kernel
theorem dX2_init_9 : decode cX2_init 9 = .ok (.putfield 9, 3) := by decide +kernel
theorem dX2_init_12 : decode cX2_init 12 = .ok (.return_, 1) := by decide +kernel
theorem dX2_hasNumber_0 : decode cX2_hasNumber 0 = .ok (.iload_n 0, 1) := by decide +kernel
theorem dX2_hasNumber_1 : decode cX2_hasNumber 1 = .ok (.ifCond .lt 13, 3) := by decide +kernel
theorem dX2_hasNumber_4 : decode cX2_hasNumber 4 = .ok (.iload_n 0, 1) := by decide +kernel
theorem dX2_hasNumber_5 : decode cX2_hasNumber 5 = .ok (.bipush 8, 2) := by decide +kernel
theorem dX2_hasNumber_7 : decode cX2_hasNumber 7 = .ok (.if_icmp .gt 7, 3) := by decide +kernel
theorem dX2_hasNumber_10 : decode cX2_hasNumber 10 = .ok (.iconst 1, 1) := by decide +kernel
theorem dX2_hasNumber_11 : decode cX2_hasNumber 11 = .ok (.goto 4, 3) := by decide +kernel
theorem dX2_hasNumber_14 : decode cX2_hasNumber 14 = .ok (.iconst 0, 1) := by decide +kernel
theorem dX2_hasNumber_15 : decode cX2_hasNumber 15 = .ok (.ireturn, 1) := by decide +kernel
set_option maxRecDepth 20000 in
theorem ggX2_at_X2_hasNumber : GoodIn wsX2_at wsX2_hasNumber := goodIn_r _ [5] (by decide +kernel) (by decide +kernel)
set_option maxRecDepth 20000 in
theorem gX2_at_X2_hasNumber : GoodIn wsX2_at (va_wsS RX2 13 yX2_hasNumber wsX2_hasNumber) := goodIn_app (goodIn_of _ (by decide +kernel)) ggX2_at_X2_hasNumber
theorem dX2_at_0 : decode cX2_at 0 = .ok (.iload_n 1, 1) := by decide +kernel
theorem dX2_at_1 : decode cX2_at 1 = .ok (.invokestatic 13, 3) := by decide +kernel
theorem dX2_at_4 : decode cX2_at 4 = .ok (.ifCond .eq 12, 3) := by decide +kernel
theorem dX2_at_7 : decode cX2_at 7 = .ok (.aload_n 0, 1) := by decide +kernel
theorem dX2_at_8 : decode cX2_at 8 = .ok (.getfield 9, 3) := by decide +kernel
theorem dX2_at_11 : decode cX2_at 11 = .ok (.iload_n 1, 1) := by decide +kernel
theorem dX2_at_12 : decode cX2_at 12 = .ok (.iaload, 1) := by decide +kernel
theorem dX2_at_13 : decode cX2_at 13 = .ok (.goto 4, 3) := by decide +kernel
theorem dX2_at_16 : decode cX2_at 16 = .ok (.iconst 0, 1) := by decide +kernel
theorem dX2_at_17 : decode cX2_at 17 = .ok (.ireturn, 1) := by decide +kernel
set_option maxRecDepth 20000 in
theorem ggX2_put_X2_hasNumber : GoodIn wsX2_put wsX2_hasNumber := goodIn_r _ [5] (by decide +kernel) (by decide +kernel)
set_option maxRecDepth 20000 in
theorem gX2_put_X2_hasNumber : GoodIn wsX2_put (va_wsS RX2 13 yX2_hasNumber wsX2_hasNumber) := goodIn_app (goodIn_of _ (by decide +kernel)) ggX2_put_X2_hasNumber
theorem dX2_put_0 : decode cX2_put 0 = .ok (.iload_n 1, 1) := by decide +kernel
theorem dX2_put_1 : decode cX2_put 1 = .ok (.invokestatic 13, 3) := by decide +kernel
theorem dX2_put_4 : decode cX2_put 4 = .ok (.ifCond .eq 10, 3) := by decide +kernel
theorem dX2_put_7 : decode cX2_put 7 = .ok (.aload_n 0, 1) := by decide +kernel
theorem dX2_put_8 : decode cX2_put 8 = .ok (.getfield 9, 3) := by decide +kernel
theorem dX2_put_11 : decode cX2_put 11 = .ok (.iload_n 1, 1) := by decide +kernel
theorem dX2_put_12 : decode cX2_put 12 = .ok (.iload_n 2, 1) := by decide +kernel
theorem dX2_put_13 : decode cX2_put 13 = .ok (.iastore, 1) := by decide +kernel
theorem dX2_put_14 : decode cX2_put 14 = .ok (.return_, 1) := by decide +kernel
theorem dX2_begin_0 : decode cX2_begin 0 = .ok (.iconst 0, 1) := by decide +kernel
theorem dX2_begin_1 : decode cX2_begin 1 = .ok (.istore_n 2, 1) := by decide +kernel
theorem dX2_begin_2 : decode cX2_begin 2 = .ok (.iload_n 2, 1) := by decide +kernel
theorem dX2_begin_3 : decode cX2_begin 3 = .ok (.bipush 8, 2) := by decide +kernel
theorem dX2_begin_5 : decode cX2_begin 5 = .ok (.if_icmp .gt 16, 3) := by decide +kernel
theorem dX2_begin_8 : decode cX2_begin 8 = .ok (.aload_n 0, 1) := by decide +kernel
theorem dX2_begin_9 : decode cX2_begin 9 = .ok (.getfield 9, 3) := by decide +kernel
theorem dX2_begin_12 : decode cX2_begin 12 = .ok (.iload_n 2, 1) := by decide +kernel
theorem dX2_begin_13 : decode cX2_begin 13 = .ok (.iconst 0, 1) := by decide +kernel
theorem dX2_begin_14 : decode cX2_begin 14 = .ok (.iastore, 1) := by decide +kernel
theorem dX2_begin_15 : decode cX2_begin 15 = .ok (.iinc 2 1, 3) := by decide +kernel
theorem dX2_begin_18 : decode cX2_begin 18 = .ok (.goto (-16), 3) := by decide +kernel
theorem dX2_begin_21 : decode cX2_begin 21 = .ok (.aload_n 0, 1) := by decide +kernel
theorem dX2_begin_22 : decode cX2_begin 22 = .ok (.getfield 9, 3) := by decide +kernel
theorem dX2_begin_25 : decode cX2_begin 25 = .ok (.iconst 0, 1) := by decide +kernel
theorem dX2_begin_26 : decode cX2_begin 26 = .ok (.iload_n 1, 1) := by decide +kernel
theorem dX2_begin_27 : decode cX2_begin 27 = .ok (.iastore, 1) := by decide +kernel
theorem dX2_begin_28 : decode cX2_begin 28 = .ok (.return_, 1) := by decide +kernel
theorem dX2_become_0 : decode cX2_become 0 = .ok (.iconst 0, 1) := by decide +kernel
theorem dX2_become_1 : decode cX2_become 1 = .ok (.istore_n 2, 1) := by decide +kernel
theorem dX2_become_2 : decode cX2_become 2 = .ok (.iload_n 2, 1) := by decide +kernel
theorem dX2_become_3 : decode cX2_become 3 = .ok (.bipush 8, 2) := by decide +kernel
theorem dX2_become_5 : decode cX2_become 5 = .ok (.if_icmp .gt 21, 3) := by decide +kernel
theorem dX2_become_8 : decode cX2_become 8 = .ok (.aload_n 0, 1) := by decide +kernel
theorem dX2_become_9 : decode cX2_become 9 = .ok (.getfield 9, 3) := by decide +kernel
theorem dX2_become_12 : decode cX2_become 12 = .ok (.iload_n 2, 1) := by decide +kernel
theorem dX2_become_13 : decode cX2_become 13 = .ok (.aload_n 1, 1) := by decide +kernel
theorem dX2_become_14 : decode cX2_become 14 = .ok (.getfield 9, 3) := by decide +kernel
theorem dX2_become_17 : decode cX2_become 17 = .ok (.iload_n 2, 1) := by decide +kernel
theorem dX2_become_18 : decode cX2_become 18 = .ok (.iaload, 1) := by decide +kernel
theorem dX2_become_19 : decode cX2_become 19 = .ok (.iastore, 1) := by decide +kernel
theorem dX2_become_20 : decode cX2_become 20 = .ok (.iinc 2 1, 3) := by decide +kernel
theorem dX2_become_23 : decode cX2_become 23 = .ok (.goto (-21), 3) := by decide +kernel
theorem dX2_become_26 : decode cX2_become 26 = .ok (.return_, 1) := by decide +kernel
set_option maxRecDepth 20000 in
theorem ggX2_mixInto_X8_mix : GoodIn wsX2_mixInto wsX8_mix := goodIn_r _ [4, 5] (by decide +kernel) (by decide +kernel)
set_option maxRecDepth 20000 in
theorem gX2_mixInto_X8_mix_n17 : GoodIn wsX2_mixInto (wsX8_mix) := ggX2_mixInto_X8_mix
theorem dX2_mixInto_0 : decode cX2_mixInto 0 = .ok (.iload_n 1, 1) := by decide +kernel
theorem dX2_mixInto_1 : decode cX2_mixInto 1 = .ok (.istore_n 3, 1) := by decide +kernel
theorem dX2_mixInto_2 : decode cX2_mixInto 2 = .ok (.iconst 0, 1) := by decide +kernel
theorem dX2_mixInto_3 : decode cX2_mixInto 3 = .ok (.istore 4, 2) := by decide +kernel
theorem dX2_mixInto_5 : decode cX2_mixInto 5 = .ok (.iload 4, 2) := by decide +kernel
theorem dX2_mixInto_7 : decode cX2_mixInto 7 = .ok (.iload_n 2, 1) := by decide +kernel
theorem dX2_mixInto_8 : decode cX2_mixInto 8 = .ok (.if_icmp .gt 28, 3) := by decide +kernel
theorem dX2_mixInto_11 : decode cX2_mixInto 11 = .ok (.iload 4, 2) := by decide +kernel
theorem dX2_mixInto_13 : decode cX2_mixInto 13 = .ok (.bipush 8, 2) := by decide +kernel
theorem dX2_mixInto_15 : decode cX2_mixInto 15 = .ok (.if_icmp .gt 21, 3) := by decide +kernel
theorem dX2_mixInto_18 : decode cX2_mixInto 18 = .ok (.iload_n 3, 1) := by decide +kernel
theorem dX2_mixInto_19 : decode cX2_mixInto 19 = .ok (.aload_n 0, 1) := by decide +kernel
theorem dX2_mixInto_20 : decode cX2_mixInto 20 = .ok (.getfield 9, 3) := by decide +kernel
theorem dX2_mixInto_23 : decode cX2_mixInto 23 = .ok (.iload 4, 2) := by decide +kernel
theorem dX2_mixInto_25 : decode cX2_mixInto 25 = .ok (.iaload, 1) := by decide +kernel
theorem dX2_mixInto_26 : decode cX2_mixInto 26 = .ok (.invokestatic 17, 3) := by decide +kernel
theorem dX2_mixInto_29 : decode cX2_mixInto 29 = .ok (.istore_n 3, 1) := by decide +kernel
theorem dX2_mixInto_30 : decode cX2_mixInto 30 = .ok (.iinc 4 1, 3) := by decide +kernel
theorem dX2_mixInto_33 : decode cX2_mixInto 33 = .ok (.goto (-28), 3) := by decide +kernel
theorem dX2_mixInto_36 : decode cX2_mixInto 36 = .ok (.iload_n 3, 1) := by decide +kernel
theorem dX2_mixInto_37 : decode cX2_mixInto 37 = .ok (.ireturn, 1) := by decide +kernel
set_option maxRecDepth 20000 in
theorem ggX4_init_X2_init : GoodIn wsX4_init wsX2_init := goodIn_r _ [9, 10, 2, 3, 11, 12, 16] (by decide +kernel) (by decide +kernel)
set_option maxRecDepth 20000 in
theorem gX4_init_X2_init_n15 : GoodIn wsX4_init (wsX2_init) := ggX4_init_X2_init
theorem dX4_init_0 : decode cX4_init 0 = .ok (.aload_n 0, 1) := by decide +kernel
theorem dX4_init_1 : decode cX4_init 1 = .ok (.invokespecial 1, 3) := by decide +kernel
theorem dX4_init_4 : decode cX4_init 4 = .ok (.aload_n 0, 1) := by decide +kernel
theorem dX4_init_5 : decode cX4_init 5 = .ok (.bipush 8, 2) := by decide +kernel
theorem dX4_init_7 : decode cX4_init 7 = .ok (.anewarray 9, 3) := by decide +kernel
theorem dX4_init_10 : decode cX4_init 10 = .ok (.putfield 11, 3) := by decide +kernel
theorem dX4_init_13 : decode cX4_init 13 = .ok (.iconst 0, 1) := by decide +kernel
theorem dX4_init_14 : decode cX4_init 14 = .ok (.istore_n 1, 1) := by decide +kernel
theorem dX4_init_15 : decode cX4_init 15 = .ok (.iload_n 1, 1) := by decide +kernel
theorem dX4_init_16 : decode cX4_init 16 = .ok (.bipush 8, 2) := by decide +kernel
theorem dX4_init_18 : decode cX4_init 18 = .ok (.if_icmp .ge 22, 3) := by decide +kernel
theorem dX4_init_21 : decode cX4_init 21 = .ok (.aload_n 0, 1) := by decide +kernel
theorem dX4_init_22 : decode cX4_init 22 = .ok (.getfield 11, 3) := by decide +kernel
theorem dX4_init_25 : decode cX4_init 25 = .ok (.iload_n 1, 1) := by decide +kernel
theorem dX4_init_26 : decode cX4_init 26 = .ok (.new 9, 3) := by decide +kernel
theorem dX4_init_29 : decode cX4_init 29 = .ok (.dup, 1) := by decide +kernel
theorem dX4_init_30 : decode cX4_init 30 = .ok (.invokespecial 15, 3) := by decide +kernel
theorem dX4_init_33 : decode cX4_init 33 = .ok (.aastore, 1) := by decide +kernel
theorem dX4_init_34 : decode cX4_init 34 = .ok (.iinc 1 1, 3) := by decide +kernel
theorem dX4_init_37 : decode cX4_init 37 = .ok (.goto (-22), 3) := by decide +kernel
theorem dX4_init_40 : decode cX4_init 40 = .ok (.return_, 1) := by decide +kernel
set_option maxRecDepth 20000 in
theorem ggX4_send_X2_become : GoodIn wsX4_send wsX2_become := goodIn_r _ [8, 9, 13] (by decide +kernel) (by decide +kernel)
set_option maxRecDepth 20000 in
theorem gX4_send_X2_become : GoodIn wsX4_send (wsV RX4 23 RX2 yX2_become wsX2_become) := goodIn_app (goodIn_of _ (by decide +kernel)) ggX4_send_X2_become
theorem dX4_send_0 : decode cX4_send 0 = .ok (.aload_n 0, 1) := by decide +kernel
theorem dX4_send_1 : decode cX4_send 1 = .ok (.getfield 16, 3) := by decide +kernel
theorem dX4_send_4 : decode cX4_send 4 = .ok (.bipush 8, 2) := by decide +kernel
theorem dX4_send_6 : decode cX4_send 6 = .ok (.if_icmp .lt 14, 3) := by decide +kernel
theorem dX4_send_9 : decode cX4_send 9 = .ok (.aload_n 0, 1) := by decide +kernel
theorem dX4_send_10 : decode cX4_send 10 = .ok (.dup, 1) := by decide +kernel
theorem dX4_send_11 : decode cX4_send 11 = .ok (.getfield 20, 3) := by decide +kernel
theorem dX4_send_14 : decode cX4_send 14 = .ok (.iconst 1, 1) := by decide +kernel
theorem dX4_send_15 : decode cX4_send 15 = .ok (.iadd, 1) := by decide +kernel
theorem dX4_send_16 : decode cX4_send 16 = .ok (.putfield 20, 3) := by decide +kernel
theorem dX4_send_19 : decode cX4_send 19 = .ok (.return_, 1) := by decide +kernel
theorem dX4_send_20 : decode cX4_send 20 = .ok (.aload_n 0, 1) := by decide +kernel
theorem dX4_send_21 : decode cX4_send 21 = .ok (.getfield 11, 3) := by decide +kernel
theorem dX4_send_24 : decode cX4_send 24 = .ok (.aload_n 0, 1) := by decide +kernel
theorem dX4_send_25 : decode cX4_send 25 = .ok (.getfield 16, 3) := by decide +kernel
theorem dX4_send_28 : decode cX4_send 28 = .ok (.aaload, 1) := by decide +kernel
theorem dX4_send_29 : decode cX4_send 29 = .ok (.aload_n 1, 1) := by decide +kernel
theorem dX4_send_30 : decode cX4_send 30 = .ok (.invokevirtual 23, 3) := by decide +kernel
theorem dX4_send_33 : decode cX4_send 33 = .ok (.aload_n 0, 1) := by decide +kernel
theorem dX4_send_34 : decode cX4_send 34 = .ok (.dup, 1) := by decide +kernel
theorem dX4_send_35 : decode cX4_send 35 = .ok (.getfield 16, 3) := by decide +kernel
theorem dX4_send_38 : decode cX4_send 38 = .ok (.iconst 1, 1) := by decide +kernel
theorem dX4_send_39 : decode cX4_send 39 = .ok (.iadd, 1) := by decide +kernel
theorem dX4_send_40 : decode cX4_send 40 = .ok (.putfield 16, 3) := by decide +kernel
theorem dX4_send_43 : decode cX4_send 43 = .ok (.return_, 1) := by decide +kernel
theorem dX4_first_0 : decode cX4_first 0 = .ok (.aload_n 0, 1) := by decide +kernel
theorem dX4_first_1 : decode cX4_first 1 = .ok (.getfield 11, 3) := by decide +kernel
theorem dX4_first_4 : decode cX4_first 4 = .ok (.iconst 0, 1) := by decide +kernel
theorem dX4_first_5 : decode cX4_first 5 = .ok (.aaload, 1) := by decide +kernel
theorem dX4_first_6 : decode cX4_first 6 = .ok (.areturn, 1) := by decide +kernel
set_option maxRecDepth 20000 in
theorem ggX4_takeFirst_X2_become : GoodIn wsX4_takeFirst wsX2_become := goodIn_r _ [7, 8, 12] (by decide +kernel) (by decide +kernel)
set_option maxRecDepth 20000 in
theorem gX4_takeFirst_X2_become : GoodIn wsX4_takeFirst (wsV RX4 23 RX2 yX2_become wsX2_become) := goodIn_app (goodIn_of _ (by decide +kernel)) ggX4_takeFirst_X2_become
theorem dX4_takeFirst_0 : decode cX4_takeFirst 0 = .ok (.aload_n 0, 1) := by decide +kernel
theorem dX4_takeFirst_1 : decode cX4_takeFirst 1 = .ok (.getfield 16, 3) := by decide +kernel
theorem dX4_takeFirst_4 : decode cX4_takeFirst 4 = .ok (.iconst 1, 1) := by decide +kernel
theorem dX4_takeFirst_5 : decode cX4_takeFirst 5 = .ok (.if_icmp .ge 4, 3) := by decide +kernel
theorem dX4_takeFirst_8 : decode cX4_takeFirst 8 = .ok (.return_, 1) := by decide +kernel
theorem dX4_takeFirst_9 : decode cX4_takeFirst 9 = .ok (.aload_n 0, 1) := by decide +kernel
theorem dX4_takeFirst_10 : decode cX4_takeFirst 10 = .ok (.getfield 11, 3) := by decide +kernel
theorem dX4_takeFirst_13 : decode cX4_takeFirst 13 = .ok (.iconst 0, 1) := by decide +kernel
theorem dX4_takeFirst_14 : decode cX4_takeFirst 14 = .ok (.aaload, 1) := by decide +kernel
theorem dX4_takeFirst_15 : decode cX4_takeFirst 15 = .ok (.astore_n 2, 1) := by decide +kernel
theorem dX4_takeFirst_16 : decode cX4_takeFirst 16 = .ok (.aload_n 1, 1) := by decide +kernel
theorem dX4_takeFirst_17 : decode cX4_takeFirst 17 = .ok (.aload_n 2, 1) := by decide +kernel
theorem dX4_takeFirst_18 : decode cX4_takeFirst 18 = .ok (.invokevirtual 23, 3) := by decide +kernel
theorem dX4_takeFirst_21 : decode cX4_takeFirst 21 = .ok (.iconst 1, 1) := by decide +kernel
theorem dX4_takeFirst_22 : decode cX4_takeFirst 22 = .ok (.istore_n 3, 1) := by decide +kernel
theorem dX4_takeFirst_23 : decode cX4_takeFirst 23 = .ok (.iload_n 3, 1) := by decide +kernel
theorem dX4_takeFirst_24 : decode cX4_takeFirst 24 = .ok (.bipush 8, 2) := by decide +kernel
theorem dX4_takeFirst_26 : decode cX4_takeFirst 26 = .ok (.if_icmp .ge 23, 3) := by decide +kernel
theorem dX4_takeFirst_29 : decode cX4_takeFirst 29 = .ok (.aload_n 0, 1) := by decide +kernel
theorem dX4_takeFirst_30 : decode cX4_takeFirst 30 = .ok (.getfield 11, 3) := by decide +kernel
theorem dX4_takeFirst_33 : decode cX4_takeFirst 33 = .ok (.iload_n 3, 1) := by decide +kernel
theorem dX4_takeFirst_34 : decode cX4_takeFirst 34 = .ok (.iconst 1, 1) := by decide +kernel
theorem dX4_takeFirst_35 : decode cX4_takeFirst 35 = .ok (.isub, 1) := by decide +kernel
theorem dX4_takeFirst_36 : decode cX4_takeFirst 36 = .ok (.aload_n 0, 1) := by decide +kernel
theorem dX4_takeFirst_37 : decode cX4_takeFirst 37 = .ok (.getfield 11, 3) := by decide +kernel
theorem dX4_takeFirst_40 : decode cX4_takeFirst 40 = .ok (.iload_n 3, 1) := by decide +kernel
theorem dX4_takeFirst_41 : decode cX4_takeFirst 41 = .ok (.aaload, 1) := by decide +kernel
theorem dX4_takeFirst_42 : decode cX4_takeFirst 42 = .ok (.aastore, 1) := by decide +kernel
theorem dX4_takeFirst_43 : decode cX4_takeFirst 43 = .ok (.iinc 3 1, 3) := by decide +kernel
theorem dX4_takeFirst_46 : decode cX4_takeFirst 46 = .ok (.goto (-23), 3) := by decide +kernel
theorem dX4_takeFirst_49 : decode cX4_takeFirst 49 = .ok (.aload_n 0, 1) := by decide +kernel
theorem dX4_takeFirst_50 : decode cX4_takeFirst 50 = .ok (.getfield 11, 3) := by decide +kernel
theorem dX4_takeFirst_53 : decode cX4_takeFirst 53 = .ok (.bipush 7, 2) := by decide +kernel
theorem dX4_takeFirst_55 : decode cX4_takeFirst 55 = .ok (.aload_n 2, 1) := by decide +kernel
theorem dX4_takeFirst_56 : decode cX4_takeFirst 56 = .ok (.aastore, 1) := by decide +kernel
theorem dX4_takeFirst_57 : decode cX4_takeFirst 57 = .ok (.aload_n 0, 1) := by decide +kernel
theorem dX4_takeFirst_58 : decode cX4_takeFirst 58 = .ok (.dup, 1) := by decide +kernel
theorem dX4_takeFirst_59 : decode cX4_takeFirst 59 = .ok (.getfield 16, 3) := by decide +kernel
theorem dX4_takeFirst_62 : decode cX4_takeFirst 62 = .ok (.iconst 1, 1) := by decide +kernel
theorem dX4_takeFirst_63 : decode cX4_takeFirst 63 = .ok (.isub, 1) := by decide +kernel
theorem dX4_takeFirst_64 : decode cX4_takeFirst 64 = .ok (.putfield 16, 3) := by decide +kernel
theorem dX4_takeFirst_67 : decode cX4_takeFirst 67 = .ok (.return_, 1) := by decide +kernel
theorem dX7_init_0 : decode cX7_init 0 = .ok (.aload_n 0, 1) := by decide +kernel
theorem dX7_init_1 : decode cX7_init 1 = .ok (.invokespecial 1, 3) := by decide +kernel
theorem dX7_init_4 : decode cX7_init 4 = .ok (.return_, 1) := by decide +kernel
theorem dX7_tells_0 : decode cX7_tells 0 = .ok (.iload_n 0, 1) := by decide +kernel
theorem dX7_tells_1 : decode cX7_tells 1 = .ok (.ifCond .lt 12, 3) := by decide +kernel
theorem dX7_tells_4 : decode cX7_tells 4 = .ok (.iload_n 0, 1) := by decide +kernel
theorem dX7_tells_5 : decode cX7_tells 5 = .ok (.iconst 4, 1) := by decide +kernel
theorem dX7_tells_6 : decode cX7_tells 6 = .ok (.if_icmp .gt 7, 3) := by decide +kernel
theorem dX7_tells_9 : decode cX7_tells 9 = .ok (.iconst 1, 1) := by decide +kernel
theorem dX7_tells_10 : decode cX7_tells 10 = .ok (.goto 4, 3) := by decide +kernel
theorem dX7_tells_13 : decode cX7_tells 13 = .ok (.iconst 0, 1) := by decide +kernel
theorem dX7_tells_14 : decode cX7_tells 14 = .ok (.ireturn, 1) := by decide +kernel
theorem dX7_tell_0 : decode cX7_tell 0 = .ok (.iload_n 1, 1) := by decide +kernel
theorem dX7_tell_1 : decode cX7_tell 1 = .ok (.tableswitch 51 0 3 #[31, 36, 41, 46], 31) := by decide +kernel
theorem dX7_tell_32 : decode cX7_tell 32 = .ok (.aload_n 0, 1) := by decide +kernel
theorem dX7_tell_33 : decode cX7_tell 33 = .ok (.getfield 9, 3) := by decide +kernel
theorem dX7_tell_36 : decode cX7_tell 36 = .ok (.ireturn, 1) := by decide +kernel
theorem dX7_tell_37 : decode cX7_tell 37 = .ok (.aload_n 0, 1) := by decide +kernel
theorem dX7_tell_38 : decode cX7_tell 38 = .ok (.getfield 13, 3) := by decide +kernel
theorem dX7_tell_41 : decode cX7_tell 41 = .ok (.ireturn, 1) := by decide +kernel
theorem dX7_tell_42 : decode cX7_tell 42 = .ok (.aload_n 0, 1) := by decide +kernel
theorem dX7_tell_43 : decode cX7_tell 43 = .ok (.getfield 16, 3) := by decide +kernel
theorem dX7_tell_46 : decode cX7_tell 46 = .ok (.ireturn, 1) := by decide +kernel
theorem dX7_tell_47 : decode cX7_tell 47 = .ok (.aload_n 0, 1) := by decide +kernel
theorem dX7_tell_48 : decode cX7_tell 48 = .ok (.getfield 19, 3) := by decide +kernel
theorem dX7_tell_51 : decode cX7_tell 51 = .ok (.ireturn, 1) := by decide +kernel
theorem dX7_tell_52 : decode cX7_tell 52 = .ok (.aload_n 0, 1) := by decide +kernel
theorem dX7_tell_53 : decode cX7_tell 53 = .ok (.getfield 22, 3) := by decide +kernel
theorem dX7_tell_56 : decode cX7_tell 56 = .ok (.ireturn, 1) := by decide +kernel
theorem dX8_isSide_0 : decode cX8_isSide 0 = .ok (.iload_n 0, 1) := by decide +kernel
theorem dX8_isSide_1 : decode cX8_isSide 1 = .ok (.ifCond .eq 8, 3) := by decide +kernel
theorem dX8_isSide_4 : decode cX8_isSide 4 = .ok (.iload_n 0, 1) := by decide +kernel
theorem dX8_isSide_5 : decode cX8_isSide 5 = .ok (.iconst 1, 1) := by decide +kernel
theorem dX8_isSide_6 : decode cX8_isSide 6 = .ok (.if_icmp .ne 7, 3) := by decide +kernel
theorem dX8_isSide_9 : decode cX8_isSide 9 = .ok (.iconst 1, 1) := by decide +kernel
theorem dX8_isSide_10 : decode cX8_isSide 10 = .ok (.goto 4, 3) := by decide +kernel
theorem dX8_isSide_13 : decode cX8_isSide 13 = .ok (.iconst 0, 1) := by decide +kernel
theorem dX8_isSide_14 : decode cX8_isSide 14 = .ok (.ireturn, 1) := by decide +kernel
theorem dX8_isGroup_0 : decode cX8_isGroup 0 = .ok (.iload_n 0, 1) := by decide +kernel
theorem dX8_isGroup_1 : decode cX8_isGroup 1 = .ok (.ifCond .lt 12, 3) := by decide +kernel
theorem dX8_isGroup_4 : decode cX8_isGroup 4 = .ok (.iload_n 0, 1) := by decide +kernel
theorem dX8_isGroup_5 : decode cX8_isGroup 5 = .ok (.iconst 3, 1) := by decide +kernel
theorem dX8_isGroup_6 : decode cX8_isGroup 6 = .ok (.if_icmp .gt 7, 3) := by decide +kernel
theorem dX8_isGroup_9 : decode cX8_isGroup 9 = .ok (.iconst 1, 1) := by decide +kernel
theorem dX8_isGroup_10 : decode cX8_isGroup 10 = .ok (.goto 4, 3) := by decide +kernel
theorem dX8_isGroup_13 : decode cX8_isGroup 13 = .ok (.iconst 0, 1) := by decide +kernel
theorem dX8_isGroup_14 : decode cX8_isGroup 14 = .ok (.ireturn, 1) := by decide +kernel
theorem dX8_isPlace_0 : decode cX8_isPlace 0 = .ok (.iload_n 0, 1) := by decide +kernel
theorem dX8_isPlace_1 : decode cX8_isPlace 1 = .ok (.ifCond .lt 12, 3) := by decide +kernel
theorem dX8_isPlace_4 : decode cX8_isPlace 4 = .ok (.iload_n 0, 1) := by decide +kernel
theorem dX8_isPlace_5 : decode cX8_isPlace 5 = .ok (.iconst 4, 1) := by decide +kernel
theorem dX8_isPlace_6 : decode cX8_isPlace 6 = .ok (.if_icmp .ge 7, 3) := by decide +kernel
theorem dX8_isPlace_9 : decode cX8_isPlace 9 = .ok (.iconst 1, 1) := by decide +kernel
theorem dX8_isPlace_10 : decode cX8_isPlace 10 = .ok (.goto 4, 3) := by decide +kernel
theorem dX8_isPlace_13 : decode cX8_isPlace 13 = .ok (.iconst 0, 1) := by decide +kernel
theorem dX8_isPlace_14 : decode cX8_isPlace 14 = .ok (.ireturn, 1) := by decide +kernel
theorem dX8_otherThan_0 : decode cX8_otherThan 0 = .ok (.iload_n 0, 1) := by decide +kernel
theorem dX8_otherThan_1 : decode cX8_otherThan 1 = .ok (.ifCond .ne 7, 3) := by decide +kernel
theorem dX8_otherThan_4 : decode cX8_otherThan 4 = .ok (.iconst 1, 1) := by decide +kernel
theorem dX8_otherThan_5 : decode cX8_otherThan 5 = .ok (.goto 4, 3) := by decide +kernel
theorem dX8_otherThan_8 : decode cX8_otherThan 8 = .ok (.iconst 0, 1) := by decide +kernel
theorem dX8_otherThan_9 : decode cX8_otherThan 9 = .ok (.ireturn, 1) := by decide +kernel
theorem dX8_peerOf_0 : decode cX8_peerOf 0 = .ok (.iload_n 1, 1) := by decide +kernel
theorem dX8_peerOf_1 : decode cX8_peerOf 1 = .ok (.ifCond .ne 13, 3) := by decide +kernel
theorem dX8_peerOf_4 : decode cX8_peerOf 4 = .ok (.aload_n 0, 1) := by decide +kernel
theorem dX8_peerOf_5 : decode cX8_peerOf 5 = .ok (.getfield 10, 3) := by decide +kernel
theorem dX8_peerOf_8 : decode cX8_peerOf 8 = .ok (.getfield 111, 3) := by decide +kernel
theorem dX8_peerOf_11 : decode cX8_peerOf 11 = .ok (.goto 10, 3) := by decide +kernel
theorem dX8_peerOf_14 : decode cX8_peerOf 14 = .ok (.aload_n 0, 1) := by decide +kernel
theorem dX8_peerOf_15 : decode cX8_peerOf 15 = .ok (.getfield 19, 3) := by decide +kernel
theorem dX8_peerOf_18 : decode cX8_peerOf 18 = .ok (.getfield 142, 3) := by decide +kernel
theorem dX8_peerOf_21 : decode cX8_peerOf 21 = .ok (.areturn, 1) := by decide +kernel
theorem dX8_roadTo_0 : decode cX8_roadTo 0 = .ok (.iload_n 1, 1) := by decide +kernel
theorem dX8_roadTo_1 : decode cX8_roadTo 1 = .ok (.ifCond .ne 10, 3) := by decide +kernel
theorem dX8_roadTo_4 : decode cX8_roadTo 4 = .ok (.aload_n 0, 1) := by decide +kernel
theorem dX8_roadTo_5 : decode cX8_roadTo 5 = .ok (.getfield 26, 3) := by decide +kernel
theorem dX8_roadTo_8 : decode cX8_roadTo 8 = .ok (.goto 7, 3) := by decide +kernel
theorem dX8_roadTo_11 : decode cX8_roadTo 11 = .ok (.aload_n 0, 1) := by decide +kernel
theorem dX8_roadTo_12 : decode cX8_roadTo 12 = .ok (.getfield 30, 3) := by decide +kernel
theorem dX8_roadTo_15 : decode cX8_roadTo 15 = .ok (.areturn, 1) := by decide +kernel
theorem dX8_mix_0 : decode cX8_mix 0 = .ok (.iload_n 0, 1) := by decide +kernel
theorem dX8_mix_1 : decode cX8_mix 1 = .ok (.iload_n 1, 1) := by decide +kernel
theorem dX8_mix_2 : decode cX8_mix 2 = .ok (.ixor, 1) := by decide +kernel
theorem dX8_mix_3 : decode cX8_mix 3 = .ok (.ldc 245, 2) := by decide +kernel
theorem dX8_mix_5 : decode cX8_mix 5 = .ok (.imul, 1) := by decide +kernel
theorem dX8_mix_6 : decode cX8_mix 6 = .ok (.istore_n 2, 1) := by decide +kernel
theorem dX8_mix_7 : decode cX8_mix 7 = .ok (.iload_n 2, 1) := by decide +kernel
theorem dX8_mix_8 : decode cX8_mix 8 = .ok (.iload_n 2, 1) := by decide +kernel
theorem dX8_mix_9 : decode cX8_mix 9 = .ok (.bipush 15, 2) := by decide +kernel
theorem dX8_mix_11 : decode cX8_mix 11 = .ok (.iushr, 1) := by decide +kernel
theorem dX8_mix_12 : decode cX8_mix 12 = .ok (.ixor, 1) := by decide +kernel
theorem dX8_mix_13 : decode cX8_mix 13 = .ok (.ireturn, 1) := by decide +kernel
theorem dX8_primeOf_0 : decode cX8_primeOf 0 = .ok (.iload_n 0, 1) := by decide +kernel
theorem dX8_primeOf_1 : decode cX8_primeOf 1 = .ok (.tableswitch 36 0 2 #[27, 30, 33], 27) := by decide +kernel
theorem dX8_primeOf_28 : decode cX8_primeOf 28 = .ok (.bipush 23, 2) := by decide +kernel
theorem dX8_primeOf_30 : decode cX8_primeOf 30 = .ok (.ireturn, 1) := by decide +kernel
theorem dX8_primeOf_31 : decode cX8_primeOf 31 = .ok (.bipush 47, 2) := by decide +kernel
theorem dX8_primeOf_33 : decode cX8_primeOf 33 = .ok (.ireturn, 1) := by decide +kernel
theorem dX8_primeOf_34 : decode cX8_primeOf 34 = .ok (.bipush 59, 2) := by decide +kernel
theorem dX8_primeOf_36 : decode cX8_primeOf 36 = .ok (.ireturn, 1) := by decide +kernel
theorem dX8_primeOf_37 : decode cX8_primeOf 37 = .ok (.bipush 97, 2) := by decide +kernel
theorem dX8_primeOf_39 : decode cX8_primeOf 39 = .ok (.ireturn, 1) := by decide +kernel
set_option maxRecDepth 20000 in
theorem ggX8_shareOf_X8_primeOf : GoodIn wsX8_shareOf wsX8_primeOf := goodIn_r _ [4] (by decide +kernel) (by decide +kernel)
set_option maxRecDepth 20000 in
theorem gX8_shareOf_X8_primeOf : GoodIn wsX8_shareOf (va_wsS RX8 246 yX8_primeOf wsX8_primeOf) := goodIn_app (goodIn_of _ (by decide +kernel)) ggX8_shareOf_X8_primeOf
set_option maxRecDepth 20000 in
theorem ggX8_shareOf_X8_power : GoodIn wsX8_shareOf wsX8_power := goodIn_r _ [7] (by decide +kernel) (by decide +kernel)
set_option maxRecDepth 20000 in
theorem gX8_shareOf_X8_power : GoodIn wsX8_shareOf (va_wsS RX8 249 yX8_power wsX8_power) := goodIn_app (goodIn_of _ (by decide +kernel)) ggX8_shareOf_X8_power
theorem dX8_shareOf_0 : decode cX8_shareOf 0 = .ok (.iload_n 0, 1) := by decide +kernel
theorem dX8_shareOf_1 : decode cX8_shareOf 1 = .ok (.iconst 2, 1) := by decide +kernel
theorem dX8_shareOf_2 : decode cX8_shareOf 2 = .ok (.if_icmp .ne 7, 3) := by decide +kernel
theorem dX8_shareOf_5 : decode cX8_shareOf 5 = .ok (.iconst 2, 1) := by decide +kernel
theorem dX8_shareOf_6 : decode cX8_shareOf 6 = .ok (.goto 4, 3) := by decide +kernel
theorem dX8_shareOf_9 : decode cX8_shareOf 9 = .ok (.iconst 5, 1) := by decide +kernel
theorem dX8_shareOf_10 : decode cX8_shareOf 10 = .ok (.iload_n 1, 1) := by decide +kernel
theorem dX8_shareOf_11 : decode cX8_shareOf 11 = .ok (.iload_n 0, 1) := by decide +kernel
theorem dX8_shareOf_12 : decode cX8_shareOf 12 = .ok (.invokestatic 246, 3) := by decide +kernel
theorem dX8_shareOf_15 : decode cX8_shareOf 15 = .ok (.invokestatic 249, 3) := by decide +kernel
theorem dX8_shareOf_18 : decode cX8_shareOf 18 = .ok (.ireturn, 1) := by decide +kernel
theorem dX8_power_0 : decode cX8_power 0 = .ok (.iload_n 2, 1) := by decide +kernel
theorem dX8_power_1 : decode cX8_power 1 = .ok (.iconst 1, 1) := by decide +kernel
theorem dX8_power_2 : decode cX8_power 2 = .ok (.if_icmp .ge 5, 3) := by decide +kernel
theorem dX8_power_5 : decode cX8_power 5 = .ok (.iconst 0, 1) := by decide +kernel
theorem dX8_power_6 : decode cX8_power 6 = .ok (.ireturn, 1) := by decide +kernel
theorem dX8_power_7 : decode cX8_power 7 = .ok (.iconst 1, 1) := by decide +kernel
theorem dX8_power_8 : decode cX8_power 8 = .ok (.istore_n 3, 1) := by decide +kernel
theorem dX8_power_9 : decode cX8_power 9 = .ok (.iload_n 0, 1) := by decide +kernel
theorem dX8_power_10 : decode cX8_power 10 = .ok (.iload_n 2, 1) := by decide +kernel
theorem dX8_power_11 : decode cX8_power 11 = .ok (.irem, 1) := by decide +kernel
theorem dX8_power_12 : decode cX8_power 12 = .ok (.istore 4, 2) := by decide +kernel
theorem dX8_power_14 : decode cX8_power 14 = .ok (.iconst 0, 1) := by decide +kernel
theorem dX8_power_15 : decode cX8_power 15 = .ok (.istore 5, 2) := by decide +kernel
theorem dX8_power_17 : decode cX8_power 17 = .ok (.iload 5, 2) := by decide +kernel
theorem dX8_power_19 : decode cX8_power 19 = .ok (.bipush 10, 2) := by decide +kernel
theorem dX8_power_21 : decode cX8_power 21 = .ok (.if_icmp .ge 34, 3) := by decide +kernel
theorem dX8_power_24 : decode cX8_power 24 = .ok (.iload_n 1, 1) := by decide +kernel
theorem dX8_power_25 : decode cX8_power 25 = .ok (.iload 5, 2) := by decide +kernel
theorem dX8_power_27 : decode cX8_power 27 = .ok (.ishr, 1) := by decide +kernel
theorem dX8_power_28 : decode cX8_power 28 = .ok (.iconst 1, 1) := by decide +kernel
theorem dX8_power_29 : decode cX8_power 29 = .ok (.iand, 1) := by decide +kernel
theorem dX8_power_30 : decode cX8_power 30 = .ok (.ifCond .eq 10, 3) := by decide +kernel
theorem dX8_power_33 : decode cX8_power 33 = .ok (.iload_n 3, 1) := by decide +kernel
theorem dX8_power_34 : decode cX8_power 34 = .ok (.iload 4, 2) := by decide +kernel
theorem dX8_power_36 : decode cX8_power 36 = .ok (.imul, 1) := by decide +kernel
theorem dX8_power_37 : decode cX8_power 37 = .ok (.iload_n 2, 1) := by decide +kernel
theorem dX8_power_38 : decode cX8_power 38 = .ok (.irem, 1) := by decide +kernel
theorem dX8_power_39 : decode cX8_power 39 = .ok (.istore_n 3, 1) := by decide +kernel
theorem dX8_power_40 : decode cX8_power 40 = .ok (.iload 4, 2) := by decide +kernel
theorem dX8_power_42 : decode cX8_power 42 = .ok (.iload 4, 2) := by decide +kernel
theorem dX8_power_44 : decode cX8_power 44 = .ok (.imul, 1) := by decide +kernel
theorem dX8_power_45 : decode cX8_power 45 = .ok (.iload_n 2, 1) := by decide +kernel
theorem dX8_power_46 : decode cX8_power 46 = .ok (.irem, 1) := by decide +kernel
theorem dX8_power_47 : decode cX8_power 47 = .ok (.istore 4, 2) := by decide +kernel
theorem dX8_power_49 : decode cX8_power 49 = .ok (.iinc 5 1, 3) := by decide +kernel
theorem dX8_power_52 : decode cX8_power 52 = .ok (.goto (-35), 3) := by decide +kernel
theorem dX8_power_55 : decode cX8_power 55 = .ok (.iload_n 3, 1) := by decide +kernel
theorem dX8_power_56 : decode cX8_power 56 = .ok (.ireturn, 1) := by decide +kernel
set_option maxRecDepth 20000 in
theorem ggX8_isShare_X8_primeOf : GoodIn wsX8_isShare wsX8_primeOf := goodIn_r _ [4] (by decide +kernel) (by decide +kernel)
set_option maxRecDepth 20000 in
theorem gX8_isShare_X8_primeOf : GoodIn wsX8_isShare (va_wsS RX8 246 yX8_primeOf wsX8_primeOf) := goodIn_app (goodIn_of _ (by decide +kernel)) ggX8_isShare_X8_primeOf
theorem dX8_isShare_0 : decode cX8_isShare 0 = .ok (.iload_n 0, 1) := by decide +kernel
theorem dX8_isShare_1 : decode cX8_isShare 1 = .ok (.iconst 1, 1) := by decide +kernel
theorem dX8_isShare_2 : decode cX8_isShare 2 = .ok (.if_icmp .lt 15, 3) := by decide +kernel
theorem dX8_isShare_5 : decode cX8_isShare 5 = .ok (.iload_n 0, 1) := by decide +kernel
theorem dX8_isShare_6 : decode cX8_isShare 6 = .ok (.iload_n 1, 1) := by decide +kernel
theorem dX8_isShare_7 : decode cX8_isShare 7 = .ok (.invokestatic 246, 3) := by decide +kernel
theorem dX8_isShare_10 : decode cX8_isShare 10 = .ok (.if_icmp .ge 7, 3) := by decide +kernel
theorem dX8_isShare_13 : decode cX8_isShare 13 = .ok (.iconst 1, 1) := by decide +kernel
theorem dX8_isShare_14 : decode cX8_isShare 14 = .ok (.goto 4, 3) := by decide +kernel
theorem dX8_isShare_17 : decode cX8_isShare 17 = .ok (.iconst 0, 1) := by decide +kernel
theorem dX8_isShare_18 : decode cX8_isShare 18 = .ok (.ireturn, 1) := by decide +kernel
set_option maxRecDepth 20000 in
theorem ggX8_hasGroup_X8_isGroup : GoodIn wsX8_hasGroup wsX8_isGroup := goodIn_r _ [4] (by decide +kernel) (by decide +kernel)
set_option maxRecDepth 20000 in
theorem gX8_hasGroup_X8_isGroup : GoodIn wsX8_hasGroup (va_wsS RX8 102 yX8_isGroup wsX8_isGroup) := goodIn_app (goodIn_of _ (by decide +kernel)) ggX8_hasGroup_X8_isGroup
theorem dX8_hasGroup_0 : decode cX8_hasGroup 0 = .ok (.iload_n 1, 1) := by decide +kernel
theorem dX8_hasGroup_1 : decode cX8_hasGroup 1 = .ok (.invokestatic 102, 3) := by decide +kernel
theorem dX8_hasGroup_4 : decode cX8_hasGroup 4 = .ok (.ifCond .eq 15, 3) := by decide +kernel
theorem dX8_hasGroup_7 : decode cX8_hasGroup 7 = .ok (.iload_n 0, 1) := by decide +kernel
theorem dX8_hasGroup_8 : decode cX8_hasGroup 8 = .ok (.iload_n 1, 1) := by decide +kernel
theorem dX8_hasGroup_9 : decode cX8_hasGroup 9 = .ok (.ishr, 1) := by decide +kernel
theorem dX8_hasGroup_10 : decode cX8_hasGroup 10 = .ok (.iconst 1, 1) := by decide +kernel
theorem dX8_hasGroup_11 : decode cX8_hasGroup 11 = .ok (.iand, 1) := by decide +kernel
theorem dX8_hasGroup_12 : decode cX8_hasGroup 12 = .ok (.ifCond .eq 7, 3) := by decide +kernel
theorem dX8_hasGroup_15 : decode cX8_hasGroup 15 = .ok (.iconst 1, 1) := by decide +kernel
theorem dX8_hasGroup_16 : decode cX8_hasGroup 16 = .ok (.goto 4, 3) := by decide +kernel
theorem dX8_hasGroup_19 : decode cX8_hasGroup 19 = .ok (.iconst 0, 1) := by decide +kernel
theorem dX8_hasGroup_20 : decode cX8_hasGroup 20 = .ok (.ireturn, 1) := by decide +kernel
theorem dX8_hasVersion_0 : decode cX8_hasVersion 0 = .ok (.iload_n 1, 1) := by decide +kernel
theorem dX8_hasVersion_1 : decode cX8_hasVersion 1 = .ok (.iconst 1, 1) := by decide +kernel
theorem dX8_hasVersion_2 : decode cX8_hasVersion 2 = .ok (.if_icmp .lt 22, 3) := by decide +kernel
theorem dX8_hasVersion_5 : decode cX8_hasVersion 5 = .ok (.iload_n 1, 1) := by decide +kernel
theorem dX8_hasVersion_6 : decode cX8_hasVersion 6 = .ok (.iconst 3, 1) := by decide +kernel
theorem dX8_hasVersion_7 : decode cX8_hasVersion 7 = .ok (.if_icmp .gt 17, 3) := by decide +kernel
theorem dX8_hasVersion_10 : decode cX8_hasVersion 10 = .ok (.iload_n 0, 1) := by decide +kernel
theorem dX8_hasVersion_11 : decode cX8_hasVersion 11 = .ok (.iload_n 1, 1) := by decide +kernel
theorem dX8_hasVersion_12 : decode cX8_hasVersion 12 = .ok (.iconst 1, 1) := by decide +kernel
theorem dX8_hasVersion_13 : decode cX8_hasVersion 13 = .ok (.isub, 1) := by decide +kernel
theorem dX8_hasVersion_14 : decode cX8_hasVersion 14 = .ok (.ishr, 1) := by decide +kernel
theorem dX8_hasVersion_15 : decode cX8_hasVersion 15 = .ok (.iconst 1, 1) := by decide +kernel
theorem dX8_hasVersion_16 : decode cX8_hasVersion 16 = .ok (.iand, 1) := by decide +kernel
theorem dX8_hasVersion_17 : decode cX8_hasVersion 17 = .ok (.ifCond .eq 7, 3) := by decide +kernel
theorem dX8_hasVersion_20 : decode cX8_hasVersion 20 = .ok (.iconst 1, 1) := by decide +kernel
theorem dX8_hasVersion_21 : decode cX8_hasVersion 21 = .ok (.goto 4, 3) := by decide +kernel
theorem dX8_hasVersion_24 : decode cX8_hasVersion 24 = .ok (.iconst 0, 1) := by decide +kernel
theorem dX8_hasVersion_25 : decode cX8_hasVersion 25 = .ok (.ireturn, 1) := by decide +kernel
theorem dX8_hasVersionAbove_0 : decode cX8_hasVersionAbove 0 = .ok (.iload_n 0, 1) := by decide +kernel
theorem dX8_hasVersionAbove_1 : decode cX8_hasVersionAbove 1 = .ok (.iload_n 1, 1) := by decide +kernel
theorem dX8_hasVersionAbove_2 : decode cX8_hasVersionAbove 2 = .ok (.ishr, 1) := by decide +kernel
theorem dX8_hasVersionAbove_3 : decode cX8_hasVersionAbove 3 = .ok (.ifCond .eq 7, 3) := by decide +kernel
theorem dX8_hasVersionAbove_6 : decode cX8_hasVersionAbove 6 = .ok (.iconst 1, 1) := by decide +kernel
theorem dX8_hasVersionAbove_7 : decode cX8_hasVersionAbove 7 = .ok (.goto 4, 3) := by decide +kernel
theorem dX8_hasVersionAbove_10 : decode cX8_hasVersionAbove 10 = .ok (.iconst 0, 1) := by decide +kernel
theorem dX8_hasVersionAbove_11 : decode cX8_hasVersionAbove 11 = .ok (.ireturn, 1) := by decide +kernel
theorem dX8_greatestOf_0 : decode cX8_greatestOf 0 = .ok (.iconst 3, 1) := by decide +kernel
theorem dX8_greatestOf_1 : decode cX8_greatestOf 1 = .ok (.istore_n 1, 1) := by decide +kernel
theorem dX8_greatestOf_2 : decode cX8_greatestOf 2 = .ok (.iload_n 1, 1) := by decide +kernel
theorem dX8_greatestOf_3 : decode cX8_greatestOf 3 = .ok (.ifCond .lt 19, 3) := by decide +kernel
theorem dX8_greatestOf_6 : decode cX8_greatestOf 6 = .ok (.iload_n 0, 1) := by decide +kernel
theorem dX8_greatestOf_7 : decode cX8_greatestOf 7 = .ok (.iload_n 1, 1) := by decide +kernel
theorem dX8_greatestOf_8 : decode cX8_greatestOf 8 = .ok (.ishr, 1) := by decide +kernel
theorem dX8_greatestOf_9 : decode cX8_greatestOf 9 = .ok (.iconst 1, 1) := by decide +kernel
theorem dX8_greatestOf_10 : decode cX8_greatestOf 10 = .ok (.iand, 1) := by decide +kernel
theorem dX8_greatestOf_11 : decode cX8_greatestOf 11 = .ok (.ifCond .eq 5, 3) := by decide +kernel
theorem dX8_greatestOf_14 : decode cX8_greatestOf 14 = .ok (.iload_n 1, 1) := by decide +kernel
theorem dX8_greatestOf_15 : decode cX8_greatestOf 15 = .ok (.ireturn, 1) := by decide +kernel
theorem dX8_greatestOf_16 : decode cX8_greatestOf 16 = .ok (.iinc 1 (-1), 3) := by decide +kernel
theorem dX8_greatestOf_19 : decode cX8_greatestOf 19 = .ok (.goto (-17), 3) := by decide +kernel
theorem dX8_greatestOf_22 : decode cX8_greatestOf 22 = .ok (.iconst (-1), 1) := by decide +kernel
theorem dX8_greatestOf_23 : decode cX8_greatestOf 23 = .ok (.ireturn, 1) := by decide +kernel
theorem dX8_leastOf_0 : decode cX8_leastOf 0 = .ok (.iconst 0, 1) := by decide +kernel
theorem dX8_leastOf_1 : decode cX8_leastOf 1 = .ok (.istore_n 1, 1) := by decide +kernel
theorem dX8_leastOf_2 : decode cX8_leastOf 2 = .ok (.iload_n 1, 1) := by decide +kernel
theorem dX8_leastOf_3 : decode cX8_leastOf 3 = .ok (.iconst 3, 1) := by decide +kernel
theorem dX8_leastOf_4 : decode cX8_leastOf 4 = .ok (.if_icmp .gt 19, 3) := by decide +kernel
theorem dX8_leastOf_7 : decode cX8_leastOf 7 = .ok (.iload_n 0, 1) := by decide +kernel
theorem dX8_leastOf_8 : decode cX8_leastOf 8 = .ok (.iload_n 1, 1) := by decide +kernel
theorem dX8_leastOf_9 : decode cX8_leastOf 9 = .ok (.ishr, 1) := by decide +kernel
theorem dX8_leastOf_10 : decode cX8_leastOf 10 = .ok (.iconst 1, 1) := by decide +kernel
theorem dX8_leastOf_11 : decode cX8_leastOf 11 = .ok (.iand, 1) := by decide +kernel
theorem dX8_leastOf_12 : decode cX8_leastOf 12 = .ok (.ifCond .eq 5, 3) := by decide +kernel
theorem dX8_leastOf_15 : decode cX8_leastOf 15 = .ok (.iload_n 1, 1) := by decide +kernel
theorem dX8_leastOf_16 : decode cX8_leastOf 16 = .ok (.ireturn, 1) := by decide +kernel
theorem dX8_leastOf_17 : decode cX8_leastOf 17 = .ok (.iinc 1 1, 3) := by decide +kernel
theorem dX8_leastOf_20 : decode cX8_leastOf 20 = .ok (.goto (-18), 3) := by decide +kernel
theorem dX8_leastOf_23 : decode cX8_leastOf 23 = .ok (.iconst (-1), 1) := by decide +kernel
theorem dX8_leastOf_24 : decode cX8_leastOf 24 = .ok (.ireturn, 1) := by decide +kernel
set_option maxRecDepth 20000 in
theorem ggX8_keyOf_X8_primeOf : GoodIn wsX8_keyOf wsX8_primeOf := goodIn_r _ [4] (by decide +kernel) (by decide +kernel)
set_option maxRecDepth 20000 in
theorem gX8_keyOf_X8_primeOf : GoodIn wsX8_keyOf (va_wsS RX8 246 yX8_primeOf wsX8_primeOf) := goodIn_app (goodIn_of _ (by decide +kernel)) ggX8_keyOf_X8_primeOf
set_option maxRecDepth 20000 in
theorem ggX8_keyOf_X8_power : GoodIn wsX8_keyOf wsX8_power := goodIn_r _ [7] (by decide +kernel) (by decide +kernel)
set_option maxRecDepth 20000 in
theorem gX8_keyOf_X8_power : GoodIn wsX8_keyOf (va_wsS RX8 249 yX8_power wsX8_power) := goodIn_app (goodIn_of _ (by decide +kernel)) ggX8_keyOf_X8_power
set_option maxRecDepth 20000 in
theorem ggX8_keyOf_X8_mix : GoodIn wsX8_keyOf wsX8_mix := goodIn_r _ [10, 11] (by decide +kernel) (by decide +kernel)
set_option maxRecDepth 20000 in
theorem gX8_keyOf_X8_mix : GoodIn wsX8_keyOf (va_wsS RX8 252 yX8_mix wsX8_mix) := goodIn_app (goodIn_of _ (by decide +kernel)) ggX8_keyOf_X8_mix
theorem dX8_keyOf_0 : decode cX8_keyOf 0 = .ok (.bipush 7, 2) := by decide +kernel
theorem dX8_keyOf_2 : decode cX8_keyOf 2 = .ok (.iload_n 0, 1) := by decide +kernel
theorem dX8_keyOf_3 : decode cX8_keyOf 3 = .ok (.iload_n 1, 1) := by decide +kernel
theorem dX8_keyOf_4 : decode cX8_keyOf 4 = .ok (.iload_n 2, 1) := by decide +kernel
theorem dX8_keyOf_5 : decode cX8_keyOf 5 = .ok (.invokestatic 246, 3) := by decide +kernel
theorem dX8_keyOf_8 : decode cX8_keyOf 8 = .ok (.invokestatic 249, 3) := by decide +kernel
theorem dX8_keyOf_11 : decode cX8_keyOf 11 = .ok (.invokestatic 252, 3) := by decide +kernel
theorem dX8_keyOf_14 : decode cX8_keyOf 14 = .ok (.iload_n 3, 1) := by decide +kernel
theorem dX8_keyOf_15 : decode cX8_keyOf 15 = .ok (.invokestatic 252, 3) := by decide +kernel
theorem dX8_keyOf_18 : decode cX8_keyOf 18 = .ok (.ireturn, 1) := by decide +kernel
set_option maxRecDepth 20000 in
theorem ggX8_binderOf_X8_mix : GoodIn wsX8_binderOf wsX8_mix := goodIn_r _ [4, 5] (by decide +kernel) (by decide +kernel)
set_option maxRecDepth 20000 in
theorem gX8_binderOf_X8_mix : GoodIn wsX8_binderOf (va_wsS RX8 252 yX8_mix wsX8_mix) := goodIn_app (goodIn_of _ (by decide +kernel)) ggX8_binderOf_X8_mix
set_option maxRecDepth 20000 in
theorem ggX8_binderOf_X2_mixInto : GoodIn wsX8_binderOf wsX2_mixInto := goodIn_r _ [10, 11, 2, 3, 4, 5, 12] (by decide +kernel) (by decide +kernel)
set_option maxRecDepth 20000 in
theorem gX8_binderOf_X2_mixInto : GoodIn wsX8_binderOf (wsV RX8 255 RX2 yX2_mixInto wsX2_mixInto) := goodIn_app (goodIn_of _ (by decide +kernel)) ggX8_binderOf_X2_mixInto
theorem dX8_binderOf_0 : decode cX8_binderOf 0 = .ok (.aload_n 2, 1) := by decide +kernel
theorem dX8_binderOf_1 : decode cX8_binderOf 1 = .ok (.iload_n 0, 1) := by decide +kernel
theorem dX8_binderOf_2 : decode cX8_binderOf 2 = .ok (.iload_n 1, 1) := by decide +kernel
theorem dX8_binderOf_3 : decode cX8_binderOf 3 = .ok (.invokestatic 252, 3) := by decide +kernel
theorem dX8_binderOf_6 : decode cX8_binderOf 6 = .ok (.bipush 6, 2) := by decide +kernel
theorem dX8_binderOf_8 : decode cX8_binderOf 8 = .ok (.invokevirtual 255, 3) := by decide +kernel
theorem dX8_binderOf_11 : decode cX8_binderOf 11 = .ok (.ireturn, 1) := by decide +kernel
