theorem dX1_init_0 : decode cX1_init 0 = .ok (.aload_n 0, 1) := by decide +kernel
theorem dX1_init_1 : decode cX1_init 1 = .ok (.invokespecial 1, 3) := by decide +kernel
theorem dX1_init_4 : decode cX1_init 4 = .ok (.aload_n 0, 1) := by decide +kernel
theorem dX1_init_5 : decode cX1_init 5 = .ok (.iload_n 1, 1) := by decide +kernel
theorem dX1_init_6 : decode cX1_init 6 = .ok (.putfield 7, 3) := by decide +kernel
theorem dX1_init_9 : decode cX1_init 9 = .ok (.return_, 1) := by decide +kernel
theorem dX1_open_0 : decode cX1_open 0 = .ok (.aload_n 0, 1) := by decide +kernel
theorem dX1_open_1 : decode cX1_open 1 = .ok (.iconst 0, 1) := by decide +kernel
theorem dX1_open_2 : decode cX1_open 2 = .ok (.putfield 13, 3) := by decide +kernel
theorem dX1_open_5 : decode cX1_open 5 = .ok (.aload_n 0, 1) := by decide +kernel
theorem dX1_open_6 : decode cX1_open 6 = .ok (.iconst 0, 1) := by decide +kernel
theorem dX1_open_7 : decode cX1_open 7 = .ok (.putfield 16, 3) := by decide +kernel
theorem dX1_open_10 : decode cX1_open 10 = .ok (.return_, 1) := by decide +kernel
set_option maxRecDepth 20000 in
theorem ggX1_lockOf_X8_mix : GoodIn wsX1_lockOf wsX8_mix := goodIn_r _ [5, 6] (by decide +kernel) (by decide +kernel)
set_option maxRecDepth 20000 in
theorem gX1_lockOf_X8_mix_n19 : GoodIn wsX1_lockOf (wsX8_mix) := ggX1_lockOf_X8_mix
theorem dX1_lockOf_0 : decode cX1_lockOf 0 = .ok (.iload_n 1, 1) := by decide +kernel
theorem dX1_lockOf_1 : decode cX1_lockOf 1 = .ok (.aload_n 0, 1) := by decide +kernel
theorem dX1_lockOf_2 : decode cX1_lockOf 2 = .ok (.getfield 7, 3) := by decide +kernel
theorem dX1_lockOf_5 : decode cX1_lockOf 5 = .ok (.invokestatic 19, 3) := by decide +kernel
theorem dX1_lockOf_8 : decode cX1_lockOf 8 = .ok (.aload_n 0, 1) := by decide +kernel
theorem dX1_lockOf_9 : decode cX1_lockOf 9 = .ok (.getfield 13, 3) := by decide +kernel
theorem dX1_lockOf_12 : decode cX1_lockOf 12 = .ok (.invokestatic 19, 3) := by decide +kernel
theorem dX1_lockOf_15 : decode cX1_lockOf 15 = .ok (.ireturn, 1) := by decide +kernel
set_option maxRecDepth 20000 in
theorem ggX1_tagOf_X1_lockOf : GoodIn wsX1_tagOf wsX1_lockOf := goodIn_r _ [6, 7, 8, 9, 10, 11, 12, 13, 14, 15] (by decide +kernel) (by decide +kernel)
set_option maxRecDepth 20000 in
theorem gX1_tagOf_X1_lockOf : GoodIn wsX1_tagOf (wsV RX1 25 RX1 yX1_lockOf wsX1_lockOf) := goodIn_app (goodIn_of _ (by decide +kernel)) ggX1_tagOf_X1_lockOf
set_option maxRecDepth 20000 in
theorem ggX1_tagOf_X8_mix : GoodIn wsX1_tagOf wsX8_mix := goodIn_r _ [11, 12] (by decide +kernel) (by decide +kernel)
set_option maxRecDepth 20000 in
theorem gX1_tagOf_X8_mix_n19 : GoodIn wsX1_tagOf (wsX8_mix) := ggX1_tagOf_X8_mix
theorem dX1_tagOf_0 : decode cX1_tagOf 0 = .ok (.aload_n 0, 1) := by decide +kernel
theorem dX1_tagOf_1 : decode cX1_tagOf 1 = .ok (.iload_n 1, 1) := by decide +kernel
theorem dX1_tagOf_2 : decode cX1_tagOf 2 = .ok (.invokevirtual 25, 3) := by decide +kernel
theorem dX1_tagOf_5 : decode cX1_tagOf 5 = .ok (.iload_n 2, 1) := by decide +kernel
theorem dX1_tagOf_6 : decode cX1_tagOf 6 = .ok (.invokestatic 19, 3) := by decide +kernel
theorem dX1_tagOf_9 : decode cX1_tagOf 9 = .ok (.aload_n 0, 1) := by decide +kernel
theorem dX1_tagOf_10 : decode cX1_tagOf 10 = .ok (.getfield 16, 3) := by decide +kernel
theorem dX1_tagOf_13 : decode cX1_tagOf 13 = .ok (.invokestatic 19, 3) := by decide +kernel
theorem dX1_tagOf_16 : decode cX1_tagOf 16 = .ok (.ireturn, 1) := by decide +kernel
set_option maxRecDepth 20000 in
theorem ggX1_veil_X1_lockOf : GoodIn wsX1_veil wsX1_lockOf := goodIn_r _ [6, 7, 8, 9, 10, 11, 12, 13, 14, 15] (by decide +kernel) (by decide +kernel)
set_option maxRecDepth 20000 in
theorem gX1_veil_X1_lockOf : GoodIn wsX1_veil (wsV RX1 25 RX1 yX1_lockOf wsX1_lockOf) := goodIn_app (goodIn_of _ (by decide +kernel)) ggX1_veil_X1_lockOf
set_option maxRecDepth 20000 in
theorem ggX1_veil_X8_mix : GoodIn wsX1_veil wsX8_mix := goodIn_r _ [11, 12] (by decide +kernel) (by decide +kernel)
set_option maxRecDepth 20000 in
theorem gX1_veil_X8_mix_n19 : GoodIn wsX1_veil (wsX8_mix) := ggX1_veil_X8_mix
theorem dX1_veil_0 : decode cX1_veil 0 = .ok (.iload_n 2, 1) := by decide +kernel
theorem dX1_veil_1 : decode cX1_veil 1 = .ok (.aload_n 0, 1) := by decide +kernel
theorem dX1_veil_2 : decode cX1_veil 2 = .ok (.iload_n 1, 1) := by decide +kernel
theorem dX1_veil_3 : decode cX1_veil 3 = .ok (.invokevirtual 25, 3) := by decide +kernel
theorem dX1_veil_6 : decode cX1_veil 6 = .ok (.aload_n 0, 1) := by decide +kernel
theorem dX1_veil_7 : decode cX1_veil 7 = .ok (.getfield 16, 3) := by decide +kernel
theorem dX1_veil_10 : decode cX1_veil 10 = .ok (.invokestatic 19, 3) := by decide +kernel
theorem dX1_veil_13 : decode cX1_veil 13 = .ok (.sipush 1023, 3) := by decide +kernel
theorem dX1_veil_16 : decode cX1_veil 16 = .ok (.iand, 1) := by decide +kernel
theorem dX1_veil_17 : decode cX1_veil 17 = .ok (.ixor, 1) := by decide +kernel
theorem dX1_veil_18 : decode cX1_veil 18 = .ok (.ireturn, 1) := by decide +kernel
theorem dX2_init_0 : decode cX2_init 0 = .ok (.aload_n 0, 1) := by decide +kernel
theorem dX2_init_1 : decode cX2_init 1 = .ok (.invokespecial 1, 3) := by decide +kernel
theorem dX2_init_4 : decode cX2_init 4 = .ok (.aload_n 0, 1) := by decide +kernel
theorem dX2_init_5 : decode cX2_init 5 = .ok (.bipush 9, 2) := by decide +kernel
theorem dX2_init_7 : decode cX2_init 7 = .ok (.newarray .int, 2) := by decide +kernel
theorem dX2_init_9 : decode cX2_init 9 = .ok (.putfield 9, 3) := by decide +kernel
theorem dX2_init_12 : decode cX2_init 12 = .ok (.return_, 1) := by decide +kernel
theorem dX2_hasNumber_0 : decode cX2_hasNumber 0 = .ok (.iload_n 0, 1) := by decide +kernel
theorem dX2_hasNumber_1 : decode cX2_hasNumber 1 = .ok (.ifCond .lt 13, 3) := by decide +kernel
theorem dX2_hasNumber_4 : decode cX2_hasNumber 4 = .ok (.iload_n 0, 1) := by decide +kernel
theorem dX2_hasNumber_5 : decode cX2_hasNumber 5 = .ok (.bipush 8, 2) := by decide +kernel
theorem dX2_hasNumber_7 : decode cX2_hasNumber 7 = .ok (.if_icmp .gt 7, 3) := by decide +kernel
theorem dX2_hasNumber_10 : decode cX2_hasNumber 10 = .ok (.iconst 1, 1) := by decide +kernel
theorem dX2_hasNumber_11 : decode cX2_hasNumber 11 = .ok (.goto 4, 3) := by decide +kernel
theorem dX2_hasNumber_14 : decode cX2_hasNumber 14 = .ok (.iconst 0, 1) := by decide +kernel
theorem dX2_hasNumber_15 : decode cX2_hasNumber 15 = .ok (.ireturn, 1) := by decide +kernel
set_option maxRecDepth 20000 in
theorem ggX2_at_X2_hasNumber : GoodIn wsX2_at wsX2_hasNumber := goodIn_r _ [5] (by decide +kernel) (by decide +kernel)
set_option maxRecDepth 20000 in
theorem gX2_at_X2_hasNumber : GoodIn wsX2_at (va_wsS RX2 13 yX2_hasNumber wsX2_hasNumber) := goodIn_app (goodIn_of _ (by decide +kernel)) ggX2_at_X2_hasNumber
theorem dX2_at_0 : decode cX2_at 0 = .ok (.iload_n 1, 1) := by decide +kernel
theorem dX2_at_1 : decode cX2_at 1 = .ok (.invokestatic 13, 3) := by decide +kernel
theorem dX2_at_4 : decode cX2_at 4 = .ok (.ifCond .eq 12, 3) := by decide +kernel
theorem dX2_at_7 : decode cX2_at 7 = .ok (.aload_n 0, 1) := by decide +kernel
theorem dX2_at_8 : decode cX2_at 8 = .ok (.getfield 9, 3) := by decide +kernel
theorem dX2_at_11 : decode cX2_at 11 = .ok (.iload_n 1, 1) := by decide +kernel
theorem dX2_at_12 : decode cX2_at 12 = .ok (.iaload, 1) := by decide +kernel
theorem dX2_at_13 : decode cX2_at 13 = .ok (.goto 4, 3) := by decide +kernel
theorem dX2_at_16 : decode cX2_at 16 = .ok (.iconst 0, 1) := by decide +kernel
theorem dX2_at_17 : decode cX2_at 17 = .ok (.ireturn, 1) := by decide +kernel
set_option maxRecDepth 20000 in
theorem ggX2_put_X2_hasNumber : GoodIn wsX2_put wsX2_hasNumber := goodIn_r _ [5] (by decide +kernel) (by decide +kernel)
set_option maxRecDepth 20000 in
theorem gX2_put_X2_hasNumber : GoodIn wsX2_put (va_wsS RX2 13 yX2_hasNumber wsX2_hasNumber) := goodIn_app (goodIn_of _ (by decide +kernel)) ggX2_put_X2_hasNumber
theorem dX2_put_0 : decode cX2_put 0 = .ok (.iload_n 1, 1) := by decide +kernel
theorem dX2_put_1 : decode cX2_put 1 = .ok (.invokestatic 13, 3) := by decide +kernel
theorem dX2_put_4 : decode cX2_put 4 = .ok (.ifCond .eq 10, 3) := by decide +kernel
theorem dX2_put_7 : decode cX2_put 7 = .ok (.aload_n 0, 1) := by decide +kernel
theorem dX2_put_8 : decode cX2_put 8 = .ok (.getfield 9, 3) := by decide +kernel
theorem dX2_put_11 : decode cX2_put 11 = .ok (.iload_n 1, 1) := by decide +kernel
theorem dX2_put_12 : decode cX2_put 12 = .ok (.iload_n 2, 1) := by decide +kernel
theorem dX2_put_13 : decode cX2_put 13 = .ok (.iastore, 1) := by decide +kernel
theorem dX2_put_14 : decode cX2_put 14 = .ok (.return_, 1) := by decide +kernel
theorem dX2_begin_0 : decode cX2_begin 0 = .ok (.iconst 0, 1) := by decide +kernel
theorem dX2_begin_1 : decode cX2_begin 1 = .ok (.istore_n 2, 1) := by decide +kernel
theorem dX2_begin_2 : decode cX2_begin 2 = .ok (.iload_n 2, 1) := by decide +kernel
theorem dX2_begin_3 : decode cX2_begin 3 = .ok (.bipush 8, 2) := by decide +kernel
theorem dX2_begin_5 : decode cX2_begin 5 = .ok (.if_icmp .gt 16, 3) := by decide +kernel
theorem dX2_begin_8 : decode cX2_begin 8 = .ok (.aload_n 0, 1) := by decide +kernel
theorem dX2_begin_9 : decode cX2_begin 9 = .ok (.getfield 9, 3) := by decide +kernel
theorem dX2_begin_12 : decode cX2_begin 12 = .ok (.iload_n 2, 1) := by decide +kernel
theorem dX2_begin_13 : decode cX2_begin 13 = .ok (.iconst 0, 1) := by decide +kernel
theorem dX2_begin_14 : decode cX2_begin 14 = .ok (.iastore, 1) := by decide +kernel
theorem dX2_begin_15 : decode cX2_begin 15 = .ok (.iinc 2 1, 3) := by decide +kernel
theorem dX2_begin_18 : decode cX2_begin 18 = .ok (.goto (-16), 3) := by decide +kernel
theorem dX2_begin_21 : decode cX2_begin 21 = .ok (.aload_n 0, 1) := by decide +kernel
theorem dX2_begin_22 : decode cX2_begin 22 = .ok (.getfield 9, 3) := by decide +kernel
theorem dX2_begin_25 : decode cX2_begin 25 = .ok (.iconst 0, 1) := by decide +kernel
theorem dX2_begin_26 : decode cX2_begin 26 = .ok (.iload_n 1, 1) := by decide +kernel
theorem dX2_begin_27 : decode cX2_begin 27 = .ok (.iastore, 1) := by decide +kernel
theorem dX2_begin_28 : decode cX2_begin 28 = .ok (.return_, 1) := by decide +kernel
theorem dX2_become_0 : decode cX2_become 0 = .ok (.iconst 0, 1) := by decide +kernel
theorem dX2_become_1 : decode cX2_become 1 = .ok (.istore_n 2, 1) := by decide +kernel
theorem dX2_become_2 : decode cX2_become 2 = .ok (.iload_n 2, 1) := by decide +kernel
theorem dX2_become_3 : decode cX2_become 3 = .ok (.bipush 8, 2) := by decide +kernel
theorem dX2_become_5 : decode cX2_become 5 = .ok (.if_icmp .gt 21, 3) := by decide +kernel
theorem dX2_become_8 : decode cX2_become 8 = .ok (.aload_n 0, 1) := by decide +kernel
theorem dX2_become_9 : decode cX2_become 9 = .ok (.getfield 9, 3) := by decide +kernel
theorem dX2_become_12 : decode cX2_become 12 = .ok (.iload_n 2, 1) := by decide +kernel
theorem dX2_become_13 : decode cX2_become 13 = .ok (.aload_n 1, 1) := by decide +kernel
theorem dX2_become_14 : decode cX2_become 14 = .ok (.getfield 9, 3) := by decide +kernel
theorem dX2_become_17 : decode cX2_become 17 = .ok (.iload_n 2, 1) := by decide +kernel
theorem dX2_become_18 : decode cX2_become 18 = .ok (.iaload, 1) := by decide +kernel
theorem dX2_become_19 : decode cX2_become 19 = .ok (.iastore, 1) := by decide +kernel
theorem dX2_become_20 : decode cX2_become 20 = .ok (.iinc 2 1, 3) := by decide +kernel
theorem dX2_become_23 : decode cX2_become 23 = .ok (.goto (-21), 3) := by decide +kernel
theorem dX2_become_26 : decode cX2_become 26 = .ok (.return_, 1) := by decide +kernel
set_option maxRecDepth 20000 in
theorem ggX2_mixInto_X8_mix : GoodIn wsX2_mixInto wsX8_mix := goodIn_r _ [4, 5] (by decide +kernel) (by decide +kernel)
set_option maxRecDepth 20000 in
theorem gX2_mixInto_X8_mix_n17 : GoodIn wsX2_mixInto (wsX8_mix) := ggX2_mixInto_X8_mix
theorem dX2_mixInto_0 : decode cX2_mixInto 0 = .ok (.iload_n 1, 1) := by decide +kernel
theorem dX2_mixInto_1 : decode cX2_mixInto 1 = .ok (.istore_n 3, 1) := by decide +kernel
theorem dX2_mixInto_2 : decode cX2_mixInto 2 = .ok (.iconst 0, 1) := by decide +kernel
theorem dX2_mixInto_3 : decode cX2_mixInto 3 = .ok (.istore 4, 2) := by decide +kernel
theorem dX2_mixInto_5 : decode cX2_mixInto 5 = .ok (.iload 4, 2) := by decide +kernel
theorem dX2_mixInto_7 : decode cX2_mixInto 7 = .ok (.iload_n 2, 1) := by decide +kernel
theorem dX2_mixInto_8 : decode cX2_mixInto 8 = .ok (.if_icmp .gt 28, 3) := by decide +kernel
theorem dX2_mixInto_11 : decode cX2_mixInto 11 = .ok (.iload 4, 2) := by decide +kernel
theorem dX2_mixInto_13 : decode cX2_mixInto 13 = .ok (.bipush 8, 2) := by decide +kernel
theorem dX2_mixInto_15 : decode cX2_mixInto 15 = .ok (.if_icmp .gt 21, 3) := by decide +kernel
theorem dX2_mixInto_18 : decode cX2_mixInto 18 = .ok (.iload_n 3, 1) := by decide +kernel
theorem dX2_mixInto_19 : decode cX2_mixInto 19 = .ok (.aload_n 0, 1) := by decide +kernel
theorem dX2_mixInto_20 : decode cX2_mixInto 20 = .ok (.getfield 9, 3) := by decide +kernel
theorem dX2_mixInto_23 : decode cX2_mixInto 23 = .ok (.iload 4, 2) := by decide +kernel
theorem dX2_mixInto_25 : decode cX2_mixInto 25 = .ok (.iaload, 1) := by decide +kernel
theorem dX2_mixInto_26 : decode cX2_mixInto 26 = .ok (.invokestatic 17, 3) := by decide +kernel
theorem dX2_mixInto_29 : decode cX2_mixInto 29 = .ok (.istore_n 3, 1) := by decide +kernel
theorem dX2_mixInto_30 : decode cX2_mixInto 30 = .ok (.iinc 4 1, 3) := by decide +kernel
theorem dX2_mixInto_33 : decode cX2_mixInto 33 = .ok (.goto (-28), 3) := by decide +kernel
theorem dX2_mixInto_36 : decode cX2_mixInto 36 = .ok (.iload_n 3, 1) := by decide +kernel
theorem dX2_mixInto_37 : decode cX2_mixInto 37 = .ok (.ireturn, 1) := by decide +kernel
set_option maxRecDepth 20000 in
theorem ggX4_init_X2_init : GoodIn wsX4_init wsX2_init := goodIn_r _ [9, 10, 2, 3, 11, 12, 16] (by decide +kernel) (by decide +kernel)
set_option maxRecDepth 20000 in
theorem gX4_init_X2_init_n15 : GoodIn wsX4_init (wsX2_init) := ggX4_init_X2_init
theorem dX4_init_0 : decode cX4_init 0 = .ok (.aload_n 0, 1) := by decide +kernel
theorem dX4_init_1 : decode cX4_init 1 = .ok (.invokespecial 1, 3) := by decide +kernel
theorem dX4_init_4 : decode cX4_init 4 = .ok (.aload_n 0, 1) := by decide +kernel
theorem dX4_init_5 : decode cX4_init 5 = .ok (.bipush 8, 2) := by decide +kernel
theorem dX4_init_7 : decode cX4_init 7 = .ok (.anewarray 9, 3) := by decide +kernel
theorem dX4_init_10 : decode cX4_init 10 = .ok (.putfield 11, 3) := by decide +kernel
theorem dX4_init_13 : decode cX4_init 13 = .ok (.iconst 0, 1) := by decide +kernel
theorem dX4_init_14 : decode cX4_init 14 = .ok (.istore_n 1, 1) := by decide +kernel
theorem dX4_init_15 : decode cX4_init 15 = .ok (.iload_n 1, 1) := by decide +kernel
theorem dX4_init_16 : decode cX4_init 16 = .ok (.bipush 8, 2) := by decide +kernel
theorem dX4_init_18 : decode cX4_init 18 = .ok (.if_icmp .ge 22, 3) := by decide +kernel
theorem dX4_init_21 : decode cX4_init 21 = .ok (.aload_n 0, 1) := by decide +kernel
theorem dX4_init_22 : decode cX4_init 22 = .ok (.getfield 11, 3) := by decide +kernel
theorem dX4_init_25 : decode cX4_init 25 = .ok (.iload_n 1, 1) := by decide +kernel
theorem dX4_init_26 : decode cX4_init 26 = .ok (.new 9, 3) := by decide +kernel
theorem dX4_init_29 : decode cX4_init 29 = .ok (.dup, 1) := by decide +kernel
theorem dX4_init_30 : decode cX4_init 30 = .ok (.invokespecial 15, 3) := by decide +kernel
theorem dX4_init_33 : decode cX4_init 33 = .ok (.aastore, 1) := by decide +kernel
theorem dX4_init_34 : decode cX4_init 34 = .ok (.iinc 1 1, 3) := by decide +kernel
theorem dX4_init_37 : decode cX4_init 37 = .ok (.goto (-22), 3) := by decide +kernel
theorem dX4_init_40 : decode cX4_init 40 = .ok (.return_, 1) := by decide +kernel
set_option maxRecDepth 20000 in
theorem ggX4_send_X2_become : GoodIn wsX4_send wsX2_become := goodIn_r _ [8, 9, 13] (by decide +kernel) (by decide +kernel)
set_option maxRecDepth 20000 in
theorem gX4_send_X2_become : GoodIn wsX4_send (wsV RX4 23 RX2 yX2_become wsX2_become) := goodIn_app (goodIn_of _ (by decide +kernel)) ggX4_send_X2_become
theorem dX4_send_0 : decode cX4_send 0 = .ok (.aload_n 0, 1) := by decide +kernel
theorem dX4_send_1 : decode cX4_send 1 = .ok (.getfield 16, 3) := by decide +kernel
theorem dX4_send_4 : decode cX4_send 4 = .ok (.bipush 8, 2) := by decide +kernel
theorem dX4_send_6 : decode cX4_send 6 = .ok (.if_icmp .lt 14, 3) := by decide +kernel
theorem dX4_send_9 : decode cX4_send 9 = .ok (.aload_n 0, 1) := by decide +kernel
theorem dX4_send_10 : decode cX4_send 10 = .ok (.dup, 1) := by decide +kernel
theorem dX4_send_11 : decode cX4_send 11 = .ok (.getfield 20, 3) := by decide +kernel
theorem dX4_send_14 : decode cX4_send 14 = .ok (.iconst 1, 1) := by decide +kernel
theorem dX4_send_15 : decode cX4_send 15 = .ok (.iadd, 1) := by decide +kernel
theorem dX4_send_16 : decode cX4_send 16 = .ok (.putfield 20, 3) := by decide +kernel
theorem dX4_send_19 : decode cX4_send 19 = .ok (.return_, 1) := by decide +kernel
theorem dX4_send_20 : decode cX4_send 20 = .ok (.aload_n 0, 1) := by decide +kernel
theorem dX4_send_21 : decode cX4_send 21 = .ok (.getfield 11, 3) := by decide +kernel
theorem dX4_send_24 : decode cX4_send 24 = .ok (.aload_n 0, 1) := by decide +kernel
theorem dX4_send_25 : decode cX4_send 25 = .ok (.getfield 16, 3) := by decide +kernel
theorem dX4_send_28 : decode cX4_send 28 = .ok (.aaload, 1) := by decide +kernel
theorem dX4_send_29 : decode cX4_send 29 = .ok (.aload_n 1, 1) := by decide +kernel
theorem dX4_send_30 : decode cX4_send 30 = .ok (.invokevirtual 23, 3) := by decide +kernel
theorem dX4_send_33 : decode cX4_send 33 = .ok (.aload_n 0, 1) := by decide +kernel
theorem dX4_send_34 : decode cX4_send 34 = .ok (.dup, 1) := by decide +kernel
theorem dX4_send_35 : decode cX4_send 35 = .ok (.getfield 16, 3) := by decide +kernel
theorem dX4_send_38 : decode cX4_send 38 = .ok (.iconst 1, 1) := by decide +kernel
theorem dX4_send_39 : decode cX4_send 39 = .ok (.iadd, 1) := by decide +kernel
theorem dX4_send_40 : decode cX4_send 40 = .ok (.putfield 16, 3) := by decide +kernel
theorem dX4_send_43 : decode cX4_send 43 = .ok (.return_, 1) := by decide +kernel
theorem dX4_first_0 : decode cX4_first 0 = .ok (.aload_n 0, 1) := by decide +kernel
theorem dX4_first_1 : decode cX4_first 1 = .ok (.getfield 11, 3) := by decide +kernel
theorem dX4_first_4 : decode cX4_first 4 = .ok (.iconst 0, 1) := by decide +kernel
theorem dX4_first_5 : decode cX4_first 5 = .ok (.aaload, 1) := by decide +kernel
theorem dX4_first_6 : decode cX4_first 6 = .ok (.areturn, 1) := by decide +kernel
set_option maxRecDepth 20000 in
theorem ggX4_takeFirst_X2_become : GoodIn wsX4_takeFirst wsX2_become := goodIn_r _ [7, 8, 12] (by decide +kernel) (by decide +kernel)
set_option maxRecDepth 20000 in
theorem gX4_takeFirst_X2_become : GoodIn wsX4_takeFirst (wsV RX4 23 RX2 yX2_become wsX2_become) := goodIn_app (goodIn_of _ (by decide +kernel)) ggX4_takeFirst_X2_become
theorem dX4_takeFirst_0 : decode cX4_takeFirst 0 = .ok (.aload_n 0, 1) := by decide +kernel
theorem dX4_takeFirst_1 : decode cX4_takeFirst 1 = .ok (.getfield 16, 3) := by decide +kernel
theorem dX4_takeFirst_4 : decode cX4_takeFirst 4 = .ok (.iconst 1, 1) := by decide +kernel
theorem dX4_takeFirst_5 : decode cX4_takeFirst 5 = .ok (.if_icmp .ge 4, 3) := by decide +kernel
theorem dX4_takeFirst_8 : decode cX4_takeFirst 8 = .ok (.return_, 1) := by decide +kernel
theorem dX4_takeFirst_9 : decode cX4_takeFirst 9 = .ok (.aload_n 0, 1) := by decide +kernel
theorem dX4_takeFirst_10 : decode cX4_takeFirst 10 = .ok (.getfield 11, 3) := by decide +kernel
theorem dX4_takeFirst_13 : decode cX4_takeFirst 13 = .ok (.iconst 0, 1) := by decide +kernel
theorem dX4_takeFirst_14 : decode cX4_takeFirst 14 = .ok (.aaload, 1) := by decide +kernel
theorem dX4_takeFirst_15 : decode cX4_takeFirst 15 = .ok (.astore_n 2, 1) := by decide +kernel
theorem dX4_takeFirst_16 : decode cX4_takeFirst 16 = .ok (.aload_n 1, 1) := by decide +kernel
theorem dX4_takeFirst_17 : decode cX4_takeFirst 17 = .ok (.aload_n 2, 1) := by decide +kernel
theorem dX4_takeFirst_18 : decode cX4_takeFirst 18 = .ok (.invokevirtual 23, 3) := by decide +kernel
theorem dX4_takeFirst_21 : decode cX4_takeFirst 21 = .ok (.iconst 1, 1) := by decide +kernel
theorem dX4_takeFirst_22 : decode cX4_takeFirst 22 = .ok (.istore_n 3, 1) := by decide +kernel
theorem dX4_takeFirst_23 : decode cX4_takeFirst 23 = .ok (.iload_n 3, 1) := by decide +kernel
theorem dX4_takeFirst_24 : decode cX4_takeFirst 24 = .ok (.bipush 8, 2) := by decide +kernel
theorem dX4_takeFirst_26 : decode cX4_takeFirst 26 = .ok (.if_icmp .ge 23, 3) := by decide +kernel
theorem dX4_takeFirst_29 : decode cX4_takeFirst 29 = .ok (.aload_n 0, 1) := by decide +kernel
theorem dX4_takeFirst_30 : decode cX4_takeFirst 30 = .ok (.getfield 11, 3) := by decide +kernel
theorem dX4_takeFirst_33 : decode cX4_takeFirst 33 = .ok (.iload_n 3, 1) := by decide +kernel
theorem dX4_takeFirst_34 : decode cX4_takeFirst 34 = .ok (.iconst 1, 1) := by decide +kernel
theorem dX4_takeFirst_35 : decode cX4_takeFirst 35 = .ok (.isub, 1) := by decide +kernel
theorem dX4_takeFirst_36 : decode cX4_takeFirst 36 = .ok (.aload_n 0, 1) := by decide +kernel
theorem dX4_takeFirst_37 : decode cX4_takeFirst 37 = .ok (.getfield 11, 3) := by decide +kernel
theorem dX4_takeFirst_40 : decode cX4_takeFirst 40 = .ok (.iload_n 3, 1) := by decide +kernel
theorem dX4_takeFirst_41 : decode cX4_takeFirst 41 = .ok (.aaload, 1) := by decide +kernel
theorem dX4_takeFirst_42 : decode cX4_takeFirst 42 = .ok (.aastore, 1) := by decide +kernel
theorem dX4_takeFirst_43 : decode cX4_takeFirst 43 = .ok (.iinc 3 1, 3) := by decide +kernel
theorem dX4_takeFirst_46 : decode cX4_takeFirst 46 = .ok (.goto (-23), 3) := by decide +kernel
theorem dX4_takeFirst_49 : decode cX4_takeFirst 49 = .ok (.aload_n 0, 1) := by decide +kernel
theorem dX4_takeFirst_50 : decode cX4_takeFirst 50 = .ok (.getfield 11, 3) := by decide +kernel
theorem dX4_takeFirst_53 : decode cX4_takeFirst 53 = .ok (.bipush 7, 2) := by decide +kernel
theorem dX4_takeFirst_55 : decode cX4_takeFirst 55 = .ok (.aload_n 2, 1) := by decide +kernel
theorem dX4_takeFirst_56 : decode cX4_takeFirst 56 = .ok (.aastore, 1) := by decide +kernel
theorem dX4_takeFirst_57 : decode cX4_takeFirst 57 = .ok (.aload_n 0, 1) := by decide +kernel
theorem dX4_takeFirst_58 : decode cX4_takeFirst 58 = .ok (.dup, 1) := by decide +kernel
theorem dX4_takeFirst_59 : decode cX4_takeFirst 59 = .ok (.getfield 16, 3) := by decide +kernel
theorem dX4_takeFirst_62 : decode cX4_takeFirst 62 = .ok (.iconst 1, 1) := by decide +kernel
theorem dX4_takeFirst_63 : decode cX4_takeFirst 63 = .ok (.isub, 1) := by decide +kernel
theorem dX4_takeFirst_64 : decode cX4_takeFirst 64 = .ok (.putfield 16, 3) := by decide +kernel
theorem dX4_takeFirst_67 : decode cX4_takeFirst 67 = .ok (.return_, 1) := by decide +kernel
theorem dX7_init_0 : decode cX7_init 0 = .ok (.aload_n 0, 1) := by decide +kernel
theorem dX7_init_1 : decode cX7_init 1 = .ok (.invokespecial 1, 3) := by decide +kernel
theorem dX7_init_4 : decode cX7_init 4 = .ok (.return_, 1) := by decide +kernel
theorem dX7_tells_0 : decode cX7_tells 0 = .ok (.iload_n 0, 1) := by decide +kernel
theorem dX7_tells_1 : decode cX7_tells 1 = .ok (.ifCond .lt 12, 3) := by decide +kernel
theorem dX7_tells_4 : decode cX7_tells 4 = .ok (.iload_n 0, 1) := by decide +kernel
theorem dX7_tells_5 : decode cX7_tells 5 = .ok (.iconst 4, 1) := by decide +kernel
theorem dX7_tells_6 : decode cX7_tells 6 = .ok (.if_icmp .gt 7, 3) := by decide +kernel
theorem dX7_tells_9 : decode cX7_tells 9 = .ok (.iconst 1, 1) := by decide +kernel
theorem dX7_tells_10 : decode cX7_tells 10 = .ok (.goto 4, 3) := by decide +kernel
theorem dX7_tells_13 : decode cX7_tells 13 = .ok (.iconst 0, 1) := by decide +kernel
theorem dX7_tells_14 : decode cX7_tells 14 = .ok (.ireturn, 1) := by decide +kernel
theorem dX7_tell_0 : decode cX7_tell 0 = .ok (.iload_n 1, 1) := by decide +kernel
theorem dX7_tell_1 : decode cX7_tell 1 = .ok (.tableswitch 51 0 3 #[31, 36, 41, 46], 31) := by decide +kernel
theorem dX7_tell_32 : decode cX7_tell 32 = .ok (.aload_n 0, 1) := by decide +kernel
theorem dX7_tell_33 : decode cX7_tell 33 = .ok (.getfield 9, 3) := by decide +kernel
theorem dX7_tell_36 : decode cX7_tell 36 = .ok (.ireturn, 1) := by decide +kernel
theorem dX7_tell_37 : decode cX7_tell 37 = .ok (.aload_n 0, 1) := by decide +kernel
theorem dX7_tell_38 : decode cX7_tell 38 = .ok (.getfield 13, 3) := by decide +kernel
theorem dX7_tell_41 : decode cX7_tell 41 = .ok (.ireturn, 1) := by decide +kernel
theorem dX7_tell_42 : decode cX7_tell 42 = .ok (.aload_n 0, 1) := by decide +kernel
theorem dX7_tell_43 : decode cX7_tell 43 = .ok (.getfield 16, 3) := by decide +kernel
theorem dX7_tell_46 : decode cX7_tell 46 = .ok (.ireturn, 1) := by decide +kernel
theorem dX7_tell_47 : decode cX7_tell 47 = .ok (.aload_n 0, 1) := by decide +kernel
theorem dX7_tell_48 : decode cX7_tell 48 = .ok (.getfield 19, 3) := by decide +kernel
theorem dX7_tell_51 : decode cX7_tell 51 = .ok (.ireturn, 1) := by decide +kernel
theorem dX7_tell_52 : decode cX7_tell 52 = .ok (.aload_n 0, 1) := by decide +kernel
theorem dX7_tell_53 : decode cX7_tell 53 = .ok (.getfield 22, 3) := by decide +kernel
theorem dX7_tell_56 : decode cX7_tell 56 = .ok (.ireturn, 1) := by decide +kernel
