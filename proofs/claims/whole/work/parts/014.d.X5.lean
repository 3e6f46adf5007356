set_option maxRecDepth 20000 in
theorem ggX5_init_X3_init : GoodIn wsX5_init wsX3_init := goodIn_r _ [17, 18, 2, 3, 19, 20, 21, 22, 23, 24, 25, 26, 27, 28, 29, 30, 31, 32, 33, 34, 35, 36, 37, 38, 39, 40, 41, 10, 42, 46, 47, 48, 49, 50, 51, 52, 53, 54, 55, 56, 57, 58, 59, 60, 61, 62, 63, 78, 79, 80, 81] (by decide +kernel) (by decide +kernel)
set_option maxRecDepth 20000 in
theorem gX5_init_X3_init : GoodIn wsX5_init (wsX3_init) := ggX5_init_X3_init
set_option maxRecDepth 20000 in
theorem ggX5_init_X7_init : GoodIn wsX5_init wsX7_init := goodIn_r _ [44, 45, 2, 3] (by decide +kernel) (by decide +kernel)
set_option maxRecDepth 20000 in
theorem gX5_init_X7_init_n33 : GoodIn wsX5_init (wsX7_init) := ggX5_init_X7_init
theorem dX5_init_0 : decode cX5_init 0 = .ok (.aload_n 0, 1) := by decide +kernel
theorem dX5_init_1 : decode cX5_init 1 = .ok (.invokespecial 3, 3) := by decide +kernel
theorem dX5_init_4 : decode cX5_init 4 = .ok (.aload_n 0, 1) := by decide +kernel
theorem dX5_init_5 : decode cX5_init 5 = .ok (.new 9, 3) := by decide +kernel
theorem dX5_init_8 : decode cX5_init 8 = .ok (.dup, 1) := by decide +kernel
theorem dX5_init_9 : decode cX5_init 9 = .ok (.iconst 1, 1) := by decide +kernel
theorem dX5_init_10 : decode cX5_init 10 = .ok (.iconst 4, 1) := by decide +kernel
theorem dX5_init_11 : decode cX5_init 11 = .ok (.invokespecial 11, 3) := by decide +kernel
theorem dX5_init_14 : decode cX5_init 14 = .ok (.putfield 14, 3) := by decide +kernel
theorem dX5_init_17 : decode cX5_init 17 = .ok (.aload_n 0, 1) := by decide +kernel
theorem dX5_init_18 : decode cX5_init 18 = .ok (.iconst 3, 1) := by decide +kernel
theorem dX5_init_19 : decode cX5_init 19 = .ok (.anewarray 20, 3) := by decide +kernel
theorem dX5_init_22 : decode cX5_init 22 = .ok (.putfield 22, 3) := by decide +kernel
theorem dX5_init_25 : decode cX5_init 25 = .ok (.aload_n 0, 1) := by decide +kernel
theorem dX5_init_26 : decode cX5_init 26 = .ok (.iconst 4, 1) := by decide +kernel
theorem dX5_init_27 : decode cX5_init 27 = .ok (.newarray .int, 2) := by decide +kernel
theorem dX5_init_29 : decode cX5_init 29 = .ok (.putfield 26, 3) := by decide +kernel
theorem dX5_init_32 : decode cX5_init 32 = .ok (.aload_n 0, 1) := by decide +kernel
theorem dX5_init_33 : decode cX5_init 33 = .ok (.iconst 4, 1) := by decide +kernel
theorem dX5_init_34 : decode cX5_init 34 = .ok (.newarray .int, 2) := by decide +kernel
theorem dX5_init_36 : decode cX5_init 36 = .ok (.putfield 30, 3) := by decide +kernel
theorem dX5_init_39 : decode cX5_init 39 = .ok (.iconst 0, 1) := by decide +kernel
theorem dX5_init_40 : decode cX5_init 40 = .ok (.istore_n 1, 1) := by decide +kernel
theorem dX5_init_41 : decode cX5_init 41 = .ok (.iload_n 1, 1) := by decide +kernel
theorem dX5_init_42 : decode cX5_init 42 = .ok (.iconst 3, 1) := by decide +kernel
theorem dX5_init_43 : decode cX5_init 43 = .ok (.if_icmp .ge 22, 3) := by decide +kernel
theorem dX5_init_46 : decode cX5_init 46 = .ok (.aload_n 0, 1) := by decide +kernel
theorem dX5_init_47 : decode cX5_init 47 = .ok (.getfield 22, 3) := by decide +kernel
theorem dX5_init_50 : decode cX5_init 50 = .ok (.iload_n 1, 1) := by decide +kernel
theorem dX5_init_51 : decode cX5_init 51 = .ok (.new 20, 3) := by decide +kernel
theorem dX5_init_54 : decode cX5_init 54 = .ok (.dup, 1) := by decide +kernel
theorem dX5_init_55 : decode cX5_init 55 = .ok (.invokespecial 33, 3) := by decide +kernel
theorem dX5_init_58 : decode cX5_init 58 = .ok (.aastore, 1) := by decide +kernel
theorem dX5_init_59 : decode cX5_init 59 = .ok (.iinc 1 1, 3) := by decide +kernel
theorem dX5_init_62 : decode cX5_init 62 = .ok (.goto (-21), 3) := by decide +kernel
theorem dX5_init_65 : decode cX5_init 65 = .ok (.return_, 1) := by decide +kernel
set_option maxRecDepth 20000 in
theorem ggX5_makeTicket_X5_placeForTicket : GoodIn wsX5_makeTicket wsX5_placeForTicket := goodIn_r _ [14, 15, 16, 46, 47, 48, 49, 50, 51, 52, 53, 54] (by decide +kernel) (by decide +kernel)
set_option maxRecDepth 20000 in
theorem gX5_makeTicket_X5_placeForTicket : GoodIn wsX5_makeTicket (wsV RX5 38 RX5 yX5_placeForTicket wsX5_placeForTicket) := goodIn_app (goodIn_of _ (by decide +kernel)) ggX5_makeTicket_X5_placeForTicket
set_option maxRecDepth 20000 in
theorem ggX5_makeTicket_X8_mix : GoodIn wsX5_makeTicket wsX8_mix := goodIn_r _ [19, 20] (by decide +kernel) (by decide +kernel)
set_option maxRecDepth 20000 in
theorem gX5_makeTicket_X8_mix_n54 : GoodIn wsX5_makeTicket (wsX8_mix) := ggX5_makeTicket_X8_mix
set_option maxRecDepth 20000 in
theorem ggX5_makeTicket_X2_begin : GoodIn wsX5_makeTicket wsX2_begin := goodIn_r _ [25, 26, 78] (by decide +kernel) (by decide +kernel)
set_option maxRecDepth 20000 in
theorem gX5_makeTicket_X2_begin : GoodIn wsX5_makeTicket (wsV RX5 70 RX2 yX2_begin wsX2_begin) := goodIn_app (goodIn_of _ (by decide +kernel)) ggX5_makeTicket_X2_begin
set_option maxRecDepth 20000 in
theorem ggX5_makeTicket_X2_put : GoodIn wsX5_makeTicket wsX2_put := goodIn_r _ [30, 26, 31, 32, 24, 33, 78] (by decide +kernel) (by decide +kernel)
set_option maxRecDepth 20000 in
theorem gX5_makeTicket_X2_put : GoodIn wsX5_makeTicket (wsV RX5 74 RX2 yX2_put wsX2_put) := goodIn_app (goodIn_of _ (by decide +kernel)) ggX5_makeTicket_X2_put
set_option maxRecDepth 20000 in
theorem ggX5_makeTicket_X4_send : GoodIn wsX5_makeTicket wsX4_send := goodIn_r _ [38, 39, 40, 41, 42, 43, 44, 24, 45, 26, 79, 80, 81, 78] (by decide +kernel) (by decide +kernel)
set_option maxRecDepth 20000 in
theorem gX5_makeTicket_X4_send : GoodIn wsX5_makeTicket (wsV RX5 77 RX4 yX4_send wsX4_send) := goodIn_app (goodIn_of _ (by decide +kernel)) ggX5_makeTicket_X4_send
theorem dX5_makeTicket_0 : decode cX5_makeTicket 0 = .ok (.aload_n 0, 1) := by decide +kernel
theorem dX5_makeTicket_1 : decode cX5_makeTicket 1 = .ok (.dup, 1) := by decide +kernel
theorem dX5_makeTicket_2 : decode cX5_makeTicket 2 = .ok (.getfield 34, 3) := by decide +kernel
theorem dX5_makeTicket_5 : decode cX5_makeTicket 5 = .ok (.iconst 1, 1) := by decide +kernel
theorem dX5_makeTicket_6 : decode cX5_makeTicket 6 = .ok (.iadd, 1) := by decide +kernel
theorem dX5_makeTicket_7 : decode cX5_makeTicket 7 = .ok (.putfield 34, 3) := by decide +kernel
theorem dX5_makeTicket_10 : decode cX5_makeTicket 10 = .ok (.aload_n 0, 1) := by decide +kernel
theorem dX5_makeTicket_11 : decode cX5_makeTicket 11 = .ok (.invokevirtual 38, 3) := by decide +kernel
theorem dX5_makeTicket_14 : decode cX5_makeTicket 14 = .ok (.astore 4, 2) := by decide +kernel
theorem dX5_makeTicket_16 : decode cX5_makeTicket 16 = .ok (.aload 4, 2) := by decide +kernel
theorem dX5_makeTicket_18 : decode cX5_makeTicket 18 = .ok (.aload_n 0, 1) := by decide +kernel
theorem dX5_makeTicket_19 : decode cX5_makeTicket 19 = .ok (.getfield 34, 3) := by decide +kernel
theorem dX5_makeTicket_22 : decode cX5_makeTicket 22 = .ok (.putfield 42, 3) := by decide +kernel
theorem dX5_makeTicket_25 : decode cX5_makeTicket 25 = .ok (.aload 4, 2) := by decide +kernel
theorem dX5_makeTicket_27 : decode cX5_makeTicket 27 = .ok (.iload_n 1, 1) := by decide +kernel
theorem dX5_makeTicket_28 : decode cX5_makeTicket 28 = .ok (.putfield 45, 3) := by decide +kernel
theorem dX5_makeTicket_31 : decode cX5_makeTicket 31 = .ok (.aload 4, 2) := by decide +kernel
theorem dX5_makeTicket_33 : decode cX5_makeTicket 33 = .ok (.iload_n 2, 1) := by decide +kernel
theorem dX5_makeTicket_34 : decode cX5_makeTicket 34 = .ok (.putfield 48, 3) := by decide +kernel
theorem dX5_makeTicket_37 : decode cX5_makeTicket 37 = .ok (.aload 4, 2) := by decide +kernel
theorem dX5_makeTicket_39 : decode cX5_makeTicket 39 = .ok (.aload_n 0, 1) := by decide +kernel
theorem dX5_makeTicket_40 : decode cX5_makeTicket 40 = .ok (.getfield 14, 3) := by decide +kernel
theorem dX5_makeTicket_43 : decode cX5_makeTicket 43 = .ok (.getfield 51, 3) := by decide +kernel
theorem dX5_makeTicket_46 : decode cX5_makeTicket 46 = .ok (.aload_n 0, 1) := by decide +kernel
theorem dX5_makeTicket_47 : decode cX5_makeTicket 47 = .ok (.getfield 34, 3) := by decide +kernel
theorem dX5_makeTicket_50 : decode cX5_makeTicket 50 = .ok (.invokestatic 54, 3) := by decide +kernel
theorem dX5_makeTicket_53 : decode cX5_makeTicket 53 = .ok (.putfield 58, 3) := by decide +kernel
theorem dX5_makeTicket_56 : decode cX5_makeTicket 56 = .ok (.aload 4, 2) := by decide +kernel
theorem dX5_makeTicket_58 : decode cX5_makeTicket 58 = .ok (.aload_n 0, 1) := by decide +kernel
theorem dX5_makeTicket_59 : decode cX5_makeTicket 59 = .ok (.getfield 34, 3) := by decide +kernel
theorem dX5_makeTicket_62 : decode cX5_makeTicket 62 = .ok (.bipush 77, 2) := by decide +kernel
theorem dX5_makeTicket_64 : decode cX5_makeTicket 64 = .ok (.invokestatic 54, 3) := by decide +kernel
theorem dX5_makeTicket_67 : decode cX5_makeTicket 67 = .ok (.putfield 61, 3) := by decide +kernel
theorem dX5_makeTicket_70 : decode cX5_makeTicket 70 = .ok (.aload_n 0, 1) := by decide +kernel
theorem dX5_makeTicket_71 : decode cX5_makeTicket 71 = .ok (.getfield 14, 3) := by decide +kernel
theorem dX5_makeTicket_74 : decode cX5_makeTicket 74 = .ok (.getfield 64, 3) := by decide +kernel
theorem dX5_makeTicket_77 : decode cX5_makeTicket 77 = .ok (.iconst 5, 1) := by decide +kernel
theorem dX5_makeTicket_78 : decode cX5_makeTicket 78 = .ok (.invokevirtual 70, 3) := by decide +kernel
theorem dX5_makeTicket_81 : decode cX5_makeTicket 81 = .ok (.aload_n 0, 1) := by decide +kernel
theorem dX5_makeTicket_82 : decode cX5_makeTicket 82 = .ok (.getfield 14, 3) := by decide +kernel
theorem dX5_makeTicket_85 : decode cX5_makeTicket 85 = .ok (.getfield 64, 3) := by decide +kernel
theorem dX5_makeTicket_88 : decode cX5_makeTicket 88 = .ok (.iconst 1, 1) := by decide +kernel
theorem dX5_makeTicket_89 : decode cX5_makeTicket 89 = .ok (.aload_n 0, 1) := by decide +kernel
theorem dX5_makeTicket_90 : decode cX5_makeTicket 90 = .ok (.getfield 34, 3) := by decide +kernel
theorem dX5_makeTicket_93 : decode cX5_makeTicket 93 = .ok (.invokevirtual 74, 3) := by decide +kernel
theorem dX5_makeTicket_96 : decode cX5_makeTicket 96 = .ok (.aload_n 0, 1) := by decide +kernel
theorem dX5_makeTicket_97 : decode cX5_makeTicket 97 = .ok (.getfield 14, 3) := by decide +kernel
theorem dX5_makeTicket_100 : decode cX5_makeTicket 100 = .ok (.getfield 64, 3) := by decide +kernel
theorem dX5_makeTicket_103 : decode cX5_makeTicket 103 = .ok (.iconst 2, 1) := by decide +kernel
theorem dX5_makeTicket_104 : decode cX5_makeTicket 104 = .ok (.aload 4, 2) := by decide +kernel
theorem dX5_makeTicket_106 : decode cX5_makeTicket 106 = .ok (.getfield 61, 3) := by decide +kernel
theorem dX5_makeTicket_109 : decode cX5_makeTicket 109 = .ok (.invokevirtual 74, 3) := by decide +kernel
theorem dX5_makeTicket_112 : decode cX5_makeTicket 112 = .ok (.aload_n 0, 1) := by decide +kernel
theorem dX5_makeTicket_113 : decode cX5_makeTicket 113 = .ok (.getfield 14, 3) := by decide +kernel
theorem dX5_makeTicket_116 : decode cX5_makeTicket 116 = .ok (.getfield 64, 3) := by decide +kernel
theorem dX5_makeTicket_119 : decode cX5_makeTicket 119 = .ok (.iconst 3, 1) := by decide +kernel
theorem dX5_makeTicket_120 : decode cX5_makeTicket 120 = .ok (.iload_n 1, 1) := by decide +kernel
theorem dX5_makeTicket_121 : decode cX5_makeTicket 121 = .ok (.invokevirtual 74, 3) := by decide +kernel
theorem dX5_makeTicket_124 : decode cX5_makeTicket 124 = .ok (.aload_n 3, 1) := by decide +kernel
theorem dX5_makeTicket_125 : decode cX5_makeTicket 125 = .ok (.aload_n 0, 1) := by decide +kernel
theorem dX5_makeTicket_126 : decode cX5_makeTicket 126 = .ok (.getfield 14, 3) := by decide +kernel
theorem dX5_makeTicket_129 : decode cX5_makeTicket 129 = .ok (.getfield 64, 3) := by decide +kernel
theorem dX5_makeTicket_132 : decode cX5_makeTicket 132 = .ok (.invokevirtual 77, 3) := by decide +kernel
theorem dX5_makeTicket_135 : decode cX5_makeTicket 135 = .ok (.aload_n 0, 1) := by decide +kernel
theorem dX5_makeTicket_136 : decode cX5_makeTicket 136 = .ok (.getfield 34, 3) := by decide +kernel
theorem dX5_makeTicket_139 : decode cX5_makeTicket 139 = .ok (.ireturn, 1) := by decide +kernel
theorem dX5_placeForTicket_0 : decode cX5_placeForTicket 0 = .ok (.aload_n 0, 1) := by decide +kernel
theorem dX5_placeForTicket_1 : decode cX5_placeForTicket 1 = .ok (.getfield 83, 3) := by decide +kernel
theorem dX5_placeForTicket_4 : decode cX5_placeForTicket 4 = .ok (.iconst 3, 1) := by decide +kernel
theorem dX5_placeForTicket_5 : decode cX5_placeForTicket 5 = .ok (.if_icmp .ge 25, 3) := by decide +kernel
theorem dX5_placeForTicket_8 : decode cX5_placeForTicket 8 = .ok (.aload_n 0, 1) := by decide +kernel
theorem dX5_placeForTicket_9 : decode cX5_placeForTicket 9 = .ok (.dup, 1) := by decide +kernel
theorem dX5_placeForTicket_10 : decode cX5_placeForTicket 10 = .ok (.getfield 83, 3) := by decide +kernel
theorem dX5_placeForTicket_13 : decode cX5_placeForTicket 13 = .ok (.iconst 1, 1) := by decide +kernel
theorem dX5_placeForTicket_14 : decode cX5_placeForTicket 14 = .ok (.iadd, 1) := by decide +kernel
theorem dX5_placeForTicket_15 : decode cX5_placeForTicket 15 = .ok (.putfield 83, 3) := by decide +kernel
theorem dX5_placeForTicket_18 : decode cX5_placeForTicket 18 = .ok (.aload_n 0, 1) := by decide +kernel
theorem dX5_placeForTicket_19 : decode cX5_placeForTicket 19 = .ok (.getfield 22, 3) := by decide +kernel
theorem dX5_placeForTicket_22 : decode cX5_placeForTicket 22 = .ok (.aload_n 0, 1) := by decide +kernel
theorem dX5_placeForTicket_23 : decode cX5_placeForTicket 23 = .ok (.getfield 83, 3) := by decide +kernel
theorem dX5_placeForTicket_26 : decode cX5_placeForTicket 26 = .ok (.iconst 1, 1) := by decide +kernel
theorem dX5_placeForTicket_27 : decode cX5_placeForTicket 27 = .ok (.isub, 1) := by decide +kernel
theorem dX5_placeForTicket_28 : decode cX5_placeForTicket 28 = .ok (.aaload, 1) := by decide +kernel
theorem dX5_placeForTicket_29 : decode cX5_placeForTicket 29 = .ok (.areturn, 1) := by decide +kernel
theorem dX5_placeForTicket_30 : decode cX5_placeForTicket 30 = .ok (.aload_n 0, 1) := by decide +kernel
theorem dX5_placeForTicket_31 : decode cX5_placeForTicket 31 = .ok (.getfield 22, 3) := by decide +kernel
theorem dX5_placeForTicket_34 : decode cX5_placeForTicket 34 = .ok (.iconst 0, 1) := by decide +kernel
theorem dX5_placeForTicket_35 : decode cX5_placeForTicket 35 = .ok (.aaload, 1) := by decide +kernel
theorem dX5_placeForTicket_36 : decode cX5_placeForTicket 36 = .ok (.astore_n 1, 1) := by decide +kernel
theorem dX5_placeForTicket_37 : decode cX5_placeForTicket 37 = .ok (.iconst 1, 1) := by decide +kernel
theorem dX5_placeForTicket_38 : decode cX5_placeForTicket 38 = .ok (.istore_n 2, 1) := by decide +kernel
theorem dX5_placeForTicket_39 : decode cX5_placeForTicket 39 = .ok (.iload_n 2, 1) := by decide +kernel
theorem dX5_placeForTicket_40 : decode cX5_placeForTicket 40 = .ok (.iconst 3, 1) := by decide +kernel
theorem dX5_placeForTicket_41 : decode cX5_placeForTicket 41 = .ok (.if_icmp .ge 23, 3) := by decide +kernel
theorem dX5_placeForTicket_44 : decode cX5_placeForTicket 44 = .ok (.aload_n 0, 1) := by decide +kernel
theorem dX5_placeForTicket_45 : decode cX5_placeForTicket 45 = .ok (.getfield 22, 3) := by decide +kernel
theorem dX5_placeForTicket_48 : decode cX5_placeForTicket 48 = .ok (.iload_n 2, 1) := by decide +kernel
theorem dX5_placeForTicket_49 : decode cX5_placeForTicket 49 = .ok (.iconst 1, 1) := by decide +kernel
theorem dX5_placeForTicket_50 : decode cX5_placeForTicket 50 = .ok (.isub, 1) := by decide +kernel
theorem dX5_placeForTicket_51 : decode cX5_placeForTicket 51 = .ok (.aload_n 0, 1) := by decide +kernel
theorem dX5_placeForTicket_52 : decode cX5_placeForTicket 52 = .ok (.getfield 22, 3) := by decide +kernel
theorem dX5_placeForTicket_55 : decode cX5_placeForTicket 55 = .ok (.iload_n 2, 1) := by decide +kernel
theorem dX5_placeForTicket_56 : decode cX5_placeForTicket 56 = .ok (.aaload, 1) := by decide +kernel
theorem dX5_placeForTicket_57 : decode cX5_placeForTicket 57 = .ok (.aastore, 1) := by decide +kernel
theorem dX5_placeForTicket_58 : decode cX5_placeForTicket 58 = .ok (.iinc 2 1, 3) := by decide +kernel
theorem dX5_placeForTicket_61 : decode cX5_placeForTicket 61 = .ok (.goto (-22), 3) := by decide +kernel
theorem dX5_placeForTicket_64 : decode cX5_placeForTicket 64 = .ok (.aload_n 0, 1) := by decide +kernel
theorem dX5_placeForTicket_65 : decode cX5_placeForTicket 65 = .ok (.getfield 22, 3) := by decide +kernel
theorem dX5_placeForTicket_68 : decode cX5_placeForTicket 68 = .ok (.iconst 2, 1) := by decide +kernel
theorem dX5_placeForTicket_69 : decode cX5_placeForTicket 69 = .ok (.aload_n 1, 1) := by decide +kernel
theorem dX5_placeForTicket_70 : decode cX5_placeForTicket 70 = .ok (.aastore, 1) := by decide +kernel
theorem dX5_placeForTicket_71 : decode cX5_placeForTicket 71 = .ok (.aload_n 1, 1) := by decide +kernel
theorem dX5_placeForTicket_72 : decode cX5_placeForTicket 72 = .ok (.areturn, 1) := by decide +kernel
set_option maxRecDepth 20000 in
theorem ggX5_receive_X2_at : GoodIn wsX5_receive wsX2_at := goodIn_r _ [7, 8, 9, 10, 6, 11, 208] (by decide +kernel) (by decide +kernel)
set_option maxRecDepth 20000 in
theorem gX5_receive_X2_at : GoodIn wsX5_receive (wsV RX5 86 RX2 yX2_at wsX2_at) := goodIn_app (goodIn_of _ (by decide +kernel)) ggX5_receive_X2_at
set_option maxRecDepth 20000 in
theorem ggX5_receive_X5_receiveHello : GoodIn wsX5_receive wsX5_receiveHello := goodIn_r _ [16, 1, 17, 18, 19, 20, 21, 22, 23, 24, 25, 26, 27, 3, 4, 5, 6, 7, 8, 9, 10, 11, 28, 29, 30, 31, 32, 33, 15, 34, 2, 35, 36, 37, 38, 39, 40, 41, 42, 43, 44, 45, 46, 47, 48, 49, 50, 51, 52, 53, 54, 55, 56, 57, 58, 59, 60, 61, 62, 63, 64, 65, 66, 67, 68, 69, 70, 71, 72, 73, 74, 75, 76, 77, 78, 79, 80, 81, 82, 83, 84, 85, 86, 87, 88, 89, 90, 91, 92, 93, 94, 95, 96, 97, 98, 99, 100, 101, 102, 103, 104, 105, 106, 107, 108, 109, 110, 111, 112, 113, 114, 115, 116, 117, 118, 119, 120, 121, 122, 123, 124, 125, 126, 127, 128, 129, 130, 131, 181, 182, 183, 184, 185, 186, 187, 188, 189, 190, 191, 192, 193, 194, 195, 196, 197, 198, 199, 200, 201, 202, 203, 204, 205, 206, 207, 209, 210, 211, 212, 213, 208, 214, 215, 216] (by decide +kernel) (by decide +kernel)
set_option maxRecDepth 20000 in
theorem gX5_receive_X5_receiveHello : GoodIn wsX5_receive (wsV RX5 93 RX5 yX5_receiveHello wsX5_receiveHello) := goodIn_app (goodIn_of _ (by decide +kernel)) ggX5_receive_X5_receiveHello
set_option maxRecDepth 20000 in
theorem ggX5_receive_X5_receiveFinish : GoodIn wsX5_receive wsX5_receiveFinish := goodIn_r _ [135, 1, 3, 4, 5, 6, 7, 8, 9, 10, 11, 127, 128, 129, 43, 130, 131, 56, 62, 29, 63, 64, 40, 41, 42, 44, 45, 46, 136, 137, 138, 139, 140, 141, 142, 143, 144, 145, 146, 147, 148, 149, 181, 182, 183, 184, 185, 186, 187, 188, 189, 208, 190, 191, 192, 193, 194, 195, 196, 197, 198, 199, 200, 201, 202, 203, 204, 205, 206, 207, 217, 218, 219] (by decide +kernel) (by decide +kernel)
set_option maxRecDepth 20000 in
theorem gX5_receive_X5_receiveFinish : GoodIn wsX5_receive (wsV RX5 97 RX5 yX5_receiveFinish wsX5_receiveFinish) := goodIn_app (goodIn_of _ (by decide +kernel)) ggX5_receive_X5_receiveFinish
set_option maxRecDepth 20000 in
theorem ggX5_receive_X3_receive : GoodIn wsX5_receive wsX3_receive := goodIn_r _ [153, 45, 57, 4, 5, 6, 7, 8, 9, 10, 11, 154, 155, 156, 43, 157, 158, 140, 159, 160, 161, 162, 163, 164, 146, 165, 149, 166, 167, 168, 169, 170, 148, 62, 29, 63, 64, 171, 41, 42, 44, 46, 172, 173, 174, 175, 176, 177, 178, 179, 180, 190, 191, 192, 193, 194, 195, 196, 197, 198, 199, 200, 201, 202, 203, 204, 205, 206, 207, 208, 217, 218, 219] (by decide +kernel) (by decide +kernel)
set_option maxRecDepth 20000 in
theorem gX5_receive_X3_receive : GoodIn wsX5_receive (wsV RX5 100 RX3 yX3_receive wsX3_receive) := goodIn_app (goodIn_of _ (by decide +kernel)) ggX5_receive_X3_receive
theorem dX5_receive_0 : decode cX5_receive 0 = .ok (.aload_n 1, 1) := by decide +kernel
theorem dX5_receive_1 : decode cX5_receive 1 = .ok (.iconst 0, 1) := by decide +kernel
theorem dX5_receive_2 : decode cX5_receive 2 = .ok (.invokevirtual 86, 3) := by decide +kernel
theorem dX5_receive_5 : decode cX5_receive 5 = .ok (.istore 4, 2) := by decide +kernel
theorem dX5_receive_7 : decode cX5_receive 7 = .ok (.aload_n 0, 1) := by decide +kernel
theorem dX5_receive_8 : decode cX5_receive 8 = .ok (.getfield 14, 3) := by decide +kernel
theorem dX5_receive_11 : decode cX5_receive 11 = .ok (.getfield 90, 3) := by decide +kernel
theorem dX5_receive_14 : decode cX5_receive 14 = .ok (.ifCond .eq 14, 3) := by decide +kernel
theorem dX5_receive_17 : decode cX5_receive 17 = .ok (.aload_n 0, 1) := by decide +kernel
theorem dX5_receive_18 : decode cX5_receive 18 = .ok (.getfield 14, 3) := by decide +kernel
theorem dX5_receive_21 : decode cX5_receive 21 = .ok (.getfield 90, 3) := by decide +kernel
theorem dX5_receive_24 : decode cX5_receive 24 = .ok (.iconst 2, 1) := by decide +kernel
theorem dX5_receive_25 : decode cX5_receive 25 = .ok (.if_icmp .ne 19, 3) := by decide +kernel
theorem dX5_receive_28 : decode cX5_receive 28 = .ok (.iload 4, 2) := by decide +kernel
theorem dX5_receive_30 : decode cX5_receive 30 = .ok (.iconst 1, 1) := by decide +kernel
theorem dX5_receive_31 : decode cX5_receive 31 = .ok (.if_icmp .ne 13, 3) := by decide +kernel
theorem dX5_receive_34 : decode cX5_receive 34 = .ok (.aload_n 0, 1) := by decide +kernel
theorem dX5_receive_35 : decode cX5_receive 35 = .ok (.aload_n 1, 1) := by decide +kernel
theorem dX5_receive_36 : decode cX5_receive 36 = .ok (.iload_n 2, 1) := by decide +kernel
theorem dX5_receive_37 : decode cX5_receive 37 = .ok (.aload_n 3, 1) := by decide +kernel
theorem dX5_receive_38 : decode cX5_receive 38 = .ok (.invokevirtual 93, 3) := by decide +kernel
theorem dX5_receive_41 : decode cX5_receive 41 = .ok (.goto 36, 3) := by decide +kernel
theorem dX5_receive_44 : decode cX5_receive 44 = .ok (.aload_n 0, 1) := by decide +kernel
theorem dX5_receive_45 : decode cX5_receive 45 = .ok (.getfield 14, 3) := by decide +kernel
theorem dX5_receive_48 : decode cX5_receive 48 = .ok (.getfield 90, 3) := by decide +kernel
theorem dX5_receive_51 : decode cX5_receive 51 = .ok (.iconst 3, 1) := by decide +kernel
theorem dX5_receive_52 : decode cX5_receive 52 = .ok (.if_icmp .ne 17, 3) := by decide +kernel
theorem dX5_receive_55 : decode cX5_receive 55 = .ok (.iload 4, 2) := by decide +kernel
theorem dX5_receive_57 : decode cX5_receive 57 = .ok (.iconst 4, 1) := by decide +kernel
theorem dX5_receive_58 : decode cX5_receive 58 = .ok (.if_icmp .ne 11, 3) := by decide +kernel
theorem dX5_receive_61 : decode cX5_receive 61 = .ok (.aload_n 0, 1) := by decide +kernel
theorem dX5_receive_62 : decode cX5_receive 62 = .ok (.aload_n 1, 1) := by decide +kernel
theorem dX5_receive_63 : decode cX5_receive 63 = .ok (.invokevirtual 97, 3) := by decide +kernel
theorem dX5_receive_66 : decode cX5_receive 66 = .ok (.goto 11, 3) := by decide +kernel
theorem dX5_receive_69 : decode cX5_receive 69 = .ok (.aload_n 0, 1) := by decide +kernel
theorem dX5_receive_70 : decode cX5_receive 70 = .ok (.getfield 14, 3) := by decide +kernel
theorem dX5_receive_73 : decode cX5_receive 73 = .ok (.aload_n 1, 1) := by decide +kernel
theorem dX5_receive_74 : decode cX5_receive 74 = .ok (.invokevirtual 100, 3) := by decide +kernel
theorem dX5_receive_77 : decode cX5_receive 77 = .ok (.return_, 1) := by decide +kernel
set_option maxRecDepth 20000 in
theorem ggX5_receiveFinish_X2_at : GoodIn wsX5_receiveFinish wsX2_at := goodIn_r _ [6, 7, 8, 9, 5, 10, 51] (by decide +kernel) (by decide +kernel)
set_option maxRecDepth 20000 in
theorem gX5_receiveFinish_X2_at : GoodIn wsX5_receiveFinish (wsV RX5 86 RX2 yX2_at wsX2_at) := goodIn_app (goodIn_of _ (by decide +kernel)) ggX5_receiveFinish_X2_at
set_option maxRecDepth 20000 in
theorem ggX5_receiveFinish_X3_proof : GoodIn wsX5_receiveFinish wsX3_proof := goodIn_r _ [15, 16, 17, 18, 19, 20, 21, 52, 53, 54, 55, 56, 57, 58, 59, 60, 61, 62, 63, 64, 65, 66, 67, 68, 69] (by decide +kernel) (by decide +kernel)
set_option maxRecDepth 20000 in
theorem gX5_receiveFinish_X3_proof : GoodIn wsX5_receiveFinish (wsV RX5 103 RX3 yX3_proof wsX3_proof) := goodIn_app (goodIn_of _ (by decide +kernel)) ggX5_receiveFinish_X3_proof
set_option maxRecDepth 20000 in
theorem ggX5_receiveFinish_X3_fail : GoodIn wsX5_receiveFinish wsX3_fail := goodIn_r _ [25, 26, 27, 52, 53, 54, 55, 56, 57, 58, 59, 60, 61, 62, 63, 64, 65, 66, 67, 68, 69] (by decide +kernel) (by decide +kernel)
set_option maxRecDepth 20000 in
theorem gX5_receiveFinish_X3_fail : GoodIn wsX5_receiveFinish (wsV RX5 106 RX3 yX3_fail wsX3_fail) := goodIn_app (goodIn_of _ (by decide +kernel)) ggX5_receiveFinish_X3_fail
set_option maxRecDepth 20000 in
theorem ggX5_receiveFinish_X3_join : GoodIn wsX5_receiveFinish wsX3_join := goodIn_r _ [31, 26, 16, 17, 32, 33, 34, 18, 19, 20, 21, 35, 36, 37, 38, 39, 40, 41, 52, 53, 54, 55, 56, 57, 58, 59, 60, 61, 62, 63, 64, 65, 66, 67, 68, 69, 70, 71, 72] (by decide +kernel) (by decide +kernel)
set_option maxRecDepth 20000 in
theorem gX5_receiveFinish_X3_join : GoodIn wsX5_receiveFinish (wsV RX5 109 RX3 yX3_join wsX3_join) := goodIn_app (goodIn_of _ (by decide +kernel)) ggX5_receiveFinish_X3_join
theorem dX5_receiveFinish_0 : decode cX5_receiveFinish 0 = .ok (.aload_n 1, 1) := by decide +kernel
theorem dX5_receiveFinish_1 : decode cX5_receiveFinish 1 = .ok (.iconst 1, 1) := by decide +kernel
theorem dX5_receiveFinish_2 : decode cX5_receiveFinish 2 = .ok (.invokevirtual 86, 3) := by decide +kernel
theorem dX5_receiveFinish_5 : decode cX5_receiveFinish 5 = .ok (.aload_n 0, 1) := by decide +kernel
theorem dX5_receiveFinish_6 : decode cX5_receiveFinish 6 = .ok (.getfield 14, 3) := by decide +kernel
theorem dX5_receiveFinish_9 : decode cX5_receiveFinish 9 = .ok (.iconst 2, 1) := by decide +kernel
theorem dX5_receiveFinish_10 : decode cX5_receiveFinish 10 = .ok (.invokevirtual 103, 3) := by decide +kernel
theorem dX5_receiveFinish_13 : decode cX5_receiveFinish 13 = .ok (.if_icmp .eq 15, 3) := by decide +kernel
theorem dX5_receiveFinish_16 : decode cX5_receiveFinish 16 = .ok (.aload_n 0, 1) := by decide +kernel
theorem dX5_receiveFinish_17 : decode cX5_receiveFinish 17 = .ok (.getfield 14, 3) := by decide +kernel
theorem dX5_receiveFinish_20 : decode cX5_receiveFinish 20 = .ok (.bipush 8, 2) := by decide +kernel
theorem dX5_receiveFinish_22 : decode cX5_receiveFinish 22 = .ok (.invokevirtual 106, 3) := by decide +kernel
theorem dX5_receiveFinish_25 : decode cX5_receiveFinish 25 = .ok (.goto 10, 3) := by decide +kernel
theorem dX5_receiveFinish_28 : decode cX5_receiveFinish 28 = .ok (.aload_n 0, 1) := by decide +kernel
theorem dX5_receiveFinish_29 : decode cX5_receiveFinish 29 = .ok (.getfield 14, 3) := by decide +kernel
theorem dX5_receiveFinish_32 : decode cX5_receiveFinish 32 = .ok (.invokevirtual 109, 3) := by decide +kernel
theorem dX5_receiveFinish_35 : decode cX5_receiveFinish 35 = .ok (.return_, 1) := by decide +kernel
set_option maxRecDepth 20000 in
theorem ggX5_receiveHello_X2_at : GoodIn wsX5_receiveHello wsX2_at := goodIn_r _ [17, 18, 19, 20, 16, 21, 160] (by decide +kernel) (by decide +kernel)
set_option maxRecDepth 20000 in
theorem gX5_receiveHello_X2_at : GoodIn wsX5_receiveHello (wsV RX5 86 RX2 yX2_at wsX2_at) := goodIn_app (goodIn_of _ (by decide +kernel)) ggX5_receiveHello_X2_at
set_option maxRecDepth 20000 in
theorem ggX5_receiveHello_X8_greatestOf : GoodIn wsX5_receiveHello wsX8_greatestOf := goodIn_r _ [24] (by decide +kernel) (by decide +kernel)
set_option maxRecDepth 20000 in
theorem gX5_receiveHello_X8_greatestOf_n115 : GoodIn wsX5_receiveHello (wsX8_greatestOf) := ggX5_receiveHello_X8_greatestOf
set_option maxRecDepth 20000 in
theorem ggX5_receiveHello_X5_wrongIn : GoodIn wsX5_receiveHello wsX5_wrongIn := goodIn_r _ [29, 1, 30, 13, 14, 15, 16, 17, 18, 19, 20, 21, 31, 23, 32, 33, 34, 35, 128, 129, 130, 131, 132, 133, 134, 135, 136, 137, 138, 139, 140, 141, 142, 143, 144, 145, 146, 147, 148, 149, 150, 151, 152, 153, 154, 160] (by decide +kernel) (by decide +kernel)
set_option maxRecDepth 20000 in
theorem gX5_receiveHello_X5_wrongIn : GoodIn wsX5_receiveHello (wsV RX5 121 RX5 yX5_wrongIn wsX5_wrongIn) := goodIn_app (goodIn_of _ (by decide +kernel)) ggX5_receiveHello_X5_wrongIn
set_option maxRecDepth 20000 in
theorem ggX5_receiveHello_X3_fail : GoodIn wsX5_receiveHello wsX3_fail := goodIn_r _ [40, 41, 42, 137, 138, 139, 140, 141, 142, 143, 144, 145, 146, 147, 148, 149, 150, 151, 152, 153, 154] (by decide +kernel) (by decide +kernel)
set_option maxRecDepth 20000 in
theorem gX5_receiveHello_X3_fail : GoodIn wsX5_receiveHello (wsV RX5 106 RX3 yX3_fail wsX3_fail) := goodIn_app (goodIn_of _ (by decide +kernel)) ggX5_receiveHello_X3_fail
set_option maxRecDepth 20000 in
theorem ggX5_receiveHello_X5_sendRetry : GoodIn wsX5_receiveHello wsX5_sendRetry := goodIn_r _ [46, 1, 47, 30, 48, 49, 50, 39, 51, 52, 53, 14, 15, 16, 17, 18, 19, 20, 21, 54, 55, 56, 57, 58, 23, 59, 60, 61, 62, 63, 64, 65, 66, 67, 68, 69, 70, 71, 72, 73, 74, 75, 76, 77, 78, 79, 80, 128, 129, 130, 131, 132, 133, 134, 135, 136, 137, 138, 139, 140, 141, 142, 143, 144, 145, 146, 147, 148, 149, 150, 151, 152, 153, 154, 160, 161, 162, 163] (by decide +kernel) (by decide +kernel)
set_option maxRecDepth 20000 in
theorem gX5_receiveHello_X5_sendRetry : GoodIn wsX5_receiveHello (wsV RX5 125 RX5 yX5_sendRetry wsX5_sendRetry) := goodIn_app (goodIn_of _ (by decide +kernel)) ggX5_receiveHello_X5_sendRetry
set_option maxRecDepth 20000 in
theorem ggX5_receiveHello_X5_livingTicket : GoodIn wsX5_receiveHello wsX5_livingTicket := goodIn_r _ [84, 4, 5, 85, 86, 87, 128, 129, 130, 131, 132, 133, 134, 135, 136, 155, 156, 157, 158, 159] (by decide +kernel) (by decide +kernel)
set_option maxRecDepth 20000 in
theorem gX5_receiveHello_X5_livingTicket : GoodIn wsX5_receiveHello (wsV RX5 128 RX5 yX5_livingTicket wsX5_livingTicket) := goodIn_app (goodIn_of _ (by decide +kernel)) ggX5_receiveHello_X5_livingTicket
set_option maxRecDepth 20000 in
theorem ggX5_receiveHello_X8_binderOf : GoodIn wsX5_receiveHello wsX8_binderOf := goodIn_r _ [89, 90, 58, 23, 59, 60, 91, 55, 56, 16, 57, 18, 160] (by decide +kernel) (by decide +kernel)
set_option maxRecDepth 20000 in
theorem gX5_receiveHello_X8_binderOf_n134 : GoodIn wsX5_receiveHello (wsX8_binderOf) := ggX5_receiveHello_X8_binderOf
set_option maxRecDepth 20000 in
theorem ggX5_receiveHello_X5_takeEarly : GoodIn wsX5_receiveHello wsX5_takeEarly := goodIn_r _ [95, 96, 86, 1, 30, 85, 97, 98, 13, 14, 15, 16, 17, 18, 19, 20, 21, 99, 100, 101, 28, 102, 103, 104, 105, 106, 107, 108, 109, 155, 156, 157, 158, 159, 128, 129, 130, 131, 132, 133, 134, 135, 136, 137, 138, 139, 140, 141, 142, 143, 144, 145, 146, 147, 148, 149, 150, 151, 152, 153, 154, 160] (by decide +kernel) (by decide +kernel)
set_option maxRecDepth 20000 in
theorem gX5_receiveHello_X5_takeEarly : GoodIn wsX5_receiveHello (wsV RX5 138 RX5 yX5_takeEarly wsX5_takeEarly) := goodIn_app (goodIn_of _ (by decide +kernel)) ggX5_receiveHello_X5_takeEarly
set_option maxRecDepth 20000 in
theorem ggX5_receiveHello_X3_takeIn : GoodIn wsX5_receiveHello wsX3_takeIn := goodIn_r _ [51, 52, 53, 14, 15, 16, 17, 18, 19, 20, 21, 54, 55, 56, 57, 58, 23, 59, 60, 137, 138, 139, 140, 141, 142, 143, 144, 145, 146, 147, 148, 149, 150, 151, 152, 153, 154, 160] (by decide +kernel) (by decide +kernel)
set_option maxRecDepth 20000 in
theorem gX5_receiveHello_X3_takeIn : GoodIn wsX5_receiveHello (wsV RX5 142 RX3 yX3_takeIn wsX3_takeIn) := goodIn_app (goodIn_of _ (by decide +kernel)) ggX5_receiveHello_X3_takeIn
set_option maxRecDepth 20000 in
theorem ggX5_receiveHello_X8_keyOf : GoodIn wsX5_receiveHello wsX8_keyOf := goodIn_r _ [111, 33, 34, 23, 35, 112, 113, 114, 90, 58, 59, 60] (by decide +kernel) (by decide +kernel)
set_option maxRecDepth 20000 in
theorem gX5_receiveHello_X8_keyOf_n158 : GoodIn wsX5_receiveHello (wsX8_keyOf) := ggX5_receiveHello_X8_keyOf
set_option maxRecDepth 20000 in
theorem ggX5_receiveHello_X5_sendGreeting : GoodIn wsX5_receiveHello wsX5_sendGreeting := goodIn_r _ [118, 1, 47, 8, 9, 11, 2, 10, 30, 61, 62, 63, 16, 64, 18, 65, 66, 67, 68, 19, 20, 21, 119, 23, 120, 33, 34, 35, 112, 113, 114, 121, 122, 48, 49, 50, 39, 51, 52, 53, 14, 15, 17, 54, 55, 56, 57, 58, 59, 60, 123, 124, 125, 126, 127, 69, 70, 71, 72, 73, 74, 75, 76, 77, 78, 79, 80, 128, 129, 130, 131, 132, 133, 134, 135, 136, 137, 138, 139, 140, 141, 142, 143, 144, 145, 146, 147, 148, 149, 150, 151, 152, 153, 154, 160, 161, 162, 163] (by decide +kernel) (by decide +kernel)
set_option maxRecDepth 20000 in
theorem gX5_receiveHello_X5_sendGreeting : GoodIn wsX5_receiveHello (wsV RX5 165 RX5 yX5_sendGreeting wsX5_sendGreeting) := goodIn_app (goodIn_of _ (by decide +kernel)) ggX5_receiveHello_X5_sendGreeting
theorem dX5_receiveHello_0 : decode cX5_receiveHello 0 = .ok (.iconst 1, 1) := by decide +kernel
theorem dX5_receiveHello_1 : decode cX5_receiveHello 1 = .ok (.aload_n 1, 1) := by decide +kernel
theorem dX5_receiveHello_2 : decode cX5_receiveHello 2 = .ok (.iconst 1, 1) := by decide +kernel
theorem dX5_receiveHello_3 : decode cX5_receiveHello 3 = .ok (.invokevirtual 86, 3) := by decide +kernel
theorem dX5_receiveHello_6 : decode cX5_receiveHello 6 = .ok (.aload_n 0, 1) := by decide +kernel
theorem dX5_receiveHello_7 : decode cX5_receiveHello 7 = .ok (.getfield 14, 3) := by decide +kernel
theorem dX5_receiveHello_10 : decode cX5_receiveHello 10 = .ok (.getfield 112, 3) := by decide +kernel
theorem dX5_receiveHello_13 : decode cX5_receiveHello 13 = .ok (.iand, 1) := by decide +kernel
theorem dX5_receiveHello_14 : decode cX5_receiveHello 14 = .ok (.invokestatic 115, 3) := by decide +kernel
theorem dX5_receiveHello_17 : decode cX5_receiveHello 17 = .ok (.iadd, 1) := by decide +kernel
theorem dX5_receiveHello_18 : decode cX5_receiveHello 18 = .ok (.istore 4, 2) := by decide +kernel
theorem dX5_receiveHello_20 : decode cX5_receiveHello 20 = .ok (.aload_n 1, 1) := by decide +kernel
theorem dX5_receiveHello_21 : decode cX5_receiveHello 21 = .ok (.iconst 2, 1) := by decide +kernel
theorem dX5_receiveHello_22 : decode cX5_receiveHello 22 = .ok (.invokevirtual 86, 3) := by decide +kernel
theorem dX5_receiveHello_25 : decode cX5_receiveHello 25 = .ok (.aload_n 0, 1) := by decide +kernel
theorem dX5_receiveHello_26 : decode cX5_receiveHello 26 = .ok (.getfield 14, 3) := by decide +kernel
theorem dX5_receiveHello_29 : decode cX5_receiveHello 29 = .ok (.getfield 118, 3) := by decide +kernel
theorem dX5_receiveHello_32 : decode cX5_receiveHello 32 = .ok (.iand, 1) := by decide +kernel
theorem dX5_receiveHello_33 : decode cX5_receiveHello 33 = .ok (.invokestatic 115, 3) := by decide +kernel
theorem dX5_receiveHello_36 : decode cX5_receiveHello 36 = .ok (.istore 5, 2) := by decide +kernel
theorem dX5_receiveHello_38 : decode cX5_receiveHello 38 = .ok (.aload_n 0, 1) := by decide +kernel
theorem dX5_receiveHello_39 : decode cX5_receiveHello 39 = .ok (.aload_n 1, 1) := by decide +kernel
theorem dX5_receiveHello_40 : decode cX5_receiveHello 40 = .ok (.iload 4, 2) := by decide +kernel
theorem dX5_receiveHello_42 : decode cX5_receiveHello 42 = .ok (.iload 5, 2) := by decide +kernel
theorem dX5_receiveHello_44 : decode cX5_receiveHello 44 = .ok (.invokevirtual 121, 3) := by decide +kernel
theorem dX5_receiveHello_47 : decode cX5_receiveHello 47 = .ok (.istore 6, 2) := by decide +kernel
theorem dX5_receiveHello_49 : decode cX5_receiveHello 49 = .ok (.iload 6, 2) := by decide +kernel
theorem dX5_receiveHello_51 : decode cX5_receiveHello 51 = .ok (.ifCond .eq 13, 3) := by decide +kernel
theorem dX5_receiveHello_54 : decode cX5_receiveHello 54 = .ok (.aload_n 0, 1) := by decide +kernel
theorem dX5_receiveHello_55 : decode cX5_receiveHello 55 = .ok (.getfield 14, 3) := by decide +kernel
theorem dX5_receiveHello_58 : decode cX5_receiveHello 58 = .ok (.iload 6, 2) := by decide +kernel
theorem dX5_receiveHello_60 : decode cX5_receiveHello 60 = .ok (.invokevirtual 106, 3) := by decide +kernel
theorem dX5_receiveHello_63 : decode cX5_receiveHello 63 = .ok (.return_, 1) := by decide +kernel
theorem dX5_receiveHello_64 : decode cX5_receiveHello 64 = .ok (.aload_n 1, 1) := by decide +kernel
theorem dX5_receiveHello_65 : decode cX5_receiveHello 65 = .ok (.iconst 3, 1) := by decide +kernel
theorem dX5_receiveHello_66 : decode cX5_receiveHello 66 = .ok (.invokevirtual 86, 3) := by decide +kernel
theorem dX5_receiveHello_69 : decode cX5_receiveHello 69 = .ok (.iload 5, 2) := by decide +kernel
theorem dX5_receiveHello_71 : decode cX5_receiveHello 71 = .ok (.if_icmp .eq 12, 3) := by decide +kernel
theorem dX5_receiveHello_74 : decode cX5_receiveHello 74 = .ok (.aload_n 0, 1) := by decide +kernel
theorem dX5_receiveHello_75 : decode cX5_receiveHello 75 = .ok (.aload_n 1, 1) := by decide +kernel
theorem dX5_receiveHello_76 : decode cX5_receiveHello 76 = .ok (.iload 5, 2) := by decide +kernel
theorem dX5_receiveHello_78 : decode cX5_receiveHello 78 = .ok (.aload_n 3, 1) := by decide +kernel
theorem dX5_receiveHello_79 : decode cX5_receiveHello 79 = .ok (.invokevirtual 125, 3) := by decide +kernel
theorem dX5_receiveHello_82 : decode cX5_receiveHello 82 = .ok (.return_, 1) := by decide +kernel
theorem dX5_receiveHello_83 : decode cX5_receiveHello 83 = .ok (.iload 4, 2) := by decide +kernel
theorem dX5_receiveHello_85 : decode cX5_receiveHello 85 = .ok (.iconst 3, 1) := by decide +kernel
theorem dX5_receiveHello_86 : decode cX5_receiveHello 86 = .ok (.if_icmp .ne 16, 3) := by decide +kernel
theorem dX5_receiveHello_89 : decode cX5_receiveHello 89 = .ok (.aload_n 0, 1) := by decide +kernel
theorem dX5_receiveHello_90 : decode cX5_receiveHello 90 = .ok (.aload_n 1, 1) := by decide +kernel
theorem dX5_receiveHello_91 : decode cX5_receiveHello 91 = .ok (.iconst 5, 1) := by decide +kernel
theorem dX5_receiveHello_92 : decode cX5_receiveHello 92 = .ok (.invokevirtual 86, 3) := by decide +kernel
theorem dX5_receiveHello_95 : decode cX5_receiveHello 95 = .ok (.iload_n 2, 1) := by decide +kernel
theorem dX5_receiveHello_96 : decode cX5_receiveHello 96 = .ok (.invokevirtual 128, 3) := by decide +kernel
theorem dX5_receiveHello_99 : decode cX5_receiveHello 99 = .ok (.goto 4, 3) := by decide +kernel
theorem dX5_receiveHello_102 : decode cX5_receiveHello 102 = .ok (.iconst (-1), 1) := by decide +kernel
theorem dX5_receiveHello_103 : decode cX5_receiveHello 103 = .ok (.istore 7, 2) := by decide +kernel
theorem dX5_receiveHello_105 : decode cX5_receiveHello 105 = .ok (.iload 7, 2) := by decide +kernel
theorem dX5_receiveHello_107 : decode cX5_receiveHello 107 = .ok (.ifCond .lt 16, 3) := by decide +kernel
theorem dX5_receiveHello_110 : decode cX5_receiveHello 110 = .ok (.iload 7, 2) := by decide +kernel
theorem dX5_receiveHello_112 : decode cX5_receiveHello 112 = .ok (.aload_n 0, 1) := by decide +kernel
theorem dX5_receiveHello_113 : decode cX5_receiveHello 113 = .ok (.getfield 83, 3) := by decide +kernel
theorem dX5_receiveHello_116 : decode cX5_receiveHello 116 = .ok (.if_icmp .ge 7, 3) := by decide +kernel
theorem dX5_receiveHello_119 : decode cX5_receiveHello 119 = .ok (.iconst 1, 1) := by decide +kernel
theorem dX5_receiveHello_120 : decode cX5_receiveHello 120 = .ok (.goto 4, 3) := by decide +kernel
theorem dX5_receiveHello_123 : decode cX5_receiveHello 123 = .ok (.iconst 0, 1) := by decide +kernel
theorem dX5_receiveHello_124 : decode cX5_receiveHello 124 = .ok (.istore 8, 2) := by decide +kernel
theorem dX5_receiveHello_126 : decode cX5_receiveHello 126 = .ok (.iload 8, 2) := by decide +kernel
theorem dX5_receiveHello_128 : decode cX5_receiveHello 128 = .ok (.ifCond .eq 16, 3) := by decide +kernel
theorem dX5_receiveHello_131 : decode cX5_receiveHello 131 = .ok (.aload_n 0, 1) := by decide +kernel
theorem dX5_receiveHello_132 : decode cX5_receiveHello 132 = .ok (.getfield 22, 3) := by decide +kernel
theorem dX5_receiveHello_135 : decode cX5_receiveHello 135 = .ok (.iload 7, 2) := by decide +kernel
theorem dX5_receiveHello_137 : decode cX5_receiveHello 137 = .ok (.aaload, 1) := by decide +kernel
theorem dX5_receiveHello_138 : decode cX5_receiveHello 138 = .ok (.getfield 58, 3) := by decide +kernel
theorem dX5_receiveHello_141 : decode cX5_receiveHello 141 = .ok (.goto 4, 3) := by decide +kernel
theorem dX5_receiveHello_144 : decode cX5_receiveHello 144 = .ok (.iconst 0, 1) := by decide +kernel
theorem dX5_receiveHello_145 : decode cX5_receiveHello 145 = .ok (.istore 9, 2) := by decide +kernel
theorem dX5_receiveHello_147 : decode cX5_receiveHello 147 = .ok (.iload 8, 2) := by decide +kernel
theorem dX5_receiveHello_149 : decode cX5_receiveHello 149 = .ok (.ifCond .eq 35, 3) := by decide +kernel
theorem dX5_receiveHello_152 : decode cX5_receiveHello 152 = .ok (.aload_n 1, 1) := by decide +kernel
theorem dX5_receiveHello_153 : decode cX5_receiveHello 153 = .ok (.bipush 7, 2) := by decide +kernel
theorem dX5_receiveHello_155 : decode cX5_receiveHello 155 = .ok (.invokevirtual 86, 3) := by decide +kernel
theorem dX5_receiveHello_158 : decode cX5_receiveHello 158 = .ok (.iload 9, 2) := by decide +kernel
theorem dX5_receiveHello_160 : decode cX5_receiveHello 160 = .ok (.aload_n 0, 1) := by decide +kernel
theorem dX5_receiveHello_161 : decode cX5_receiveHello 161 = .ok (.getfield 14, 3) := by decide +kernel
theorem dX5_receiveHello_164 : decode cX5_receiveHello 164 = .ok (.getfield 131, 3) := by decide +kernel
theorem dX5_receiveHello_167 : decode cX5_receiveHello 167 = .ok (.aload_n 1, 1) := by decide +kernel
theorem dX5_receiveHello_168 : decode cX5_receiveHello 168 = .ok (.invokestatic 134, 3) := by decide +kernel
theorem dX5_receiveHello_171 : decode cX5_receiveHello 171 = .ok (.if_icmp .eq 13, 3) := by decide +kernel
theorem dX5_receiveHello_174 : decode cX5_receiveHello 174 = .ok (.aload_n 0, 1) := by decide +kernel
theorem dX5_receiveHello_175 : decode cX5_receiveHello 175 = .ok (.getfield 14, 3) := by decide +kernel
theorem dX5_receiveHello_178 : decode cX5_receiveHello 178 = .ok (.bipush 6, 2) := by decide +kernel
theorem dX5_receiveHello_180 : decode cX5_receiveHello 180 = .ok (.invokevirtual 106, 3) := by decide +kernel
theorem dX5_receiveHello_183 : decode cX5_receiveHello 183 = .ok (.return_, 1) := by decide +kernel
theorem dX5_receiveHello_184 : decode cX5_receiveHello 184 = .ok (.iload 8, 2) := by decide +kernel
theorem dX5_receiveHello_186 : decode cX5_receiveHello 186 = .ok (.ifCond .eq 23, 3) := by decide +kernel
theorem dX5_receiveHello_189 : decode cX5_receiveHello 189 = .ok (.aload_n 0, 1) := by decide +kernel
theorem dX5_receiveHello_190 : decode cX5_receiveHello 190 = .ok (.aload_n 1, 1) := by decide +kernel
theorem dX5_receiveHello_191 : decode cX5_receiveHello 191 = .ok (.aload_n 0, 1) := by decide +kernel
theorem dX5_receiveHello_192 : decode cX5_receiveHello 192 = .ok (.getfield 22, 3) := by decide +kernel
theorem dX5_receiveHello_195 : decode cX5_receiveHello 195 = .ok (.iload 7, 2) := by decide +kernel
theorem dX5_receiveHello_197 : decode cX5_receiveHello 197 = .ok (.aaload, 1) := by decide +kernel
theorem dX5_receiveHello_198 : decode cX5_receiveHello 198 = .ok (.iload_n 2, 1) := by decide +kernel
theorem dX5_receiveHello_199 : decode cX5_receiveHello 199 = .ok (.invokevirtual 138, 3) := by decide +kernel
theorem dX5_receiveHello_202 : decode cX5_receiveHello 202 = .ok (.ifCond .eq 7, 3) := by decide +kernel
theorem dX5_receiveHello_205 : decode cX5_receiveHello 205 = .ok (.iconst 1, 1) := by decide +kernel
theorem dX5_receiveHello_206 : decode cX5_receiveHello 206 = .ok (.goto 4, 3) := by decide +kernel
theorem dX5_receiveHello_209 : decode cX5_receiveHello 209 = .ok (.iconst 0, 1) := by decide +kernel
theorem dX5_receiveHello_210 : decode cX5_receiveHello 210 = .ok (.istore 10, 2) := by decide +kernel
theorem dX5_receiveHello_212 : decode cX5_receiveHello 212 = .ok (.aload_n 0, 1) := by decide +kernel
theorem dX5_receiveHello_213 : decode cX5_receiveHello 213 = .ok (.getfield 14, 3) := by decide +kernel
theorem dX5_receiveHello_216 : decode cX5_receiveHello 216 = .ok (.aload_n 1, 1) := by decide +kernel
theorem dX5_receiveHello_217 : decode cX5_receiveHello 217 = .ok (.invokevirtual 142, 3) := by decide +kernel
theorem dX5_receiveHello_220 : decode cX5_receiveHello 220 = .ok (.aload_n 0, 1) := by decide +kernel
theorem dX5_receiveHello_221 : decode cX5_receiveHello 221 = .ok (.getfield 14, 3) := by decide +kernel
theorem dX5_receiveHello_224 : decode cX5_receiveHello 224 = .ok (.iload 4, 2) := by decide +kernel
theorem dX5_receiveHello_226 : decode cX5_receiveHello 226 = .ok (.putfield 145, 3) := by decide +kernel
theorem dX5_receiveHello_229 : decode cX5_receiveHello 229 = .ok (.aload_n 0, 1) := by decide +kernel
theorem dX5_receiveHello_230 : decode cX5_receiveHello 230 = .ok (.getfield 14, 3) := by decide +kernel
theorem dX5_receiveHello_233 : decode cX5_receiveHello 233 = .ok (.iload 5, 2) := by decide +kernel
theorem dX5_receiveHello_235 : decode cX5_receiveHello 235 = .ok (.putfield 148, 3) := by decide +kernel
theorem dX5_receiveHello_238 : decode cX5_receiveHello 238 = .ok (.aload_n 0, 1) := by decide +kernel
theorem dX5_receiveHello_239 : decode cX5_receiveHello 239 = .ok (.getfield 14, 3) := by decide +kernel
theorem dX5_receiveHello_242 : decode cX5_receiveHello 242 = .ok (.iload 8, 2) := by decide +kernel
theorem dX5_receiveHello_244 : decode cX5_receiveHello 244 = .ok (.putfield 151, 3) := by decide +kernel
theorem dX5_receiveHello_247 : decode cX5_receiveHello 247 = .ok (.aload_n 0, 1) := by decide +kernel
theorem dX5_receiveHello_248 : decode cX5_receiveHello 248 = .ok (.getfield 14, 3) := by decide +kernel
theorem dX5_receiveHello_251 : decode cX5_receiveHello 251 = .ok (.aload_n 1, 1) := by decide +kernel
theorem dX5_receiveHello_252 : decode cX5_receiveHello 252 = .ok (.iconst 4, 1) := by decide +kernel
theorem dX5_receiveHello_253 : decode cX5_receiveHello 253 = .ok (.invokevirtual 86, 3) := by decide +kernel
theorem dX5_receiveHello_256 : decode cX5_receiveHello 256 = .ok (.aload_n 0, 1) := by decide +kernel
theorem dX5_receiveHello_257 : decode cX5_receiveHello 257 = .ok (.getfield 14, 3) := by decide +kernel
theorem dX5_receiveHello_260 : decode cX5_receiveHello 260 = .ok (.getfield 155, 3) := by decide +kernel
theorem dX5_receiveHello_263 : decode cX5_receiveHello 263 = .ok (.iload 5, 2) := by decide +kernel
theorem dX5_receiveHello_265 : decode cX5_receiveHello 265 = .ok (.iload 9, 2) := by decide +kernel
theorem dX5_receiveHello_267 : decode cX5_receiveHello 267 = .ok (.invokestatic 158, 3) := by decide +kernel
theorem dX5_receiveHello_270 : decode cX5_receiveHello 270 = .ok (.putfield 162, 3) := by decide +kernel
theorem dX5_receiveHello_273 : decode cX5_receiveHello 273 = .ok (.aload_n 0, 1) := by decide +kernel
theorem dX5_receiveHello_274 : decode cX5_receiveHello 274 = .ok (.iload 10, 2) := by decide +kernel
theorem dX5_receiveHello_276 : decode cX5_receiveHello 276 = .ok (.aload_n 3, 1) := by decide +kernel
theorem dX5_receiveHello_277 : decode cX5_receiveHello 277 = .ok (.invokevirtual 165, 3) := by decide +kernel
theorem dX5_receiveHello_280 : decode cX5_receiveHello 280 = .ok (.return_, 1) := by decide +kernel
set_option maxRecDepth 20000 in
theorem ggX5_wrongIn_X2_at : GoodIn wsX5_wrongIn wsX2_at := goodIn_r _ [7, 8, 9, 10, 6, 11, 45] (by decide +kernel) (by decide +kernel)
set_option maxRecDepth 20000 in
theorem gX5_wrongIn_X2_at : GoodIn wsX5_wrongIn (wsV RX5 86 RX2 yX2_at wsX2_at) := goodIn_app (goodIn_of _ (by decide +kernel)) ggX5_wrongIn_X2_at
set_option maxRecDepth 20000 in
theorem ggX5_wrongIn_X8_isShare : GoodIn wsX5_wrongIn wsX8_isShare := goodIn_r _ [14, 15, 16, 13, 17] (by decide +kernel) (by decide +kernel)
set_option maxRecDepth 20000 in
theorem gX5_wrongIn_X8_isShare_n169 : GoodIn wsX5_wrongIn (wsX8_isShare) := ggX5_wrongIn_X8_isShare
theorem dX5_wrongIn_0 : decode cX5_wrongIn 0 = .ok (.iload_n 2, 1) := by decide +kernel
theorem dX5_wrongIn_1 : decode cX5_wrongIn 1 = .ok (.iconst 1, 1) := by decide +kernel
theorem dX5_wrongIn_2 : decode cX5_wrongIn 2 = .ok (.if_icmp .ge 5, 3) := by decide +kernel
theorem dX5_wrongIn_5 : decode cX5_wrongIn 5 = .ok (.iconst 2, 1) := by decide +kernel
theorem dX5_wrongIn_6 : decode cX5_wrongIn 6 = .ok (.ireturn, 1) := by decide +kernel
theorem dX5_wrongIn_7 : decode cX5_wrongIn 7 = .ok (.iload_n 3, 1) := by decide +kernel
theorem dX5_wrongIn_8 : decode cX5_wrongIn 8 = .ok (.iconst (-1), 1) := by decide +kernel
theorem dX5_wrongIn_9 : decode cX5_wrongIn 9 = .ok (.if_icmp .ne 5, 3) := by decide +kernel
theorem dX5_wrongIn_12 : decode cX5_wrongIn 12 = .ok (.iconst 3, 1) := by decide +kernel
theorem dX5_wrongIn_13 : decode cX5_wrongIn 13 = .ok (.ireturn, 1) := by decide +kernel
theorem dX5_wrongIn_14 : decode cX5_wrongIn 14 = .ok (.aload_n 1, 1) := by decide +kernel
theorem dX5_wrongIn_15 : decode cX5_wrongIn 15 = .ok (.iconst 3, 1) := by decide +kernel
theorem dX5_wrongIn_16 : decode cX5_wrongIn 16 = .ok (.invokevirtual 86, 3) := by decide +kernel
theorem dX5_wrongIn_19 : decode cX5_wrongIn 19 = .ok (.iload_n 3, 1) := by decide +kernel
theorem dX5_wrongIn_20 : decode cX5_wrongIn 20 = .ok (.if_icmp .eq 19, 3) := by decide +kernel
theorem dX5_wrongIn_23 : decode cX5_wrongIn 23 = .ok (.aload_n 0, 1) := by decide +kernel
theorem dX5_wrongIn_24 : decode cX5_wrongIn 24 = .ok (.getfield 14, 3) := by decide +kernel
theorem dX5_wrongIn_27 : decode cX5_wrongIn 27 = .ok (.getfield 90, 3) := by decide +kernel
theorem dX5_wrongIn_30 : decode cX5_wrongIn 30 = .ok (.ifCond .ne 7, 3) := by decide +kernel
theorem dX5_wrongIn_33 : decode cX5_wrongIn 33 = .ok (.iconst 0, 1) := by decide +kernel
theorem dX5_wrongIn_34 : decode cX5_wrongIn 34 = .ok (.goto 4, 3) := by decide +kernel
theorem dX5_wrongIn_37 : decode cX5_wrongIn 37 = .ok (.iconst 4, 1) := by decide +kernel
theorem dX5_wrongIn_38 : decode cX5_wrongIn 38 = .ok (.ireturn, 1) := by decide +kernel
theorem dX5_wrongIn_39 : decode cX5_wrongIn 39 = .ok (.aload_n 1, 1) := by decide +kernel
theorem dX5_wrongIn_40 : decode cX5_wrongIn 40 = .ok (.iconst 4, 1) := by decide +kernel
theorem dX5_wrongIn_41 : decode cX5_wrongIn 41 = .ok (.invokevirtual 86, 3) := by decide +kernel
theorem dX5_wrongIn_44 : decode cX5_wrongIn 44 = .ok (.iload_n 3, 1) := by decide +kernel
theorem dX5_wrongIn_45 : decode cX5_wrongIn 45 = .ok (.invokestatic 169, 3) := by decide +kernel
theorem dX5_wrongIn_48 : decode cX5_wrongIn 48 = .ok (.ifCond .eq 7, 3) := by decide +kernel
theorem dX5_wrongIn_51 : decode cX5_wrongIn 51 = .ok (.iconst 0, 1) := by decide +kernel
theorem dX5_wrongIn_52 : decode cX5_wrongIn 52 = .ok (.goto 4, 3) := by decide +kernel
theorem dX5_wrongIn_55 : decode cX5_wrongIn 55 = .ok (.iconst 5, 1) := by decide +kernel
theorem dX5_wrongIn_56 : decode cX5_wrongIn 56 = .ok (.ireturn, 1) := by decide +kernel
set_option maxRecDepth 20000 in
theorem ggX5_sendRetry_X3_takeIn : GoodIn wsX5_sendRetry wsX3_takeIn := goodIn_r _ [8, 9, 10, 11, 12, 13, 14, 15, 16, 17, 18, 19, 20, 21, 22, 23, 24, 25, 26, 56, 57, 58, 59, 60, 61, 62, 63, 64, 65, 66, 67, 68, 69, 70, 71, 72, 73, 74] (by decide +kernel) (by decide +kernel)
set_option maxRecDepth 20000 in
theorem gX5_sendRetry_X3_takeIn : GoodIn wsX5_sendRetry (wsV RX5 142 RX3 yX3_takeIn wsX3_takeIn) := goodIn_app (goodIn_of _ (by decide +kernel)) ggX5_sendRetry_X3_takeIn
set_option maxRecDepth 20000 in
theorem ggX5_sendRetry_X2_begin : GoodIn wsX5_sendRetry wsX2_begin := goodIn_r _ [30, 15, 74] (by decide +kernel) (by decide +kernel)
set_option maxRecDepth 20000 in
theorem gX5_sendRetry_X2_begin : GoodIn wsX5_sendRetry (wsV RX5 70 RX2 yX2_begin wsX2_begin) := goodIn_app (goodIn_of _ (by decide +kernel)) ggX5_sendRetry_X2_begin
set_option maxRecDepth 20000 in
theorem ggX5_sendRetry_X2_put : GoodIn wsX5_sendRetry wsX2_put := goodIn_r _ [34, 15, 16, 17, 13, 18, 74] (by decide +kernel) (by decide +kernel)
set_option maxRecDepth 20000 in
theorem gX5_sendRetry_X2_put : GoodIn wsX5_sendRetry (wsV RX5 74 RX2 yX2_put wsX2_put) := goodIn_app (goodIn_of _ (by decide +kernel)) ggX5_sendRetry_X2_put
set_option maxRecDepth 20000 in
theorem ggX5_sendRetry_X4_send : GoodIn wsX5_sendRetry wsX4_send := goodIn_r _ [39, 40, 41, 42, 43, 44, 45, 13, 46, 15, 75, 76, 77, 74] (by decide +kernel) (by decide +kernel)
set_option maxRecDepth 20000 in
theorem gX5_sendRetry_X4_send : GoodIn wsX5_sendRetry (wsV RX5 77 RX4 yX4_send wsX4_send) := goodIn_app (goodIn_of _ (by decide +kernel)) ggX5_sendRetry_X4_send
theorem dX5_sendRetry_0 : decode cX5_sendRetry 0 = .ok (.aload_n 0, 1) := by decide +kernel
theorem dX5_sendRetry_1 : decode cX5_sendRetry 1 = .ok (.getfield 14, 3) := by decide +kernel
theorem dX5_sendRetry_4 : decode cX5_sendRetry 4 = .ok (.aload_n 1, 1) := by decide +kernel
theorem dX5_sendRetry_5 : decode cX5_sendRetry 5 = .ok (.invokevirtual 142, 3) := by decide +kernel
theorem dX5_sendRetry_8 : decode cX5_sendRetry 8 = .ok (.aload_n 0, 1) := by decide +kernel
theorem dX5_sendRetry_9 : decode cX5_sendRetry 9 = .ok (.getfield 14, 3) := by decide +kernel
theorem dX5_sendRetry_12 : decode cX5_sendRetry 12 = .ok (.getfield 64, 3) := by decide +kernel
theorem dX5_sendRetry_15 : decode cX5_sendRetry 15 = .ok (.iconst 2, 1) := by decide +kernel
theorem dX5_sendRetry_16 : decode cX5_sendRetry 16 = .ok (.invokevirtual 70, 3) := by decide +kernel
theorem dX5_sendRetry_19 : decode cX5_sendRetry 19 = .ok (.aload_n 0, 1) := by decide +kernel
theorem dX5_sendRetry_20 : decode cX5_sendRetry 20 = .ok (.getfield 14, 3) := by decide +kernel
theorem dX5_sendRetry_23 : decode cX5_sendRetry 23 = .ok (.getfield 64, 3) := by decide +kernel
theorem dX5_sendRetry_26 : decode cX5_sendRetry 26 = .ok (.iconst 1, 1) := by decide +kernel
theorem dX5_sendRetry_27 : decode cX5_sendRetry 27 = .ok (.iload_n 2, 1) := by decide +kernel
theorem dX5_sendRetry_28 : decode cX5_sendRetry 28 = .ok (.invokevirtual 74, 3) := by decide +kernel
theorem dX5_sendRetry_31 : decode cX5_sendRetry 31 = .ok (.aload_n 3, 1) := by decide +kernel
theorem dX5_sendRetry_32 : decode cX5_sendRetry 32 = .ok (.aload_n 0, 1) := by decide +kernel
theorem dX5_sendRetry_33 : decode cX5_sendRetry 33 = .ok (.getfield 14, 3) := by decide +kernel
theorem dX5_sendRetry_36 : decode cX5_sendRetry 36 = .ok (.getfield 64, 3) := by decide +kernel
theorem dX5_sendRetry_39 : decode cX5_sendRetry 39 = .ok (.invokevirtual 77, 3) := by decide +kernel
theorem dX5_sendRetry_42 : decode cX5_sendRetry 42 = .ok (.aload_n 0, 1) := by decide +kernel
theorem dX5_sendRetry_43 : decode cX5_sendRetry 43 = .ok (.getfield 14, 3) := by decide +kernel
theorem dX5_sendRetry_46 : decode cX5_sendRetry 46 = .ok (.aload_n 0, 1) := by decide +kernel
theorem dX5_sendRetry_47 : decode cX5_sendRetry 47 = .ok (.getfield 14, 3) := by decide +kernel
theorem dX5_sendRetry_50 : decode cX5_sendRetry 50 = .ok (.getfield 64, 3) := by decide +kernel
theorem dX5_sendRetry_53 : decode cX5_sendRetry 53 = .ok (.invokevirtual 142, 3) := by decide +kernel
theorem dX5_sendRetry_56 : decode cX5_sendRetry 56 = .ok (.aload_n 0, 1) := by decide +kernel
theorem dX5_sendRetry_57 : decode cX5_sendRetry 57 = .ok (.getfield 14, 3) := by decide +kernel
theorem dX5_sendRetry_60 : decode cX5_sendRetry 60 = .ok (.iconst 2, 1) := by decide +kernel
theorem dX5_sendRetry_61 : decode cX5_sendRetry 61 = .ok (.putfield 90, 3) := by decide +kernel
theorem dX5_sendRetry_64 : decode cX5_sendRetry 64 = .ok (.return_, 1) := by decide +kernel
set_option maxRecDepth 20000 in
theorem ggX5_sendGreeting_X2_begin : GoodIn wsX5_sendGreeting wsX2_begin := goodIn_r _ [13, 14, 94] (by decide +kernel) (by decide +kernel)
set_option maxRecDepth 20000 in
theorem gX5_sendGreeting_X2_begin : GoodIn wsX5_sendGreeting (wsV RX5 70 RX2 yX2_begin wsX2_begin) := goodIn_app (goodIn_of _ (by decide +kernel)) ggX5_sendGreeting_X2_begin
set_option maxRecDepth 20000 in
theorem ggX5_sendGreeting_X2_put : GoodIn wsX5_sendGreeting wsX2_put := goodIn_r _ [18, 14, 19, 20, 12, 21, 94] (by decide +kernel) (by decide +kernel)
set_option maxRecDepth 20000 in
theorem gX5_sendGreeting_X2_put : GoodIn wsX5_sendGreeting (wsV RX5 74 RX2 yX2_put wsX2_put) := goodIn_app (goodIn_of _ (by decide +kernel)) ggX5_sendGreeting_X2_put
set_option maxRecDepth 20000 in
theorem ggX5_sendGreeting_X8_shareOf : GoodIn wsX5_sendGreeting wsX8_shareOf := goodIn_r _ [24, 25, 26, 23, 27, 28, 29, 30] (by decide +kernel) (by decide +kernel)
set_option maxRecDepth 20000 in
theorem gX5_sendGreeting_X8_shareOf_n173 : GoodIn wsX5_sendGreeting (wsX8_shareOf) := ggX5_sendGreeting_X8_shareOf
set_option maxRecDepth 20000 in
theorem ggX5_sendGreeting_X8_hasVersionAbove : GoodIn wsX5_sendGreeting wsX8_hasVersionAbove := goodIn_r _ [32] (by decide +kernel) (by decide +kernel)
set_option maxRecDepth 20000 in
theorem gX5_sendGreeting_X8_hasVersionAbove_n176 : GoodIn wsX5_sendGreeting (wsX8_hasVersionAbove) := ggX5_sendGreeting_X8_hasVersionAbove
set_option maxRecDepth 20000 in
theorem ggX5_sendGreeting_X3_takeIn : GoodIn wsX5_sendGreeting wsX3_takeIn := goodIn_r _ [37, 38, 39, 40, 41, 12, 42, 14, 19, 20, 21, 43, 44, 45, 46, 47, 23, 48, 49, 76, 77, 78, 79, 80, 81, 82, 83, 84, 85, 86, 87, 88, 89, 90, 91, 92, 93, 94] (by decide +kernel) (by decide +kernel)
set_option maxRecDepth 20000 in
theorem gX5_sendGreeting_X3_takeIn : GoodIn wsX5_sendGreeting (wsV RX5 142 RX3 yX3_takeIn wsX3_takeIn) := goodIn_app (goodIn_of _ (by decide +kernel)) ggX5_sendGreeting_X3_takeIn
set_option maxRecDepth 20000 in
theorem ggX5_sendGreeting_X3_proof : GoodIn wsX5_sendGreeting wsX3_proof := goodIn_r _ [53, 54, 38, 47, 23, 48, 49, 76, 77, 78, 79, 80, 81, 82, 83, 84, 85, 86, 87, 88, 89, 90, 91, 92, 93] (by decide +kernel) (by decide +kernel)
set_option maxRecDepth 20000 in
theorem gX5_sendGreeting_X3_proof : GoodIn wsX5_sendGreeting (wsV RX5 103 RX3 yX3_proof wsX3_proof) := goodIn_app (goodIn_of _ (by decide +kernel)) ggX5_sendGreeting_X3_proof
set_option maxRecDepth 20000 in
theorem ggX5_sendGreeting_X4_send : GoodIn wsX5_sendGreeting wsX4_send := goodIn_r _ [59, 60, 61, 62, 63, 64, 65, 12, 66, 14, 95, 96, 97, 94] (by decide +kernel) (by decide +kernel)
set_option maxRecDepth 20000 in
theorem gX5_sendGreeting_X4_send : GoodIn wsX5_sendGreeting (wsV RX5 77 RX4 yX4_send wsX4_send) := goodIn_app (goodIn_of _ (by decide +kernel)) ggX5_sendGreeting_X4_send
theorem dX5_sendGreeting_0 : decode cX5_sendGreeting 0 = .ok (.aload_n 0, 1) := by decide +kernel
theorem dX5_sendGreeting_1 : decode cX5_sendGreeting 1 = .ok (.getfield 14, 3) := by decide +kernel
theorem dX5_sendGreeting_4 : decode cX5_sendGreeting 4 = .ok (.getfield 64, 3) := by decide +kernel
theorem dX5_sendGreeting_7 : decode cX5_sendGreeting 7 = .ok (.astore_n 3, 1) := by decide +kernel
theorem dX5_sendGreeting_8 : decode cX5_sendGreeting 8 = .ok (.aload_n 3, 1) := by decide +kernel
theorem dX5_sendGreeting_9 : decode cX5_sendGreeting 9 = .ok (.iconst 3, 1) := by decide +kernel
theorem dX5_sendGreeting_10 : decode cX5_sendGreeting 10 = .ok (.invokevirtual 70, 3) := by decide +kernel
theorem dX5_sendGreeting_13 : decode cX5_sendGreeting 13 = .ok (.aload_n 3, 1) := by decide +kernel
theorem dX5_sendGreeting_14 : decode cX5_sendGreeting 14 = .ok (.iconst 1, 1) := by decide +kernel
theorem dX5_sendGreeting_15 : decode cX5_sendGreeting 15 = .ok (.aload_n 0, 1) := by decide +kernel
theorem dX5_sendGreeting_16 : decode cX5_sendGreeting 16 = .ok (.getfield 14, 3) := by decide +kernel
theorem dX5_sendGreeting_19 : decode cX5_sendGreeting 19 = .ok (.getfield 145, 3) := by decide +kernel
theorem dX5_sendGreeting_22 : decode cX5_sendGreeting 22 = .ok (.invokevirtual 74, 3) := by decide +kernel
theorem dX5_sendGreeting_25 : decode cX5_sendGreeting 25 = .ok (.aload_n 3, 1) := by decide +kernel
theorem dX5_sendGreeting_26 : decode cX5_sendGreeting 26 = .ok (.iconst 2, 1) := by decide +kernel
theorem dX5_sendGreeting_27 : decode cX5_sendGreeting 27 = .ok (.aload_n 0, 1) := by decide +kernel
theorem dX5_sendGreeting_28 : decode cX5_sendGreeting 28 = .ok (.getfield 14, 3) := by decide +kernel
theorem dX5_sendGreeting_31 : decode cX5_sendGreeting 31 = .ok (.getfield 148, 3) := by decide +kernel
theorem dX5_sendGreeting_34 : decode cX5_sendGreeting 34 = .ok (.invokevirtual 74, 3) := by decide +kernel
theorem dX5_sendGreeting_37 : decode cX5_sendGreeting 37 = .ok (.aload_n 3, 1) := by decide +kernel
theorem dX5_sendGreeting_38 : decode cX5_sendGreeting 38 = .ok (.iconst 3, 1) := by decide +kernel
theorem dX5_sendGreeting_39 : decode cX5_sendGreeting 39 = .ok (.aload_n 0, 1) := by decide +kernel
theorem dX5_sendGreeting_40 : decode cX5_sendGreeting 40 = .ok (.getfield 14, 3) := by decide +kernel
theorem dX5_sendGreeting_43 : decode cX5_sendGreeting 43 = .ok (.getfield 148, 3) := by decide +kernel
theorem dX5_sendGreeting_46 : decode cX5_sendGreeting 46 = .ok (.aload_n 0, 1) := by decide +kernel
theorem dX5_sendGreeting_47 : decode cX5_sendGreeting 47 = .ok (.getfield 14, 3) := by decide +kernel
theorem dX5_sendGreeting_50 : decode cX5_sendGreeting 50 = .ok (.getfield 155, 3) := by decide +kernel
theorem dX5_sendGreeting_53 : decode cX5_sendGreeting 53 = .ok (.invokestatic 173, 3) := by decide +kernel
theorem dX5_sendGreeting_56 : decode cX5_sendGreeting 56 = .ok (.invokevirtual 74, 3) := by decide +kernel
theorem dX5_sendGreeting_59 : decode cX5_sendGreeting 59 = .ok (.aload_n 3, 1) := by decide +kernel
theorem dX5_sendGreeting_60 : decode cX5_sendGreeting 60 = .ok (.iconst 4, 1) := by decide +kernel
theorem dX5_sendGreeting_61 : decode cX5_sendGreeting 61 = .ok (.aload_n 0, 1) := by decide +kernel
theorem dX5_sendGreeting_62 : decode cX5_sendGreeting 62 = .ok (.getfield 14, 3) := by decide +kernel
theorem dX5_sendGreeting_65 : decode cX5_sendGreeting 65 = .ok (.getfield 112, 3) := by decide +kernel
theorem dX5_sendGreeting_68 : decode cX5_sendGreeting 68 = .ok (.aload_n 0, 1) := by decide +kernel
theorem dX5_sendGreeting_69 : decode cX5_sendGreeting 69 = .ok (.getfield 14, 3) := by decide +kernel
theorem dX5_sendGreeting_72 : decode cX5_sendGreeting 72 = .ok (.getfield 145, 3) := by decide +kernel
theorem dX5_sendGreeting_75 : decode cX5_sendGreeting 75 = .ok (.invokestatic 176, 3) := by decide +kernel
theorem dX5_sendGreeting_78 : decode cX5_sendGreeting 78 = .ok (.ifCond .eq 7, 3) := by decide +kernel
theorem dX5_sendGreeting_81 : decode cX5_sendGreeting 81 = .ok (.iconst 1, 1) := by decide +kernel
theorem dX5_sendGreeting_82 : decode cX5_sendGreeting 82 = .ok (.goto 4, 3) := by decide +kernel
theorem dX5_sendGreeting_85 : decode cX5_sendGreeting 85 = .ok (.iconst 0, 1) := by decide +kernel
theorem dX5_sendGreeting_86 : decode cX5_sendGreeting 86 = .ok (.invokevirtual 74, 3) := by decide +kernel
theorem dX5_sendGreeting_89 : decode cX5_sendGreeting 89 = .ok (.aload_n 3, 1) := by decide +kernel
theorem dX5_sendGreeting_90 : decode cX5_sendGreeting 90 = .ok (.iconst 5, 1) := by decide +kernel
theorem dX5_sendGreeting_91 : decode cX5_sendGreeting 91 = .ok (.aload_n 0, 1) := by decide +kernel
theorem dX5_sendGreeting_92 : decode cX5_sendGreeting 92 = .ok (.getfield 14, 3) := by decide +kernel
theorem dX5_sendGreeting_95 : decode cX5_sendGreeting 95 = .ok (.getfield 151, 3) := by decide +kernel
theorem dX5_sendGreeting_98 : decode cX5_sendGreeting 98 = .ok (.ifCond .eq 7, 3) := by decide +kernel
theorem dX5_sendGreeting_101 : decode cX5_sendGreeting 101 = .ok (.iconst 1, 1) := by decide +kernel
theorem dX5_sendGreeting_102 : decode cX5_sendGreeting 102 = .ok (.goto 4, 3) := by decide +kernel
theorem dX5_sendGreeting_105 : decode cX5_sendGreeting 105 = .ok (.iconst 0, 1) := by decide +kernel
theorem dX5_sendGreeting_106 : decode cX5_sendGreeting 106 = .ok (.invokevirtual 74, 3) := by decide +kernel
theorem dX5_sendGreeting_109 : decode cX5_sendGreeting 109 = .ok (.aload_n 3, 1) := by decide +kernel
theorem dX5_sendGreeting_110 : decode cX5_sendGreeting 110 = .ok (.bipush 6, 2) := by decide +kernel
theorem dX5_sendGreeting_112 : decode cX5_sendGreeting 112 = .ok (.iload_n 1, 1) := by decide +kernel
theorem dX5_sendGreeting_113 : decode cX5_sendGreeting 113 = .ok (.ifCond .eq 7, 3) := by decide +kernel
theorem dX5_sendGreeting_116 : decode cX5_sendGreeting 116 = .ok (.iconst 1, 1) := by decide +kernel
theorem dX5_sendGreeting_117 : decode cX5_sendGreeting 117 = .ok (.goto 4, 3) := by decide +kernel
theorem dX5_sendGreeting_120 : decode cX5_sendGreeting 120 = .ok (.iconst 0, 1) := by decide +kernel
theorem dX5_sendGreeting_121 : decode cX5_sendGreeting 121 = .ok (.invokevirtual 74, 3) := by decide +kernel
theorem dX5_sendGreeting_124 : decode cX5_sendGreeting 124 = .ok (.aload_n 0, 1) := by decide +kernel
theorem dX5_sendGreeting_125 : decode cX5_sendGreeting 125 = .ok (.getfield 14, 3) := by decide +kernel
theorem dX5_sendGreeting_128 : decode cX5_sendGreeting 128 = .ok (.aload_n 3, 1) := by decide +kernel
theorem dX5_sendGreeting_129 : decode cX5_sendGreeting 129 = .ok (.invokevirtual 142, 3) := by decide +kernel
theorem dX5_sendGreeting_132 : decode cX5_sendGreeting 132 = .ok (.aload_n 3, 1) := by decide +kernel
theorem dX5_sendGreeting_133 : decode cX5_sendGreeting 133 = .ok (.bipush 7, 2) := by decide +kernel
theorem dX5_sendGreeting_135 : decode cX5_sendGreeting 135 = .ok (.aload_n 0, 1) := by decide +kernel
theorem dX5_sendGreeting_136 : decode cX5_sendGreeting 136 = .ok (.getfield 14, 3) := by decide +kernel
theorem dX5_sendGreeting_139 : decode cX5_sendGreeting 139 = .ok (.iconst 1, 1) := by decide +kernel
theorem dX5_sendGreeting_140 : decode cX5_sendGreeting 140 = .ok (.invokevirtual 103, 3) := by decide +kernel
theorem dX5_sendGreeting_143 : decode cX5_sendGreeting 143 = .ok (.invokevirtual 74, 3) := by decide +kernel
theorem dX5_sendGreeting_146 : decode cX5_sendGreeting 146 = .ok (.aload_n 2, 1) := by decide +kernel
theorem dX5_sendGreeting_147 : decode cX5_sendGreeting 147 = .ok (.aload_n 3, 1) := by decide +kernel
theorem dX5_sendGreeting_148 : decode cX5_sendGreeting 148 = .ok (.invokevirtual 77, 3) := by decide +kernel
theorem dX5_sendGreeting_151 : decode cX5_sendGreeting 151 = .ok (.aload_n 0, 1) := by decide +kernel
theorem dX5_sendGreeting_152 : decode cX5_sendGreeting 152 = .ok (.getfield 14, 3) := by decide +kernel
theorem dX5_sendGreeting_155 : decode cX5_sendGreeting 155 = .ok (.iconst 3, 1) := by decide +kernel
theorem dX5_sendGreeting_156 : decode cX5_sendGreeting 156 = .ok (.putfield 90, 3) := by decide +kernel
theorem dX5_sendGreeting_159 : decode cX5_sendGreeting 159 = .ok (.return_, 1) := by decide +kernel
theorem dX5_livingTicket_0 : decode cX5_livingTicket 0 = .ok (.iconst 0, 1) := by decide +kernel
theorem dX5_livingTicket_1 : decode cX5_livingTicket 1 = .ok (.istore_n 3, 1) := by decide +kernel
theorem dX5_livingTicket_2 : decode cX5_livingTicket 2 = .ok (.iload_n 3, 1) := by decide +kernel
theorem dX5_livingTicket_3 : decode cX5_livingTicket 3 = .ok (.aload_n 0, 1) := by decide +kernel
theorem dX5_livingTicket_4 : decode cX5_livingTicket 4 = .ok (.getfield 83, 3) := by decide +kernel
theorem dX5_livingTicket_7 : decode cX5_livingTicket 7 = .ok (.if_icmp .ge 56, 3) := by decide +kernel
theorem dX5_livingTicket_10 : decode cX5_livingTicket 10 = .ok (.iload_n 3, 1) := by decide +kernel
theorem dX5_livingTicket_11 : decode cX5_livingTicket 11 = .ok (.iconst 3, 1) := by decide +kernel
theorem dX5_livingTicket_12 : decode cX5_livingTicket 12 = .ok (.if_icmp .ge 51, 3) := by decide +kernel
theorem dX5_livingTicket_15 : decode cX5_livingTicket 15 = .ok (.aload_n 0, 1) := by decide +kernel
theorem dX5_livingTicket_16 : decode cX5_livingTicket 16 = .ok (.getfield 22, 3) := by decide +kernel
theorem dX5_livingTicket_19 : decode cX5_livingTicket 19 = .ok (.iload_n 3, 1) := by decide +kernel
theorem dX5_livingTicket_20 : decode cX5_livingTicket 20 = .ok (.aaload, 1) := by decide +kernel
theorem dX5_livingTicket_21 : decode cX5_livingTicket 21 = .ok (.getfield 42, 3) := by decide +kernel
theorem dX5_livingTicket_24 : decode cX5_livingTicket 24 = .ok (.iload_n 1, 1) := by decide +kernel
theorem dX5_livingTicket_25 : decode cX5_livingTicket 25 = .ok (.if_icmp .ne 32, 3) := by decide +kernel
theorem dX5_livingTicket_28 : decode cX5_livingTicket 28 = .ok (.iload_n 2, 1) := by decide +kernel
theorem dX5_livingTicket_29 : decode cX5_livingTicket 29 = .ok (.aload_n 0, 1) := by decide +kernel
theorem dX5_livingTicket_30 : decode cX5_livingTicket 30 = .ok (.getfield 22, 3) := by decide +kernel
theorem dX5_livingTicket_33 : decode cX5_livingTicket 33 = .ok (.iload_n 3, 1) := by decide +kernel
theorem dX5_livingTicket_34 : decode cX5_livingTicket 34 = .ok (.aaload, 1) := by decide +kernel
theorem dX5_livingTicket_35 : decode cX5_livingTicket 35 = .ok (.getfield 48, 3) := by decide +kernel
theorem dX5_livingTicket_38 : decode cX5_livingTicket 38 = .ok (.isub, 1) := by decide +kernel
theorem dX5_livingTicket_39 : decode cX5_livingTicket 39 = .ok (.aload_n 0, 1) := by decide +kernel
theorem dX5_livingTicket_40 : decode cX5_livingTicket 40 = .ok (.getfield 22, 3) := by decide +kernel
theorem dX5_livingTicket_43 : decode cX5_livingTicket 43 = .ok (.iload_n 3, 1) := by decide +kernel
theorem dX5_livingTicket_44 : decode cX5_livingTicket 44 = .ok (.aaload, 1) := by decide +kernel
theorem dX5_livingTicket_45 : decode cX5_livingTicket 45 = .ok (.getfield 45, 3) := by decide +kernel
theorem dX5_livingTicket_48 : decode cX5_livingTicket 48 = .ok (.if_icmp .le 7, 3) := by decide +kernel
theorem dX5_livingTicket_51 : decode cX5_livingTicket 51 = .ok (.iconst (-1), 1) := by decide +kernel
theorem dX5_livingTicket_52 : decode cX5_livingTicket 52 = .ok (.goto 4, 3) := by decide +kernel
theorem dX5_livingTicket_55 : decode cX5_livingTicket 55 = .ok (.iload_n 3, 1) := by decide +kernel
theorem dX5_livingTicket_56 : decode cX5_livingTicket 56 = .ok (.ireturn, 1) := by decide +kernel
theorem dX5_livingTicket_57 : decode cX5_livingTicket 57 = .ok (.iinc 3 1, 3) := by decide +kernel
theorem dX5_livingTicket_60 : decode cX5_livingTicket 60 = .ok (.goto (-58), 3) := by decide +kernel
theorem dX5_livingTicket_63 : decode cX5_livingTicket 63 = .ok (.iconst (-1), 1) := by decide +kernel
theorem dX5_livingTicket_64 : decode cX5_livingTicket 64 = .ok (.ireturn, 1) := by decide +kernel
set_option maxRecDepth 20000 in
theorem ggX5_takeEarly_X2_at : GoodIn wsX5_takeEarly wsX2_at := goodIn_r _ [12, 13, 14, 15, 11, 16, 61] (by decide +kernel) (by decide +kernel)
set_option maxRecDepth 20000 in
theorem gX5_takeEarly_X2_at : GoodIn wsX5_takeEarly (wsV RX5 86 RX2 yX2_at wsX2_at) := goodIn_app (goodIn_of _ (by decide +kernel)) ggX5_takeEarly_X2_at
set_option maxRecDepth 20000 in
theorem ggX5_takeEarly_X5_wasSeen : GoodIn wsX5_takeEarly wsX5_wasSeen := goodIn_r _ [21, 22, 23, 24, 34, 35, 36, 37, 38, 39, 40, 41, 42] (by decide +kernel) (by decide +kernel)
set_option maxRecDepth 20000 in
theorem gX5_takeEarly_X5_wasSeen : GoodIn wsX5_takeEarly (wsV RX5 179 RX5 yX5_wasSeen wsX5_wasSeen) := goodIn_app (goodIn_of _ (by decide +kernel)) ggX5_takeEarly_X5_wasSeen
set_option maxRecDepth 20000 in
theorem ggX5_takeEarly_X5_addSeen : GoodIn wsX5_takeEarly wsX5_addSeen := goodIn_r _ [28, 22, 23, 24, 34, 35, 36, 37, 38, 39, 40, 41, 42] (by decide +kernel) (by decide +kernel)
set_option maxRecDepth 20000 in
theorem gX5_takeEarly_X5_addSeen : GoodIn wsX5_takeEarly (wsV RX5 182 RX5 yX5_addSeen wsX5_addSeen) := goodIn_app (goodIn_of _ (by decide +kernel)) ggX5_takeEarly_X5_addSeen
theorem dX5_takeEarly_0 : decode cX5_takeEarly 0 = .ok (.aload_n 1, 1) := by decide +kernel
theorem dX5_takeEarly_1 : decode cX5_takeEarly 1 = .ok (.bipush 8, 2) := by decide +kernel
theorem dX5_takeEarly_3 : decode cX5_takeEarly 3 = .ok (.invokevirtual 86, 3) := by decide +kernel
theorem dX5_takeEarly_6 : decode cX5_takeEarly 6 = .ok (.istore 4, 2) := by decide +kernel
theorem dX5_takeEarly_8 : decode cX5_takeEarly 8 = .ok (.aload_n 1, 1) := by decide +kernel
theorem dX5_takeEarly_9 : decode cX5_takeEarly 9 = .ok (.bipush 7, 2) := by decide +kernel
theorem dX5_takeEarly_11 : decode cX5_takeEarly 11 = .ok (.invokevirtual 86, 3) := by decide +kernel
theorem dX5_takeEarly_14 : decode cX5_takeEarly 14 = .ok (.istore 5, 2) := by decide +kernel
theorem dX5_takeEarly_16 : decode cX5_takeEarly 16 = .ok (.aload_n 1, 1) := by decide +kernel
theorem dX5_takeEarly_17 : decode cX5_takeEarly 17 = .ok (.bipush 6, 2) := by decide +kernel
theorem dX5_takeEarly_19 : decode cX5_takeEarly 19 = .ok (.invokevirtual 86, 3) := by decide +kernel
theorem dX5_takeEarly_22 : decode cX5_takeEarly 22 = .ok (.aload_n 2, 1) := by decide +kernel
theorem dX5_takeEarly_23 : decode cX5_takeEarly 23 = .ok (.getfield 61, 3) := by decide +kernel
theorem dX5_takeEarly_26 : decode cX5_takeEarly 26 = .ok (.isub, 1) := by decide +kernel
theorem dX5_takeEarly_27 : decode cX5_takeEarly 27 = .ok (.iload_n 3, 1) := by decide +kernel
theorem dX5_takeEarly_28 : decode cX5_takeEarly 28 = .ok (.aload_n 2, 1) := by decide +kernel
theorem dX5_takeEarly_29 : decode cX5_takeEarly 29 = .ok (.getfield 48, 3) := by decide +kernel
theorem dX5_takeEarly_32 : decode cX5_takeEarly 32 = .ok (.isub, 1) := by decide +kernel
theorem dX5_takeEarly_33 : decode cX5_takeEarly 33 = .ok (.isub, 1) := by decide +kernel
theorem dX5_takeEarly_34 : decode cX5_takeEarly 34 = .ok (.istore 6, 2) := by decide +kernel
theorem dX5_takeEarly_36 : decode cX5_takeEarly 36 = .ok (.iload 4, 2) := by decide +kernel
theorem dX5_takeEarly_38 : decode cX5_takeEarly 38 = .ok (.ifCond .lt 39, 3) := by decide +kernel
theorem dX5_takeEarly_41 : decode cX5_takeEarly 41 = .ok (.aload_n 0, 1) := by decide +kernel
theorem dX5_takeEarly_42 : decode cX5_takeEarly 42 = .ok (.getfield 14, 3) := by decide +kernel
theorem dX5_takeEarly_45 : decode cX5_takeEarly 45 = .ok (.getfield 90, 3) := by decide +kernel
theorem dX5_takeEarly_48 : decode cX5_takeEarly 48 = .ok (.ifCond .ne 29, 3) := by decide +kernel
theorem dX5_takeEarly_51 : decode cX5_takeEarly 51 = .ok (.iload 6, 2) := by decide +kernel
theorem dX5_takeEarly_53 : decode cX5_takeEarly 53 = .ok (.bipush (-2), 2) := by decide +kernel
theorem dX5_takeEarly_55 : decode cX5_takeEarly 55 = .ok (.if_icmp .lt 22, 3) := by decide +kernel
theorem dX5_takeEarly_58 : decode cX5_takeEarly 58 = .ok (.iload 6, 2) := by decide +kernel
theorem dX5_takeEarly_60 : decode cX5_takeEarly 60 = .ok (.iconst 2, 1) := by decide +kernel
theorem dX5_takeEarly_61 : decode cX5_takeEarly 61 = .ok (.if_icmp .gt 16, 3) := by decide +kernel
theorem dX5_takeEarly_64 : decode cX5_takeEarly 64 = .ok (.aload_n 0, 1) := by decide +kernel
theorem dX5_takeEarly_65 : decode cX5_takeEarly 65 = .ok (.aload_n 2, 1) := by decide +kernel
theorem dX5_takeEarly_66 : decode cX5_takeEarly 66 = .ok (.getfield 42, 3) := by decide +kernel
theorem dX5_takeEarly_69 : decode cX5_takeEarly 69 = .ok (.iload 5, 2) := by decide +kernel
theorem dX5_takeEarly_71 : decode cX5_takeEarly 71 = .ok (.invokevirtual 179, 3) := by decide +kernel
theorem dX5_takeEarly_74 : decode cX5_takeEarly 74 = .ok (.ifCond .eq 5, 3) := by decide +kernel
theorem dX5_takeEarly_77 : decode cX5_takeEarly 77 = .ok (.iconst 0, 1) := by decide +kernel
theorem dX5_takeEarly_78 : decode cX5_takeEarly 78 = .ok (.ireturn, 1) := by decide +kernel
theorem dX5_takeEarly_79 : decode cX5_takeEarly 79 = .ok (.aload_n 0, 1) := by decide +kernel
theorem dX5_takeEarly_80 : decode cX5_takeEarly 80 = .ok (.aload_n 2, 1) := by decide +kernel
theorem dX5_takeEarly_81 : decode cX5_takeEarly 81 = .ok (.getfield 42, 3) := by decide +kernel
theorem dX5_takeEarly_84 : decode cX5_takeEarly 84 = .ok (.iload 5, 2) := by decide +kernel
theorem dX5_takeEarly_86 : decode cX5_takeEarly 86 = .ok (.invokevirtual 182, 3) := by decide +kernel
theorem dX5_takeEarly_89 : decode cX5_takeEarly 89 = .ok (.aload_n 0, 1) := by decide +kernel
theorem dX5_takeEarly_90 : decode cX5_takeEarly 90 = .ok (.dup, 1) := by decide +kernel
theorem dX5_takeEarly_91 : decode cX5_takeEarly 91 = .ok (.getfield 185, 3) := by decide +kernel
theorem dX5_takeEarly_94 : decode cX5_takeEarly 94 = .ok (.iconst 1, 1) := by decide +kernel
theorem dX5_takeEarly_95 : decode cX5_takeEarly 95 = .ok (.iadd, 1) := by decide +kernel
theorem dX5_takeEarly_96 : decode cX5_takeEarly 96 = .ok (.putfield 185, 3) := by decide +kernel
theorem dX5_takeEarly_99 : decode cX5_takeEarly 99 = .ok (.aload_n 0, 1) := by decide +kernel
theorem dX5_takeEarly_100 : decode cX5_takeEarly 100 = .ok (.dup, 1) := by decide +kernel
theorem dX5_takeEarly_101 : decode cX5_takeEarly 101 = .ok (.getfield 188, 3) := by decide +kernel
theorem dX5_takeEarly_104 : decode cX5_takeEarly 104 = .ok (.iload 4, 2) := by decide +kernel
theorem dX5_takeEarly_106 : decode cX5_takeEarly 106 = .ok (.iadd, 1) := by decide +kernel
theorem dX5_takeEarly_107 : decode cX5_takeEarly 107 = .ok (.putfield 188, 3) := by decide +kernel
theorem dX5_takeEarly_110 : decode cX5_takeEarly 110 = .ok (.iconst 1, 1) := by decide +kernel
theorem dX5_takeEarly_111 : decode cX5_takeEarly 111 = .ok (.ireturn, 1) := by decide +kernel
theorem dX5_wasSeen_0 : decode cX5_wasSeen 0 = .ok (.iconst 0, 1) := by decide +kernel
theorem dX5_wasSeen_1 : decode cX5_wasSeen 1 = .ok (.istore_n 3, 1) := by decide +kernel
theorem dX5_wasSeen_2 : decode cX5_wasSeen 2 = .ok (.iload_n 3, 1) := by decide +kernel
theorem dX5_wasSeen_3 : decode cX5_wasSeen 3 = .ok (.aload_n 0, 1) := by decide +kernel
theorem dX5_wasSeen_4 : decode cX5_wasSeen 4 = .ok (.getfield 191, 3) := by decide +kernel
theorem dX5_wasSeen_7 : decode cX5_wasSeen 7 = .ok (.if_icmp .ge 36, 3) := by decide +kernel
theorem dX5_wasSeen_10 : decode cX5_wasSeen 10 = .ok (.iload_n 3, 1) := by decide +kernel
theorem dX5_wasSeen_11 : decode cX5_wasSeen 11 = .ok (.iconst 4, 1) := by decide +kernel
theorem dX5_wasSeen_12 : decode cX5_wasSeen 12 = .ok (.if_icmp .ge 31, 3) := by decide +kernel
theorem dX5_wasSeen_15 : decode cX5_wasSeen 15 = .ok (.aload_n 0, 1) := by decide +kernel
theorem dX5_wasSeen_16 : decode cX5_wasSeen 16 = .ok (.getfield 26, 3) := by decide +kernel
theorem dX5_wasSeen_19 : decode cX5_wasSeen 19 = .ok (.iload_n 3, 1) := by decide +kernel
theorem dX5_wasSeen_20 : decode cX5_wasSeen 20 = .ok (.iaload, 1) := by decide +kernel
theorem dX5_wasSeen_21 : decode cX5_wasSeen 21 = .ok (.iload_n 1, 1) := by decide +kernel
theorem dX5_wasSeen_22 : decode cX5_wasSeen 22 = .ok (.if_icmp .ne 15, 3) := by decide +kernel
theorem dX5_wasSeen_25 : decode cX5_wasSeen 25 = .ok (.aload_n 0, 1) := by decide +kernel
theorem dX5_wasSeen_26 : decode cX5_wasSeen 26 = .ok (.getfield 30, 3) := by decide +kernel
theorem dX5_wasSeen_29 : decode cX5_wasSeen 29 = .ok (.iload_n 3, 1) := by decide +kernel
theorem dX5_wasSeen_30 : decode cX5_wasSeen 30 = .ok (.iaload, 1) := by decide +kernel
theorem dX5_wasSeen_31 : decode cX5_wasSeen 31 = .ok (.iload_n 2, 1) := by decide +kernel
theorem dX5_wasSeen_32 : decode cX5_wasSeen 32 = .ok (.if_icmp .ne 5, 3) := by decide +kernel
theorem dX5_wasSeen_35 : decode cX5_wasSeen 35 = .ok (.iconst 1, 1) := by decide +kernel
theorem dX5_wasSeen_36 : decode cX5_wasSeen 36 = .ok (.ireturn, 1) := by decide +kernel
theorem dX5_wasSeen_37 : decode cX5_wasSeen 37 = .ok (.iinc 3 1, 3) := by decide +kernel
theorem dX5_wasSeen_40 : decode cX5_wasSeen 40 = .ok (.goto (-38), 3) := by decide +kernel
theorem dX5_wasSeen_43 : decode cX5_wasSeen 43 = .ok (.iconst 0, 1) := by decide +kernel
theorem dX5_wasSeen_44 : decode cX5_wasSeen 44 = .ok (.ireturn, 1) := by decide +kernel
theorem dX5_addSeen_0 : decode cX5_addSeen 0 = .ok (.aload_n 0, 1) := by decide +kernel
theorem dX5_addSeen_1 : decode cX5_addSeen 1 = .ok (.getfield 191, 3) := by decide +kernel
theorem dX5_addSeen_4 : decode cX5_addSeen 4 = .ok (.iconst 4, 1) := by decide +kernel
theorem dX5_addSeen_5 : decode cX5_addSeen 5 = .ok (.if_icmp .lt 49, 3) := by decide +kernel
theorem dX5_addSeen_8 : decode cX5_addSeen 8 = .ok (.iconst 1, 1) := by decide +kernel
theorem dX5_addSeen_9 : decode cX5_addSeen 9 = .ok (.istore_n 3, 1) := by decide +kernel
theorem dX5_addSeen_10 : decode cX5_addSeen 10 = .ok (.iload_n 3, 1) := by decide +kernel
theorem dX5_addSeen_11 : decode cX5_addSeen 11 = .ok (.iconst 4, 1) := by decide +kernel
theorem dX5_addSeen_12 : decode cX5_addSeen 12 = .ok (.if_icmp .ge 37, 3) := by decide +kernel
theorem dX5_addSeen_15 : decode cX5_addSeen 15 = .ok (.aload_n 0, 1) := by decide +kernel
theorem dX5_addSeen_16 : decode cX5_addSeen 16 = .ok (.getfield 26, 3) := by decide +kernel
theorem dX5_addSeen_19 : decode cX5_addSeen 19 = .ok (.iload_n 3, 1) := by decide +kernel
theorem dX5_addSeen_20 : decode cX5_addSeen 20 = .ok (.iconst 1, 1) := by decide +kernel
theorem dX5_addSeen_21 : decode cX5_addSeen 21 = .ok (.isub, 1) := by decide +kernel
theorem dX5_addSeen_22 : decode cX5_addSeen 22 = .ok (.aload_n 0, 1) := by decide +kernel
theorem dX5_addSeen_23 : decode cX5_addSeen 23 = .ok (.getfield 26, 3) := by decide +kernel
theorem dX5_addSeen_26 : decode cX5_addSeen 26 = .ok (.iload_n 3, 1) := by decide +kernel
theorem dX5_addSeen_27 : decode cX5_addSeen 27 = .ok (.iaload, 1) := by decide +kernel
theorem dX5_addSeen_28 : decode cX5_addSeen 28 = .ok (.iastore, 1) := by decide +kernel
theorem dX5_addSeen_29 : decode cX5_addSeen 29 = .ok (.aload_n 0, 1) := by decide +kernel
theorem dX5_addSeen_30 : decode cX5_addSeen 30 = .ok (.getfield 30, 3) := by decide +kernel
theorem dX5_addSeen_33 : decode cX5_addSeen 33 = .ok (.iload_n 3, 1) := by decide +kernel
theorem dX5_addSeen_34 : decode cX5_addSeen 34 = .ok (.iconst 1, 1) := by decide +kernel
theorem dX5_addSeen_35 : decode cX5_addSeen 35 = .ok (.isub, 1) := by decide +kernel
theorem dX5_addSeen_36 : decode cX5_addSeen 36 = .ok (.aload_n 0, 1) := by decide +kernel
theorem dX5_addSeen_37 : decode cX5_addSeen 37 = .ok (.getfield 30, 3) := by decide +kernel
theorem dX5_addSeen_40 : decode cX5_addSeen 40 = .ok (.iload_n 3, 1) := by decide +kernel
theorem dX5_addSeen_41 : decode cX5_addSeen 41 = .ok (.iaload, 1) := by decide +kernel
theorem dX5_addSeen_42 : decode cX5_addSeen 42 = .ok (.iastore, 1) := by decide +kernel
theorem dX5_addSeen_43 : decode cX5_addSeen 43 = .ok (.iinc 3 1, 3) := by decide +kernel
theorem dX5_addSeen_46 : decode cX5_addSeen 46 = .ok (.goto (-36), 3) := by decide +kernel
theorem dX5_addSeen_49 : decode cX5_addSeen 49 = .ok (.aload_n 0, 1) := by decide +kernel
theorem dX5_addSeen_50 : decode cX5_addSeen 50 = .ok (.iconst 3, 1) := by decide +kernel
theorem dX5_addSeen_51 : decode cX5_addSeen 51 = .ok (.putfield 191, 3) := by decide +kernel
theorem dX5_addSeen_54 : decode cX5_addSeen 54 = .ok (.aload_n 0, 1) := by decide +kernel
theorem dX5_addSeen_55 : decode cX5_addSeen 55 = .ok (.getfield 26, 3) := by decide +kernel
theorem dX5_addSeen_58 : decode cX5_addSeen 58 = .ok (.aload_n 0, 1) := by decide +kernel
theorem dX5_addSeen_59 : decode cX5_addSeen 59 = .ok (.getfield 191, 3) := by decide +kernel
theorem dX5_addSeen_62 : decode cX5_addSeen 62 = .ok (.iload_n 1, 1) := by decide +kernel
theorem dX5_addSeen_63 : decode cX5_addSeen 63 = .ok (.iastore, 1) := by decide +kernel
theorem dX5_addSeen_64 : decode cX5_addSeen 64 = .ok (.aload_n 0, 1) := by decide +kernel
theorem dX5_addSeen_65 : decode cX5_addSeen 65 = .ok (.getfield 30, 3) := by decide +kernel
theorem dX5_addSeen_68 : decode cX5_addSeen 68 = .ok (.aload_n 0, 1) := by decide +kernel
theorem dX5_addSeen_69 : decode cX5_addSeen 69 = .ok (.getfield 191, 3) := by decide +kernel
theorem dX5_addSeen_72 : decode cX5_addSeen 72 = .ok (.iload_n 2, 1) := by decide +kernel
theorem dX5_addSeen_73 : decode cX5_addSeen 73 = .ok (.iastore, 1) := by decide +kernel
theorem dX5_addSeen_74 : decode cX5_addSeen 74 = .ok (.aload_n 0, 1) := by decide +kernel
theorem dX5_addSeen_75 : decode cX5_addSeen 75 = .ok (.dup, 1) := by decide +kernel
theorem dX5_addSeen_76 : decode cX5_addSeen 76 = .ok (.getfield 191, 3) := by decide +kernel
theorem dX5_addSeen_79 : decode cX5_addSeen 79 = .ok (.iconst 1, 1) := by decide +kernel
theorem dX5_addSeen_80 : decode cX5_addSeen 80 = .ok (.iadd, 1) := by decide +kernel
theorem dX5_addSeen_81 : decode cX5_addSeen 81 = .ok (.putfield 191, 3) := by decide +kernel
theorem dX5_addSeen_84 : decode cX5_addSeen 84 = .ok (.return_, 1) := by decide +kernel
