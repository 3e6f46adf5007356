set_option maxRecDepth 20000 in
theorem ggX8_init_X0_init : GoodIn wsX8_init wsX0_init := goodIn_r _ [29, 30, 2, 3, 31, 32, 33, 34, 35, 36, 37, 38, 39, 40, 41, 42, 43, 44, 45, 46, 47, 48, 49, 50, 51, 52, 18, 19, 53, 54, 55, 56, 57, 58, 59, 60, 61, 62, 63, 64, 65, 66, 67, 68, 69, 133, 134, 135, 136, 137, 138, 139, 140, 141, 142, 143, 144, 145, 146, 147, 148, 149, 150, 94, 95, 96, 97, 98, 99, 100, 101, 102, 151, 152, 153, 154, 155, 156, 157, 158, 124] (by decide +kernel) (by decide +kernel)
set_option maxRecDepth 20000 in
theorem gX8_init_X0_init_n9 : GoodIn wsX8_init (wsX0_init) := ggX8_init_X0_init
set_option maxRecDepth 20000 in
theorem ggX8_init_X5_init : GoodIn wsX8_init wsX5_init := goodIn_r _ [72, 73, 2, 3, 74, 32, 33, 75, 76, 77, 65, 78, 79, 36, 37, 80, 41, 42, 43, 44, 45, 46, 47, 48, 49, 50, 51, 52, 18, 19, 53, 54, 55, 56, 57, 58, 59, 60, 61, 62, 63, 64, 66, 67, 68, 69, 133, 134, 135, 136, 137, 138, 139, 140, 141, 142, 143, 144, 145, 146, 147, 148, 149, 150, 112, 113, 114, 115, 116, 117, 118, 119, 120, 151, 152, 153, 154, 155, 156, 157, 158, 124] (by decide +kernel) (by decide +kernel)
set_option maxRecDepth 20000 in
theorem gX8_init_X5_init : GoodIn wsX8_init (wsX5_init) := ggX8_init_X5_init
set_option maxRecDepth 20000 in
theorem ggX8_init_X4_init : GoodIn wsX8_init wsX4_init := goodIn_r _ [83, 84, 2, 3, 85, 86, 18, 19, 62, 63, 64, 65, 66, 121, 122, 123, 124] (by decide +kernel) (by decide +kernel)
set_option maxRecDepth 20000 in
theorem gX8_init_X4_init : GoodIn wsX8_init (wsX4_init) := ggX8_init_X4_init
set_option maxRecDepth 20000 in
theorem ggX8_init_X2_init : GoodIn wsX8_init wsX2_init := goodIn_r _ [63, 64, 2, 3, 65, 66, 124] (by decide +kernel) (by decide +kernel)
set_option maxRecDepth 20000 in
theorem gX8_init_X2_init_n35 : GoodIn wsX8_init (wsX2_init) := ggX8_init_X2_init
set_option maxRecDepth 20000 in
theorem ggX8_init_X6_init : GoodIn wsX8_init wsX6_init := goodIn_r _ [88, 89, 2, 3, 65, 90, 91, 92, 93, 125, 126, 127, 128, 129, 130, 131, 132] (by decide +kernel) (by decide +kernel)
set_option maxRecDepth 20000 in
theorem gX8_init_X6_init_n50 : GoodIn wsX8_init (wsX6_init) := ggX8_init_X6_init
theorem dX8_init_0 : decode cX8_init 0 = .ok (.aload_n 0, 1) := by decide +kernel
theorem dX8_init_1 : decode cX8_init 1 = .ok (.invokespecial 1, 3) := by decide +kernel
theorem dX8_init_4 : decode cX8_init 4 = .ok (.aload_n 0, 1) := by decide +kernel
theorem dX8_init_5 : decode cX8_init 5 = .ok (.new 7, 3) := by decide +kernel
theorem dX8_init_8 : decode cX8_init 8 = .ok (.dup, 1) := by decide +kernel
theorem dX8_init_9 : decode cX8_init 9 = .ok (.invokespecial 9, 3) := by decide +kernel
theorem dX8_init_12 : decode cX8_init 12 = .ok (.putfield 10, 3) := by decide +kernel
theorem dX8_init_15 : decode cX8_init 15 = .ok (.aload_n 0, 1) := by decide +kernel
theorem dX8_init_16 : decode cX8_init 16 = .ok (.new 16, 3) := by decide +kernel
theorem dX8_init_19 : decode cX8_init 19 = .ok (.dup, 1) := by decide +kernel
theorem dX8_init_20 : decode cX8_init 20 = .ok (.invokespecial 18, 3) := by decide +kernel
theorem dX8_init_23 : decode cX8_init 23 = .ok (.putfield 19, 3) := by decide +kernel
theorem dX8_init_26 : decode cX8_init 26 = .ok (.aload_n 0, 1) := by decide +kernel
theorem dX8_init_27 : decode cX8_init 27 = .ok (.new 23, 3) := by decide +kernel
theorem dX8_init_30 : decode cX8_init 30 = .ok (.dup, 1) := by decide +kernel
theorem dX8_init_31 : decode cX8_init 31 = .ok (.invokespecial 25, 3) := by decide +kernel
theorem dX8_init_34 : decode cX8_init 34 = .ok (.putfield 26, 3) := by decide +kernel
theorem dX8_init_37 : decode cX8_init 37 = .ok (.aload_n 0, 1) := by decide +kernel
theorem dX8_init_38 : decode cX8_init 38 = .ok (.new 23, 3) := by decide +kernel
theorem dX8_init_41 : decode cX8_init 41 = .ok (.dup, 1) := by decide +kernel
theorem dX8_init_42 : decode cX8_init 42 = .ok (.invokespecial 25, 3) := by decide +kernel
theorem dX8_init_45 : decode cX8_init 45 = .ok (.putfield 30, 3) := by decide +kernel
theorem dX8_init_48 : decode cX8_init 48 = .ok (.aload_n 0, 1) := by decide +kernel
theorem dX8_init_49 : decode cX8_init 49 = .ok (.new 33, 3) := by decide +kernel
theorem dX8_init_52 : decode cX8_init 52 = .ok (.dup, 1) := by decide +kernel
theorem dX8_init_53 : decode cX8_init 53 = .ok (.invokespecial 35, 3) := by decide +kernel
theorem dX8_init_56 : decode cX8_init 56 = .ok (.putfield 36, 3) := by decide +kernel
theorem dX8_init_59 : decode cX8_init 59 = .ok (.aload_n 0, 1) := by decide +kernel
theorem dX8_init_60 : decode cX8_init 60 = .ok (.iconst 4, 1) := by decide +kernel
theorem dX8_init_61 : decode cX8_init 61 = .ok (.anewarray 33, 3) := by decide +kernel
theorem dX8_init_64 : decode cX8_init 64 = .ok (.putfield 40, 3) := by decide +kernel
theorem dX8_init_67 : decode cX8_init 67 = .ok (.aload_n 0, 1) := by decide +kernel
theorem dX8_init_68 : decode cX8_init 68 = .ok (.iconst 4, 1) := by decide +kernel
theorem dX8_init_69 : decode cX8_init 69 = .ok (.newarray .boolean, 2) := by decide +kernel
theorem dX8_init_71 : decode cX8_init 71 = .ok (.putfield 44, 3) := by decide +kernel
theorem dX8_init_74 : decode cX8_init 74 = .ok (.aload_n 0, 1) := by decide +kernel
theorem dX8_init_75 : decode cX8_init 75 = .ok (.new 48, 3) := by decide +kernel
theorem dX8_init_78 : decode cX8_init 78 = .ok (.dup, 1) := by decide +kernel
theorem dX8_init_79 : decode cX8_init 79 = .ok (.invokespecial 50, 3) := by decide +kernel
theorem dX8_init_82 : decode cX8_init 82 = .ok (.putfield 51, 3) := by decide +kernel
theorem dX8_init_85 : decode cX8_init 85 = .ok (.iconst 0, 1) := by decide +kernel
theorem dX8_init_86 : decode cX8_init 86 = .ok (.istore_n 1, 1) := by decide +kernel
theorem dX8_init_87 : decode cX8_init 87 = .ok (.iload_n 1, 1) := by decide +kernel
theorem dX8_init_88 : decode cX8_init 88 = .ok (.iconst 4, 1) := by decide +kernel
theorem dX8_init_89 : decode cX8_init 89 = .ok (.if_icmp .ge 22, 3) := by decide +kernel
theorem dX8_init_92 : decode cX8_init 92 = .ok (.aload_n 0, 1) := by decide +kernel
theorem dX8_init_93 : decode cX8_init 93 = .ok (.getfield 40, 3) := by decide +kernel
theorem dX8_init_96 : decode cX8_init 96 = .ok (.iload_n 1, 1) := by decide +kernel
theorem dX8_init_97 : decode cX8_init 97 = .ok (.new 33, 3) := by decide +kernel
theorem dX8_init_100 : decode cX8_init 100 = .ok (.dup, 1) := by decide +kernel
theorem dX8_init_101 : decode cX8_init 101 = .ok (.invokespecial 35, 3) := by decide +kernel
theorem dX8_init_104 : decode cX8_init 104 = .ok (.aastore, 1) := by decide +kernel
theorem dX8_init_105 : decode cX8_init 105 = .ok (.iinc 1 1, 3) := by decide +kernel
theorem dX8_init_108 : decode cX8_init 108 = .ok (.goto (-21), 3) := by decide +kernel
theorem dX8_init_111 : decode cX8_init 111 = .ok (.return_, 1) := by decide +kernel
set_option maxRecDepth 20000 in
theorem ggX8_type_X6_add : GoodIn wsX8_type wsX6_add := goodIn_r _ [7, 8, 9, 19, 20, 21, 22, 23, 24, 25, 26] (by decide +kernel) (by decide +kernel)
set_option maxRecDepth 20000 in
theorem gX8_type_X6_add : GoodIn wsX8_type (wsV RX8 55 RX6 yX6_add wsX6_add) := goodIn_app (goodIn_of _ (by decide +kernel)) ggX8_type_X6_add
theorem dX8_type_0 : decode cX8_type 0 = .ok (.iload_n 1, 1) := by decide +kernel
theorem dX8_type_1 : decode cX8_type 1 = .ok (.ifCond .lt 10, 3) := by decide +kernel
theorem dX8_type_4 : decode cX8_type 4 = .ok (.iload_n 1, 1) := by decide +kernel
theorem dX8_type_5 : decode cX8_type 5 = .ok (.sipush 255, 3) := by decide +kernel
theorem dX8_type_8 : decode cX8_type 8 = .ok (.if_icmp .le 6, 3) := by decide +kernel
theorem dX8_type_11 : decode cX8_type 11 = .ok (.bipush (-3), 2) := by decide +kernel
theorem dX8_type_13 : decode cX8_type 13 = .ok (.ireturn, 1) := by decide +kernel
theorem dX8_type_14 : decode cX8_type 14 = .ok (.aload_n 0, 1) := by decide +kernel
theorem dX8_type_15 : decode cX8_type 15 = .ok (.getfield 51, 3) := by decide +kernel
theorem dX8_type_18 : decode cX8_type 18 = .ok (.iload_n 1, 1) := by decide +kernel
theorem dX8_type_19 : decode cX8_type 19 = .ok (.invokevirtual 55, 3) := by decide +kernel
theorem dX8_type_22 : decode cX8_type 22 = .ok (.ifCond .eq 13, 3) := by decide +kernel
theorem dX8_type_25 : decode cX8_type 25 = .ok (.aload_n 0, 1) := by decide +kernel
theorem dX8_type_26 : decode cX8_type 26 = .ok (.getfield 51, 3) := by decide +kernel
theorem dX8_type_29 : decode cX8_type 29 = .ok (.getfield 59, 3) := by decide +kernel
theorem dX8_type_32 : decode cX8_type 32 = .ok (.goto 5, 3) := by decide +kernel
theorem dX8_type_35 : decode cX8_type 35 = .ok (.bipush (-5), 2) := by decide +kernel
theorem dX8_type_37 : decode cX8_type 37 = .ok (.ireturn, 1) := by decide +kernel
theorem dX8_erase_0 : decode cX8_erase 0 = .ok (.aload_n 0, 1) := by decide +kernel
theorem dX8_erase_1 : decode cX8_erase 1 = .ok (.getfield 51, 3) := by decide +kernel
theorem dX8_erase_4 : decode cX8_erase 4 = .ok (.getfield 59, 3) := by decide +kernel
theorem dX8_erase_7 : decode cX8_erase 7 = .ok (.istore_n 1, 1) := by decide +kernel
theorem dX8_erase_8 : decode cX8_erase 8 = .ok (.aload_n 0, 1) := by decide +kernel
theorem dX8_erase_9 : decode cX8_erase 9 = .ok (.getfield 51, 3) := by decide +kernel
theorem dX8_erase_12 : decode cX8_erase 12 = .ok (.iconst 0, 1) := by decide +kernel
theorem dX8_erase_13 : decode cX8_erase 13 = .ok (.putfield 59, 3) := by decide +kernel
theorem dX8_erase_16 : decode cX8_erase 16 = .ok (.iload_n 1, 1) := by decide +kernel
theorem dX8_erase_17 : decode cX8_erase 17 = .ok (.ireturn, 1) := by decide +kernel
set_option maxRecDepth 20000 in
theorem ggX8_fault_X6_read : GoodIn wsX8_fault wsX6_read := goodIn_r _ [6, 7, 8, 9, 10, 11, 12, 13, 5, 14, 15, 16, 17, 18, 19, 20, 21, 22, 23, 24, 25, 26, 27, 28, 29, 30, 31, 32, 33, 34, 35, 36, 37, 38, 39, 40, 41, 42, 43, 44, 45, 46, 47, 48, 49, 50, 51, 52, 53, 54, 55, 56, 57, 58, 59, 60, 61, 62, 63, 64, 65, 66, 67, 68, 69, 70, 71, 72, 73, 74, 75, 76, 77, 78, 79, 80, 81, 82, 83, 84, 85, 86, 87, 88, 89, 90, 91, 92, 93, 94, 95, 96, 106, 107, 108, 109, 110, 111, 112, 113] (by decide +kernel) (by decide +kernel)
set_option maxRecDepth 20000 in
theorem gX8_fault_X6_read : GoodIn wsX8_fault (wsV RX8 63 RX6 yX6_read wsX6_read) := goodIn_app (goodIn_of _ (by decide +kernel)) ggX8_fault_X6_read
theorem dX8_fault_0 : decode cX8_fault 0 = .ok (.aload_n 0, 1) := by decide +kernel
theorem dX8_fault_1 : decode cX8_fault 1 = .ok (.getfield 51, 3) := by decide +kernel
theorem dX8_fault_4 : decode cX8_fault 4 = .ok (.invokevirtual 63, 3) := by decide +kernel
theorem dX8_fault_7 : decode cX8_fault 7 = .ok (.ireturn, 1) := by decide +kernel
set_option maxRecDepth 20000 in
theorem ggX8_settings_X6_read : GoodIn wsX8_settings wsX6_read := goodIn_r _ [8, 9, 10, 11, 12, 13, 14, 15, 7, 16, 17, 18, 19, 20, 21, 22, 23, 24, 25, 26, 27, 28, 29, 30, 31, 32, 33, 34, 35, 36, 37, 38, 39, 40, 41, 42, 43, 44, 45, 46, 47, 48, 49, 50, 51, 52, 53, 54, 55, 56, 57, 58, 59, 60, 61, 62, 63, 64, 65, 66, 67, 68, 69, 70, 71, 72, 73, 74, 75, 76, 77, 78, 79, 80, 81, 82, 83, 84, 85, 86, 87, 88, 89, 90, 91, 92, 93, 94, 95, 96, 97, 98, 160, 161, 162, 163, 164, 165, 166, 167] (by decide +kernel) (by decide +kernel)
set_option maxRecDepth 20000 in
theorem gX8_settings_X6_read : GoodIn wsX8_settings (wsV RX8 63 RX6 yX6_read wsX6_read) := goodIn_app (goodIn_of _ (by decide +kernel)) ggX8_settings_X6_read
set_option maxRecDepth 20000 in
theorem ggX8_settings_X6_kindOf : GoodIn wsX8_settings wsX6_kindOf := goodIn_r _ [102, 17, 160, 161, 162, 163, 164, 165, 166, 167] (by decide +kernel) (by decide +kernel)
set_option maxRecDepth 20000 in
theorem gX8_settings_X6_kindOf : GoodIn wsX8_settings (wsV RX8 70 RX6 yX6_kindOf wsX6_kindOf) := goodIn_app (goodIn_of _ (by decide +kernel)) ggX8_settings_X6_kindOf
set_option maxRecDepth 20000 in
theorem ggX8_settings_X6_firstOf : GoodIn wsX8_settings wsX6_firstOf := goodIn_r _ [106, 18, 160, 161, 162, 163, 164, 165, 166, 167] (by decide +kernel) (by decide +kernel)
set_option maxRecDepth 20000 in
theorem gX8_settings_X6_firstOf : GoodIn wsX8_settings (wsV RX8 74 RX6 yX6_firstOf wsX6_firstOf) := goodIn_app (goodIn_of _ (by decide +kernel)) ggX8_settings_X6_firstOf
set_option maxRecDepth 20000 in
theorem ggX8_settings_X6_secondOf : GoodIn wsX8_settings wsX6_secondOf := goodIn_r _ [110, 19, 160, 161, 162, 163, 164, 165, 166, 167] (by decide +kernel) (by decide +kernel)
set_option maxRecDepth 20000 in
theorem gX8_settings_X6_secondOf : GoodIn wsX8_settings (wsV RX8 77 RX6 yX6_secondOf wsX6_secondOf) := goodIn_app (goodIn_of _ (by decide +kernel)) ggX8_settings_X6_secondOf
set_option maxRecDepth 20000 in
theorem ggX8_settings_X8_apply : GoodIn wsX8_settings wsX8_apply := goodIn_r _ [115, 116, 117, 118, 114, 119, 120, 121, 122, 123, 124, 125, 126, 127, 128, 129, 130, 131, 132, 133, 134, 135, 136, 137, 138, 139, 140, 141, 142, 143, 144, 145, 146, 147, 148, 149, 150, 168, 169, 170, 171, 172, 173, 174, 175, 176, 177, 178, 179, 180, 181, 182, 183, 184, 185, 151, 152, 153, 154, 155, 156, 157, 158, 159, 186, 187, 188, 189, 190, 191, 192, 193, 194, 195, 196, 197, 198, 199, 200, 201, 202, 203] (by decide +kernel) (by decide +kernel)
set_option maxRecDepth 20000 in
theorem gX8_settings_X8_apply : GoodIn wsX8_settings (wsV RX8 80 RX8 yX8_apply wsX8_apply) := goodIn_app (goodIn_of _ (by decide +kernel)) ggX8_settings_X8_apply
theorem dX8_settings_0 : decode cX8_settings 0 = .ok (.aload_n 0, 1) := by decide +kernel
theorem dX8_settings_1 : decode cX8_settings 1 = .ok (.getfield 51, 3) := by decide +kernel
theorem dX8_settings_4 : decode cX8_settings 4 = .ok (.invokevirtual 63, 3) := by decide +kernel
theorem dX8_settings_7 : decode cX8_settings 7 = .ok (.iconst (-1), 1) := by decide +kernel
theorem dX8_settings_8 : decode cX8_settings 8 = .ok (.if_icmp .eq 6, 3) := by decide +kernel
theorem dX8_settings_11 : decode cX8_settings 11 = .ok (.bipush (-4), 2) := by decide +kernel
theorem dX8_settings_13 : decode cX8_settings 13 = .ok (.ireturn, 1) := by decide +kernel
theorem dX8_settings_14 : decode cX8_settings 14 = .ok (.aload_n 0, 1) := by decide +kernel
theorem dX8_settings_15 : decode cX8_settings 15 = .ok (.getfield 51, 3) := by decide +kernel
theorem dX8_settings_18 : decode cX8_settings 18 = .ok (.getfield 67, 3) := by decide +kernel
theorem dX8_settings_21 : decode cX8_settings 21 = .ok (.istore_n 1, 1) := by decide +kernel
theorem dX8_settings_22 : decode cX8_settings 22 = .ok (.iconst 0, 1) := by decide +kernel
theorem dX8_settings_23 : decode cX8_settings 23 = .ok (.istore_n 2, 1) := by decide +kernel
theorem dX8_settings_24 : decode cX8_settings 24 = .ok (.iload_n 2, 1) := by decide +kernel
theorem dX8_settings_25 : decode cX8_settings 25 = .ok (.iload_n 1, 1) := by decide +kernel
theorem dX8_settings_26 : decode cX8_settings 26 = .ok (.if_icmp .ge 37, 3) := by decide +kernel
theorem dX8_settings_29 : decode cX8_settings 29 = .ok (.aload_n 0, 1) := by decide +kernel
theorem dX8_settings_30 : decode cX8_settings 30 = .ok (.aload_n 0, 1) := by decide +kernel
theorem dX8_settings_31 : decode cX8_settings 31 = .ok (.getfield 51, 3) := by decide +kernel
theorem dX8_settings_34 : decode cX8_settings 34 = .ok (.iload_n 2, 1) := by decide +kernel
theorem dX8_settings_35 : decode cX8_settings 35 = .ok (.invokevirtual 70, 3) := by decide +kernel
theorem dX8_settings_38 : decode cX8_settings 38 = .ok (.aload_n 0, 1) := by decide +kernel
theorem dX8_settings_39 : decode cX8_settings 39 = .ok (.getfield 51, 3) := by decide +kernel
theorem dX8_settings_42 : decode cX8_settings 42 = .ok (.iload_n 2, 1) := by decide +kernel
theorem dX8_settings_43 : decode cX8_settings 43 = .ok (.invokevirtual 74, 3) := by decide +kernel
theorem dX8_settings_46 : decode cX8_settings 46 = .ok (.aload_n 0, 1) := by decide +kernel
theorem dX8_settings_47 : decode cX8_settings 47 = .ok (.getfield 51, 3) := by decide +kernel
theorem dX8_settings_50 : decode cX8_settings 50 = .ok (.iload_n 2, 1) := by decide +kernel
theorem dX8_settings_51 : decode cX8_settings 51 = .ok (.invokevirtual 77, 3) := by decide +kernel
theorem dX8_settings_54 : decode cX8_settings 54 = .ok (.invokevirtual 80, 3) := by decide +kernel
theorem dX8_settings_57 : decode cX8_settings 57 = .ok (.iinc 2 1, 3) := by decide +kernel
theorem dX8_settings_60 : decode cX8_settings 60 = .ok (.goto (-36), 3) := by decide +kernel
theorem dX8_settings_63 : decode cX8_settings 63 = .ok (.aload_n 0, 1) := by decide +kernel
theorem dX8_settings_64 : decode cX8_settings 64 = .ok (.getfield 51, 3) := by decide +kernel
theorem dX8_settings_67 : decode cX8_settings 67 = .ok (.iconst 0, 1) := by decide +kernel
theorem dX8_settings_68 : decode cX8_settings 68 = .ok (.putfield 59, 3) := by decide +kernel
theorem dX8_settings_71 : decode cX8_settings 71 = .ok (.iload_n 1, 1) := by decide +kernel
theorem dX8_settings_72 : decode cX8_settings 72 = .ok (.ireturn, 1) := by decide +kernel
set_option maxRecDepth 20000 in
theorem ggX8_offer_X8_isSide : GoodIn wsX8_offer wsX8_isSide := goodIn_r _ [6] (by decide +kernel) (by decide +kernel)
set_option maxRecDepth 20000 in
theorem gX8_offer_X8_isSide : GoodIn wsX8_offer (va_wsS RX8 84 yX8_isSide wsX8_isSide) := goodIn_app (goodIn_of _ (by decide +kernel)) ggX8_offer_X8_isSide
set_option maxRecDepth 20000 in
theorem ggX8_offer_X8_peerOf : GoodIn wsX8_offer wsX8_peerOf := goodIn_r _ [10, 11, 12, 13, 14, 33, 34, 35, 36, 37, 38, 39, 40, 41, 42, 43, 44, 45, 46, 47, 48, 49, 50, 51, 52, 53, 54, 55, 56, 57, 58, 59] (by decide +kernel) (by decide +kernel)
set_option maxRecDepth 20000 in
theorem gX8_offer_X8_peerOf : GoodIn wsX8_offer (wsV RX8 87 RX8 yX8_peerOf wsX8_peerOf) := goodIn_app (goodIn_of _ (by decide +kernel)) ggX8_offer_X8_peerOf
theorem dX8_offer_0 : decode cX8_offer 0 = .ok (.iload_n 1, 1) := by decide +kernel
theorem dX8_offer_1 : decode cX8_offer 1 = .ok (.invokestatic 84, 3) := by decide +kernel
theorem dX8_offer_4 : decode cX8_offer 4 = .ok (.ifCond .ne 6, 3) := by decide +kernel
theorem dX8_offer_7 : decode cX8_offer 7 = .ok (.bipush (-2), 2) := by decide +kernel
theorem dX8_offer_9 : decode cX8_offer 9 = .ok (.ireturn, 1) := by decide +kernel
theorem dX8_offer_10 : decode cX8_offer 10 = .ok (.iload_n 2, 1) := by decide +kernel
theorem dX8_offer_11 : decode cX8_offer 11 = .ok (.iconst 1, 1) := by decide +kernel
theorem dX8_offer_12 : decode cX8_offer 12 = .ok (.if_icmp .lt 20, 3) := by decide +kernel
theorem dX8_offer_15 : decode cX8_offer 15 = .ok (.iload_n 2, 1) := by decide +kernel
theorem dX8_offer_16 : decode cX8_offer 16 = .ok (.bipush 7, 2) := by decide +kernel
theorem dX8_offer_18 : decode cX8_offer 18 = .ok (.if_icmp .gt 14, 3) := by decide +kernel
theorem dX8_offer_21 : decode cX8_offer 21 = .ok (.iload_n 3, 1) := by decide +kernel
theorem dX8_offer_22 : decode cX8_offer 22 = .ok (.iconst 1, 1) := by decide +kernel
theorem dX8_offer_23 : decode cX8_offer 23 = .ok (.if_icmp .lt 9, 3) := by decide +kernel
theorem dX8_offer_26 : decode cX8_offer 26 = .ok (.iload_n 3, 1) := by decide +kernel
theorem dX8_offer_27 : decode cX8_offer 27 = .ok (.bipush 15, 2) := by decide +kernel
theorem dX8_offer_29 : decode cX8_offer 29 = .ok (.if_icmp .le 6, 3) := by decide +kernel
theorem dX8_offer_32 : decode cX8_offer 32 = .ok (.bipush (-3), 2) := by decide +kernel
theorem dX8_offer_34 : decode cX8_offer 34 = .ok (.ireturn, 1) := by decide +kernel
theorem dX8_offer_35 : decode cX8_offer 35 = .ok (.aload_n 0, 1) := by decide +kernel
theorem dX8_offer_36 : decode cX8_offer 36 = .ok (.iload_n 1, 1) := by decide +kernel
theorem dX8_offer_37 : decode cX8_offer 37 = .ok (.invokevirtual 87, 3) := by decide +kernel
theorem dX8_offer_40 : decode cX8_offer 40 = .ok (.astore 4, 2) := by decide +kernel
theorem dX8_offer_42 : decode cX8_offer 42 = .ok (.aload 4, 2) := by decide +kernel
theorem dX8_offer_44 : decode cX8_offer 44 = .ok (.getfield 91, 3) := by decide +kernel
theorem dX8_offer_47 : decode cX8_offer 47 = .ok (.istore 5, 2) := by decide +kernel
theorem dX8_offer_49 : decode cX8_offer 49 = .ok (.aload 4, 2) := by decide +kernel
theorem dX8_offer_51 : decode cX8_offer 51 = .ok (.iload_n 2, 1) := by decide +kernel
theorem dX8_offer_52 : decode cX8_offer 52 = .ok (.putfield 91, 3) := by decide +kernel
theorem dX8_offer_55 : decode cX8_offer 55 = .ok (.aload 4, 2) := by decide +kernel
theorem dX8_offer_57 : decode cX8_offer 57 = .ok (.iload_n 3, 1) := by decide +kernel
theorem dX8_offer_58 : decode cX8_offer 58 = .ok (.putfield 96, 3) := by decide +kernel
theorem dX8_offer_61 : decode cX8_offer 61 = .ok (.iload 5, 2) := by decide +kernel
theorem dX8_offer_63 : decode cX8_offer 63 = .ok (.ireturn, 1) := by decide +kernel
set_option maxRecDepth 20000 in
theorem ggX8_secret_X8_isSide : GoodIn wsX8_secret wsX8_isSide := goodIn_r _ [5] (by decide +kernel) (by decide +kernel)
set_option maxRecDepth 20000 in
theorem gX8_secret_X8_isSide : GoodIn wsX8_secret (va_wsS RX8 84 yX8_isSide wsX8_isSide) := goodIn_app (goodIn_of _ (by decide +kernel)) ggX8_secret_X8_isSide
set_option maxRecDepth 20000 in
theorem ggX8_secret_X8_peerOf : GoodIn wsX8_secret wsX8_peerOf := goodIn_r _ [9, 10, 11, 12, 13, 32, 33, 34, 35, 36, 37, 38, 39, 40, 41, 42, 43, 44, 45, 46, 47, 48, 49, 50, 51, 52, 53, 54, 55, 56, 57, 58] (by decide +kernel) (by decide +kernel)
set_option maxRecDepth 20000 in
theorem gX8_secret_X8_peerOf : GoodIn wsX8_secret (wsV RX8 87 RX8 yX8_peerOf wsX8_peerOf) := goodIn_app (goodIn_of _ (by decide +kernel)) ggX8_secret_X8_peerOf
theorem dX8_secret_0 : decode cX8_secret 0 = .ok (.iload_n 1, 1) := by decide +kernel
theorem dX8_secret_1 : decode cX8_secret 1 = .ok (.invokestatic 84, 3) := by decide +kernel
theorem dX8_secret_4 : decode cX8_secret 4 = .ok (.ifCond .ne 6, 3) := by decide +kernel
theorem dX8_secret_7 : decode cX8_secret 7 = .ok (.bipush (-2), 2) := by decide +kernel
theorem dX8_secret_9 : decode cX8_secret 9 = .ok (.ireturn, 1) := by decide +kernel
theorem dX8_secret_10 : decode cX8_secret 10 = .ok (.iload_n 2, 1) := by decide +kernel
theorem dX8_secret_11 : decode cX8_secret 11 = .ok (.iconst 1, 1) := by decide +kernel
theorem dX8_secret_12 : decode cX8_secret 12 = .ok (.if_icmp .lt 10, 3) := by decide +kernel
theorem dX8_secret_15 : decode cX8_secret 15 = .ok (.iload_n 2, 1) := by decide +kernel
theorem dX8_secret_16 : decode cX8_secret 16 = .ok (.sipush 999, 3) := by decide +kernel
theorem dX8_secret_19 : decode cX8_secret 19 = .ok (.if_icmp .le 6, 3) := by decide +kernel
theorem dX8_secret_22 : decode cX8_secret 22 = .ok (.bipush (-3), 2) := by decide +kernel
theorem dX8_secret_24 : decode cX8_secret 24 = .ok (.ireturn, 1) := by decide +kernel
theorem dX8_secret_25 : decode cX8_secret 25 = .ok (.aload_n 0, 1) := by decide +kernel
theorem dX8_secret_26 : decode cX8_secret 26 = .ok (.iload_n 1, 1) := by decide +kernel
theorem dX8_secret_27 : decode cX8_secret 27 = .ok (.invokevirtual 87, 3) := by decide +kernel
theorem dX8_secret_30 : decode cX8_secret 30 = .ok (.astore_n 3, 1) := by decide +kernel
theorem dX8_secret_31 : decode cX8_secret 31 = .ok (.aload_n 3, 1) := by decide +kernel
theorem dX8_secret_32 : decode cX8_secret 32 = .ok (.getfield 99, 3) := by decide +kernel
theorem dX8_secret_35 : decode cX8_secret 35 = .ok (.istore 4, 2) := by decide +kernel
theorem dX8_secret_37 : decode cX8_secret 37 = .ok (.aload_n 3, 1) := by decide +kernel
theorem dX8_secret_38 : decode cX8_secret 38 = .ok (.iload_n 2, 1) := by decide +kernel
theorem dX8_secret_39 : decode cX8_secret 39 = .ok (.putfield 99, 3) := by decide +kernel
theorem dX8_secret_42 : decode cX8_secret 42 = .ok (.iload 4, 2) := by decide +kernel
theorem dX8_secret_44 : decode cX8_secret 44 = .ok (.ireturn, 1) := by decide +kernel
set_option maxRecDepth 20000 in
theorem ggX8_guess_X8_isGroup : GoodIn wsX8_guess wsX8_isGroup := goodIn_r _ [6] (by decide +kernel) (by decide +kernel)
set_option maxRecDepth 20000 in
theorem gX8_guess_X8_isGroup : GoodIn wsX8_guess (va_wsS RX8 102 yX8_isGroup wsX8_isGroup) := goodIn_app (goodIn_of _ (by decide +kernel)) ggX8_guess_X8_isGroup
theorem dX8_guess_0 : decode cX8_guess 0 = .ok (.iload_n 1, 1) := by decide +kernel
theorem dX8_guess_1 : decode cX8_guess 1 = .ok (.invokestatic 102, 3) := by decide +kernel
theorem dX8_guess_4 : decode cX8_guess 4 = .ok (.ifCond .ne 6, 3) := by decide +kernel
theorem dX8_guess_7 : decode cX8_guess 7 = .ok (.bipush (-3), 2) := by decide +kernel
theorem dX8_guess_9 : decode cX8_guess 9 = .ok (.ireturn, 1) := by decide +kernel
theorem dX8_guess_10 : decode cX8_guess 10 = .ok (.aload_n 0, 1) := by decide +kernel
theorem dX8_guess_11 : decode cX8_guess 11 = .ok (.getfield 10, 3) := by decide +kernel
theorem dX8_guess_14 : decode cX8_guess 14 = .ok (.getfield 105, 3) := by decide +kernel
theorem dX8_guess_17 : decode cX8_guess 17 = .ok (.istore_n 2, 1) := by decide +kernel
theorem dX8_guess_18 : decode cX8_guess 18 = .ok (.aload_n 0, 1) := by decide +kernel
theorem dX8_guess_19 : decode cX8_guess 19 = .ok (.getfield 10, 3) := by decide +kernel
theorem dX8_guess_22 : decode cX8_guess 22 = .ok (.iload_n 1, 1) := by decide +kernel
theorem dX8_guess_23 : decode cX8_guess 23 = .ok (.putfield 105, 3) := by decide +kernel
theorem dX8_guess_26 : decode cX8_guess 26 = .ok (.iload_n 2, 1) := by decide +kernel
theorem dX8_guess_27 : decode cX8_guess 27 = .ok (.ireturn, 1) := by decide +kernel
theorem dX8_early_0 : decode cX8_early 0 = .ok (.iload_n 1, 1) := by decide +kernel
theorem dX8_early_1 : decode cX8_early 1 = .ok (.iconst (-1), 1) := by decide +kernel
theorem dX8_early_2 : decode cX8_early 2 = .ok (.if_icmp .eq 17, 3) := by decide +kernel
theorem dX8_early_5 : decode cX8_early 5 = .ok (.iload_n 1, 1) := by decide +kernel
theorem dX8_early_6 : decode cX8_early 6 = .ok (.ifCond .lt 10, 3) := by decide +kernel
theorem dX8_early_9 : decode cX8_early 9 = .ok (.iload_n 1, 1) := by decide +kernel
theorem dX8_early_10 : decode cX8_early 10 = .ok (.sipush 999, 3) := by decide +kernel
theorem dX8_early_13 : decode cX8_early 13 = .ok (.if_icmp .le 6, 3) := by decide +kernel
theorem dX8_early_16 : decode cX8_early 16 = .ok (.bipush (-3), 2) := by decide +kernel
theorem dX8_early_18 : decode cX8_early 18 = .ok (.ireturn, 1) := by decide +kernel
theorem dX8_early_19 : decode cX8_early 19 = .ok (.aload_n 0, 1) := by decide +kernel
theorem dX8_early_20 : decode cX8_early 20 = .ok (.getfield 10, 3) := by decide +kernel
theorem dX8_early_23 : decode cX8_early 23 = .ok (.getfield 108, 3) := by decide +kernel
theorem dX8_early_26 : decode cX8_early 26 = .ok (.istore_n 2, 1) := by decide +kernel
theorem dX8_early_27 : decode cX8_early 27 = .ok (.aload_n 0, 1) := by decide +kernel
theorem dX8_early_28 : decode cX8_early 28 = .ok (.getfield 10, 3) := by decide +kernel
theorem dX8_early_31 : decode cX8_early 31 = .ok (.iload_n 1, 1) := by decide +kernel
theorem dX8_early_32 : decode cX8_early 32 = .ok (.putfield 108, 3) := by decide +kernel
theorem dX8_early_35 : decode cX8_early 35 = .ok (.iload_n 2, 1) := by decide +kernel
theorem dX8_early_36 : decode cX8_early 36 = .ok (.ireturn, 1) := by decide +kernel
set_option maxRecDepth 20000 in
theorem ggX8_hello_X0_begin : GoodIn wsX8_hello wsX0_begin := goodIn_r _ [11, 12, 13, 14, 15, 16, 17, 18, 19, 20, 21, 22, 23, 24, 25, 26, 27, 10, 28, 29, 30, 31, 32, 33, 34, 35, 36, 37, 38, 39, 40, 41, 42, 43, 44, 45, 46, 47, 48, 49, 50, 51, 52, 53, 54, 55, 56, 57, 58, 59, 60, 61, 62, 63, 64, 65, 66, 67, 68, 69, 70, 71, 72, 73, 74, 75, 76, 77, 78, 79, 80, 81, 82, 83, 84, 85, 86, 87, 88, 89, 90, 91, 92, 93, 94, 95, 96, 106, 107, 108, 109, 110, 111, 112, 113, 114, 115, 116, 117, 118, 119, 120, 121, 122, 123, 124, 125, 126, 127, 128, 129, 130, 131, 132, 136, 137, 138, 139, 140, 141, 133, 134, 135] (by decide +kernel) (by decide +kernel)
set_option maxRecDepth 20000 in
theorem gX8_hello_X0_begin : GoodIn wsX8_hello (wsV RX8 121 RX0 yX0_begin wsX0_begin) := goodIn_app (goodIn_of _ (by decide +kernel)) ggX8_hello_X0_begin
theorem dX8_hello_0 : decode cX8_hello 0 = .ok (.aload_n 0, 1) := by decide +kernel
theorem dX8_hello_1 : decode cX8_hello 1 = .ok (.getfield 10, 3) := by decide +kernel
theorem dX8_hello_4 : decode cX8_hello 4 = .ok (.getfield 111, 3) := by decide +kernel
theorem dX8_hello_7 : decode cX8_hello 7 = .ok (.getfield 115, 3) := by decide +kernel
theorem dX8_hello_10 : decode cX8_hello 10 = .ok (.ifCond .eq 6, 3) := by decide +kernel
theorem dX8_hello_13 : decode cX8_hello 13 = .ok (.bipush (-4), 2) := by decide +kernel
theorem dX8_hello_15 : decode cX8_hello 15 = .ok (.ireturn, 1) := by decide +kernel
theorem dX8_hello_16 : decode cX8_hello 16 = .ok (.aload_n 0, 1) := by decide +kernel
theorem dX8_hello_17 : decode cX8_hello 17 = .ok (.getfield 10, 3) := by decide +kernel
theorem dX8_hello_20 : decode cX8_hello 20 = .ok (.aload_n 0, 1) := by decide +kernel
theorem dX8_hello_21 : decode cX8_hello 21 = .ok (.getfield 118, 3) := by decide +kernel
theorem dX8_hello_24 : decode cX8_hello 24 = .ok (.aload_n 0, 1) := by decide +kernel
theorem dX8_hello_25 : decode cX8_hello 25 = .ok (.getfield 30, 3) := by decide +kernel
theorem dX8_hello_28 : decode cX8_hello 28 = .ok (.invokevirtual 121, 3) := by decide +kernel
theorem dX8_hello_31 : decode cX8_hello 31 = .ok (.aload_n 0, 1) := by decide +kernel
theorem dX8_hello_32 : decode cX8_hello 32 = .ok (.getfield 30, 3) := by decide +kernel
theorem dX8_hello_35 : decode cX8_hello 35 = .ok (.getfield 125, 3) := by decide +kernel
theorem dX8_hello_38 : decode cX8_hello 38 = .ok (.ireturn, 1) := by decide +kernel
set_option maxRecDepth 20000 in
theorem ggX8_step_X8_isSide : GoodIn wsX8_step wsX8_isSide := goodIn_r _ [11] (by decide +kernel) (by decide +kernel)
set_option maxRecDepth 20000 in
theorem gX8_step_X8_isSide : GoodIn wsX8_step (va_wsS RX8 84 yX8_isSide wsX8_isSide) := goodIn_app (goodIn_of _ (by decide +kernel)) ggX8_step_X8_isSide
set_option maxRecDepth 20000 in
theorem ggX8_step_X8_roadTo : GoodIn wsX8_step wsX8_roadTo := goodIn_r _ [15, 7, 5, 272, 273, 274, 275, 276, 277, 278, 279, 280] (by decide +kernel) (by decide +kernel)
set_option maxRecDepth 20000 in
theorem gX8_step_X8_roadTo : GoodIn wsX8_step (wsV RX8 126 RX8 yX8_roadTo wsX8_roadTo) := goodIn_app (goodIn_of _ (by decide +kernel)) ggX8_step_X8_roadTo
set_option maxRecDepth 20000 in
theorem ggX8_step_X4_takeFirst : GoodIn wsX8_step wsX4_takeFirst := goodIn_r _ [20, 21, 22, 23, 24, 25, 26, 27, 28, 269, 270, 271, 281] (by decide +kernel) (by decide +kernel)
set_option maxRecDepth 20000 in
theorem gX8_step_X4_takeFirst : GoodIn wsX8_step (wsV RX8 130 RX4 yX4_takeFirst wsX4_takeFirst) := goodIn_app (goodIn_of _ (by decide +kernel)) ggX8_step_X4_takeFirst
set_option maxRecDepth 20000 in
theorem ggX8_step_X0_receive : GoodIn wsX8_step wsX0_receive := goodIn_r _ [33, 34, 35, 36, 37, 38, 26, 39, 28, 40, 41, 42, 43, 44, 45, 32, 46, 47, 48, 49, 50, 10, 51, 52, 53, 54, 55, 56, 57, 58, 59, 60, 61, 62, 63, 64, 65, 66, 67, 68, 69, 70, 71, 72, 73, 74, 75, 76, 77, 78, 79, 80, 81, 82, 83, 84, 85, 86, 87, 88, 89, 90, 91, 92, 93, 94, 95, 96, 97, 98, 99, 100, 101, 102, 103, 104, 105, 106, 107, 108, 109, 110, 111, 112, 113, 114, 19, 115, 21, 116, 22, 23, 24, 25, 27, 117, 118, 119, 120, 121, 122, 123, 124, 125, 126, 127, 128, 129, 130, 131, 132, 133, 134, 135, 136, 137, 138, 139, 140, 141, 142, 143, 144, 145, 146, 147, 148, 149, 150, 151, 152, 153, 154, 155, 156, 157, 158, 159, 160, 161, 162, 163, 164, 165, 166, 167, 168, 169, 170, 171, 172, 173, 174, 175, 176, 177, 178, 179, 180, 181, 182, 183, 184, 185, 186, 187, 188, 189, 190, 191, 192, 282, 283, 284, 285, 286, 287, 288, 289, 290, 291, 292, 293, 294, 295, 296, 297, 298, 299, 300, 301, 302, 303, 304, 305, 306, 307, 308, 281, 309, 310, 311, 312, 313, 269, 270, 271, 314, 315, 316] (by decide +kernel) (by decide +kernel)
set_option maxRecDepth 20000 in
theorem gX8_step_X0_receive : GoodIn wsX8_step (wsV RX8 134 RX0 yX0_receive wsX0_receive) := goodIn_app (goodIn_of _ (by decide +kernel)) ggX8_step_X0_receive
set_option maxRecDepth 20000 in
theorem ggX8_step_X5_receive : GoodIn wsX8_step wsX5_receive := goodIn_r _ [197, 198, 199, 200, 37, 38, 26, 39, 28, 40, 41, 42, 201, 202, 203, 196, 204, 205, 206, 207, 208, 209, 210, 211, 212, 213, 214, 215, 216, 10, 217, 218, 219, 220, 221, 133, 134, 102, 103, 104, 222, 56, 57, 58, 59, 60, 61, 223, 224, 225, 226, 227, 228, 63, 64, 65, 66, 67, 68, 69, 70, 71, 72, 73, 74, 229, 93, 94, 95, 230, 97, 98, 99, 231, 113, 114, 19, 115, 21, 116, 22, 23, 24, 25, 27, 232, 233, 234, 235, 236, 237, 238, 108, 109, 110, 111, 239, 240, 241, 242, 243, 244, 245, 246, 247, 248, 249, 250, 251, 252, 253, 254, 255, 256, 135, 136, 105, 106, 107, 257, 258, 259, 260, 100, 101, 131, 132, 261, 138, 139, 140, 141, 262, 263, 264, 265, 266, 143, 144, 145, 146, 147, 148, 149, 150, 151, 152, 153, 154, 155, 267, 163, 164, 165, 166, 167, 168, 169, 170, 171, 172, 173, 174, 175, 176, 177, 178, 179, 180, 181, 182, 183, 184, 185, 186, 187, 188, 189, 190, 191, 192, 317, 318, 319, 320, 321, 322, 323, 324, 325, 291, 292, 293, 294, 295, 296, 297, 298, 299, 300, 301, 302, 303, 304, 305, 306, 307, 308, 281, 309, 310, 311, 312, 313, 269, 270, 271, 314, 315, 316] (by decide +kernel) (by decide +kernel)
set_option maxRecDepth 20000 in
theorem gX8_step_X5_receive : GoodIn wsX8_step (wsV RX8 138 RX5 yX5_receive wsX5_receive) := goodIn_app (goodIn_of _ (by decide +kernel)) ggX8_step_X5_receive
set_option maxRecDepth 20000 in
theorem ggX8_step_X2_at : GoodIn wsX8_step wsX2_at := goodIn_r _ [39, 28, 40, 41, 26, 42, 281] (by decide +kernel) (by decide +kernel)
set_option maxRecDepth 20000 in
theorem gX8_step_X2_at : GoodIn wsX8_step (wsV RX8 139 RX2 yX2_at wsX2_at) := goodIn_app (goodIn_of _ (by decide +kernel)) ggX8_step_X2_at
theorem dX8_step_0 : decode cX8_step 0 = .ok (.iload_n 1, 1) := by decide +kernel
theorem dX8_step_1 : decode cX8_step 1 = .ok (.invokestatic 84, 3) := by decide +kernel
theorem dX8_step_4 : decode cX8_step 4 = .ok (.ifCond .ne 6, 3) := by decide +kernel
theorem dX8_step_7 : decode cX8_step 7 = .ok (.bipush (-2), 2) := by decide +kernel
theorem dX8_step_9 : decode cX8_step 9 = .ok (.ireturn, 1) := by decide +kernel
theorem dX8_step_10 : decode cX8_step 10 = .ok (.aload_n 0, 1) := by decide +kernel
theorem dX8_step_11 : decode cX8_step 11 = .ok (.iload_n 1, 1) := by decide +kernel
theorem dX8_step_12 : decode cX8_step 12 = .ok (.invokevirtual 126, 3) := by decide +kernel
theorem dX8_step_15 : decode cX8_step 15 = .ok (.astore_n 2, 1) := by decide +kernel
theorem dX8_step_16 : decode cX8_step 16 = .ok (.aload_n 2, 1) := by decide +kernel
theorem dX8_step_17 : decode cX8_step 17 = .ok (.getfield 125, 3) := by decide +kernel
theorem dX8_step_20 : decode cX8_step 20 = .ok (.ifCond .ne 6, 3) := by decide +kernel
theorem dX8_step_23 : decode cX8_step 23 = .ok (.bipush (-4), 2) := by decide +kernel
theorem dX8_step_25 : decode cX8_step 25 = .ok (.ireturn, 1) := by decide +kernel
theorem dX8_step_26 : decode cX8_step 26 = .ok (.aload_n 2, 1) := by decide +kernel
theorem dX8_step_27 : decode cX8_step 27 = .ok (.aload_n 0, 1) := by decide +kernel
theorem dX8_step_28 : decode cX8_step 28 = .ok (.getfield 36, 3) := by decide +kernel
theorem dX8_step_31 : decode cX8_step 31 = .ok (.invokevirtual 130, 3) := by decide +kernel
theorem dX8_step_34 : decode cX8_step 34 = .ok (.iload_n 1, 1) := by decide +kernel
theorem dX8_step_35 : decode cX8_step 35 = .ok (.ifCond .ne 25, 3) := by decide +kernel
theorem dX8_step_38 : decode cX8_step 38 = .ok (.aload_n 0, 1) := by decide +kernel
theorem dX8_step_39 : decode cX8_step 39 = .ok (.getfield 10, 3) := by decide +kernel
theorem dX8_step_42 : decode cX8_step 42 = .ok (.aload_n 0, 1) := by decide +kernel
theorem dX8_step_43 : decode cX8_step 43 = .ok (.getfield 36, 3) := by decide +kernel
theorem dX8_step_46 : decode cX8_step 46 = .ok (.aload_n 0, 1) := by decide +kernel
theorem dX8_step_47 : decode cX8_step 47 = .ok (.getfield 118, 3) := by decide +kernel
theorem dX8_step_50 : decode cX8_step 50 = .ok (.aload_n 0, 1) := by decide +kernel
theorem dX8_step_51 : decode cX8_step 51 = .ok (.getfield 30, 3) := by decide +kernel
theorem dX8_step_54 : decode cX8_step 54 = .ok (.invokevirtual 134, 3) := by decide +kernel
theorem dX8_step_57 : decode cX8_step 57 = .ok (.goto 22, 3) := by decide +kernel
theorem dX8_step_60 : decode cX8_step 60 = .ok (.aload_n 0, 1) := by decide +kernel
theorem dX8_step_61 : decode cX8_step 61 = .ok (.getfield 19, 3) := by decide +kernel
theorem dX8_step_64 : decode cX8_step 64 = .ok (.aload_n 0, 1) := by decide +kernel
theorem dX8_step_65 : decode cX8_step 65 = .ok (.getfield 36, 3) := by decide +kernel
theorem dX8_step_68 : decode cX8_step 68 = .ok (.aload_n 0, 1) := by decide +kernel
theorem dX8_step_69 : decode cX8_step 69 = .ok (.getfield 118, 3) := by decide +kernel
theorem dX8_step_72 : decode cX8_step 72 = .ok (.aload_n 0, 1) := by decide +kernel
theorem dX8_step_73 : decode cX8_step 73 = .ok (.getfield 26, 3) := by decide +kernel
theorem dX8_step_76 : decode cX8_step 76 = .ok (.invokevirtual 138, 3) := by decide +kernel
theorem dX8_step_79 : decode cX8_step 79 = .ok (.aload_n 0, 1) := by decide +kernel
theorem dX8_step_80 : decode cX8_step 80 = .ok (.getfield 36, 3) := by decide +kernel
theorem dX8_step_83 : decode cX8_step 83 = .ok (.iconst 0, 1) := by decide +kernel
theorem dX8_step_84 : decode cX8_step 84 = .ok (.invokevirtual 139, 3) := by decide +kernel
theorem dX8_step_87 : decode cX8_step 87 = .ok (.ireturn, 1) := by decide +kernel
set_option maxRecDepth 20000 in
theorem ggX8_ticket_X5_makeTicket : GoodIn wsX8_ticket wsX5_makeTicket := goodIn_r _ [11, 12, 13, 14, 15, 16, 17, 18, 19, 20, 21, 22, 23, 10, 24, 25, 26, 27, 28, 29, 30, 31, 32, 33, 34, 35, 36, 37, 38, 39, 40, 41, 42, 43, 44, 45, 46, 47, 48, 49, 50, 51, 52, 53, 54, 55, 65, 66, 67, 68, 69, 70, 71, 72, 73, 92, 93, 94, 95, 96, 74, 75, 76, 77, 78, 79, 80, 81, 82, 83, 84, 85, 86, 87, 88, 89, 90, 91, 97, 98, 99, 100] (by decide +kernel) (by decide +kernel)
set_option maxRecDepth 20000 in
theorem gX8_ticket_X5_makeTicket : GoodIn wsX8_ticket (wsV RX8 146 RX5 yX5_makeTicket wsX5_makeTicket) := goodIn_app (goodIn_of _ (by decide +kernel)) ggX8_ticket_X5_makeTicket
theorem dX8_ticket_0 : decode cX8_ticket 0 = .ok (.iload_n 1, 1) := by decide +kernel
theorem dX8_ticket_1 : decode cX8_ticket 1 = .ok (.ifCond .lt 9, 3) := by decide +kernel
theorem dX8_ticket_4 : decode cX8_ticket 4 = .ok (.iload_n 1, 1) := by decide +kernel
theorem dX8_ticket_5 : decode cX8_ticket 5 = .ok (.bipush 99, 2) := by decide +kernel
theorem dX8_ticket_7 : decode cX8_ticket 7 = .ok (.if_icmp .le 6, 3) := by decide +kernel
theorem dX8_ticket_10 : decode cX8_ticket 10 = .ok (.bipush (-3), 2) := by decide +kernel
theorem dX8_ticket_12 : decode cX8_ticket 12 = .ok (.ireturn, 1) := by decide +kernel
theorem dX8_ticket_13 : decode cX8_ticket 13 = .ok (.aload_n 0, 1) := by decide +kernel
theorem dX8_ticket_14 : decode cX8_ticket 14 = .ok (.getfield 19, 3) := by decide +kernel
theorem dX8_ticket_17 : decode cX8_ticket 17 = .ok (.getfield 142, 3) := by decide +kernel
theorem dX8_ticket_20 : decode cX8_ticket 20 = .ok (.getfield 115, 3) := by decide +kernel
theorem dX8_ticket_23 : decode cX8_ticket 23 = .ok (.iconst 4, 1) := by decide +kernel
theorem dX8_ticket_24 : decode cX8_ticket 24 = .ok (.if_icmp .ne 17, 3) := by decide +kernel
theorem dX8_ticket_27 : decode cX8_ticket 27 = .ok (.aload_n 0, 1) := by decide +kernel
theorem dX8_ticket_28 : decode cX8_ticket 28 = .ok (.getfield 19, 3) := by decide +kernel
theorem dX8_ticket_31 : decode cX8_ticket 31 = .ok (.getfield 142, 3) := by decide +kernel
theorem dX8_ticket_34 : decode cX8_ticket 34 = .ok (.getfield 143, 3) := by decide +kernel
theorem dX8_ticket_37 : decode cX8_ticket 37 = .ok (.iconst 3, 1) := by decide +kernel
theorem dX8_ticket_38 : decode cX8_ticket 38 = .ok (.if_icmp .eq 6, 3) := by decide +kernel
theorem dX8_ticket_41 : decode cX8_ticket 41 = .ok (.bipush (-4), 2) := by decide +kernel
theorem dX8_ticket_43 : decode cX8_ticket 43 = .ok (.ireturn, 1) := by decide +kernel
theorem dX8_ticket_44 : decode cX8_ticket 44 = .ok (.aload_n 0, 1) := by decide +kernel
theorem dX8_ticket_45 : decode cX8_ticket 45 = .ok (.getfield 19, 3) := by decide +kernel
theorem dX8_ticket_48 : decode cX8_ticket 48 = .ok (.iload_n 1, 1) := by decide +kernel
theorem dX8_ticket_49 : decode cX8_ticket 49 = .ok (.aload_n 0, 1) := by decide +kernel
theorem dX8_ticket_50 : decode cX8_ticket 50 = .ok (.getfield 118, 3) := by decide +kernel
theorem dX8_ticket_53 : decode cX8_ticket 53 = .ok (.aload_n 0, 1) := by decide +kernel
theorem dX8_ticket_54 : decode cX8_ticket 54 = .ok (.getfield 26, 3) := by decide +kernel
theorem dX8_ticket_57 : decode cX8_ticket 57 = .ok (.invokevirtual 146, 3) := by decide +kernel
theorem dX8_ticket_60 : decode cX8_ticket 60 = .ok (.ireturn, 1) := by decide +kernel
theorem dX8_forget_0 : decode cX8_forget 0 = .ok (.aload_n 0, 1) := by decide +kernel
theorem dX8_forget_1 : decode cX8_forget 1 = .ok (.getfield 10, 3) := by decide +kernel
theorem dX8_forget_4 : decode cX8_forget 4 = .ok (.getfield 150, 3) := by decide +kernel
theorem dX8_forget_7 : decode cX8_forget 7 = .ok (.ifCond .ne 6, 3) := by decide +kernel
theorem dX8_forget_10 : decode cX8_forget 10 = .ok (.bipush (-4), 2) := by decide +kernel
theorem dX8_forget_12 : decode cX8_forget 12 = .ok (.ireturn, 1) := by decide +kernel
theorem dX8_forget_13 : decode cX8_forget 13 = .ok (.aload_n 0, 1) := by decide +kernel
theorem dX8_forget_14 : decode cX8_forget 14 = .ok (.getfield 10, 3) := by decide +kernel
theorem dX8_forget_17 : decode cX8_forget 17 = .ok (.iconst 0, 1) := by decide +kernel
theorem dX8_forget_18 : decode cX8_forget 18 = .ok (.putfield 150, 3) := by decide +kernel
theorem dX8_forget_21 : decode cX8_forget 21 = .ok (.aload_n 0, 1) := by decide +kernel
theorem dX8_forget_22 : decode cX8_forget 22 = .ok (.getfield 10, 3) := by decide +kernel
theorem dX8_forget_25 : decode cX8_forget 25 = .ok (.getfield 154, 3) := by decide +kernel
theorem dX8_forget_28 : decode cX8_forget 28 = .ok (.getfield 158, 3) := by decide +kernel
theorem dX8_forget_31 : decode cX8_forget 31 = .ok (.ireturn, 1) := by decide +kernel
set_option maxRecDepth 20000 in
theorem ggX8_say_X8_isSide : GoodIn wsX8_say wsX8_isSide := goodIn_r _ [5] (by decide +kernel) (by decide +kernel)
set_option maxRecDepth 20000 in
theorem gX8_say_X8_isSide : GoodIn wsX8_say (va_wsS RX8 84 yX8_isSide wsX8_isSide) := goodIn_app (goodIn_of _ (by decide +kernel)) ggX8_say_X8_isSide
set_option maxRecDepth 20000 in
theorem ggX8_say_X8_peerOf : GoodIn wsX8_say wsX8_peerOf := goodIn_r _ [9, 10, 11, 12, 13, 94, 95, 96, 97, 98, 99, 100, 101, 102, 103, 104, 105, 106, 107, 108, 109, 110, 111, 112, 113, 114, 115, 116, 117, 118, 119, 120] (by decide +kernel) (by decide +kernel)
set_option maxRecDepth 20000 in
theorem gX8_say_X8_peerOf : GoodIn wsX8_say (wsV RX8 87 RX8 yX8_peerOf wsX8_peerOf) := goodIn_app (goodIn_of _ (by decide +kernel)) ggX8_say_X8_peerOf
set_option maxRecDepth 20000 in
theorem ggX8_say_X8_otherThan : GoodIn wsX8_say wsX8_otherThan := goodIn_r _ [16] (by decide +kernel) (by decide +kernel)
set_option maxRecDepth 20000 in
theorem gX8_say_X8_otherThan : GoodIn wsX8_say (va_wsS RX8 163 yX8_otherThan wsX8_otherThan) := goodIn_app (goodIn_of _ (by decide +kernel)) ggX8_say_X8_otherThan
set_option maxRecDepth 20000 in
theorem ggX8_say_X8_roadTo : GoodIn wsX8_say wsX8_roadTo := goodIn_r _ [20, 21, 22, 94, 95, 96, 97, 98, 99, 100, 101, 102] (by decide +kernel) (by decide +kernel)
set_option maxRecDepth 20000 in
theorem gX8_say_X8_roadTo : GoodIn wsX8_say (wsV RX8 126 RX8 yX8_roadTo wsX8_roadTo) := goodIn_app (goodIn_of _ (by decide +kernel)) ggX8_say_X8_roadTo
set_option maxRecDepth 20000 in
theorem ggX8_say_X3_sendLetter : GoodIn wsX8_say wsX3_sendLetter := goodIn_r _ [27, 28, 29, 30, 31, 32, 33, 34, 35, 36, 37, 38, 39, 40, 41, 42, 43, 44, 4, 45, 46, 47, 48, 49, 50, 51, 52, 53, 54, 55, 56, 57, 58, 59, 60, 61, 62, 63, 64, 65, 66, 67, 68, 69, 70, 71, 72, 73, 74, 75, 76, 77, 78, 79, 80, 81, 82, 83, 84, 85, 86, 87, 88, 89, 90, 91, 92, 93, 121, 122, 123, 124, 125, 126, 127] (by decide +kernel) (by decide +kernel)
set_option maxRecDepth 20000 in
theorem gX8_say_X3_sendLetter : GoodIn wsX8_say (wsV RX8 166 RX3 yX3_sendLetter wsX3_sendLetter) := goodIn_app (goodIn_of _ (by decide +kernel)) ggX8_say_X3_sendLetter
theorem dX8_say_0 : decode cX8_say 0 = .ok (.iload_n 1, 1) := by decide +kernel
theorem dX8_say_1 : decode cX8_say 1 = .ok (.invokestatic 84, 3) := by decide +kernel
theorem dX8_say_4 : decode cX8_say 4 = .ok (.ifCond .ne 6, 3) := by decide +kernel
theorem dX8_say_7 : decode cX8_say 7 = .ok (.bipush (-2), 2) := by decide +kernel
theorem dX8_say_9 : decode cX8_say 9 = .ok (.ireturn, 1) := by decide +kernel
theorem dX8_say_10 : decode cX8_say 10 = .ok (.iload_n 2, 1) := by decide +kernel
theorem dX8_say_11 : decode cX8_say 11 = .ok (.ifCond .lt 10, 3) := by decide +kernel
theorem dX8_say_14 : decode cX8_say 14 = .ok (.iload_n 2, 1) := by decide +kernel
theorem dX8_say_15 : decode cX8_say 15 = .ok (.sipush 999, 3) := by decide +kernel
theorem dX8_say_18 : decode cX8_say 18 = .ok (.if_icmp .le 6, 3) := by decide +kernel
theorem dX8_say_21 : decode cX8_say 21 = .ok (.bipush (-3), 2) := by decide +kernel
theorem dX8_say_23 : decode cX8_say 23 = .ok (.ireturn, 1) := by decide +kernel
theorem dX8_say_24 : decode cX8_say 24 = .ok (.aload_n 0, 1) := by decide +kernel
theorem dX8_say_25 : decode cX8_say 25 = .ok (.iload_n 1, 1) := by decide +kernel
theorem dX8_say_26 : decode cX8_say 26 = .ok (.invokevirtual 87, 3) := by decide +kernel
theorem dX8_say_29 : decode cX8_say 29 = .ok (.getfield 115, 3) := by decide +kernel
theorem dX8_say_32 : decode cX8_say 32 = .ok (.iconst 4, 1) := by decide +kernel
theorem dX8_say_33 : decode cX8_say 33 = .ok (.if_icmp .eq 6, 3) := by decide +kernel
theorem dX8_say_36 : decode cX8_say 36 = .ok (.bipush (-4), 2) := by decide +kernel
theorem dX8_say_38 : decode cX8_say 38 = .ok (.ireturn, 1) := by decide +kernel
theorem dX8_say_39 : decode cX8_say 39 = .ok (.aload_n 0, 1) := by decide +kernel
theorem dX8_say_40 : decode cX8_say 40 = .ok (.iload_n 1, 1) := by decide +kernel
theorem dX8_say_41 : decode cX8_say 41 = .ok (.invokevirtual 87, 3) := by decide +kernel
theorem dX8_say_44 : decode cX8_say 44 = .ok (.iload_n 2, 1) := by decide +kernel
theorem dX8_say_45 : decode cX8_say 45 = .ok (.aload_n 0, 1) := by decide +kernel
theorem dX8_say_46 : decode cX8_say 46 = .ok (.iload_n 1, 1) := by decide +kernel
theorem dX8_say_47 : decode cX8_say 47 = .ok (.invokestatic 163, 3) := by decide +kernel
theorem dX8_say_50 : decode cX8_say 50 = .ok (.invokevirtual 126, 3) := by decide +kernel
theorem dX8_say_53 : decode cX8_say 53 = .ok (.invokevirtual 166, 3) := by decide +kernel
theorem dX8_say_56 : decode cX8_say 56 = .ok (.ireturn, 1) := by decide +kernel
set_option maxRecDepth 20000 in
theorem ggX8_update_X8_isSide : GoodIn wsX8_update wsX8_isSide := goodIn_r _ [5] (by decide +kernel) (by decide +kernel)
set_option maxRecDepth 20000 in
theorem gX8_update_X8_isSide : GoodIn wsX8_update (va_wsS RX8 84 yX8_isSide wsX8_isSide) := goodIn_app (goodIn_of _ (by decide +kernel)) ggX8_update_X8_isSide
set_option maxRecDepth 20000 in
theorem ggX8_update_X8_peerOf : GoodIn wsX8_update wsX8_peerOf := goodIn_r _ [9, 10, 11, 12, 13, 91, 92, 93, 94, 95, 96, 97, 98, 99, 100, 101, 102, 103, 104, 105, 106, 107, 108, 109, 110, 111, 112, 113, 114, 115, 116, 117] (by decide +kernel) (by decide +kernel)
set_option maxRecDepth 20000 in
theorem gX8_update_X8_peerOf : GoodIn wsX8_update (wsV RX8 87 RX8 yX8_peerOf wsX8_peerOf) := goodIn_app (goodIn_of _ (by decide +kernel)) ggX8_update_X8_peerOf
set_option maxRecDepth 20000 in
theorem ggX8_update_X8_otherThan : GoodIn wsX8_update wsX8_otherThan := goodIn_r _ [16] (by decide +kernel) (by decide +kernel)
set_option maxRecDepth 20000 in
theorem gX8_update_X8_otherThan : GoodIn wsX8_update (va_wsS RX8 163 yX8_otherThan wsX8_otherThan) := goodIn_app (goodIn_of _ (by decide +kernel)) ggX8_update_X8_otherThan
set_option maxRecDepth 20000 in
theorem ggX8_update_X8_roadTo : GoodIn wsX8_update wsX8_roadTo := goodIn_r _ [20, 21, 22, 91, 92, 93, 94, 95, 96, 97, 98, 99] (by decide +kernel) (by decide +kernel)
set_option maxRecDepth 20000 in
theorem gX8_update_X8_roadTo : GoodIn wsX8_update (wsV RX8 126 RX8 yX8_roadTo wsX8_roadTo) := goodIn_app (goodIn_of _ (by decide +kernel)) ggX8_update_X8_roadTo
set_option maxRecDepth 20000 in
theorem ggX8_update_X3_sendUpdate : GoodIn wsX8_update wsX3_sendUpdate := goodIn_r _ [27, 28, 29, 30, 31, 32, 33, 34, 35, 36, 37, 38, 39, 40, 41, 42, 43, 44, 45, 46, 47, 48, 49, 50, 51, 4, 52, 53, 54, 55, 56, 57, 58, 59, 60, 61, 62, 63, 64, 65, 66, 67, 68, 69, 70, 71, 72, 73, 74, 75, 76, 77, 78, 79, 80, 81, 82, 83, 84, 85, 86, 87, 88, 89, 90, 118, 119, 120, 121, 122, 123, 124] (by decide +kernel) (by decide +kernel)
set_option maxRecDepth 20000 in
theorem gX8_update_X3_sendUpdate : GoodIn wsX8_update (wsV RX8 170 RX3 yX3_sendUpdate wsX3_sendUpdate) := goodIn_app (goodIn_of _ (by decide +kernel)) ggX8_update_X3_sendUpdate
theorem dX8_update_0 : decode cX8_update 0 = .ok (.iload_n 1, 1) := by decide +kernel
theorem dX8_update_1 : decode cX8_update 1 = .ok (.invokestatic 84, 3) := by decide +kernel
theorem dX8_update_4 : decode cX8_update 4 = .ok (.ifCond .ne 6, 3) := by decide +kernel
theorem dX8_update_7 : decode cX8_update 7 = .ok (.bipush (-2), 2) := by decide +kernel
theorem dX8_update_9 : decode cX8_update 9 = .ok (.ireturn, 1) := by decide +kernel
theorem dX8_update_10 : decode cX8_update 10 = .ok (.aload_n 0, 1) := by decide +kernel
theorem dX8_update_11 : decode cX8_update 11 = .ok (.iload_n 1, 1) := by decide +kernel
theorem dX8_update_12 : decode cX8_update 12 = .ok (.invokevirtual 87, 3) := by decide +kernel
theorem dX8_update_15 : decode cX8_update 15 = .ok (.getfield 115, 3) := by decide +kernel
theorem dX8_update_18 : decode cX8_update 18 = .ok (.iconst 4, 1) := by decide +kernel
theorem dX8_update_19 : decode cX8_update 19 = .ok (.if_icmp .eq 6, 3) := by decide +kernel
theorem dX8_update_22 : decode cX8_update 22 = .ok (.bipush (-4), 2) := by decide +kernel
theorem dX8_update_24 : decode cX8_update 24 = .ok (.ireturn, 1) := by decide +kernel
theorem dX8_update_25 : decode cX8_update 25 = .ok (.aload_n 0, 1) := by decide +kernel
theorem dX8_update_26 : decode cX8_update 26 = .ok (.iload_n 1, 1) := by decide +kernel
theorem dX8_update_27 : decode cX8_update 27 = .ok (.invokevirtual 87, 3) := by decide +kernel
theorem dX8_update_30 : decode cX8_update 30 = .ok (.aload_n 0, 1) := by decide +kernel
theorem dX8_update_31 : decode cX8_update 31 = .ok (.iload_n 1, 1) := by decide +kernel
theorem dX8_update_32 : decode cX8_update 32 = .ok (.invokestatic 163, 3) := by decide +kernel
theorem dX8_update_35 : decode cX8_update 35 = .ok (.invokevirtual 126, 3) := by decide +kernel
theorem dX8_update_38 : decode cX8_update 38 = .ok (.invokevirtual 170, 3) := by decide +kernel
theorem dX8_update_41 : decode cX8_update 41 = .ok (.ireturn, 1) := by decide +kernel
set_option maxRecDepth 20000 in
theorem ggX8_fresh_X8_isSide : GoodIn wsX8_fresh wsX8_isSide := goodIn_r _ [5] (by decide +kernel) (by decide +kernel)
set_option maxRecDepth 20000 in
theorem gX8_fresh_X8_isSide : GoodIn wsX8_fresh (va_wsS RX8 84 yX8_isSide wsX8_isSide) := goodIn_app (goodIn_of _ (by decide +kernel)) ggX8_fresh_X8_isSide
set_option maxRecDepth 20000 in
theorem ggX8_fresh_X8_peerOf : GoodIn wsX8_fresh wsX8_peerOf := goodIn_r _ [9, 10, 11, 12, 13, 40, 41, 42, 43, 44, 45, 46, 47, 48, 49, 50, 51, 52, 53, 54, 55, 56, 57, 58, 59, 60, 61, 62, 63, 64, 65, 66] (by decide +kernel) (by decide +kernel)
set_option maxRecDepth 20000 in
theorem gX8_fresh_X8_peerOf : GoodIn wsX8_fresh (wsV RX8 87 RX8 yX8_peerOf wsX8_peerOf) := goodIn_app (goodIn_of _ (by decide +kernel)) ggX8_fresh_X8_peerOf
set_option maxRecDepth 20000 in
theorem ggX8_fresh_X3_rest : GoodIn wsX8_fresh wsX3_rest := goodIn_r _ [18, 19, 20, 21, 22, 23, 24, 25, 26, 27, 28, 29, 30, 31, 32, 33, 34, 35, 36, 37, 38, 39] (by decide +kernel) (by decide +kernel)
set_option maxRecDepth 20000 in
theorem gX8_fresh_X3_rest : GoodIn wsX8_fresh (wsV RX8 174 RX3 yX3_rest wsX3_rest) := goodIn_app (goodIn_of _ (by decide +kernel)) ggX8_fresh_X3_rest
theorem dX8_fresh_0 : decode cX8_fresh 0 = .ok (.iload_n 1, 1) := by decide +kernel
theorem dX8_fresh_1 : decode cX8_fresh 1 = .ok (.invokestatic 84, 3) := by decide +kernel
theorem dX8_fresh_4 : decode cX8_fresh 4 = .ok (.ifCond .ne 6, 3) := by decide +kernel
theorem dX8_fresh_7 : decode cX8_fresh 7 = .ok (.bipush (-2), 2) := by decide +kernel
theorem dX8_fresh_9 : decode cX8_fresh 9 = .ok (.ireturn, 1) := by decide +kernel
theorem dX8_fresh_10 : decode cX8_fresh 10 = .ok (.aload_n 0, 1) := by decide +kernel
theorem dX8_fresh_11 : decode cX8_fresh 11 = .ok (.iload_n 1, 1) := by decide +kernel
theorem dX8_fresh_12 : decode cX8_fresh 12 = .ok (.invokevirtual 87, 3) := by decide +kernel
theorem dX8_fresh_15 : decode cX8_fresh 15 = .ok (.astore_n 2, 1) := by decide +kernel
theorem dX8_fresh_16 : decode cX8_fresh 16 = .ok (.aload_n 2, 1) := by decide +kernel
theorem dX8_fresh_17 : decode cX8_fresh 17 = .ok (.getfield 115, 3) := by decide +kernel
theorem dX8_fresh_20 : decode cX8_fresh 20 = .ok (.istore_n 3, 1) := by decide +kernel
theorem dX8_fresh_21 : decode cX8_fresh 21 = .ok (.aload_n 2, 1) := by decide +kernel
theorem dX8_fresh_22 : decode cX8_fresh 22 = .ok (.invokevirtual 174, 3) := by decide +kernel
theorem dX8_fresh_25 : decode cX8_fresh 25 = .ok (.iload_n 3, 1) := by decide +kernel
theorem dX8_fresh_26 : decode cX8_fresh 26 = .ok (.ireturn, 1) := by decide +kernel
theorem dX8_pass_0 : decode cX8_pass 0 = .ok (.iload_n 1, 1) := by decide +kernel
theorem dX8_pass_1 : decode cX8_pass 1 = .ok (.iconst 1, 1) := by decide +kernel
theorem dX8_pass_2 : decode cX8_pass 2 = .ok (.if_icmp .lt 9, 3) := by decide +kernel
theorem dX8_pass_5 : decode cX8_pass 5 = .ok (.iload_n 1, 1) := by decide +kernel
theorem dX8_pass_6 : decode cX8_pass 6 = .ok (.bipush 99, 2) := by decide +kernel
theorem dX8_pass_8 : decode cX8_pass 8 = .ok (.if_icmp .le 6, 3) := by decide +kernel
theorem dX8_pass_11 : decode cX8_pass 11 = .ok (.bipush (-3), 2) := by decide +kernel
theorem dX8_pass_13 : decode cX8_pass 13 = .ok (.ireturn, 1) := by decide +kernel
theorem dX8_pass_14 : decode cX8_pass 14 = .ok (.aload_n 0, 1) := by decide +kernel
theorem dX8_pass_15 : decode cX8_pass 15 = .ok (.dup, 1) := by decide +kernel
theorem dX8_pass_16 : decode cX8_pass 16 = .ok (.getfield 118, 3) := by decide +kernel
theorem dX8_pass_19 : decode cX8_pass 19 = .ok (.iload_n 1, 1) := by decide +kernel
theorem dX8_pass_20 : decode cX8_pass 20 = .ok (.iadd, 1) := by decide +kernel
theorem dX8_pass_21 : decode cX8_pass 21 = .ok (.putfield 118, 3) := by decide +kernel
theorem dX8_pass_24 : decode cX8_pass 24 = .ok (.aload_n 0, 1) := by decide +kernel
theorem dX8_pass_25 : decode cX8_pass 25 = .ok (.getfield 118, 3) := by decide +kernel
theorem dX8_pass_28 : decode cX8_pass 28 = .ok (.ireturn, 1) := by decide +kernel
set_option maxRecDepth 20000 in
theorem ggX8_alter_X8_isSide : GoodIn wsX8_alter wsX8_isSide := goodIn_r _ [5] (by decide +kernel) (by decide +kernel)
set_option maxRecDepth 20000 in
theorem gX8_alter_X8_isSide : GoodIn wsX8_alter (va_wsS RX8 84 yX8_isSide wsX8_isSide) := goodIn_app (goodIn_of _ (by decide +kernel)) ggX8_alter_X8_isSide
set_option maxRecDepth 20000 in
theorem ggX8_alter_X2_hasNumber : GoodIn wsX8_alter wsX2_hasNumber := goodIn_r _ [9] (by decide +kernel) (by decide +kernel)
set_option maxRecDepth 20000 in
theorem gX8_alter_X2_hasNumber : GoodIn wsX8_alter (va_wsS RX8 177 yX2_hasNumber wsX2_hasNumber) := goodIn_app (goodIn_of _ (by decide +kernel)) ggX8_alter_X2_hasNumber
set_option maxRecDepth 20000 in
theorem ggX8_alter_X8_roadTo : GoodIn wsX8_alter wsX8_roadTo := goodIn_r _ [13, 14, 15, 35, 36, 37, 38, 39, 40, 41, 42, 43] (by decide +kernel) (by decide +kernel)
set_option maxRecDepth 20000 in
theorem gX8_alter_X8_roadTo : GoodIn wsX8_alter (wsV RX8 126 RX8 yX8_roadTo wsX8_roadTo) := goodIn_app (goodIn_of _ (by decide +kernel)) ggX8_alter_X8_roadTo
set_option maxRecDepth 20000 in
theorem ggX8_alter_X4_first : GoodIn wsX8_alter wsX4_first := goodIn_r _ [20, 21, 32, 33, 34] (by decide +kernel) (by decide +kernel)
set_option maxRecDepth 20000 in
theorem gX8_alter_X4_first : GoodIn wsX8_alter (wsV RX8 180 RX4 yX4_first wsX4_first) := goodIn_app (goodIn_of _ (by decide +kernel)) ggX8_alter_X4_first
set_option maxRecDepth 20000 in
theorem ggX8_alter_X2_at : GoodIn wsX8_alter wsX2_at := goodIn_r _ [25, 26, 27, 7, 8, 9, 44] (by decide +kernel) (by decide +kernel)
set_option maxRecDepth 20000 in
theorem gX8_alter_X2_at : GoodIn wsX8_alter (wsV RX8 139 RX2 yX2_at wsX2_at) := goodIn_app (goodIn_of _ (by decide +kernel)) ggX8_alter_X2_at
set_option maxRecDepth 20000 in
theorem ggX8_alter_X2_put : GoodIn wsX8_alter wsX2_put := goodIn_r _ [31, 26, 27, 7, 8, 9, 44] (by decide +kernel) (by decide +kernel)
set_option maxRecDepth 20000 in
theorem gX8_alter_X2_put : GoodIn wsX8_alter (wsV RX8 184 RX2 yX2_put wsX2_put) := goodIn_app (goodIn_of _ (by decide +kernel)) ggX8_alter_X2_put
theorem dX8_alter_0 : decode cX8_alter 0 = .ok (.iload_n 1, 1) := by decide +kernel
theorem dX8_alter_1 : decode cX8_alter 1 = .ok (.invokestatic 84, 3) := by decide +kernel
theorem dX8_alter_4 : decode cX8_alter 4 = .ok (.ifCond .ne 6, 3) := by decide +kernel
theorem dX8_alter_7 : decode cX8_alter 7 = .ok (.bipush (-2), 2) := by decide +kernel
theorem dX8_alter_9 : decode cX8_alter 9 = .ok (.ireturn, 1) := by decide +kernel
theorem dX8_alter_10 : decode cX8_alter 10 = .ok (.iload_n 2, 1) := by decide +kernel
theorem dX8_alter_11 : decode cX8_alter 11 = .ok (.invokestatic 177, 3) := by decide +kernel
theorem dX8_alter_14 : decode cX8_alter 14 = .ok (.ifCond .ne 6, 3) := by decide +kernel
theorem dX8_alter_17 : decode cX8_alter 17 = .ok (.bipush (-3), 2) := by decide +kernel
theorem dX8_alter_19 : decode cX8_alter 19 = .ok (.ireturn, 1) := by decide +kernel
theorem dX8_alter_20 : decode cX8_alter 20 = .ok (.aload_n 0, 1) := by decide +kernel
theorem dX8_alter_21 : decode cX8_alter 21 = .ok (.iload_n 1, 1) := by decide +kernel
theorem dX8_alter_22 : decode cX8_alter 22 = .ok (.invokevirtual 126, 3) := by decide +kernel
theorem dX8_alter_25 : decode cX8_alter 25 = .ok (.getfield 125, 3) := by decide +kernel
theorem dX8_alter_28 : decode cX8_alter 28 = .ok (.ifCond .ne 6, 3) := by decide +kernel
theorem dX8_alter_31 : decode cX8_alter 31 = .ok (.bipush (-4), 2) := by decide +kernel
theorem dX8_alter_33 : decode cX8_alter 33 = .ok (.ireturn, 1) := by decide +kernel
theorem dX8_alter_34 : decode cX8_alter 34 = .ok (.aload_n 0, 1) := by decide +kernel
theorem dX8_alter_35 : decode cX8_alter 35 = .ok (.iload_n 1, 1) := by decide +kernel
theorem dX8_alter_36 : decode cX8_alter 36 = .ok (.invokevirtual 126, 3) := by decide +kernel
theorem dX8_alter_39 : decode cX8_alter 39 = .ok (.invokevirtual 180, 3) := by decide +kernel
theorem dX8_alter_42 : decode cX8_alter 42 = .ok (.astore 4, 2) := by decide +kernel
theorem dX8_alter_44 : decode cX8_alter 44 = .ok (.aload 4, 2) := by decide +kernel
theorem dX8_alter_46 : decode cX8_alter 46 = .ok (.iload_n 2, 1) := by decide +kernel
theorem dX8_alter_47 : decode cX8_alter 47 = .ok (.invokevirtual 139, 3) := by decide +kernel
theorem dX8_alter_50 : decode cX8_alter 50 = .ok (.istore 5, 2) := by decide +kernel
theorem dX8_alter_52 : decode cX8_alter 52 = .ok (.aload 4, 2) := by decide +kernel
theorem dX8_alter_54 : decode cX8_alter 54 = .ok (.iload_n 2, 1) := by decide +kernel
theorem dX8_alter_55 : decode cX8_alter 55 = .ok (.iload_n 3, 1) := by decide +kernel
theorem dX8_alter_56 : decode cX8_alter 56 = .ok (.invokevirtual 184, 3) := by decide +kernel
theorem dX8_alter_59 : decode cX8_alter 59 = .ok (.iload 5, 2) := by decide +kernel
theorem dX8_alter_61 : decode cX8_alter 61 = .ok (.ireturn, 1) := by decide +kernel
set_option maxRecDepth 20000 in
theorem ggX8_drop_X8_isSide : GoodIn wsX8_drop wsX8_isSide := goodIn_r _ [6] (by decide +kernel) (by decide +kernel)
set_option maxRecDepth 20000 in
theorem gX8_drop_X8_isSide : GoodIn wsX8_drop (va_wsS RX8 84 yX8_isSide wsX8_isSide) := goodIn_app (goodIn_of _ (by decide +kernel)) ggX8_drop_X8_isSide
set_option maxRecDepth 20000 in
theorem ggX8_drop_X8_roadTo : GoodIn wsX8_drop wsX8_roadTo := goodIn_r _ [10, 11, 12, 29, 30, 31, 32, 33, 34, 35, 36, 37] (by decide +kernel) (by decide +kernel)
set_option maxRecDepth 20000 in
theorem gX8_drop_X8_roadTo : GoodIn wsX8_drop (wsV RX8 126 RX8 yX8_roadTo wsX8_roadTo) := goodIn_app (goodIn_of _ (by decide +kernel)) ggX8_drop_X8_roadTo
set_option maxRecDepth 20000 in
theorem ggX8_drop_X4_takeFirst : GoodIn wsX8_drop wsX4_takeFirst := goodIn_r _ [17, 18, 19, 20, 21, 22, 23, 24, 25, 26, 27, 28, 38] (by decide +kernel) (by decide +kernel)
set_option maxRecDepth 20000 in
theorem gX8_drop_X4_takeFirst : GoodIn wsX8_drop (wsV RX8 130 RX4 yX4_takeFirst wsX4_takeFirst) := goodIn_app (goodIn_of _ (by decide +kernel)) ggX8_drop_X4_takeFirst
theorem dX8_drop_0 : decode cX8_drop 0 = .ok (.iload_n 1, 1) := by decide +kernel
theorem dX8_drop_1 : decode cX8_drop 1 = .ok (.invokestatic 84, 3) := by decide +kernel
theorem dX8_drop_4 : decode cX8_drop 4 = .ok (.ifCond .ne 6, 3) := by decide +kernel
theorem dX8_drop_7 : decode cX8_drop 7 = .ok (.bipush (-2), 2) := by decide +kernel
theorem dX8_drop_9 : decode cX8_drop 9 = .ok (.ireturn, 1) := by decide +kernel
theorem dX8_drop_10 : decode cX8_drop 10 = .ok (.aload_n 0, 1) := by decide +kernel
theorem dX8_drop_11 : decode cX8_drop 11 = .ok (.iload_n 1, 1) := by decide +kernel
theorem dX8_drop_12 : decode cX8_drop 12 = .ok (.invokevirtual 126, 3) := by decide +kernel
theorem dX8_drop_15 : decode cX8_drop 15 = .ok (.astore_n 2, 1) := by decide +kernel
theorem dX8_drop_16 : decode cX8_drop 16 = .ok (.aload_n 2, 1) := by decide +kernel
theorem dX8_drop_17 : decode cX8_drop 17 = .ok (.getfield 125, 3) := by decide +kernel
theorem dX8_drop_20 : decode cX8_drop 20 = .ok (.ifCond .ne 6, 3) := by decide +kernel
theorem dX8_drop_23 : decode cX8_drop 23 = .ok (.bipush (-4), 2) := by decide +kernel
theorem dX8_drop_25 : decode cX8_drop 25 = .ok (.ireturn, 1) := by decide +kernel
theorem dX8_drop_26 : decode cX8_drop 26 = .ok (.aload_n 2, 1) := by decide +kernel
theorem dX8_drop_27 : decode cX8_drop 27 = .ok (.aload_n 0, 1) := by decide +kernel
theorem dX8_drop_28 : decode cX8_drop 28 = .ok (.getfield 36, 3) := by decide +kernel
theorem dX8_drop_31 : decode cX8_drop 31 = .ok (.invokevirtual 130, 3) := by decide +kernel
theorem dX8_drop_34 : decode cX8_drop 34 = .ok (.aload_n 2, 1) := by decide +kernel
theorem dX8_drop_35 : decode cX8_drop 35 = .ok (.getfield 125, 3) := by decide +kernel
theorem dX8_drop_38 : decode cX8_drop 38 = .ok (.ireturn, 1) := by decide +kernel
set_option maxRecDepth 20000 in
theorem ggX8_copy_X8_isSide : GoodIn wsX8_copy wsX8_isSide := goodIn_r _ [7] (by decide +kernel) (by decide +kernel)
set_option maxRecDepth 20000 in
theorem gX8_copy_X8_isSide : GoodIn wsX8_copy (va_wsS RX8 84 yX8_isSide wsX8_isSide) := goodIn_app (goodIn_of _ (by decide +kernel)) ggX8_copy_X8_isSide
set_option maxRecDepth 20000 in
theorem ggX8_copy_X8_isPlace : GoodIn wsX8_copy wsX8_isPlace := goodIn_r _ [10] (by decide +kernel) (by decide +kernel)
set_option maxRecDepth 20000 in
theorem gX8_copy_X8_isPlace : GoodIn wsX8_copy (va_wsS RX8 188 yX8_isPlace wsX8_isPlace) := goodIn_app (goodIn_of _ (by decide +kernel)) ggX8_copy_X8_isPlace
set_option maxRecDepth 20000 in
theorem ggX8_copy_X8_roadTo : GoodIn wsX8_copy wsX8_roadTo := goodIn_r _ [14, 15, 16, 39, 40, 41, 42, 43, 44, 45, 46, 47] (by decide +kernel) (by decide +kernel)
set_option maxRecDepth 20000 in
theorem gX8_copy_X8_roadTo : GoodIn wsX8_copy (wsV RX8 126 RX8 yX8_roadTo wsX8_roadTo) := goodIn_app (goodIn_of _ (by decide +kernel)) ggX8_copy_X8_roadTo
set_option maxRecDepth 20000 in
theorem ggX8_copy_X4_first : GoodIn wsX8_copy wsX4_first := goodIn_r _ [21, 22, 36, 37, 38] (by decide +kernel) (by decide +kernel)
set_option maxRecDepth 20000 in
theorem gX8_copy_X4_first : GoodIn wsX8_copy (wsV RX8 180 RX4 yX4_first wsX4_first) := goodIn_app (goodIn_of _ (by decide +kernel)) ggX8_copy_X4_first
set_option maxRecDepth 20000 in
theorem ggX8_copy_X2_become : GoodIn wsX8_copy wsX2_become := goodIn_r _ [27, 28, 48] (by decide +kernel) (by decide +kernel)
set_option maxRecDepth 20000 in
theorem gX8_copy_X2_become : GoodIn wsX8_copy (wsV RX8 191 RX2 yX2_become wsX2_become) := goodIn_app (goodIn_of _ (by decide +kernel)) ggX8_copy_X2_become
set_option maxRecDepth 20000 in
theorem ggX8_copy_X2_at : GoodIn wsX8_copy wsX2_at := goodIn_r _ [32, 28, 33, 34, 26, 35, 48] (by decide +kernel) (by decide +kernel)
set_option maxRecDepth 20000 in
theorem gX8_copy_X2_at : GoodIn wsX8_copy (wsV RX8 139 RX2 yX2_at wsX2_at) := goodIn_app (goodIn_of _ (by decide +kernel)) ggX8_copy_X2_at
theorem dX8_copy_0 : decode cX8_copy 0 = .ok (.iload_n 1, 1) := by decide +kernel
theorem dX8_copy_1 : decode cX8_copy 1 = .ok (.invokestatic 84, 3) := by decide +kernel
theorem dX8_copy_4 : decode cX8_copy 4 = .ok (.ifCond .eq 10, 3) := by decide +kernel
theorem dX8_copy_7 : decode cX8_copy 7 = .ok (.iload_n 2, 1) := by decide +kernel
theorem dX8_copy_8 : decode cX8_copy 8 = .ok (.invokestatic 188, 3) := by decide +kernel
theorem dX8_copy_11 : decode cX8_copy 11 = .ok (.ifCond .ne 6, 3) := by decide +kernel
theorem dX8_copy_14 : decode cX8_copy 14 = .ok (.bipush (-2), 2) := by decide +kernel
theorem dX8_copy_16 : decode cX8_copy 16 = .ok (.ireturn, 1) := by decide +kernel
theorem dX8_copy_17 : decode cX8_copy 17 = .ok (.aload_n 0, 1) := by decide +kernel
theorem dX8_copy_18 : decode cX8_copy 18 = .ok (.iload_n 1, 1) := by decide +kernel
theorem dX8_copy_19 : decode cX8_copy 19 = .ok (.invokevirtual 126, 3) := by decide +kernel
theorem dX8_copy_22 : decode cX8_copy 22 = .ok (.astore_n 3, 1) := by decide +kernel
theorem dX8_copy_23 : decode cX8_copy 23 = .ok (.aload_n 3, 1) := by decide +kernel
theorem dX8_copy_24 : decode cX8_copy 24 = .ok (.getfield 125, 3) := by decide +kernel
theorem dX8_copy_27 : decode cX8_copy 27 = .ok (.ifCond .ne 6, 3) := by decide +kernel
theorem dX8_copy_30 : decode cX8_copy 30 = .ok (.bipush (-4), 2) := by decide +kernel
theorem dX8_copy_32 : decode cX8_copy 32 = .ok (.ireturn, 1) := by decide +kernel
theorem dX8_copy_33 : decode cX8_copy 33 = .ok (.aload_n 0, 1) := by decide +kernel
theorem dX8_copy_34 : decode cX8_copy 34 = .ok (.getfield 40, 3) := by decide +kernel
theorem dX8_copy_37 : decode cX8_copy 37 = .ok (.iload_n 2, 1) := by decide +kernel
theorem dX8_copy_38 : decode cX8_copy 38 = .ok (.aaload, 1) := by decide +kernel
theorem dX8_copy_39 : decode cX8_copy 39 = .ok (.aload_n 3, 1) := by decide +kernel
theorem dX8_copy_40 : decode cX8_copy 40 = .ok (.invokevirtual 180, 3) := by decide +kernel
theorem dX8_copy_43 : decode cX8_copy 43 = .ok (.invokevirtual 191, 3) := by decide +kernel
theorem dX8_copy_46 : decode cX8_copy 46 = .ok (.aload_n 0, 1) := by decide +kernel
theorem dX8_copy_47 : decode cX8_copy 47 = .ok (.getfield 44, 3) := by decide +kernel
theorem dX8_copy_50 : decode cX8_copy 50 = .ok (.iload_n 2, 1) := by decide +kernel
theorem dX8_copy_51 : decode cX8_copy 51 = .ok (.iconst 1, 1) := by decide +kernel
theorem dX8_copy_52 : decode cX8_copy 52 = .ok (.bastore, 1) := by decide +kernel
theorem dX8_copy_53 : decode cX8_copy 53 = .ok (.aload_n 0, 1) := by decide +kernel
theorem dX8_copy_54 : decode cX8_copy 54 = .ok (.getfield 40, 3) := by decide +kernel
theorem dX8_copy_57 : decode cX8_copy 57 = .ok (.iload_n 2, 1) := by decide +kernel
theorem dX8_copy_58 : decode cX8_copy 58 = .ok (.aaload, 1) := by decide +kernel
theorem dX8_copy_59 : decode cX8_copy 59 = .ok (.iconst 0, 1) := by decide +kernel
theorem dX8_copy_60 : decode cX8_copy 60 = .ok (.invokevirtual 139, 3) := by decide +kernel
theorem dX8_copy_63 : decode cX8_copy 63 = .ok (.ireturn, 1) := by decide +kernel
set_option maxRecDepth 20000 in
theorem ggX8_inject_X8_isSide : GoodIn wsX8_inject wsX8_isSide := goodIn_r _ [7] (by decide +kernel) (by decide +kernel)
set_option maxRecDepth 20000 in
theorem gX8_inject_X8_isSide : GoodIn wsX8_inject (va_wsS RX8 84 yX8_isSide wsX8_isSide) := goodIn_app (goodIn_of _ (by decide +kernel)) ggX8_inject_X8_isSide
set_option maxRecDepth 20000 in
theorem ggX8_inject_X8_isPlace : GoodIn wsX8_inject wsX8_isPlace := goodIn_r _ [10] (by decide +kernel) (by decide +kernel)
set_option maxRecDepth 20000 in
theorem gX8_inject_X8_isPlace : GoodIn wsX8_inject (va_wsS RX8 188 yX8_isPlace wsX8_isPlace) := goodIn_app (goodIn_of _ (by decide +kernel)) ggX8_inject_X8_isPlace
set_option maxRecDepth 20000 in
theorem ggX8_inject_X8_roadTo : GoodIn wsX8_inject wsX8_roadTo := goodIn_r _ [14, 15, 16, 31, 32, 33, 34, 35, 36, 37, 38, 39] (by decide +kernel) (by decide +kernel)
set_option maxRecDepth 20000 in
theorem gX8_inject_X8_roadTo : GoodIn wsX8_inject (wsV RX8 126 RX8 yX8_roadTo wsX8_roadTo) := goodIn_app (goodIn_of _ (by decide +kernel)) ggX8_inject_X8_roadTo
set_option maxRecDepth 20000 in
theorem ggX8_inject_X4_send : GoodIn wsX8_inject wsX4_send := goodIn_r _ [21, 22, 23, 24, 25, 26, 27, 28, 29, 30, 40, 41, 42, 43] (by decide +kernel) (by decide +kernel)
set_option maxRecDepth 20000 in
theorem gX8_inject_X4_send : GoodIn wsX8_inject (wsV RX8 194 RX4 yX4_send wsX4_send) := goodIn_app (goodIn_of _ (by decide +kernel)) ggX8_inject_X4_send
theorem dX8_inject_0 : decode cX8_inject 0 = .ok (.iload_n 1, 1) := by decide +kernel
theorem dX8_inject_1 : decode cX8_inject 1 = .ok (.invokestatic 84, 3) := by decide +kernel
theorem dX8_inject_4 : decode cX8_inject 4 = .ok (.ifCond .eq 10, 3) := by decide +kernel
theorem dX8_inject_7 : decode cX8_inject 7 = .ok (.iload_n 2, 1) := by decide +kernel
theorem dX8_inject_8 : decode cX8_inject 8 = .ok (.invokestatic 188, 3) := by decide +kernel
theorem dX8_inject_11 : decode cX8_inject 11 = .ok (.ifCond .ne 6, 3) := by decide +kernel
theorem dX8_inject_14 : decode cX8_inject 14 = .ok (.bipush (-2), 2) := by decide +kernel
theorem dX8_inject_16 : decode cX8_inject 16 = .ok (.ireturn, 1) := by decide +kernel
theorem dX8_inject_17 : decode cX8_inject 17 = .ok (.aload_n 0, 1) := by decide +kernel
theorem dX8_inject_18 : decode cX8_inject 18 = .ok (.getfield 44, 3) := by decide +kernel
theorem dX8_inject_21 : decode cX8_inject 21 = .ok (.iload_n 2, 1) := by decide +kernel
theorem dX8_inject_22 : decode cX8_inject 22 = .ok (.baload, 1) := by decide +kernel
theorem dX8_inject_23 : decode cX8_inject 23 = .ok (.ifCond .ne 6, 3) := by decide +kernel
theorem dX8_inject_26 : decode cX8_inject 26 = .ok (.bipush (-4), 2) := by decide +kernel
theorem dX8_inject_28 : decode cX8_inject 28 = .ok (.ireturn, 1) := by decide +kernel
theorem dX8_inject_29 : decode cX8_inject 29 = .ok (.aload_n 0, 1) := by decide +kernel
theorem dX8_inject_30 : decode cX8_inject 30 = .ok (.iload_n 1, 1) := by decide +kernel
theorem dX8_inject_31 : decode cX8_inject 31 = .ok (.invokevirtual 126, 3) := by decide +kernel
theorem dX8_inject_34 : decode cX8_inject 34 = .ok (.astore_n 3, 1) := by decide +kernel
theorem dX8_inject_35 : decode cX8_inject 35 = .ok (.aload_n 3, 1) := by decide +kernel
theorem dX8_inject_36 : decode cX8_inject 36 = .ok (.getfield 125, 3) := by decide +kernel
theorem dX8_inject_39 : decode cX8_inject 39 = .ok (.bipush 8, 2) := by decide +kernel
theorem dX8_inject_41 : decode cX8_inject 41 = .ok (.if_icmp .lt 6, 3) := by decide +kernel
theorem dX8_inject_44 : decode cX8_inject 44 = .ok (.bipush (-5), 2) := by decide +kernel
theorem dX8_inject_46 : decode cX8_inject 46 = .ok (.ireturn, 1) := by decide +kernel
theorem dX8_inject_47 : decode cX8_inject 47 = .ok (.aload_n 3, 1) := by decide +kernel
theorem dX8_inject_48 : decode cX8_inject 48 = .ok (.aload_n 0, 1) := by decide +kernel
theorem dX8_inject_49 : decode cX8_inject 49 = .ok (.getfield 40, 3) := by decide +kernel
theorem dX8_inject_52 : decode cX8_inject 52 = .ok (.iload_n 2, 1) := by decide +kernel
theorem dX8_inject_53 : decode cX8_inject 53 = .ok (.aaload, 1) := by decide +kernel
theorem dX8_inject_54 : decode cX8_inject 54 = .ok (.invokevirtual 194, 3) := by decide +kernel
theorem dX8_inject_57 : decode cX8_inject 57 = .ok (.aload_n 3, 1) := by decide +kernel
theorem dX8_inject_58 : decode cX8_inject 58 = .ok (.getfield 125, 3) := by decide +kernel
theorem dX8_inject_61 : decode cX8_inject 61 = .ok (.ireturn, 1) := by decide +kernel
set_option maxRecDepth 20000 in
theorem ggX8_side_X8_isSide : GoodIn wsX8_side wsX8_isSide := goodIn_r _ [4] (by decide +kernel) (by decide +kernel)
set_option maxRecDepth 20000 in
theorem gX8_side_X8_isSide : GoodIn wsX8_side (va_wsS RX8 84 yX8_isSide wsX8_isSide) := goodIn_app (goodIn_of _ (by decide +kernel)) ggX8_side_X8_isSide
set_option maxRecDepth 20000 in
theorem ggX8_side_X8_peerOf : GoodIn wsX8_side wsX8_peerOf := goodIn_r _ [8, 9, 10, 11, 12, 34, 35, 36, 37, 38, 39, 40, 41, 42, 43, 44, 45, 46, 47, 48, 49, 50, 51, 52, 53, 54, 55, 56, 57, 58, 59, 60] (by decide +kernel) (by decide +kernel)
set_option maxRecDepth 20000 in
theorem gX8_side_X8_peerOf : GoodIn wsX8_side (wsV RX8 87 RX8 yX8_peerOf wsX8_peerOf) := goodIn_app (goodIn_of _ (by decide +kernel)) ggX8_side_X8_peerOf
set_option maxRecDepth 20000 in
theorem ggX8_side_X3_tell : GoodIn wsX8_side wsX3_tell := goodIn_r _ [17, 18, 19, 20, 21, 22, 23, 16, 24, 25, 26, 27, 28, 29, 30, 31, 32, 33, 61, 62, 63, 64, 65, 66, 67, 68, 69, 70, 71, 72, 73, 74, 75, 76, 77, 78, 79, 80, 81] (by decide +kernel) (by decide +kernel)
set_option maxRecDepth 20000 in
theorem gX8_side_X3_tell : GoodIn wsX8_side (wsV RX8 197 RX3 yX3_tell wsX3_tell) := goodIn_app (goodIn_of _ (by decide +kernel)) ggX8_side_X3_tell
theorem dX8_side_0 : decode cX8_side 0 = .ok (.iload_n 1, 1) := by decide +kernel
theorem dX8_side_1 : decode cX8_side 1 = .ok (.invokestatic 84, 3) := by decide +kernel
theorem dX8_side_4 : decode cX8_side 4 = .ok (.ifCond .ne 6, 3) := by decide +kernel
theorem dX8_side_7 : decode cX8_side 7 = .ok (.bipush (-2), 2) := by decide +kernel
theorem dX8_side_9 : decode cX8_side 9 = .ok (.ireturn, 1) := by decide +kernel
theorem dX8_side_10 : decode cX8_side 10 = .ok (.iload_n 2, 1) := by decide +kernel
theorem dX8_side_11 : decode cX8_side 11 = .ok (.ifCond .lt 9, 3) := by decide +kernel
theorem dX8_side_14 : decode cX8_side 14 = .ok (.iload_n 2, 1) := by decide +kernel
theorem dX8_side_15 : decode cX8_side 15 = .ok (.bipush 11, 2) := by decide +kernel
theorem dX8_side_17 : decode cX8_side 17 = .ok (.if_icmp .le 6, 3) := by decide +kernel
theorem dX8_side_20 : decode cX8_side 20 = .ok (.bipush (-3), 2) := by decide +kernel
theorem dX8_side_22 : decode cX8_side 22 = .ok (.ireturn, 1) := by decide +kernel
theorem dX8_side_23 : decode cX8_side 23 = .ok (.aload_n 0, 1) := by decide +kernel
theorem dX8_side_24 : decode cX8_side 24 = .ok (.iload_n 1, 1) := by decide +kernel
theorem dX8_side_25 : decode cX8_side 25 = .ok (.invokevirtual 87, 3) := by decide +kernel
theorem dX8_side_28 : decode cX8_side 28 = .ok (.iload_n 2, 1) := by decide +kernel
theorem dX8_side_29 : decode cX8_side 29 = .ok (.invokevirtual 197, 3) := by decide +kernel
theorem dX8_side_32 : decode cX8_side 32 = .ok (.ireturn, 1) := by decide +kernel
set_option maxRecDepth 20000 in
theorem ggX8_message_X8_isSide : GoodIn wsX8_message wsX8_isSide := goodIn_r _ [5] (by decide +kernel) (by decide +kernel)
set_option maxRecDepth 20000 in
theorem gX8_message_X8_isSide : GoodIn wsX8_message (va_wsS RX8 84 yX8_isSide wsX8_isSide) := goodIn_app (goodIn_of _ (by decide +kernel)) ggX8_message_X8_isSide
set_option maxRecDepth 20000 in
theorem ggX8_message_X2_hasNumber : GoodIn wsX8_message wsX2_hasNumber := goodIn_r _ [9] (by decide +kernel) (by decide +kernel)
set_option maxRecDepth 20000 in
theorem gX8_message_X2_hasNumber : GoodIn wsX8_message (va_wsS RX8 177 yX2_hasNumber wsX2_hasNumber) := goodIn_app (goodIn_of _ (by decide +kernel)) ggX8_message_X2_hasNumber
set_option maxRecDepth 20000 in
theorem ggX8_message_X8_roadTo : GoodIn wsX8_message wsX8_roadTo := goodIn_r _ [13, 14, 15, 31, 32, 33, 34, 35, 36, 37, 38, 39] (by decide +kernel) (by decide +kernel)
set_option maxRecDepth 20000 in
theorem gX8_message_X8_roadTo : GoodIn wsX8_message (wsV RX8 126 RX8 yX8_roadTo wsX8_roadTo) := goodIn_app (goodIn_of _ (by decide +kernel)) ggX8_message_X8_roadTo
set_option maxRecDepth 20000 in
theorem ggX8_message_X4_first : GoodIn wsX8_message wsX4_first := goodIn_r _ [20, 21, 28, 29, 30] (by decide +kernel) (by decide +kernel)
set_option maxRecDepth 20000 in
theorem gX8_message_X4_first : GoodIn wsX8_message (wsV RX8 180 RX4 yX4_first wsX4_first) := goodIn_app (goodIn_of _ (by decide +kernel)) ggX8_message_X4_first
set_option maxRecDepth 20000 in
theorem ggX8_message_X2_at : GoodIn wsX8_message wsX2_at := goodIn_r _ [25, 26, 27, 7, 8, 9, 40] (by decide +kernel) (by decide +kernel)
set_option maxRecDepth 20000 in
theorem gX8_message_X2_at : GoodIn wsX8_message (wsV RX8 139 RX2 yX2_at wsX2_at) := goodIn_app (goodIn_of _ (by decide +kernel)) ggX8_message_X2_at
theorem dX8_message_0 : decode cX8_message 0 = .ok (.iload_n 1, 1) := by decide +kernel
theorem dX8_message_1 : decode cX8_message 1 = .ok (.invokestatic 84, 3) := by decide +kernel
theorem dX8_message_4 : decode cX8_message 4 = .ok (.ifCond .ne 6, 3) := by decide +kernel
theorem dX8_message_7 : decode cX8_message 7 = .ok (.bipush (-2), 2) := by decide +kernel
theorem dX8_message_9 : decode cX8_message 9 = .ok (.ireturn, 1) := by decide +kernel
theorem dX8_message_10 : decode cX8_message 10 = .ok (.iload_n 2, 1) := by decide +kernel
theorem dX8_message_11 : decode cX8_message 11 = .ok (.invokestatic 177, 3) := by decide +kernel
theorem dX8_message_14 : decode cX8_message 14 = .ok (.ifCond .ne 6, 3) := by decide +kernel
theorem dX8_message_17 : decode cX8_message 17 = .ok (.bipush (-3), 2) := by decide +kernel
theorem dX8_message_19 : decode cX8_message 19 = .ok (.ireturn, 1) := by decide +kernel
theorem dX8_message_20 : decode cX8_message 20 = .ok (.aload_n 0, 1) := by decide +kernel
theorem dX8_message_21 : decode cX8_message 21 = .ok (.iload_n 1, 1) := by decide +kernel
theorem dX8_message_22 : decode cX8_message 22 = .ok (.invokevirtual 126, 3) := by decide +kernel
theorem dX8_message_25 : decode cX8_message 25 = .ok (.getfield 125, 3) := by decide +kernel
theorem dX8_message_28 : decode cX8_message 28 = .ok (.ifCond .ne 8, 3) := by decide +kernel
theorem dX8_message_31 : decode cX8_message 31 = .ok (.bipush (-4), 2) := by decide +kernel
theorem dX8_message_33 : decode cX8_message 33 = .ok (.goto 15, 3) := by decide +kernel
theorem dX8_message_36 : decode cX8_message 36 = .ok (.aload_n 0, 1) := by decide +kernel
theorem dX8_message_37 : decode cX8_message 37 = .ok (.iload_n 1, 1) := by decide +kernel
theorem dX8_message_38 : decode cX8_message 38 = .ok (.invokevirtual 126, 3) := by decide +kernel
theorem dX8_message_41 : decode cX8_message 41 = .ok (.invokevirtual 180, 3) := by decide +kernel
theorem dX8_message_44 : decode cX8_message 44 = .ok (.iload_n 2, 1) := by decide +kernel
theorem dX8_message_45 : decode cX8_message 45 = .ok (.invokevirtual 139, 3) := by decide +kernel
theorem dX8_message_48 : decode cX8_message 48 = .ok (.ireturn, 1) := by decide +kernel
set_option maxRecDepth 20000 in
theorem ggX8_kept_X7_tells : GoodIn wsX8_kept wsX7_tells := goodIn_r _ [7] (by decide +kernel) (by decide +kernel)
set_option maxRecDepth 20000 in
theorem gX8_kept_X7_tells : GoodIn wsX8_kept (va_wsS RX8 203 yX7_tells wsX7_tells) := goodIn_app (goodIn_of _ (by decide +kernel)) ggX8_kept_X7_tells
set_option maxRecDepth 20000 in
theorem ggX8_kept_X7_tell : GoodIn wsX8_kept wsX7_tell := goodIn_r _ [11, 12, 13, 14, 15, 16, 35, 36, 37, 38, 39] (by decide +kernel) (by decide +kernel)
set_option maxRecDepth 20000 in
theorem gX8_kept_X7_tell : GoodIn wsX8_kept (wsV RX8 210 RX7 yX7_tell wsX7_tell) := goodIn_app (goodIn_of _ (by decide +kernel)) ggX8_kept_X7_tell
theorem dX8_kept_0 : decode cX8_kept 0 = .ok (.iload_n 1, 1) := by decide +kernel
theorem dX8_kept_1 : decode cX8_kept 1 = .ok (.ifCond .lt 14, 3) := by decide +kernel
theorem dX8_kept_4 : decode cX8_kept 4 = .ok (.iload_n 1, 1) := by decide +kernel
theorem dX8_kept_5 : decode cX8_kept 5 = .ok (.aload_n 0, 1) := by decide +kernel
theorem dX8_kept_6 : decode cX8_kept 6 = .ok (.getfield 19, 3) := by decide +kernel
theorem dX8_kept_9 : decode cX8_kept 9 = .ok (.getfield 200, 3) := by decide +kernel
theorem dX8_kept_12 : decode cX8_kept 12 = .ok (.if_icmp .lt 6, 3) := by decide +kernel
theorem dX8_kept_15 : decode cX8_kept 15 = .ok (.bipush (-2), 2) := by decide +kernel
theorem dX8_kept_17 : decode cX8_kept 17 = .ok (.ireturn, 1) := by decide +kernel
theorem dX8_kept_18 : decode cX8_kept 18 = .ok (.iload_n 2, 1) := by decide +kernel
theorem dX8_kept_19 : decode cX8_kept 19 = .ok (.invokestatic 203, 3) := by decide +kernel
theorem dX8_kept_22 : decode cX8_kept 22 = .ok (.ifCond .eq 19, 3) := by decide +kernel
theorem dX8_kept_25 : decode cX8_kept 25 = .ok (.aload_n 0, 1) := by decide +kernel
theorem dX8_kept_26 : decode cX8_kept 26 = .ok (.getfield 19, 3) := by decide +kernel
theorem dX8_kept_29 : decode cX8_kept 29 = .ok (.getfield 206, 3) := by decide +kernel
theorem dX8_kept_32 : decode cX8_kept 32 = .ok (.iload_n 1, 1) := by decide +kernel
theorem dX8_kept_33 : decode cX8_kept 33 = .ok (.aaload, 1) := by decide +kernel
theorem dX8_kept_34 : decode cX8_kept 34 = .ok (.iload_n 2, 1) := by decide +kernel
theorem dX8_kept_35 : decode cX8_kept 35 = .ok (.invokevirtual 210, 3) := by decide +kernel
theorem dX8_kept_38 : decode cX8_kept 38 = .ok (.goto 5, 3) := by decide +kernel
theorem dX8_kept_41 : decode cX8_kept 41 = .ok (.bipush (-3), 2) := by decide +kernel
theorem dX8_kept_43 : decode cX8_kept 43 = .ok (.ireturn, 1) := by decide +kernel
set_option maxRecDepth 20000 in
theorem ggX8_held_X7_tells : GoodIn wsX8_held wsX7_tells := goodIn_r _ [7] (by decide +kernel) (by decide +kernel)
set_option maxRecDepth 20000 in
theorem gX8_held_X7_tells : GoodIn wsX8_held (va_wsS RX8 203 yX7_tells wsX7_tells) := goodIn_app (goodIn_of _ (by decide +kernel)) ggX8_held_X7_tells
set_option maxRecDepth 20000 in
theorem ggX8_held_X7_tell : GoodIn wsX8_held wsX7_tell := goodIn_r _ [11, 12, 13, 14, 15, 16, 35, 36, 37, 38, 39] (by decide +kernel) (by decide +kernel)
set_option maxRecDepth 20000 in
theorem gX8_held_X7_tell : GoodIn wsX8_held (wsV RX8 210 RX7 yX7_tell wsX7_tell) := goodIn_app (goodIn_of _ (by decide +kernel)) ggX8_held_X7_tell
theorem dX8_held_0 : decode cX8_held 0 = .ok (.iload_n 1, 1) := by decide +kernel
theorem dX8_held_1 : decode cX8_held 1 = .ok (.invokestatic 203, 3) := by decide +kernel
theorem dX8_held_4 : decode cX8_held 4 = .ok (.ifCond .ne 6, 3) := by decide +kernel
theorem dX8_held_7 : decode cX8_held 7 = .ok (.bipush (-3), 2) := by decide +kernel
theorem dX8_held_9 : decode cX8_held 9 = .ok (.ireturn, 1) := by decide +kernel
theorem dX8_held_10 : decode cX8_held 10 = .ok (.aload_n 0, 1) := by decide +kernel
theorem dX8_held_11 : decode cX8_held 11 = .ok (.getfield 10, 3) := by decide +kernel
theorem dX8_held_14 : decode cX8_held 14 = .ok (.getfield 150, 3) := by decide +kernel
theorem dX8_held_17 : decode cX8_held 17 = .ok (.ifCond .eq 17, 3) := by decide +kernel
theorem dX8_held_20 : decode cX8_held 20 = .ok (.aload_n 0, 1) := by decide +kernel
theorem dX8_held_21 : decode cX8_held 21 = .ok (.getfield 10, 3) := by decide +kernel
theorem dX8_held_24 : decode cX8_held 24 = .ok (.getfield 154, 3) := by decide +kernel
theorem dX8_held_27 : decode cX8_held 27 = .ok (.iload_n 1, 1) := by decide +kernel
theorem dX8_held_28 : decode cX8_held 28 = .ok (.invokevirtual 210, 3) := by decide +kernel
theorem dX8_held_31 : decode cX8_held 31 = .ok (.goto 5, 3) := by decide +kernel
theorem dX8_held_34 : decode cX8_held 34 = .ok (.bipush (-4), 2) := by decide +kernel
theorem dX8_held_36 : decode cX8_held 36 = .ok (.ireturn, 1) := by decide +kernel
set_option maxRecDepth 20000 in
theorem ggX8_share_X8_isGroup : GoodIn wsX8_share wsX8_isGroup := goodIn_r _ [4] (by decide +kernel) (by decide +kernel)
set_option maxRecDepth 20000 in
theorem gX8_share_X8_isGroup : GoodIn wsX8_share (va_wsS RX8 102 yX8_isGroup wsX8_isGroup) := goodIn_app (goodIn_of _ (by decide +kernel)) ggX8_share_X8_isGroup
set_option maxRecDepth 20000 in
theorem ggX8_share_X8_shareOf : GoodIn wsX8_share wsX8_shareOf := goodIn_r _ [7, 8, 9, 3, 10, 11, 12, 13] (by decide +kernel) (by decide +kernel)
set_option maxRecDepth 20000 in
theorem gX8_share_X8_shareOf : GoodIn wsX8_share (va_wsS RX8 211 yX8_shareOf wsX8_shareOf) := goodIn_app (goodIn_of _ (by decide +kernel)) ggX8_share_X8_shareOf
theorem dX8_share_0 : decode cX8_share 0 = .ok (.iload_n 1, 1) := by decide +kernel
theorem dX8_share_1 : decode cX8_share 1 = .ok (.invokestatic 102, 3) := by decide +kernel
theorem dX8_share_4 : decode cX8_share 4 = .ok (.ifCond .ne 6, 3) := by decide +kernel
theorem dX8_share_7 : decode cX8_share 7 = .ok (.bipush (-2), 2) := by decide +kernel
theorem dX8_share_9 : decode cX8_share 9 = .ok (.ireturn, 1) := by decide +kernel
theorem dX8_share_10 : decode cX8_share 10 = .ok (.iload_n 2, 1) := by decide +kernel
theorem dX8_share_11 : decode cX8_share 11 = .ok (.iconst 1, 1) := by decide +kernel
theorem dX8_share_12 : decode cX8_share 12 = .ok (.if_icmp .lt 10, 3) := by decide +kernel
theorem dX8_share_15 : decode cX8_share 15 = .ok (.iload_n 2, 1) := by decide +kernel
theorem dX8_share_16 : decode cX8_share 16 = .ok (.sipush 999, 3) := by decide +kernel
theorem dX8_share_19 : decode cX8_share 19 = .ok (.if_icmp .le 8, 3) := by decide +kernel
theorem dX8_share_22 : decode cX8_share 22 = .ok (.bipush (-3), 2) := by decide +kernel
theorem dX8_share_24 : decode cX8_share 24 = .ok (.goto 8, 3) := by decide +kernel
theorem dX8_share_27 : decode cX8_share 27 = .ok (.iload_n 1, 1) := by decide +kernel
theorem dX8_share_28 : decode cX8_share 28 = .ok (.iload_n 2, 1) := by decide +kernel
theorem dX8_share_29 : decode cX8_share 29 = .ok (.invokestatic 211, 3) := by decide +kernel
theorem dX8_share_32 : decode cX8_share 32 = .ok (.ireturn, 1) := by decide +kernel
theorem dX8_count_0 : decode cX8_count 0 = .ok (.iload_n 1, 1) := by decide +kernel
theorem dX8_count_1 : decode cX8_count 1 = .ok (.tableswitch 188 0 12 #[67, 72, 80, 88, 96, 104, 112, 120, 131, 142, 153, 164, 172], 67) := by decide +kernel
theorem dX8_count_68 : decode cX8_count 68 = .ok (.aload_n 0, 1) := by decide +kernel
theorem dX8_count_69 : decode cX8_count 69 = .ok (.getfield 118, 3) := by decide +kernel
theorem dX8_count_72 : decode cX8_count 72 = .ok (.ireturn, 1) := by decide +kernel
theorem dX8_count_73 : decode cX8_count 73 = .ok (.aload_n 0, 1) := by decide +kernel
theorem dX8_count_74 : decode cX8_count 74 = .ok (.getfield 26, 3) := by decide +kernel
theorem dX8_count_77 : decode cX8_count 77 = .ok (.getfield 125, 3) := by decide +kernel
theorem dX8_count_80 : decode cX8_count 80 = .ok (.ireturn, 1) := by decide +kernel
theorem dX8_count_81 : decode cX8_count 81 = .ok (.aload_n 0, 1) := by decide +kernel
theorem dX8_count_82 : decode cX8_count 82 = .ok (.getfield 30, 3) := by decide +kernel
theorem dX8_count_85 : decode cX8_count 85 = .ok (.getfield 125, 3) := by decide +kernel
theorem dX8_count_88 : decode cX8_count 88 = .ok (.ireturn, 1) := by decide +kernel
theorem dX8_count_89 : decode cX8_count 89 = .ok (.aload_n 0, 1) := by decide +kernel
theorem dX8_count_90 : decode cX8_count 90 = .ok (.getfield 19, 3) := by decide +kernel
theorem dX8_count_93 : decode cX8_count 93 = .ok (.getfield 200, 3) := by decide +kernel
theorem dX8_count_96 : decode cX8_count 96 = .ok (.ireturn, 1) := by decide +kernel
theorem dX8_count_97 : decode cX8_count 97 = .ok (.aload_n 0, 1) := by decide +kernel
theorem dX8_count_98 : decode cX8_count 98 = .ok (.getfield 19, 3) := by decide +kernel
theorem dX8_count_101 : decode cX8_count 101 = .ok (.getfield 215, 3) := by decide +kernel
theorem dX8_count_104 : decode cX8_count 104 = .ok (.ireturn, 1) := by decide +kernel
theorem dX8_count_105 : decode cX8_count 105 = .ok (.aload_n 0, 1) := by decide +kernel
theorem dX8_count_106 : decode cX8_count 106 = .ok (.getfield 19, 3) := by decide +kernel
theorem dX8_count_109 : decode cX8_count 109 = .ok (.getfield 218, 3) := by decide +kernel
theorem dX8_count_112 : decode cX8_count 112 = .ok (.ireturn, 1) := by decide +kernel
theorem dX8_count_113 : decode cX8_count 113 = .ok (.aload_n 0, 1) := by decide +kernel
theorem dX8_count_114 : decode cX8_count 114 = .ok (.getfield 19, 3) := by decide +kernel
theorem dX8_count_117 : decode cX8_count 117 = .ok (.getfield 221, 3) := by decide +kernel
theorem dX8_count_120 : decode cX8_count 120 = .ok (.ireturn, 1) := by decide +kernel
theorem dX8_count_121 : decode cX8_count 121 = .ok (.aload_n 0, 1) := by decide +kernel
theorem dX8_count_122 : decode cX8_count 122 = .ok (.getfield 10, 3) := by decide +kernel
theorem dX8_count_125 : decode cX8_count 125 = .ok (.getfield 111, 3) := by decide +kernel
theorem dX8_count_128 : decode cX8_count 128 = .ok (.getfield 224, 3) := by decide +kernel
theorem dX8_count_131 : decode cX8_count 131 = .ok (.ireturn, 1) := by decide +kernel
theorem dX8_count_132 : decode cX8_count 132 = .ok (.aload_n 0, 1) := by decide +kernel
theorem dX8_count_133 : decode cX8_count 133 = .ok (.getfield 19, 3) := by decide +kernel
theorem dX8_count_136 : decode cX8_count 136 = .ok (.getfield 142, 3) := by decide +kernel
theorem dX8_count_139 : decode cX8_count 139 = .ok (.getfield 224, 3) := by decide +kernel
theorem dX8_count_142 : decode cX8_count 142 = .ok (.ireturn, 1) := by decide +kernel
theorem dX8_count_143 : decode cX8_count 143 = .ok (.aload_n 0, 1) := by decide +kernel
theorem dX8_count_144 : decode cX8_count 144 = .ok (.getfield 10, 3) := by decide +kernel
theorem dX8_count_147 : decode cX8_count 147 = .ok (.getfield 111, 3) := by decide +kernel
theorem dX8_count_150 : decode cX8_count 150 = .ok (.getfield 227, 3) := by decide +kernel
theorem dX8_count_153 : decode cX8_count 153 = .ok (.ireturn, 1) := by decide +kernel
theorem dX8_count_154 : decode cX8_count 154 = .ok (.aload_n 0, 1) := by decide +kernel
theorem dX8_count_155 : decode cX8_count 155 = .ok (.getfield 19, 3) := by decide +kernel
theorem dX8_count_158 : decode cX8_count 158 = .ok (.getfield 142, 3) := by decide +kernel
theorem dX8_count_161 : decode cX8_count 161 = .ok (.getfield 227, 3) := by decide +kernel
theorem dX8_count_164 : decode cX8_count 164 = .ok (.ireturn, 1) := by decide +kernel
theorem dX8_count_165 : decode cX8_count 165 = .ok (.aload_n 0, 1) := by decide +kernel
theorem dX8_count_166 : decode cX8_count 166 = .ok (.getfield 51, 3) := by decide +kernel
theorem dX8_count_169 : decode cX8_count 169 = .ok (.getfield 59, 3) := by decide +kernel
theorem dX8_count_172 : decode cX8_count 172 = .ok (.ireturn, 1) := by decide +kernel
theorem dX8_count_173 : decode cX8_count 173 = .ok (.aload_n 0, 1) := by decide +kernel
theorem dX8_count_174 : decode cX8_count 174 = .ok (.getfield 26, 3) := by decide +kernel
theorem dX8_count_177 : decode cX8_count 177 = .ok (.getfield 230, 3) := by decide +kernel
theorem dX8_count_180 : decode cX8_count 180 = .ok (.aload_n 0, 1) := by decide +kernel
theorem dX8_count_181 : decode cX8_count 181 = .ok (.getfield 30, 3) := by decide +kernel
theorem dX8_count_184 : decode cX8_count 184 = .ok (.getfield 230, 3) := by decide +kernel
theorem dX8_count_187 : decode cX8_count 187 = .ok (.iadd, 1) := by decide +kernel
theorem dX8_count_188 : decode cX8_count 188 = .ok (.ireturn, 1) := by decide +kernel
theorem dX8_count_189 : decode cX8_count 189 = .ok (.bipush (-3), 2) := by decide +kernel
theorem dX8_count_191 : decode cX8_count 191 = .ok (.ireturn, 1) := by decide +kernel
set_option maxRecDepth 20000 in
theorem ggX8_apply_X8_offer : GoodIn wsX8_apply wsX8_offer := goodIn_r _ [5, 6, 7, 8, 9, 4, 10, 11, 12, 13, 14, 15, 16, 17, 18, 37, 38, 39, 40, 41, 42, 43, 44, 45, 46, 47, 48, 49, 50, 51, 52, 53, 54, 55, 56, 57, 58, 59, 60, 61, 62, 63, 64, 65, 66, 67, 68, 69, 70, 71, 72, 73, 74, 75, 76, 77, 78, 79, 80, 81] (by decide +kernel) (by decide +kernel)
set_option maxRecDepth 20000 in
theorem gX8_apply_X8_offer : GoodIn wsX8_apply (wsV RX8 233 RX8 yX8_offer wsX8_offer) := goodIn_app (goodIn_of _ (by decide +kernel)) ggX8_apply_X8_offer
set_option maxRecDepth 20000 in
theorem ggX8_apply_X8_secret : GoodIn wsX8_apply wsX8_secret := goodIn_r _ [22, 23, 8, 9, 4, 10, 11, 12, 13, 14, 15, 16, 17, 18, 37, 38, 39, 40, 41, 42, 43, 44, 45, 46, 47, 48, 49, 50, 51, 52, 53, 54, 55, 56, 57, 58, 59, 60, 61, 62, 63, 64, 65, 66, 67, 68, 69, 70, 71, 72, 73, 74, 75, 76, 77, 78, 79, 80, 81] (by decide +kernel) (by decide +kernel)
set_option maxRecDepth 20000 in
theorem gX8_apply_X8_secret : GoodIn wsX8_apply (wsV RX8 237 RX8 yX8_secret wsX8_secret) := goodIn_app (goodIn_of _ (by decide +kernel)) ggX8_apply_X8_secret
set_option maxRecDepth 20000 in
theorem ggX8_apply_X8_guess : GoodIn wsX8_apply wsX8_guess := goodIn_r _ [27, 15, 28, 29, 30, 4, 31, 55, 56, 57, 58, 59, 60, 61, 62, 63, 64, 65, 66, 67, 68, 69, 70, 71, 72] (by decide +kernel) (by decide +kernel)
set_option maxRecDepth 20000 in
theorem gX8_apply_X8_guess : GoodIn wsX8_apply (wsV RX8 239 RX8 yX8_guess wsX8_guess) := goodIn_app (goodIn_of _ (by decide +kernel)) ggX8_apply_X8_guess
set_option maxRecDepth 20000 in
theorem ggX8_apply_X8_early : GoodIn wsX8_apply wsX8_early := goodIn_r _ [35, 15, 36, 55, 56, 57, 58, 59, 60, 61, 62, 63, 64, 65, 66, 67, 68, 69, 70, 71, 72] (by decide +kernel) (by decide +kernel)
set_option maxRecDepth 20000 in
theorem gX8_apply_X8_early : GoodIn wsX8_apply (wsV RX8 242 RX8 yX8_early wsX8_early) := goodIn_app (goodIn_of _ (by decide +kernel)) ggX8_apply_X8_early
theorem dX8_apply_0 : decode cX8_apply 0 = .ok (.iload_n 1, 1) := by decide +kernel
theorem dX8_apply_1 : decode cX8_apply 1 = .ok (.tableswitch 72 0 3 #[31, 42, 53, 63], 31) := by decide +kernel
theorem dX8_apply_32 : decode cX8_apply 32 = .ok (.aload_n 0, 1) := by decide +kernel
theorem dX8_apply_33 : decode cX8_apply 33 = .ok (.iconst 0, 1) := by decide +kernel
theorem dX8_apply_34 : decode cX8_apply 34 = .ok (.iload_n 2, 1) := by decide +kernel
theorem dX8_apply_35 : decode cX8_apply 35 = .ok (.iload_n 3, 1) := by decide +kernel
theorem dX8_apply_36 : decode cX8_apply 36 = .ok (.invokevirtual 233, 3) := by decide +kernel
theorem dX8_apply_39 : decode cX8_apply 39 = .ok (.pop, 1) := by decide +kernel
theorem dX8_apply_40 : decode cX8_apply 40 = .ok (.goto 39, 3) := by decide +kernel
theorem dX8_apply_43 : decode cX8_apply 43 = .ok (.aload_n 0, 1) := by decide +kernel
theorem dX8_apply_44 : decode cX8_apply 44 = .ok (.iconst 1, 1) := by decide +kernel
theorem dX8_apply_45 : decode cX8_apply 45 = .ok (.iload_n 2, 1) := by decide +kernel
theorem dX8_apply_46 : decode cX8_apply 46 = .ok (.iload_n 3, 1) := by decide +kernel
theorem dX8_apply_47 : decode cX8_apply 47 = .ok (.invokevirtual 233, 3) := by decide +kernel
theorem dX8_apply_50 : decode cX8_apply 50 = .ok (.pop, 1) := by decide +kernel
theorem dX8_apply_51 : decode cX8_apply 51 = .ok (.goto 28, 3) := by decide +kernel
theorem dX8_apply_54 : decode cX8_apply 54 = .ok (.aload_n 0, 1) := by decide +kernel
theorem dX8_apply_55 : decode cX8_apply 55 = .ok (.iload_n 2, 1) := by decide +kernel
theorem dX8_apply_56 : decode cX8_apply 56 = .ok (.iload_n 3, 1) := by decide +kernel
theorem dX8_apply_57 : decode cX8_apply 57 = .ok (.invokevirtual 237, 3) := by decide +kernel
theorem dX8_apply_60 : decode cX8_apply 60 = .ok (.pop, 1) := by decide +kernel
theorem dX8_apply_61 : decode cX8_apply 61 = .ok (.goto 18, 3) := by decide +kernel
theorem dX8_apply_64 : decode cX8_apply 64 = .ok (.aload_n 0, 1) := by decide +kernel
theorem dX8_apply_65 : decode cX8_apply 65 = .ok (.iload_n 2, 1) := by decide +kernel
theorem dX8_apply_66 : decode cX8_apply 66 = .ok (.invokevirtual 239, 3) := by decide +kernel
theorem dX8_apply_69 : decode cX8_apply 69 = .ok (.pop, 1) := by decide +kernel
theorem dX8_apply_70 : decode cX8_apply 70 = .ok (.goto 9, 3) := by decide +kernel
theorem dX8_apply_73 : decode cX8_apply 73 = .ok (.aload_n 0, 1) := by decide +kernel
theorem dX8_apply_74 : decode cX8_apply 74 = .ok (.iload_n 2, 1) := by decide +kernel
theorem dX8_apply_75 : decode cX8_apply 75 = .ok (.invokevirtual 242, 3) := by decide +kernel
theorem dX8_apply_78 : decode cX8_apply 78 = .ok (.pop, 1) := by decide +kernel
theorem dX8_apply_79 : decode cX8_apply 79 = .ok (.return_, 1) := by decide +kernel
