theorem dX2_init_0 : decode cX2_init 0 = .ok (.aload_n 0, 1) := by decide +kernel
theorem dX2_init_1 : decode cX2_init 1 = .ok (.invokespecial 3, 3) := by decide +kernel
theorem dX2_init_4 : decode cX2_init 4 = .ok (.aload_n 0, 1) := by decide +kernel
theorem dX2_init_5 : decode cX2_init 5 = .ok (.new 9, 3) := by decide +kernel
theorem dX2_init_8 : decode cX2_init 8 = .ok (.dup, 1) := by decide +kernel
theorem dX2_init_9 : decode cX2_init 9 = .ok (.sipush 200, 3) := by decide +kernel
theorem dX2_init_12 : decode cX2_init 12 = .ok (.newarray .byte, 2) := by decide +kernel
theorem dX2_init_14 : decode cX2_init 14 = .ok (.invokespecial 11, 3) := by decide +kernel
theorem dX2_init_17 : decode cX2_init 17 = .ok (.putfield 14, 3) := by decide +kernel
theorem dX2_init_20 : decode cX2_init 20 = .ok (.aload_n 0, 1) := by decide +kernel
theorem dX2_init_21 : decode cX2_init 21 = .ok (.new 9, 3) := by decide +kernel
theorem dX2_init_24 : decode cX2_init 24 = .ok (.dup, 1) := by decide +kernel
theorem dX2_init_25 : decode cX2_init 25 = .ok (.sipush 400, 3) := by decide +kernel
theorem dX2_init_28 : decode cX2_init 28 = .ok (.newarray .byte, 2) := by decide +kernel
theorem dX2_init_30 : decode cX2_init 30 = .ok (.invokespecial 11, 3) := by decide +kernel
theorem dX2_init_33 : decode cX2_init 33 = .ok (.putfield 18, 3) := by decide +kernel
theorem dX2_init_36 : decode cX2_init 36 = .ok (.aload_n 0, 1) := by decide +kernel
theorem dX2_init_37 : decode cX2_init 37 = .ok (.new 21, 3) := by decide +kernel
theorem dX2_init_40 : decode cX2_init 40 = .ok (.dup, 1) := by decide +kernel
theorem dX2_init_41 : decode cX2_init 41 = .ok (.invokespecial 23, 3) := by decide +kernel
theorem dX2_init_44 : decode cX2_init 44 = .ok (.putfield 24, 3) := by decide +kernel
theorem dX2_init_47 : decode cX2_init 47 = .ok (.aload_n 0, 1) := by decide +kernel
theorem dX2_init_48 : decode cX2_init 48 = .ok (.new 21, 3) := by decide +kernel
theorem dX2_init_51 : decode cX2_init 51 = .ok (.dup, 1) := by decide +kernel
theorem dX2_init_52 : decode cX2_init 52 = .ok (.invokespecial 23, 3) := by decide +kernel
theorem dX2_init_55 : decode cX2_init 55 = .ok (.putfield 28, 3) := by decide +kernel
theorem dX2_init_58 : decode cX2_init 58 = .ok (.aload_n 0, 1) := by decide +kernel
theorem dX2_init_59 : decode cX2_init 59 = .ok (.new 21, 3) := by decide +kernel
theorem dX2_init_62 : decode cX2_init 62 = .ok (.dup, 1) := by decide +kernel
theorem dX2_init_63 : decode cX2_init 63 = .ok (.invokespecial 23, 3) := by decide +kernel
theorem dX2_init_66 : decode cX2_init 66 = .ok (.putfield 31, 3) := by decide +kernel
theorem dX2_init_69 : decode cX2_init 69 = .ok (.aload_n 0, 1) := by decide +kernel
theorem dX2_init_70 : decode cX2_init 70 = .ok (.new 21, 3) := by decide +kernel
theorem dX2_init_73 : decode cX2_init 73 = .ok (.dup, 1) := by decide +kernel
theorem dX2_init_74 : decode cX2_init 74 = .ok (.invokespecial 23, 3) := by decide +kernel
theorem dX2_init_77 : decode cX2_init 77 = .ok (.putfield 34, 3) := by decide +kernel
theorem dX2_init_80 : decode cX2_init 80 = .ok (.aload_n 0, 1) := by decide +kernel
theorem dX2_init_81 : decode cX2_init 81 = .ok (.new 21, 3) := by decide +kernel
theorem dX2_init_84 : decode cX2_init 84 = .ok (.dup, 1) := by decide +kernel
theorem dX2_init_85 : decode cX2_init 85 = .ok (.invokespecial 23, 3) := by decide +kernel
theorem dX2_init_88 : decode cX2_init 88 = .ok (.putfield 37, 3) := by decide +kernel
theorem dX2_init_91 : decode cX2_init 91 = .ok (.aload_n 0, 1) := by decide +kernel
theorem dX2_init_92 : decode cX2_init 92 = .ok (.new 21, 3) := by decide +kernel
theorem dX2_init_95 : decode cX2_init 95 = .ok (.dup, 1) := by decide +kernel
theorem dX2_init_96 : decode cX2_init 96 = .ok (.invokespecial 23, 3) := by decide +kernel
theorem dX2_init_99 : decode cX2_init 99 = .ok (.putfield 40, 3) := by decide +kernel
theorem dX2_init_102 : decode cX2_init 102 = .ok (.aload_n 0, 1) := by decide +kernel
theorem dX2_init_103 : decode cX2_init 103 = .ok (.new 21, 3) := by decide +kernel
theorem dX2_init_106 : decode cX2_init 106 = .ok (.dup, 1) := by decide +kernel
theorem dX2_init_107 : decode cX2_init 107 = .ok (.invokespecial 23, 3) := by decide +kernel
theorem dX2_init_110 : decode cX2_init 110 = .ok (.putfield 43, 3) := by decide +kernel
theorem dX2_init_113 : decode cX2_init 113 = .ok (.aload_n 0, 1) := by decide +kernel
theorem dX2_init_114 : decode cX2_init 114 = .ok (.new 21, 3) := by decide +kernel
theorem dX2_init_117 : decode cX2_init 117 = .ok (.dup, 1) := by decide +kernel
theorem dX2_init_118 : decode cX2_init 118 = .ok (.invokespecial 23, 3) := by decide +kernel
theorem dX2_init_121 : decode cX2_init 121 = .ok (.putfield 46, 3) := by decide +kernel
theorem dX2_init_124 : decode cX2_init 124 = .ok (.aload_n 0, 1) := by decide +kernel
theorem dX2_init_125 : decode cX2_init 125 = .ok (.bipush 63, 2) := by decide +kernel
theorem dX2_init_127 : decode cX2_init 127 = .ok (.putfield 49, 3) := by decide +kernel
theorem dX2_init_130 : decode cX2_init 130 = .ok (.return_, 1) := by decide +kernel
set_option maxRecDepth 20000 in
theorem ggX2_octet_X1_add : GoodIn wsX2_octet wsX1_add := goodIn_r _ [6, 7, 8, 20, 21] (by decide +kernel) (by decide +kernel)
set_option maxRecDepth 20000 in
theorem gX2_octet_X1_add : GoodIn wsX2_octet (wsV RX2 53 RX1 yX1_add wsX1_add) := goodIn_app (goodIn_of _ (by decide +kernel)) ggX2_octet_X1_add
theorem dX2_octet_0 : decode cX2_octet 0 = .ok (.aload_n 0, 1) := by decide +kernel
theorem dX2_octet_1 : decode cX2_octet 1 = .ok (.getfield 14, 3) := by decide +kernel
theorem dX2_octet_4 : decode cX2_octet 4 = .ok (.iload_n 1, 1) := by decide +kernel
theorem dX2_octet_5 : decode cX2_octet 5 = .ok (.invokevirtual 53, 3) := by decide +kernel
theorem dX2_octet_8 : decode cX2_octet 8 = .ok (.return_, 1) := by decide +kernel
set_option maxRecDepth 20000 in
theorem ggX2_read_X0_empty : GoodIn wsX2_read wsX0_empty := goodIn_r _ [9, 10, 123, 124] (by decide +kernel) (by decide +kernel)
set_option maxRecDepth 20000 in
theorem gX2_read_X0_empty : GoodIn wsX2_read (wsV RX2 57 RX0 yX0_empty wsX0_empty) := goodIn_app (goodIn_of _ (by decide +kernel)) ggX2_read_X0_empty
set_option maxRecDepth 20000 in
theorem ggX2_read_X2_wrongInOldKind : GoodIn wsX2_read wsX2_wrongInOldKind := goodIn_r _ [15, 16, 2, 1, 5, 6, 7, 8, 9, 10, 17, 18, 19, 20, 21, 22, 23, 24, 25, 26, 14, 27, 28, 29, 30, 31, 32, 33, 34, 35, 36, 37, 38, 39, 40, 41, 42, 43, 44, 45, 46, 47, 48, 49, 50, 51, 52, 53, 54, 55, 56, 112, 113, 114, 115, 116, 117, 118, 119, 120, 121, 122, 125, 126, 123, 124] (by decide +kernel) (by decide +kernel)
set_option maxRecDepth 20000 in
theorem gX2_read_X2_wrongInOldKind : GoodIn wsX2_read (wsV RX2 60 RX2 yX2_wrongInOldKind wsX2_wrongInOldKind) := goodIn_app (goodIn_of _ (by decide +kernel)) ggX2_read_X2_wrongInOldKind
set_option maxRecDepth 20000 in
theorem ggX2_read_X2_wrongInNewKind : GoodIn wsX2_read wsX2_wrongInNewKind := goodIn_r _ [60, 2, 1, 61, 62, 63, 14, 64, 17, 18, 19, 20, 21, 22, 23, 65, 66, 67, 31, 32, 33, 68, 69, 70, 71, 72, 73, 37, 38, 39, 74, 75, 76, 77, 78, 79, 80, 81, 82, 83, 84, 85, 86, 87, 88, 89, 90, 91, 92, 93, 43, 44, 45, 8, 46, 10, 47, 112, 113, 114, 115, 116, 117, 118, 119, 120, 121, 122, 125, 126, 123, 124] (by decide +kernel) (by decide +kernel)
set_option maxRecDepth 20000 in
theorem gX2_read_X2_wrongInNewKind : GoodIn wsX2_read (wsV RX2 64 RX2 yX2_wrongInNewKind wsX2_wrongInNewKind) := goodIn_app (goodIn_of _ (by decide +kernel)) ggX2_read_X2_wrongInNewKind
set_option maxRecDepth 20000 in
theorem ggX2_read_X1_empty : GoodIn wsX2_read wsX1_empty := goodIn_r _ [97, 22, 125, 126] (by decide +kernel) (by decide +kernel)
set_option maxRecDepth 20000 in
theorem gX2_read_X1_empty : GoodIn wsX2_read (wsV RX2 67 RX1 yX1_empty wsX1_empty) := goodIn_app (goodIn_of _ (by decide +kernel)) ggX2_read_X1_empty
set_option maxRecDepth 20000 in
theorem ggX2_read_X0_putInOrder : GoodIn wsX2_read wsX0_putInOrder := goodIn_r _ [101, 10, 52, 53, 54, 8, 55, 47, 38, 14, 39, 102, 103, 104, 105, 106, 107, 108, 109, 110, 111, 123, 124] (by decide +kernel) (by decide +kernel)
set_option maxRecDepth 20000 in
theorem gX2_read_X0_putInOrder : GoodIn wsX2_read (wsV RX2 68 RX0 yX0_putInOrder wsX0_putInOrder) := goodIn_app (goodIn_of _ (by decide +kernel)) ggX2_read_X0_putInOrder
theorem dX2_read_0 : decode cX2_read 0 = .ok (.aload_n 0, 1) := by decide +kernel
theorem dX2_read_1 : decode cX2_read 1 = .ok (.getfield 31, 3) := by decide +kernel
theorem dX2_read_4 : decode cX2_read 4 = .ok (.invokevirtual 57, 3) := by decide +kernel
theorem dX2_read_7 : decode cX2_read 7 = .ok (.iload_n 1, 1) := by decide +kernel
theorem dX2_read_8 : decode cX2_read 8 = .ok (.ifCond .ne 10, 3) := by decide +kernel
theorem dX2_read_11 : decode cX2_read 11 = .ok (.aload_n 0, 1) := by decide +kernel
theorem dX2_read_12 : decode cX2_read 12 = .ok (.invokevirtual 60, 3) := by decide +kernel
theorem dX2_read_15 : decode cX2_read 15 = .ok (.goto 7, 3) := by decide +kernel
theorem dX2_read_18 : decode cX2_read 18 = .ok (.aload_n 0, 1) := by decide +kernel
theorem dX2_read_19 : decode cX2_read 19 = .ok (.invokevirtual 64, 3) := by decide +kernel
theorem dX2_read_22 : decode cX2_read 22 = .ok (.istore_n 2, 1) := by decide +kernel
theorem dX2_read_23 : decode cX2_read 23 = .ok (.aload_n 0, 1) := by decide +kernel
theorem dX2_read_24 : decode cX2_read 24 = .ok (.getfield 14, 3) := by decide +kernel
theorem dX2_read_27 : decode cX2_read 27 = .ok (.invokevirtual 67, 3) := by decide +kernel
theorem dX2_read_30 : decode cX2_read 30 = .ok (.iload_n 2, 1) := by decide +kernel
theorem dX2_read_31 : decode cX2_read 31 = .ok (.iconst (-1), 1) := by decide +kernel
theorem dX2_read_32 : decode cX2_read 32 = .ok (.if_icmp .eq 7, 3) := by decide +kernel
theorem dX2_read_35 : decode cX2_read 35 = .ok (.iconst (-1), 1) := by decide +kernel
theorem dX2_read_36 : decode cX2_read 36 = .ok (.iload_n 2, 1) := by decide +kernel
theorem dX2_read_37 : decode cX2_read 37 = .ok (.isub, 1) := by decide +kernel
theorem dX2_read_38 : decode cX2_read 38 = .ok (.ireturn, 1) := by decide +kernel
theorem dX2_read_39 : decode cX2_read 39 = .ok (.aload_n 0, 1) := by decide +kernel
theorem dX2_read_40 : decode cX2_read 40 = .ok (.getfield 31, 3) := by decide +kernel
theorem dX2_read_43 : decode cX2_read 43 = .ok (.invokevirtual 68, 3) := by decide +kernel
theorem dX2_read_46 : decode cX2_read 46 = .ok (.aload_n 0, 1) := by decide +kernel
theorem dX2_read_47 : decode cX2_read 47 = .ok (.getfield 28, 3) := by decide +kernel
theorem dX2_read_50 : decode cX2_read 50 = .ok (.astore_n 3, 1) := by decide +kernel
theorem dX2_read_51 : decode cX2_read 51 = .ok (.aload_n 0, 1) := by decide +kernel
theorem dX2_read_52 : decode cX2_read 52 = .ok (.aload_n 0, 1) := by decide +kernel
theorem dX2_read_53 : decode cX2_read 53 = .ok (.getfield 24, 3) := by decide +kernel
theorem dX2_read_56 : decode cX2_read 56 = .ok (.putfield 28, 3) := by decide +kernel
theorem dX2_read_59 : decode cX2_read 59 = .ok (.aload_n 0, 1) := by decide +kernel
theorem dX2_read_60 : decode cX2_read 60 = .ok (.aload_n 0, 1) := by decide +kernel
theorem dX2_read_61 : decode cX2_read 61 = .ok (.getfield 31, 3) := by decide +kernel
theorem dX2_read_64 : decode cX2_read 64 = .ok (.putfield 24, 3) := by decide +kernel
theorem dX2_read_67 : decode cX2_read 67 = .ok (.aload_n 0, 1) := by decide +kernel
theorem dX2_read_68 : decode cX2_read 68 = .ok (.aload_n 3, 1) := by decide +kernel
theorem dX2_read_69 : decode cX2_read 69 = .ok (.putfield 31, 3) := by decide +kernel
theorem dX2_read_72 : decode cX2_read 72 = .ok (.aload_n 0, 1) := by decide +kernel
theorem dX2_read_73 : decode cX2_read 73 = .ok (.getfield 24, 3) := by decide +kernel
theorem dX2_read_76 : decode cX2_read 76 = .ok (.getfield 71, 3) := by decide +kernel
theorem dX2_read_79 : decode cX2_read 79 = .ok (.ireturn, 1) := by decide +kernel
set_option maxRecDepth 20000 in
theorem ggX2_character_X0_at : GoodIn wsX2_character wsX0_at := goodIn_r _ [6, 7, 8, 20, 21] (by decide +kernel) (by decide +kernel)
set_option maxRecDepth 20000 in
theorem gX2_character_X0_at : GoodIn wsX2_character (wsV RX2 74 RX0 yX0_at wsX0_at) := goodIn_app (goodIn_of _ (by decide +kernel)) ggX2_character_X0_at
theorem dX2_character_0 : decode cX2_character 0 = .ok (.aload_n 0, 1) := by decide +kernel
theorem dX2_character_1 : decode cX2_character 1 = .ok (.getfield 24, 3) := by decide +kernel
theorem dX2_character_4 : decode cX2_character 4 = .ok (.iload_n 1, 1) := by decide +kernel
theorem dX2_character_5 : decode cX2_character 5 = .ok (.invokevirtual 74, 3) := by decide +kernel
theorem dX2_character_8 : decode cX2_character 8 = .ok (.ireturn, 1) := by decide +kernel
set_option maxRecDepth 20000 in
theorem ggX2_write_X1_empty : GoodIn wsX2_write wsX1_empty := goodIn_r _ [8, 9, 93, 94] (by decide +kernel) (by decide +kernel)
set_option maxRecDepth 20000 in
theorem gX2_write_X1_empty : GoodIn wsX2_write (wsV RX2 67 RX1 yX1_empty wsX1_empty) := goodIn_app (goodIn_of _ (by decide +kernel)) ggX2_write_X1_empty
set_option maxRecDepth 20000 in
theorem ggX2_write_X0_empty : GoodIn wsX2_write wsX0_empty := goodIn_r _ [14, 15, 95, 96] (by decide +kernel) (by decide +kernel)
set_option maxRecDepth 20000 in
theorem gX2_write_X0_empty : GoodIn wsX2_write (wsV RX2 57 RX0 yX0_empty wsX0_empty) := goodIn_app (goodIn_of _ (by decide +kernel)) ggX2_write_X0_empty
set_option maxRecDepth 20000 in
theorem ggX2_write_X2_writeOldKind : GoodIn wsX2_write wsX2_writeOldKind := goodIn_r _ [20, 21, 1, 22, 23, 24, 25, 13, 26, 15, 27, 28, 29, 19, 30, 31, 32, 33, 34, 2, 3, 35, 36, 37, 38, 39, 40, 41, 42, 43, 44, 45, 46, 47, 48, 49, 50, 51, 52, 53, 54, 55, 56, 7, 57, 9, 58, 59, 60, 61, 62, 63, 64, 65, 66, 67, 68, 69, 70, 82, 83, 84, 85, 86, 87, 88, 89, 90, 91, 92, 95, 96, 93, 94] (by decide +kernel) (by decide +kernel)
set_option maxRecDepth 20000 in
theorem gX2_write_X2_writeOldKind : GoodIn wsX2_write (wsV RX2 78 RX2 yX2_writeOldKind wsX2_writeOldKind) := goodIn_app (goodIn_of _ (by decide +kernel)) ggX2_write_X2_writeOldKind
set_option maxRecDepth 20000 in
theorem ggX2_write_X2_writeNewKind : GoodIn wsX2_write wsX2_writeNewKind := goodIn_r _ [74, 21, 23, 24, 25, 13, 26, 15, 27, 75, 76, 77, 19, 78, 1, 79, 80, 81, 54, 55, 56, 7, 57, 9, 58, 82, 83, 84, 85, 86, 87, 88, 89, 90, 91, 92, 95, 96, 93, 94] (by decide +kernel) (by decide +kernel)
set_option maxRecDepth 20000 in
theorem gX2_write_X2_writeNewKind : GoodIn wsX2_write (wsV RX2 81 RX2 yX2_writeNewKind wsX2_writeNewKind) := goodIn_app (goodIn_of _ (by decide +kernel)) ggX2_write_X2_writeNewKind
theorem dX2_write_0 : decode cX2_write 0 = .ok (.aload_n 0, 1) := by decide +kernel
theorem dX2_write_1 : decode cX2_write 1 = .ok (.getfield 18, 3) := by decide +kernel
theorem dX2_write_4 : decode cX2_write 4 = .ok (.invokevirtual 67, 3) := by decide +kernel
theorem dX2_write_7 : decode cX2_write 7 = .ok (.aload_n 0, 1) := by decide +kernel
theorem dX2_write_8 : decode cX2_write 8 = .ok (.getfield 43, 3) := by decide +kernel
theorem dX2_write_11 : decode cX2_write 11 = .ok (.invokevirtual 57, 3) := by decide +kernel
theorem dX2_write_14 : decode cX2_write 14 = .ok (.aload_n 0, 1) := by decide +kernel
theorem dX2_write_15 : decode cX2_write 15 = .ok (.getfield 46, 3) := by decide +kernel
theorem dX2_write_18 : decode cX2_write 18 = .ok (.invokevirtual 57, 3) := by decide +kernel
theorem dX2_write_21 : decode cX2_write 21 = .ok (.iload_n 1, 1) := by decide +kernel
theorem dX2_write_22 : decode cX2_write 22 = .ok (.ifCond .ne 10, 3) := by decide +kernel
theorem dX2_write_25 : decode cX2_write 25 = .ok (.aload_n 0, 1) := by decide +kernel
theorem dX2_write_26 : decode cX2_write 26 = .ok (.invokevirtual 78, 3) := by decide +kernel
theorem dX2_write_29 : decode cX2_write 29 = .ok (.goto 7, 3) := by decide +kernel
theorem dX2_write_32 : decode cX2_write 32 = .ok (.aload_n 0, 1) := by decide +kernel
theorem dX2_write_33 : decode cX2_write 33 = .ok (.invokevirtual 81, 3) := by decide +kernel
theorem dX2_write_36 : decode cX2_write 36 = .ok (.aload_n 0, 1) := by decide +kernel
theorem dX2_write_37 : decode cX2_write 37 = .ok (.getfield 18, 3) := by decide +kernel
theorem dX2_write_40 : decode cX2_write 40 = .ok (.getfield 84, 3) := by decide +kernel
theorem dX2_write_43 : decode cX2_write 43 = .ok (.ireturn, 1) := by decide +kernel
set_option maxRecDepth 20000 in
theorem ggX2_octet2_X1_at : GoodIn wsX2_octet2 wsX1_at := goodIn_r _ [6, 7, 8, 20, 21] (by decide +kernel) (by decide +kernel)
set_option maxRecDepth 20000 in
theorem gX2_octet2_X1_at : GoodIn wsX2_octet2 (wsV RX2 85 RX1 yX1_at wsX1_at) := goodIn_app (goodIn_of _ (by decide +kernel)) ggX2_octet2_X1_at
theorem dX2_octet2_0 : decode cX2_octet2 0 = .ok (.aload_n 0, 1) := by decide +kernel
theorem dX2_octet2_1 : decode cX2_octet2 1 = .ok (.getfield 18, 3) := by decide +kernel
theorem dX2_octet2_4 : decode cX2_octet2 4 = .ok (.iload_n 1, 1) := by decide +kernel
theorem dX2_octet2_5 : decode cX2_octet2 5 = .ok (.invokevirtual 85, 3) := by decide +kernel
theorem dX2_octet2_8 : decode cX2_octet2 8 = .ok (.istore_n 2, 1) := by decide +kernel
theorem dX2_octet2_9 : decode cX2_octet2 9 = .ok (.iload_n 2, 1) := by decide +kernel
theorem dX2_octet2_10 : decode cX2_octet2 10 = .ok (.iconst (-1), 1) := by decide +kernel
theorem dX2_octet2_11 : decode cX2_octet2 11 = .ok (.if_icmp .ne 7, 3) := by decide +kernel
theorem dX2_octet2_14 : decode cX2_octet2 14 = .ok (.iconst 0, 1) := by decide +kernel
theorem dX2_octet2_15 : decode cX2_octet2 15 = .ok (.goto 5, 3) := by decide +kernel
theorem dX2_octet2_18 : decode cX2_octet2 18 = .ok (.iload_n 2, 1) := by decide +kernel
theorem dX2_octet2_19 : decode cX2_octet2 19 = .ok (.i2b, 1) := by decide +kernel
theorem dX2_octet2_20 : decode cX2_octet2 20 = .ok (.ireturn, 1) := by decide +kernel
set_option maxRecDepth 20000 in
theorem ggX2_compose_X0_takeApart : GoodIn wsX2_compose wsX0_takeApart := goodIn_r _ [7, 8, 9, 10, 11, 6, 12, 13, 14, 15, 16, 17, 18, 19, 20, 21, 22, 23, 24, 25, 26, 27, 28, 29, 30, 31, 32, 33, 34, 35, 36, 37, 38, 39, 40, 41, 42, 43, 44, 45, 46, 47, 48, 49, 50, 51, 52, 53, 71, 72] (by decide +kernel) (by decide +kernel)
set_option maxRecDepth 20000 in
theorem gX2_compose_X0_takeApart : GoodIn wsX2_compose (wsV RX2 86 RX0 yX0_takeApart wsX0_takeApart) := goodIn_app (goodIn_of _ (by decide +kernel)) ggX2_compose_X0_takeApart
set_option maxRecDepth 20000 in
theorem ggX2_compose_X0_putTogether : GoodIn wsX2_compose wsX0_putTogether := goodIn_r _ [57, 8, 13, 14, 15, 6, 16, 17, 27, 19, 28, 29, 30, 31, 42, 43, 58, 59, 21, 50, 51, 52, 53, 71, 72] (by decide +kernel) (by decide +kernel)
set_option maxRecDepth 20000 in
theorem gX2_compose_X0_putTogether : GoodIn wsX2_compose (wsV RX2 90 RX0 yX0_putTogether wsX0_putTogether) := goodIn_app (goodIn_of _ (by decide +kernel)) ggX2_compose_X0_putTogether
theorem dX2_compose_0 : decode cX2_compose 0 = .ok (.iload_n 1, 1) := by decide +kernel
theorem dX2_compose_1 : decode cX2_compose 1 = .ok (.ifCond .eq 10, 3) := by decide +kernel
theorem dX2_compose_4 : decode cX2_compose 4 = .ok (.iload_n 1, 1) := by decide +kernel
theorem dX2_compose_5 : decode cX2_compose 5 = .ok (.iconst 1, 1) := by decide +kernel
theorem dX2_compose_6 : decode cX2_compose 6 = .ok (.if_icmp .eq 5, 3) := by decide +kernel
theorem dX2_compose_9 : decode cX2_compose 9 = .ok (.iconst (-1), 1) := by decide +kernel
theorem dX2_compose_10 : decode cX2_compose 10 = .ok (.ireturn, 1) := by decide +kernel
theorem dX2_compose_11 : decode cX2_compose 11 = .ok (.aload_n 0, 1) := by decide +kernel
theorem dX2_compose_12 : decode cX2_compose 12 = .ok (.getfield 34, 3) := by decide +kernel
theorem dX2_compose_15 : decode cX2_compose 15 = .ok (.aload_n 0, 1) := by decide +kernel
theorem dX2_compose_16 : decode cX2_compose 16 = .ok (.getfield 24, 3) := by decide +kernel
theorem dX2_compose_19 : decode cX2_compose 19 = .ok (.invokevirtual 86, 3) := by decide +kernel
theorem dX2_compose_22 : decode cX2_compose 22 = .ok (.iload_n 1, 1) := by decide +kernel
theorem dX2_compose_23 : decode cX2_compose 23 = .ok (.iconst 1, 1) := by decide +kernel
theorem dX2_compose_24 : decode cX2_compose 24 = .ok (.if_icmp .ne 10, 3) := by decide +kernel
theorem dX2_compose_27 : decode cX2_compose 27 = .ok (.aload_n 0, 1) := by decide +kernel
theorem dX2_compose_28 : decode cX2_compose 28 = .ok (.getfield 34, 3) := by decide +kernel
theorem dX2_compose_31 : decode cX2_compose 31 = .ok (.invokevirtual 90, 3) := by decide +kernel
theorem dX2_compose_34 : decode cX2_compose 34 = .ok (.aload_n 0, 1) := by decide +kernel
theorem dX2_compose_35 : decode cX2_compose 35 = .ok (.getfield 34, 3) := by decide +kernel
theorem dX2_compose_38 : decode cX2_compose 38 = .ok (.getfield 71, 3) := by decide +kernel
theorem dX2_compose_41 : decode cX2_compose 41 = .ok (.bipush 100, 2) := by decide +kernel
theorem dX2_compose_43 : decode cX2_compose 43 = .ok (.if_icmp .le 5, 3) := by decide +kernel
theorem dX2_compose_46 : decode cX2_compose 46 = .ok (.iconst (-1), 1) := by decide +kernel
theorem dX2_compose_47 : decode cX2_compose 47 = .ok (.ireturn, 1) := by decide +kernel
theorem dX2_compose_48 : decode cX2_compose 48 = .ok (.aload_n 0, 1) := by decide +kernel
theorem dX2_compose_49 : decode cX2_compose 49 = .ok (.getfield 24, 3) := by decide +kernel
theorem dX2_compose_52 : decode cX2_compose 52 = .ok (.astore_n 2, 1) := by decide +kernel
theorem dX2_compose_53 : decode cX2_compose 53 = .ok (.aload_n 0, 1) := by decide +kernel
theorem dX2_compose_54 : decode cX2_compose 54 = .ok (.aload_n 0, 1) := by decide +kernel
theorem dX2_compose_55 : decode cX2_compose 55 = .ok (.getfield 34, 3) := by decide +kernel
theorem dX2_compose_58 : decode cX2_compose 58 = .ok (.putfield 24, 3) := by decide +kernel
theorem dX2_compose_61 : decode cX2_compose 61 = .ok (.aload_n 0, 1) := by decide +kernel
theorem dX2_compose_62 : decode cX2_compose 62 = .ok (.aload_n 2, 1) := by decide +kernel
theorem dX2_compose_63 : decode cX2_compose 63 = .ok (.putfield 34, 3) := by decide +kernel
theorem dX2_compose_66 : decode cX2_compose 66 = .ok (.aload_n 0, 1) := by decide +kernel
theorem dX2_compose_67 : decode cX2_compose 67 = .ok (.getfield 24, 3) := by decide +kernel
theorem dX2_compose_70 : decode cX2_compose 70 = .ok (.getfield 71, 3) := by decide +kernel
theorem dX2_compose_73 : decode cX2_compose 73 = .ok (.ireturn, 1) := by decide +kernel
set_option maxRecDepth 20000 in
theorem ggX2_told_X0_at : GoodIn wsX2_told wsX0_at := goodIn_r _ [7, 8, 9, 21, 22] (by decide +kernel) (by decide +kernel)
set_option maxRecDepth 20000 in
theorem gX2_told_X0_at : GoodIn wsX2_told (wsV RX2 74 RX0 yX0_at wsX0_at) := goodIn_app (goodIn_of _ (by decide +kernel)) ggX2_told_X0_at
theorem dX2_told_0 : decode cX2_told 0 = .ok (.iload_n 2, 1) := by decide +kernel
theorem dX2_told_1 : decode cX2_told 1 = .ok (.ifCond .ne 12, 3) := by decide +kernel
theorem dX2_told_4 : decode cX2_told 4 = .ok (.aload_n 0, 1) := by decide +kernel
theorem dX2_told_5 : decode cX2_told 5 = .ok (.getfield 43, 3) := by decide +kernel
theorem dX2_told_8 : decode cX2_told 8 = .ok (.iload_n 1, 1) := by decide +kernel
theorem dX2_told_9 : decode cX2_told 9 = .ok (.invokevirtual 74, 3) := by decide +kernel
theorem dX2_told_12 : decode cX2_told 12 = .ok (.ireturn, 1) := by decide +kernel
theorem dX2_told_13 : decode cX2_told 13 = .ok (.iload_n 2, 1) := by decide +kernel
theorem dX2_told_14 : decode cX2_told 14 = .ok (.iconst 1, 1) := by decide +kernel
theorem dX2_told_15 : decode cX2_told 15 = .ok (.if_icmp .ne 14, 3) := by decide +kernel
theorem dX2_told_18 : decode cX2_told 18 = .ok (.aload_n 0, 1) := by decide +kernel
theorem dX2_told_19 : decode cX2_told 19 = .ok (.getfield 46, 3) := by decide +kernel
theorem dX2_told_22 : decode cX2_told 22 = .ok (.iload_n 1, 1) := by decide +kernel
theorem dX2_told_23 : decode cX2_told 23 = .ok (.invokevirtual 74, 3) := by decide +kernel
theorem dX2_told_26 : decode cX2_told 26 = .ok (.goto 4, 3) := by decide +kernel
theorem dX2_told_29 : decode cX2_told 29 = .ok (.iconst (-1), 1) := by decide +kernel
theorem dX2_told_30 : decode cX2_told 30 = .ok (.ireturn, 1) := by decide +kernel
set_option maxRecDepth 20000 in
theorem ggX2_stand_X2_isPlain : GoodIn wsX2_stand wsX2_isPlain := goodIn_r _ [5] (by decide +kernel) (by decide +kernel)
set_option maxRecDepth 20000 in
theorem gX2_stand_X2_isPlain : GoodIn wsX2_stand (va_wsS RX2 93 yX2_isPlain wsX2_isPlain) := goodIn_app (goodIn_of _ (by decide +kernel)) ggX2_stand_X2_isPlain
theorem dX2_stand_0 : decode cX2_stand 0 = .ok (.iload_n 1, 1) := by decide +kernel
theorem dX2_stand_1 : decode cX2_stand 1 = .ok (.invokestatic 93, 3) := by decide +kernel
theorem dX2_stand_4 : decode cX2_stand 4 = .ok (.ifCond .ne 5, 3) := by decide +kernel
theorem dX2_stand_7 : decode cX2_stand 7 = .ok (.iconst (-1), 1) := by decide +kernel
theorem dX2_stand_8 : decode cX2_stand 8 = .ok (.ireturn, 1) := by decide +kernel
theorem dX2_stand_9 : decode cX2_stand 9 = .ok (.aload_n 0, 1) := by decide +kernel
theorem dX2_stand_10 : decode cX2_stand 10 = .ok (.getfield 49, 3) := by decide +kernel
theorem dX2_stand_13 : decode cX2_stand 13 = .ok (.istore_n 2, 1) := by decide +kernel
theorem dX2_stand_14 : decode cX2_stand 14 = .ok (.aload_n 0, 1) := by decide +kernel
theorem dX2_stand_15 : decode cX2_stand 15 = .ok (.iload_n 1, 1) := by decide +kernel
theorem dX2_stand_16 : decode cX2_stand 16 = .ok (.putfield 49, 3) := by decide +kernel
theorem dX2_stand_19 : decode cX2_stand 19 = .ok (.iload_n 2, 1) := by decide +kernel
theorem dX2_stand_20 : decode cX2_stand 20 = .ok (.ireturn, 1) := by decide +kernel
set_option maxRecDepth 20000 in
theorem ggX2_nonfiling_X0_placeOfBase : GoodIn wsX2_nonfiling wsX0_placeOfBase := goodIn_r _ [6, 7, 8, 9, 10, 5, 11, 12, 13, 14, 15, 49, 50] (by decide +kernel) (by decide +kernel)
set_option maxRecDepth 20000 in
theorem gX2_nonfiling_X0_placeOfBase : GoodIn wsX2_nonfiling (wsV RX2 97 RX0 yX0_placeOfBase wsX0_placeOfBase) := goodIn_app (goodIn_of _ (by decide +kernel)) ggX2_nonfiling_X0_placeOfBase
set_option maxRecDepth 20000 in
theorem ggX2_nonfiling_X0_at : GoodIn wsX2_nonfiling wsX0_at := goodIn_r _ [11, 7, 12, 49, 50] (by decide +kernel) (by decide +kernel)
set_option maxRecDepth 20000 in
theorem gX2_nonfiling_X0_at : GoodIn wsX2_nonfiling (wsV RX2 74 RX0 yX0_at wsX0_at) := goodIn_app (goodIn_of _ (by decide +kernel)) ggX2_nonfiling_X0_at
set_option maxRecDepth 20000 in
theorem ggX2_nonfiling_X2_keyOf : GoodIn wsX2_nonfiling wsX2_keyOf := goodIn_r _ [19, 20, 21, 14, 22, 23, 24, 25, 26, 27, 28, 29, 30, 31, 32, 33] (by decide +kernel) (by decide +kernel)
set_option maxRecDepth 20000 in
theorem gX2_nonfiling_X2_keyOf : GoodIn wsX2_nonfiling (va_wsS RX2 101 yX2_keyOf wsX2_keyOf) := goodIn_app (goodIn_of _ (by decide +kernel)) ggX2_nonfiling_X2_keyOf
set_option maxRecDepth 20000 in
theorem ggX2_nonfiling_X0_bases : GoodIn wsX2_nonfiling wsX0_bases := goodIn_r _ [37, 7, 8, 9, 10, 5, 11, 12, 13, 14, 15, 49, 50] (by decide +kernel) (by decide +kernel)
set_option maxRecDepth 20000 in
theorem gX2_nonfiling_X0_bases : GoodIn wsX2_nonfiling (wsV RX2 104 RX0 yX0_bases wsX0_bases) := goodIn_app (goodIn_of _ (by decide +kernel)) ggX2_nonfiling_X0_bases
theorem dX2_nonfiling_0 : decode cX2_nonfiling 0 = .ok (.iload_n 1, 1) := by decide +kernel
theorem dX2_nonfiling_1 : decode cX2_nonfiling 1 = .ok (.ifCond .lt 7, 3) := by decide +kernel
theorem dX2_nonfiling_4 : decode cX2_nonfiling 4 = .ok (.iload_n 2, 1) := by decide +kernel
theorem dX2_nonfiling_5 : decode cX2_nonfiling 5 = .ok (.ifCond .ge 5, 3) := by decide +kernel
theorem dX2_nonfiling_8 : decode cX2_nonfiling 8 = .ok (.iconst (-1), 1) := by decide +kernel
theorem dX2_nonfiling_9 : decode cX2_nonfiling 9 = .ok (.ireturn, 1) := by decide +kernel
theorem dX2_nonfiling_10 : decode cX2_nonfiling 10 = .ok (.aload_n 0, 1) := by decide +kernel
theorem dX2_nonfiling_11 : decode cX2_nonfiling 11 = .ok (.getfield 24, 3) := by decide +kernel
theorem dX2_nonfiling_14 : decode cX2_nonfiling 14 = .ok (.iload_n 1, 1) := by decide +kernel
theorem dX2_nonfiling_15 : decode cX2_nonfiling 15 = .ok (.i2l, 1) := by decide +kernel
theorem dX2_nonfiling_16 : decode cX2_nonfiling 16 = .ok (.iload_n 2, 1) := by decide +kernel
theorem dX2_nonfiling_17 : decode cX2_nonfiling 17 = .ok (.i2l, 1) := by decide +kernel
theorem dX2_nonfiling_18 : decode cX2_nonfiling 18 = .ok (.ladd, 1) := by decide +kernel
theorem dX2_nonfiling_19 : decode cX2_nonfiling 19 = .ok (.invokevirtual 97, 3) := by decide +kernel
theorem dX2_nonfiling_22 : decode cX2_nonfiling 22 = .ok (.istore_n 3, 1) := by decide +kernel
theorem dX2_nonfiling_23 : decode cX2_nonfiling 23 = .ok (.iload_n 3, 1) := by decide +kernel
theorem dX2_nonfiling_24 : decode cX2_nonfiling 24 = .ok (.iconst (-1), 1) := by decide +kernel
theorem dX2_nonfiling_25 : decode cX2_nonfiling 25 = .ok (.if_icmp .eq 15, 3) := by decide +kernel
theorem dX2_nonfiling_28 : decode cX2_nonfiling 28 = .ok (.aload_n 0, 1) := by decide +kernel
theorem dX2_nonfiling_29 : decode cX2_nonfiling 29 = .ok (.getfield 24, 3) := by decide +kernel
theorem dX2_nonfiling_32 : decode cX2_nonfiling 32 = .ok (.iload_n 3, 1) := by decide +kernel
theorem dX2_nonfiling_33 : decode cX2_nonfiling 33 = .ok (.invokevirtual 74, 3) := by decide +kernel
theorem dX2_nonfiling_36 : decode cX2_nonfiling 36 = .ok (.invokestatic 101, 3) := by decide +kernel
theorem dX2_nonfiling_39 : decode cX2_nonfiling 39 = .ok (.ireturn, 1) := by decide +kernel
theorem dX2_nonfiling_40 : decode cX2_nonfiling 40 = .ok (.aload_n 0, 1) := by decide +kernel
theorem dX2_nonfiling_41 : decode cX2_nonfiling 41 = .ok (.getfield 24, 3) := by decide +kernel
theorem dX2_nonfiling_44 : decode cX2_nonfiling 44 = .ok (.invokevirtual 104, 3) := by decide +kernel
theorem dX2_nonfiling_47 : decode cX2_nonfiling 47 = .ok (.iload_n 1, 1) := by decide +kernel
theorem dX2_nonfiling_48 : decode cX2_nonfiling 48 = .ok (.if_icmp .ge 7, 3) := by decide +kernel
theorem dX2_nonfiling_51 : decode cX2_nonfiling 51 = .ok (.iconst (-1), 1) := by decide +kernel
theorem dX2_nonfiling_52 : decode cX2_nonfiling 52 = .ok (.goto 4, 3) := by decide +kernel
theorem dX2_nonfiling_55 : decode cX2_nonfiling 55 = .ok (.iconst 0, 1) := by decide +kernel
theorem dX2_nonfiling_56 : decode cX2_nonfiling 56 = .ok (.ireturn, 1) := by decide +kernel
set_option maxRecDepth 20000 in
theorem ggX2_mark_X0_placeOfBase : GoodIn wsX2_mark wsX0_placeOfBase := goodIn_r _ [6, 7, 8, 9, 10, 5, 11, 12, 13, 14, 15, 46, 47] (by decide +kernel) (by decide +kernel)
set_option maxRecDepth 20000 in
theorem gX2_mark_X0_placeOfBase : GoodIn wsX2_mark (wsV RX2 97 RX0 yX0_placeOfBase wsX0_placeOfBase) := goodIn_app (goodIn_of _ (by decide +kernel)) ggX2_mark_X0_placeOfBase
set_option maxRecDepth 20000 in
theorem ggX2_mark_X0_at : GoodIn wsX2_mark wsX0_at := goodIn_r _ [11, 7, 12, 46, 47] (by decide +kernel) (by decide +kernel)
set_option maxRecDepth 20000 in
theorem gX2_mark_X0_at : GoodIn wsX2_mark (wsV RX2 74 RX0 yX0_at wsX0_at) := goodIn_app (goodIn_of _ (by decide +kernel)) ggX2_mark_X0_at
set_option maxRecDepth 20000 in
theorem ggX2_mark_X2_isComposed : GoodIn wsX2_mark wsX2_isComposed := goodIn_r _ [19, 20, 21, 22, 23, 14, 24, 25, 26, 27, 28, 29, 30] (by decide +kernel) (by decide +kernel)
set_option maxRecDepth 20000 in
theorem gX2_mark_X2_isComposed : GoodIn wsX2_mark (va_wsS RX2 107 yX2_isComposed wsX2_isComposed) := goodIn_app (goodIn_of _ (by decide +kernel)) ggX2_mark_X2_isComposed
set_option maxRecDepth 20000 in
theorem ggX2_mark_X0_marksBehind : GoodIn wsX2_mark wsX0_marksBehind := goodIn_r _ [34, 7, 8, 9, 10, 5, 11, 12, 13, 14, 15, 46, 47] (by decide +kernel) (by decide +kernel)
set_option maxRecDepth 20000 in
theorem gX2_mark_X0_marksBehind : GoodIn wsX2_mark (wsV RX2 110 RX0 yX0_marksBehind wsX0_marksBehind) := goodIn_app (goodIn_of _ (by decide +kernel)) ggX2_mark_X0_marksBehind
theorem dX2_mark_0 : decode cX2_mark 0 = .ok (.aload_n 0, 1) := by decide +kernel
theorem dX2_mark_1 : decode cX2_mark 1 = .ok (.getfield 24, 3) := by decide +kernel
theorem dX2_mark_4 : decode cX2_mark 4 = .ok (.iload_n 1, 1) := by decide +kernel
theorem dX2_mark_5 : decode cX2_mark 5 = .ok (.i2l, 1) := by decide +kernel
theorem dX2_mark_6 : decode cX2_mark 6 = .ok (.invokevirtual 97, 3) := by decide +kernel
theorem dX2_mark_9 : decode cX2_mark 9 = .ok (.istore_n 2, 1) := by decide +kernel
theorem dX2_mark_10 : decode cX2_mark 10 = .ok (.iload_n 2, 1) := by decide +kernel
theorem dX2_mark_11 : decode cX2_mark 11 = .ok (.iconst (-1), 1) := by decide +kernel
theorem dX2_mark_12 : decode cX2_mark 12 = .ok (.if_icmp .ne 5, 3) := by decide +kernel
theorem dX2_mark_15 : decode cX2_mark 15 = .ok (.iconst (-1), 1) := by decide +kernel
theorem dX2_mark_16 : decode cX2_mark 16 = .ok (.ireturn, 1) := by decide +kernel
theorem dX2_mark_17 : decode cX2_mark 17 = .ok (.aload_n 0, 1) := by decide +kernel
theorem dX2_mark_18 : decode cX2_mark 18 = .ok (.getfield 24, 3) := by decide +kernel
theorem dX2_mark_21 : decode cX2_mark 21 = .ok (.iload_n 2, 1) := by decide +kernel
theorem dX2_mark_22 : decode cX2_mark 22 = .ok (.invokevirtual 74, 3) := by decide +kernel
theorem dX2_mark_25 : decode cX2_mark 25 = .ok (.invokestatic 107, 3) := by decide +kernel
theorem dX2_mark_28 : decode cX2_mark 28 = .ok (.ifCond .eq 7, 3) := by decide +kernel
theorem dX2_mark_31 : decode cX2_mark 31 = .ok (.iconst 1, 1) := by decide +kernel
theorem dX2_mark_32 : decode cX2_mark 32 = .ok (.goto 4, 3) := by decide +kernel
theorem dX2_mark_35 : decode cX2_mark 35 = .ok (.iconst 0, 1) := by decide +kernel
theorem dX2_mark_36 : decode cX2_mark 36 = .ok (.istore_n 3, 1) := by decide +kernel
theorem dX2_mark_37 : decode cX2_mark 37 = .ok (.iload_n 3, 1) := by decide +kernel
theorem dX2_mark_38 : decode cX2_mark 38 = .ok (.aload_n 0, 1) := by decide +kernel
theorem dX2_mark_39 : decode cX2_mark 39 = .ok (.getfield 24, 3) := by decide +kernel
theorem dX2_mark_42 : decode cX2_mark 42 = .ok (.iload_n 2, 1) := by decide +kernel
theorem dX2_mark_43 : decode cX2_mark 43 = .ok (.invokevirtual 110, 3) := by decide +kernel
theorem dX2_mark_46 : decode cX2_mark 46 = .ok (.iadd, 1) := by decide +kernel
theorem dX2_mark_47 : decode cX2_mark 47 = .ok (.ireturn, 1) := by decide +kernel
set_option maxRecDepth 20000 in
theorem ggX2_row_X2_codeInSet : GoodIn wsX2_row wsX2_codeInSet := goodIn_r _ [7, 8, 9, 6, 10, 11, 12, 13] (by decide +kernel) (by decide +kernel)
set_option maxRecDepth 20000 in
theorem gX2_row_X2_codeInSet : GoodIn wsX2_row (va_wsS RX2 120 yX2_codeInSet wsX2_codeInSet) := goodIn_app (goodIn_of _ (by decide +kernel)) ggX2_row_X2_codeInSet
theorem dX2_row_0 : decode cX2_row 0 = .ok (.iload_n 1, 1) := by decide +kernel
theorem dX2_row_1 : decode cX2_row 1 = .ok (.ifCond .lt 8, 3) := by decide +kernel
theorem dX2_row_4 : decode cX2_row 4 = .ok (.iload_n 1, 1) := by decide +kernel
theorem dX2_row_5 : decode cX2_row 5 = .ok (.iconst 3, 1) := by decide +kernel
theorem dX2_row_6 : decode cX2_row 6 = .ok (.if_icmp .lt 5, 3) := by decide +kernel
theorem dX2_row_9 : decode cX2_row 9 = .ok (.iconst (-1), 1) := by decide +kernel
theorem dX2_row_10 : decode cX2_row 10 = .ok (.ireturn, 1) := by decide +kernel
theorem dX2_row_11 : decode cX2_row 11 = .ok (.iload_n 2, 1) := by decide +kernel
theorem dX2_row_12 : decode cX2_row 12 = .ok (.ifCond .lt 9, 3) := by decide +kernel
theorem dX2_row_15 : decode cX2_row 15 = .ok (.iload_n 2, 1) := by decide +kernel
theorem dX2_row_16 : decode cX2_row 16 = .ok (.bipush 94, 2) := by decide +kernel
theorem dX2_row_18 : decode cX2_row 18 = .ok (.if_icmp .lt 13, 3) := by decide +kernel
theorem dX2_row_21 : decode cX2_row 21 = .ok (.new 113, 3) := by decide +kernel
theorem dX2_row_24 : decode cX2_row 24 = .ok (.dup, 1) := by decide +kernel
theorem dX2_row_25 : decode cX2_row 25 = .ok (.ldc 115, 2) := by decide +kernel
theorem dX2_row_27 : decode cX2_row 27 = .ok (.invokespecial 117, 3) := by decide +kernel
theorem dX2_row_30 : decode cX2_row 30 = .ok (.athrow, 1) := by decide +kernel
theorem dX2_row_31 : decode cX2_row 31 = .ok (.iload_n 1, 1) := by decide +kernel
theorem dX2_row_32 : decode cX2_row 32 = .ok (.iload_n 2, 1) := by decide +kernel
theorem dX2_row_33 : decode cX2_row 33 = .ok (.invokestatic 120, 3) := by decide +kernel
theorem dX2_row_36 : decode cX2_row 36 = .ok (.ireturn, 1) := by decide +kernel
set_option maxRecDepth 20000 in
theorem ggX2_same_X0_takeApart : GoodIn wsX2_same wsX0_takeApart := goodIn_r _ [9, 10, 11, 12, 13, 8, 14, 15, 16, 17, 18, 19, 20, 21, 22, 23, 24, 25, 26, 27, 28, 29, 30, 31, 32, 33, 34, 35, 36, 37, 38, 39, 40, 41, 42, 43, 44, 45, 46, 47, 48, 49, 50, 51, 52, 53, 54, 55, 71, 72] (by decide +kernel) (by decide +kernel)
set_option maxRecDepth 20000 in
theorem gX2_same_X0_takeApart : GoodIn wsX2_same (wsV RX2 86 RX0 yX0_takeApart wsX0_takeApart) := goodIn_app (goodIn_of _ (by decide +kernel)) ggX2_same_X0_takeApart
set_option maxRecDepth 20000 in
theorem ggX2_same_X0_holdsWhat : GoodIn wsX2_same wsX0_holdsWhat := goodIn_r _ [59, 10, 15, 16, 17, 8, 18, 19, 71, 72] (by decide +kernel) (by decide +kernel)
set_option maxRecDepth 20000 in
theorem gX2_same_X0_holdsWhat : GoodIn wsX2_same (wsV RX2 124 RX0 yX0_holdsWhat wsX0_holdsWhat) := goodIn_app (goodIn_of _ (by decide +kernel)) ggX2_same_X0_holdsWhat
theorem dX2_same_0 : decode cX2_same 0 = .ok (.iload_n 1, 1) := by decide +kernel
theorem dX2_same_1 : decode cX2_same 1 = .ok (.ifCond .ne 5, 3) := by decide +kernel
theorem dX2_same_4 : decode cX2_same 4 = .ok (.iconst 1, 1) := by decide +kernel
theorem dX2_same_5 : decode cX2_same 5 = .ok (.ireturn, 1) := by decide +kernel
theorem dX2_same_6 : decode cX2_same 6 = .ok (.iload_n 1, 1) := by decide +kernel
theorem dX2_same_7 : decode cX2_same 7 = .ok (.iconst 1, 1) := by decide +kernel
theorem dX2_same_8 : decode cX2_same 8 = .ok (.if_icmp .eq 5, 3) := by decide +kernel
theorem dX2_same_11 : decode cX2_same 11 = .ok (.iconst 0, 1) := by decide +kernel
theorem dX2_same_12 : decode cX2_same 12 = .ok (.ireturn, 1) := by decide +kernel
theorem dX2_same_13 : decode cX2_same 13 = .ok (.aload_n 0, 1) := by decide +kernel
theorem dX2_same_14 : decode cX2_same 14 = .ok (.getfield 34, 3) := by decide +kernel
theorem dX2_same_17 : decode cX2_same 17 = .ok (.aload_n 0, 1) := by decide +kernel
theorem dX2_same_18 : decode cX2_same 18 = .ok (.getfield 24, 3) := by decide +kernel
theorem dX2_same_21 : decode cX2_same 21 = .ok (.invokevirtual 86, 3) := by decide +kernel
theorem dX2_same_24 : decode cX2_same 24 = .ok (.aload_n 0, 1) := by decide +kernel
theorem dX2_same_25 : decode cX2_same 25 = .ok (.getfield 37, 3) := by decide +kernel
theorem dX2_same_28 : decode cX2_same 28 = .ok (.aload_n 0, 1) := by decide +kernel
theorem dX2_same_29 : decode cX2_same 29 = .ok (.getfield 28, 3) := by decide +kernel
theorem dX2_same_32 : decode cX2_same 32 = .ok (.invokevirtual 86, 3) := by decide +kernel
theorem dX2_same_35 : decode cX2_same 35 = .ok (.aload_n 0, 1) := by decide +kernel
theorem dX2_same_36 : decode cX2_same 36 = .ok (.getfield 34, 3) := by decide +kernel
theorem dX2_same_39 : decode cX2_same 39 = .ok (.aload_n 0, 1) := by decide +kernel
theorem dX2_same_40 : decode cX2_same 40 = .ok (.getfield 37, 3) := by decide +kernel
theorem dX2_same_43 : decode cX2_same 43 = .ok (.invokevirtual 124, 3) := by decide +kernel
theorem dX2_same_46 : decode cX2_same 46 = .ok (.ireturn, 1) := by decide +kernel
set_option maxRecDepth 20000 in
theorem ggX2_wrongInOldKind_X0_empty : GoodIn wsX2_wrongInOldKind wsX0_empty := goodIn_r _ [8, 9, 64, 65] (by decide +kernel) (by decide +kernel)
set_option maxRecDepth 20000 in
theorem gX2_wrongInOldKind_X0_empty : GoodIn wsX2_wrongInOldKind (wsV RX2 57 RX0 yX0_empty wsX0_empty) := goodIn_app (goodIn_of _ (by decide +kernel)) ggX2_wrongInOldKind_X0_empty
set_option maxRecDepth 20000 in
theorem ggX2_wrongInOldKind_X1_at : GoodIn wsX2_wrongInOldKind wsX1_at := goodIn_r _ [14, 15, 16, 62, 63] (by decide +kernel) (by decide +kernel)
set_option maxRecDepth 20000 in
theorem gX2_wrongInOldKind_X1_at : GoodIn wsX2_wrongInOldKind (wsV RX2 85 RX1 yX1_at wsX1_at) := goodIn_app (goodIn_of _ (by decide +kernel)) ggX2_wrongInOldKind_X1_at
set_option maxRecDepth 20000 in
theorem ggX2_wrongInOldKind_X2_setOfEscape : GoodIn wsX2_wrongInOldKind wsX2_setOfEscape := goodIn_r _ [21, 2, 10, 11, 12, 13, 14, 15, 16, 51, 52, 53, 54, 55, 56, 57, 58, 59, 60, 61, 62, 63] (by decide +kernel) (by decide +kernel)
set_option maxRecDepth 20000 in
theorem gX2_wrongInOldKind_X2_setOfEscape : GoodIn wsX2_wrongInOldKind (wsV RX2 128 RX2 yX2_setOfEscape wsX2_setOfEscape) := goodIn_app (goodIn_of _ (by decide +kernel)) ggX2_wrongInOldKind_X2_setOfEscape
set_option maxRecDepth 20000 in
theorem ggX2_wrongInOldKind_X2_codeOfOldByte : GoodIn wsX2_wrongInOldKind wsX2_codeOfOldByte := goodIn_r _ [24, 25, 26, 20, 27, 28, 29, 30, 31, 32, 33, 34, 35, 36] (by decide +kernel) (by decide +kernel)
set_option maxRecDepth 20000 in
theorem gX2_wrongInOldKind_X2_codeOfOldByte : GoodIn wsX2_wrongInOldKind (va_wsS RX2 131 yX2_codeOfOldByte wsX2_codeOfOldByte) := goodIn_app (goodIn_of _ (by decide +kernel)) ggX2_wrongInOldKind_X2_codeOfOldByte
set_option maxRecDepth 20000 in
theorem ggX2_wrongInOldKind_X2_isMark : GoodIn wsX2_wrongInOldKind wsX2_isMark := goodIn_r _ [33] (by decide +kernel) (by decide +kernel)
set_option maxRecDepth 20000 in
theorem gX2_wrongInOldKind_X2_isMark : GoodIn wsX2_wrongInOldKind (va_wsS RX2 134 yX2_isMark wsX2_isMark) := goodIn_app (goodIn_of _ (by decide +kernel)) ggX2_wrongInOldKind_X2_isMark
set_option maxRecDepth 20000 in
theorem ggX2_wrongInOldKind_X0_add : GoodIn wsX2_wrongInOldKind wsX0_add := goodIn_r _ [40, 9, 41, 64, 65] (by decide +kernel) (by decide +kernel)
set_option maxRecDepth 20000 in
theorem gX2_wrongInOldKind_X0_add : GoodIn wsX2_wrongInOldKind (wsV RX2 137 RX0 yX0_add wsX0_add) := goodIn_app (goodIn_of _ (by decide +kernel)) ggX2_wrongInOldKind_X0_add
set_option maxRecDepth 20000 in
theorem ggX2_wrongInOldKind_X0_addAll : GoodIn wsX2_wrongInOldKind wsX0_addAll := goodIn_r _ [45, 9, 46, 47, 48, 7, 49, 41, 50, 38, 39, 40, 64, 65] (by decide +kernel) (by decide +kernel)
set_option maxRecDepth 20000 in
theorem gX2_wrongInOldKind_X0_addAll : GoodIn wsX2_wrongInOldKind (wsV RX2 138 RX0 yX0_addAll wsX0_addAll) := goodIn_app (goodIn_of _ (by decide +kernel)) ggX2_wrongInOldKind_X0_addAll
theorem dX2_wrongInOldKind_0 : decode cX2_wrongInOldKind 0 = .ok (.iconst 0, 1) := by decide +kernel
theorem dX2_wrongInOldKind_1 : decode cX2_wrongInOldKind 1 = .ok (.istore_n 1, 1) := by decide +kernel
theorem dX2_wrongInOldKind_2 : decode cX2_wrongInOldKind 2 = .ok (.iconst (-1), 1) := by decide +kernel
theorem dX2_wrongInOldKind_3 : decode cX2_wrongInOldKind 3 = .ok (.istore_n 2, 1) := by decide +kernel
theorem dX2_wrongInOldKind_4 : decode cX2_wrongInOldKind 4 = .ok (.aload_n 0, 1) := by decide +kernel
theorem dX2_wrongInOldKind_5 : decode cX2_wrongInOldKind 5 = .ok (.getfield 40, 3) := by decide +kernel
theorem dX2_wrongInOldKind_8 : decode cX2_wrongInOldKind 8 = .ok (.invokevirtual 57, 3) := by decide +kernel
theorem dX2_wrongInOldKind_11 : decode cX2_wrongInOldKind 11 = .ok (.iconst 0, 1) := by decide +kernel
theorem dX2_wrongInOldKind_12 : decode cX2_wrongInOldKind 12 = .ok (.istore_n 3, 1) := by decide +kernel
theorem dX2_wrongInOldKind_13 : decode cX2_wrongInOldKind 13 = .ok (.iload_n 3, 1) := by decide +kernel
theorem dX2_wrongInOldKind_14 : decode cX2_wrongInOldKind 14 = .ok (.aload_n 0, 1) := by decide +kernel
theorem dX2_wrongInOldKind_15 : decode cX2_wrongInOldKind 15 = .ok (.getfield 14, 3) := by decide +kernel
theorem dX2_wrongInOldKind_18 : decode cX2_wrongInOldKind 18 = .ok (.getfield 84, 3) := by decide +kernel
theorem dX2_wrongInOldKind_21 : decode cX2_wrongInOldKind 21 = .ok (.if_icmp .ge 161, 3) := by decide +kernel
theorem dX2_wrongInOldKind_24 : decode cX2_wrongInOldKind 24 = .ok (.aload_n 0, 1) := by decide +kernel
theorem dX2_wrongInOldKind_25 : decode cX2_wrongInOldKind 25 = .ok (.getfield 14, 3) := by decide +kernel
theorem dX2_wrongInOldKind_28 : decode cX2_wrongInOldKind 28 = .ok (.iload_n 3, 1) := by decide +kernel
theorem dX2_wrongInOldKind_29 : decode cX2_wrongInOldKind 29 = .ok (.invokevirtual 85, 3) := by decide +kernel
theorem dX2_wrongInOldKind_32 : decode cX2_wrongInOldKind 32 = .ok (.istore 4, 2) := by decide +kernel
theorem dX2_wrongInOldKind_34 : decode cX2_wrongInOldKind 34 = .ok (.iload 4, 2) := by decide +kernel
theorem dX2_wrongInOldKind_36 : decode cX2_wrongInOldKind 36 = .ok (.bipush 27, 2) := by decide +kernel
theorem dX2_wrongInOldKind_38 : decode cX2_wrongInOldKind 38 = .ok (.if_icmp .ne 22, 3) := by decide +kernel
theorem dX2_wrongInOldKind_41 : decode cX2_wrongInOldKind 41 = .ok (.aload_n 0, 1) := by decide +kernel
theorem dX2_wrongInOldKind_42 : decode cX2_wrongInOldKind 42 = .ok (.iload_n 3, 1) := by decide +kernel
theorem dX2_wrongInOldKind_43 : decode cX2_wrongInOldKind 43 = .ok (.invokevirtual 128, 3) := by decide +kernel
theorem dX2_wrongInOldKind_46 : decode cX2_wrongInOldKind 46 = .ok (.istore_n 1, 1) := by decide +kernel
theorem dX2_wrongInOldKind_47 : decode cX2_wrongInOldKind 47 = .ok (.iload_n 1, 1) := by decide +kernel
theorem dX2_wrongInOldKind_48 : decode cX2_wrongInOldKind 48 = .ok (.iconst (-1), 1) := by decide +kernel
theorem dX2_wrongInOldKind_49 : decode cX2_wrongInOldKind 49 = .ok (.if_icmp .ne 5, 3) := by decide +kernel
theorem dX2_wrongInOldKind_52 : decode cX2_wrongInOldKind 52 = .ok (.iload_n 3, 1) := by decide +kernel
theorem dX2_wrongInOldKind_53 : decode cX2_wrongInOldKind 53 = .ok (.ireturn, 1) := by decide +kernel
theorem dX2_wrongInOldKind_54 : decode cX2_wrongInOldKind 54 = .ok (.iinc 3 2, 3) := by decide +kernel
theorem dX2_wrongInOldKind_57 : decode cX2_wrongInOldKind 57 = .ok (.goto 119, 3) := by decide +kernel
theorem dX2_wrongInOldKind_60 : decode cX2_wrongInOldKind 60 = .ok (.iload 4, 2) := by decide +kernel
theorem dX2_wrongInOldKind_62 : decode cX2_wrongInOldKind 62 = .ok (.iload_n 1, 1) := by decide +kernel
theorem dX2_wrongInOldKind_63 : decode cX2_wrongInOldKind 63 = .ok (.invokestatic 131, 3) := by decide +kernel
theorem dX2_wrongInOldKind_66 : decode cX2_wrongInOldKind 66 = .ok (.istore 5, 2) := by decide +kernel
theorem dX2_wrongInOldKind_68 : decode cX2_wrongInOldKind 68 = .ok (.iload 5, 2) := by decide +kernel
theorem dX2_wrongInOldKind_70 : decode cX2_wrongInOldKind 70 = .ok (.ifCond .ne 5, 3) := by decide +kernel
theorem dX2_wrongInOldKind_73 : decode cX2_wrongInOldKind 73 = .ok (.iload_n 3, 1) := by decide +kernel
theorem dX2_wrongInOldKind_74 : decode cX2_wrongInOldKind 74 = .ok (.ireturn, 1) := by decide +kernel
theorem dX2_wrongInOldKind_75 : decode cX2_wrongInOldKind 75 = .ok (.iload 5, 2) := by decide +kernel
theorem dX2_wrongInOldKind_77 : decode cX2_wrongInOldKind 77 = .ok (.invokestatic 134, 3) := by decide +kernel
theorem dX2_wrongInOldKind_80 : decode cX2_wrongInOldKind 80 = .ok (.ifCond .eq 31, 3) := by decide +kernel
theorem dX2_wrongInOldKind_83 : decode cX2_wrongInOldKind 83 = .ok (.aload_n 0, 1) := by decide +kernel
theorem dX2_wrongInOldKind_84 : decode cX2_wrongInOldKind 84 = .ok (.getfield 40, 3) := by decide +kernel
theorem dX2_wrongInOldKind_87 : decode cX2_wrongInOldKind 87 = .ok (.getfield 71, 3) := by decide +kernel
theorem dX2_wrongInOldKind_90 : decode cX2_wrongInOldKind 90 = .ok (.ifCond .ne 7, 3) := by decide +kernel
theorem dX2_wrongInOldKind_93 : decode cX2_wrongInOldKind 93 = .ok (.iload_n 3, 1) := by decide +kernel
theorem dX2_wrongInOldKind_94 : decode cX2_wrongInOldKind 94 = .ok (.goto 4, 3) := by decide +kernel
theorem dX2_wrongInOldKind_97 : decode cX2_wrongInOldKind 97 = .ok (.iload_n 2, 1) := by decide +kernel
theorem dX2_wrongInOldKind_98 : decode cX2_wrongInOldKind 98 = .ok (.istore_n 2, 1) := by decide +kernel
theorem dX2_wrongInOldKind_99 : decode cX2_wrongInOldKind 99 = .ok (.aload_n 0, 1) := by decide +kernel
theorem dX2_wrongInOldKind_100 : decode cX2_wrongInOldKind 100 = .ok (.getfield 40, 3) := by decide +kernel
theorem dX2_wrongInOldKind_103 : decode cX2_wrongInOldKind 103 = .ok (.iload 5, 2) := by decide +kernel
theorem dX2_wrongInOldKind_105 : decode cX2_wrongInOldKind 105 = .ok (.invokevirtual 137, 3) := by decide +kernel
theorem dX2_wrongInOldKind_108 : decode cX2_wrongInOldKind 108 = .ok (.goto 68, 3) := by decide +kernel
theorem dX2_wrongInOldKind_111 : decode cX2_wrongInOldKind 111 = .ok (.aload_n 0, 1) := by decide +kernel
theorem dX2_wrongInOldKind_112 : decode cX2_wrongInOldKind 112 = .ok (.getfield 31, 3) := by decide +kernel
theorem dX2_wrongInOldKind_115 : decode cX2_wrongInOldKind 115 = .ok (.getfield 71, 3) := by decide +kernel
theorem dX2_wrongInOldKind_118 : decode cX2_wrongInOldKind 118 = .ok (.iconst 1, 1) := by decide +kernel
theorem dX2_wrongInOldKind_119 : decode cX2_wrongInOldKind 119 = .ok (.iadd, 1) := by decide +kernel
theorem dX2_wrongInOldKind_120 : decode cX2_wrongInOldKind 120 = .ok (.aload_n 0, 1) := by decide +kernel
theorem dX2_wrongInOldKind_121 : decode cX2_wrongInOldKind 121 = .ok (.getfield 40, 3) := by decide +kernel
theorem dX2_wrongInOldKind_124 : decode cX2_wrongInOldKind 124 = .ok (.getfield 71, 3) := by decide +kernel
theorem dX2_wrongInOldKind_127 : decode cX2_wrongInOldKind 127 = .ok (.iadd, 1) := by decide +kernel
theorem dX2_wrongInOldKind_128 : decode cX2_wrongInOldKind 128 = .ok (.bipush 100, 2) := by decide +kernel
theorem dX2_wrongInOldKind_130 : decode cX2_wrongInOldKind 130 = .ok (.if_icmp .le 19, 3) := by decide +kernel
theorem dX2_wrongInOldKind_133 : decode cX2_wrongInOldKind 133 = .ok (.aload_n 0, 1) := by decide +kernel
theorem dX2_wrongInOldKind_134 : decode cX2_wrongInOldKind 134 = .ok (.getfield 40, 3) := by decide +kernel
theorem dX2_wrongInOldKind_137 : decode cX2_wrongInOldKind 137 = .ok (.getfield 71, 3) := by decide +kernel
theorem dX2_wrongInOldKind_140 : decode cX2_wrongInOldKind 140 = .ok (.ifCond .ne 7, 3) := by decide +kernel
theorem dX2_wrongInOldKind_143 : decode cX2_wrongInOldKind 143 = .ok (.iload_n 3, 1) := by decide +kernel
theorem dX2_wrongInOldKind_144 : decode cX2_wrongInOldKind 144 = .ok (.goto 4, 3) := by decide +kernel
theorem dX2_wrongInOldKind_147 : decode cX2_wrongInOldKind 147 = .ok (.iload_n 2, 1) := by decide +kernel
theorem dX2_wrongInOldKind_148 : decode cX2_wrongInOldKind 148 = .ok (.ireturn, 1) := by decide +kernel
theorem dX2_wrongInOldKind_149 : decode cX2_wrongInOldKind 149 = .ok (.aload_n 0, 1) := by decide +kernel
theorem dX2_wrongInOldKind_150 : decode cX2_wrongInOldKind 150 = .ok (.getfield 31, 3) := by decide +kernel
theorem dX2_wrongInOldKind_153 : decode cX2_wrongInOldKind 153 = .ok (.iload 5, 2) := by decide +kernel
theorem dX2_wrongInOldKind_155 : decode cX2_wrongInOldKind 155 = .ok (.invokevirtual 137, 3) := by decide +kernel
theorem dX2_wrongInOldKind_158 : decode cX2_wrongInOldKind 158 = .ok (.aload_n 0, 1) := by decide +kernel
theorem dX2_wrongInOldKind_159 : decode cX2_wrongInOldKind 159 = .ok (.getfield 31, 3) := by decide +kernel
theorem dX2_wrongInOldKind_162 : decode cX2_wrongInOldKind 162 = .ok (.aload_n 0, 1) := by decide +kernel
theorem dX2_wrongInOldKind_163 : decode cX2_wrongInOldKind 163 = .ok (.getfield 40, 3) := by decide +kernel
theorem dX2_wrongInOldKind_166 : decode cX2_wrongInOldKind 166 = .ok (.invokevirtual 138, 3) := by decide +kernel
theorem dX2_wrongInOldKind_169 : decode cX2_wrongInOldKind 169 = .ok (.aload_n 0, 1) := by decide +kernel
theorem dX2_wrongInOldKind_170 : decode cX2_wrongInOldKind 170 = .ok (.getfield 40, 3) := by decide +kernel
theorem dX2_wrongInOldKind_173 : decode cX2_wrongInOldKind 173 = .ok (.invokevirtual 57, 3) := by decide +kernel
theorem dX2_wrongInOldKind_176 : decode cX2_wrongInOldKind 176 = .ok (.iinc 3 1, 3) := by decide +kernel
theorem dX2_wrongInOldKind_179 : decode cX2_wrongInOldKind 179 = .ok (.goto (-166), 3) := by decide +kernel
theorem dX2_wrongInOldKind_182 : decode cX2_wrongInOldKind 182 = .ok (.aload_n 0, 1) := by decide +kernel
theorem dX2_wrongInOldKind_183 : decode cX2_wrongInOldKind 183 = .ok (.getfield 40, 3) := by decide +kernel
theorem dX2_wrongInOldKind_186 : decode cX2_wrongInOldKind 186 = .ok (.getfield 71, 3) := by decide +kernel
theorem dX2_wrongInOldKind_189 : decode cX2_wrongInOldKind 189 = .ok (.ifCond .ne 7, 3) := by decide +kernel
theorem dX2_wrongInOldKind_192 : decode cX2_wrongInOldKind 192 = .ok (.iconst (-1), 1) := by decide +kernel
theorem dX2_wrongInOldKind_193 : decode cX2_wrongInOldKind 193 = .ok (.goto 4, 3) := by decide +kernel
theorem dX2_wrongInOldKind_196 : decode cX2_wrongInOldKind 196 = .ok (.iload_n 2, 1) := by decide +kernel
theorem dX2_wrongInOldKind_197 : decode cX2_wrongInOldKind 197 = .ok (.ireturn, 1) := by decide +kernel
set_option maxRecDepth 20000 in
theorem ggX2_setOfEscape_X1_at : GoodIn wsX2_setOfEscape wsX1_at := goodIn_r _ [6, 7, 8, 20, 21] (by decide +kernel) (by decide +kernel)
set_option maxRecDepth 20000 in
theorem gX2_setOfEscape_X1_at : GoodIn wsX2_setOfEscape (wsV RX2 85 RX1 yX1_at wsX1_at) := goodIn_app (goodIn_of _ (by decide +kernel)) ggX2_setOfEscape_X1_at
theorem dX2_setOfEscape_0 : decode cX2_setOfEscape 0 = .ok (.aload_n 0, 1) := by decide +kernel
theorem dX2_setOfEscape_1 : decode cX2_setOfEscape 1 = .ok (.getfield 14, 3) := by decide +kernel
theorem dX2_setOfEscape_4 : decode cX2_setOfEscape 4 = .ok (.iload_n 1, 1) := by decide +kernel
theorem dX2_setOfEscape_5 : decode cX2_setOfEscape 5 = .ok (.iconst 2, 1) := by decide +kernel
theorem dX2_setOfEscape_6 : decode cX2_setOfEscape 6 = .ok (.iadd, 1) := by decide +kernel
theorem dX2_setOfEscape_7 : decode cX2_setOfEscape 7 = .ok (.invokevirtual 85, 3) := by decide +kernel
theorem dX2_setOfEscape_10 : decode cX2_setOfEscape 10 = .ok (.bipush 48, 2) := by decide +kernel
theorem dX2_setOfEscape_12 : decode cX2_setOfEscape 12 = .ok (.isub, 1) := by decide +kernel
theorem dX2_setOfEscape_13 : decode cX2_setOfEscape 13 = .ok (.istore_n 2, 1) := by decide +kernel
theorem dX2_setOfEscape_14 : decode cX2_setOfEscape 14 = .ok (.aload_n 0, 1) := by decide +kernel
theorem dX2_setOfEscape_15 : decode cX2_setOfEscape 15 = .ok (.getfield 14, 3) := by decide +kernel
theorem dX2_setOfEscape_18 : decode cX2_setOfEscape 18 = .ok (.iload_n 1, 1) := by decide +kernel
theorem dX2_setOfEscape_19 : decode cX2_setOfEscape 19 = .ok (.iconst 1, 1) := by decide +kernel
theorem dX2_setOfEscape_20 : decode cX2_setOfEscape 20 = .ok (.iadd, 1) := by decide +kernel
theorem dX2_setOfEscape_21 : decode cX2_setOfEscape 21 = .ok (.invokevirtual 85, 3) := by decide +kernel
theorem dX2_setOfEscape_24 : decode cX2_setOfEscape 24 = .ok (.bipush 103, 2) := by decide +kernel
theorem dX2_setOfEscape_26 : decode cX2_setOfEscape 26 = .ok (.if_icmp .ne 16, 3) := by decide +kernel
theorem dX2_setOfEscape_29 : decode cX2_setOfEscape 29 = .ok (.iload_n 2, 1) := by decide +kernel
theorem dX2_setOfEscape_30 : decode cX2_setOfEscape 30 = .ok (.ifCond .lt 12, 3) := by decide +kernel
theorem dX2_setOfEscape_33 : decode cX2_setOfEscape 33 = .ok (.iload_n 2, 1) := by decide +kernel
theorem dX2_setOfEscape_34 : decode cX2_setOfEscape 34 = .ok (.iconst 3, 1) := by decide +kernel
theorem dX2_setOfEscape_35 : decode cX2_setOfEscape 35 = .ok (.if_icmp .ge 7, 3) := by decide +kernel
theorem dX2_setOfEscape_38 : decode cX2_setOfEscape 38 = .ok (.iconst 1, 1) := by decide +kernel
theorem dX2_setOfEscape_39 : decode cX2_setOfEscape 39 = .ok (.goto 4, 3) := by decide +kernel
theorem dX2_setOfEscape_42 : decode cX2_setOfEscape 42 = .ok (.iconst 0, 1) := by decide +kernel
theorem dX2_setOfEscape_43 : decode cX2_setOfEscape 43 = .ok (.istore_n 3, 1) := by decide +kernel
theorem dX2_setOfEscape_44 : decode cX2_setOfEscape 44 = .ok (.iload_n 3, 1) := by decide +kernel
theorem dX2_setOfEscape_45 : decode cX2_setOfEscape 45 = .ok (.ifCond .eq 7, 3) := by decide +kernel
theorem dX2_setOfEscape_48 : decode cX2_setOfEscape 48 = .ok (.iload_n 2, 1) := by decide +kernel
theorem dX2_setOfEscape_49 : decode cX2_setOfEscape 49 = .ok (.goto 4, 3) := by decide +kernel
theorem dX2_setOfEscape_52 : decode cX2_setOfEscape 52 = .ok (.iconst (-1), 1) := by decide +kernel
theorem dX2_setOfEscape_53 : decode cX2_setOfEscape 53 = .ok (.ireturn, 1) := by decide +kernel
set_option maxRecDepth 20000 in
theorem ggX2_codeOfOldByte_X2_isPlain : GoodIn wsX2_codeOfOldByte wsX2_isPlain := goodIn_r _ [4] (by decide +kernel) (by decide +kernel)
set_option maxRecDepth 20000 in
theorem gX2_codeOfOldByte_X2_isPlain : GoodIn wsX2_codeOfOldByte (va_wsS RX2 93 yX2_isPlain wsX2_isPlain) := goodIn_app (goodIn_of _ (by decide +kernel)) ggX2_codeOfOldByte_X2_isPlain
set_option maxRecDepth 20000 in
theorem ggX2_codeOfOldByte_X2_codeInSet : GoodIn wsX2_codeOfOldByte wsX2_codeInSet := goodIn_r _ [7, 8, 9, 3, 10, 11, 12, 13] (by decide +kernel) (by decide +kernel)
set_option maxRecDepth 20000 in
theorem gX2_codeOfOldByte_X2_codeInSet : GoodIn wsX2_codeOfOldByte (va_wsS RX2 120 yX2_codeInSet wsX2_codeInSet) := goodIn_app (goodIn_of _ (by decide +kernel)) ggX2_codeOfOldByte_X2_codeInSet
theorem dX2_codeOfOldByte_0 : decode cX2_codeOfOldByte 0 = .ok (.iload_n 0, 1) := by decide +kernel
theorem dX2_codeOfOldByte_1 : decode cX2_codeOfOldByte 1 = .ok (.invokestatic 93, 3) := by decide +kernel
theorem dX2_codeOfOldByte_4 : decode cX2_codeOfOldByte 4 = .ok (.ifCond .eq 7, 3) := by decide +kernel
theorem dX2_codeOfOldByte_7 : decode cX2_codeOfOldByte 7 = .ok (.iload_n 0, 1) := by decide +kernel
theorem dX2_codeOfOldByte_8 : decode cX2_codeOfOldByte 8 = .ok (.goto 12, 3) := by decide +kernel
theorem dX2_codeOfOldByte_11 : decode cX2_codeOfOldByte 11 = .ok (.iload_n 1, 1) := by decide +kernel
theorem dX2_codeOfOldByte_12 : decode cX2_codeOfOldByte 12 = .ok (.iload_n 0, 1) := by decide +kernel
theorem dX2_codeOfOldByte_13 : decode cX2_codeOfOldByte 13 = .ok (.sipush 161, 3) := by decide +kernel
theorem dX2_codeOfOldByte_16 : decode cX2_codeOfOldByte 16 = .ok (.isub, 1) := by decide +kernel
theorem dX2_codeOfOldByte_17 : decode cX2_codeOfOldByte 17 = .ok (.invokestatic 120, 3) := by decide +kernel
theorem dX2_codeOfOldByte_20 : decode cX2_codeOfOldByte 20 = .ok (.ireturn, 1) := by decide +kernel
set_option maxRecDepth 20000 in
theorem ggX2_wrongInNewKind_X2_codeOfNewBytes : GoodIn wsX2_wrongInNewKind wsX2_codeOfNewBytes := goodIn_r _ [7, 1, 8, 9, 10, 11, 12, 13, 14, 15, 16, 6, 17, 57, 58, 59, 60, 61, 62, 63, 64, 65, 66, 67, 68, 69] (by decide +kernel) (by decide +kernel)
set_option maxRecDepth 20000 in
theorem gX2_wrongInNewKind_X2_codeOfNewBytes : GoodIn wsX2_wrongInNewKind (wsV RX2 141 RX2 yX2_codeOfNewBytes wsX2_codeOfNewBytes) := goodIn_app (goodIn_of _ (by decide +kernel)) ggX2_wrongInNewKind_X2_codeOfNewBytes
set_option maxRecDepth 20000 in
theorem ggX2_wrongInNewKind_X2_isPlain : GoodIn wsX2_wrongInNewKind wsX2_isPlain := goodIn_r _ [20] (by decide +kernel) (by decide +kernel)
set_option maxRecDepth 20000 in
theorem gX2_wrongInNewKind_X2_isPlain : GoodIn wsX2_wrongInNewKind (va_wsS RX2 93 yX2_isPlain wsX2_isPlain) := goodIn_app (goodIn_of _ (by decide +kernel)) ggX2_wrongInNewKind_X2_isPlain
set_option maxRecDepth 20000 in
theorem ggX2_wrongInNewKind_X2_setOf : GoodIn wsX2_wrongInNewKind wsX2_setOf := goodIn_r _ [23, 24, 25, 6, 26, 27, 28, 29, 30, 31, 32, 33, 34, 35] (by decide +kernel) (by decide +kernel)
set_option maxRecDepth 20000 in
theorem gX2_wrongInNewKind_X2_setOf : GoodIn wsX2_wrongInNewKind (va_wsS RX2 144 yX2_setOf wsX2_setOf) := goodIn_app (goodIn_of _ (by decide +kernel)) ggX2_wrongInNewKind_X2_setOf
set_option maxRecDepth 20000 in
theorem ggX2_wrongInNewKind_X2_isComposed : GoodIn wsX2_wrongInNewKind wsX2_isComposed := goodIn_r _ [38, 39, 40, 41, 42, 6, 43, 44, 45, 46, 47, 48, 49] (by decide +kernel) (by decide +kernel)
set_option maxRecDepth 20000 in
theorem gX2_wrongInNewKind_X2_isComposed : GoodIn wsX2_wrongInNewKind (va_wsS RX2 107 yX2_isComposed wsX2_isComposed) := goodIn_app (goodIn_of _ (by decide +kernel)) ggX2_wrongInNewKind_X2_isComposed
set_option maxRecDepth 20000 in
theorem ggX2_wrongInNewKind_X2_isMark : GoodIn wsX2_wrongInNewKind wsX2_isMark := goodIn_r _ [29] (by decide +kernel) (by decide +kernel)
set_option maxRecDepth 20000 in
theorem gX2_wrongInNewKind_X2_isMark : GoodIn wsX2_wrongInNewKind (va_wsS RX2 134 yX2_isMark wsX2_isMark) := goodIn_app (goodIn_of _ (by decide +kernel)) ggX2_wrongInNewKind_X2_isMark
set_option maxRecDepth 20000 in
theorem ggX2_wrongInNewKind_X0_add : GoodIn wsX2_wrongInNewKind wsX0_add := goodIn_r _ [54, 55, 56, 70, 71] (by decide +kernel) (by decide +kernel)
set_option maxRecDepth 20000 in
theorem gX2_wrongInNewKind_X0_add : GoodIn wsX2_wrongInNewKind (wsV RX2 137 RX0 yX0_add wsX0_add) := goodIn_app (goodIn_of _ (by decide +kernel)) ggX2_wrongInNewKind_X0_add
set_option maxRecDepth 20000 in
theorem ggX2_wrongInNewKind_X2_bytesBehindFirst : GoodIn wsX2_wrongInNewKind wsX2_bytesBehindFirst := goodIn_r _ [17] (by decide +kernel) (by decide +kernel)
set_option maxRecDepth 20000 in
theorem gX2_wrongInNewKind_X2_bytesBehindFirst : GoodIn wsX2_wrongInNewKind (va_wsS RX2 147 yX2_bytesBehindFirst wsX2_bytesBehindFirst) := goodIn_app (goodIn_of _ (by decide +kernel)) ggX2_wrongInNewKind_X2_bytesBehindFirst
theorem dX2_wrongInNewKind_0 : decode cX2_wrongInNewKind 0 = .ok (.iconst 0, 1) := by decide +kernel
theorem dX2_wrongInNewKind_1 : decode cX2_wrongInNewKind 1 = .ok (.istore_n 1, 1) := by decide +kernel
theorem dX2_wrongInNewKind_2 : decode cX2_wrongInNewKind 2 = .ok (.iload_n 1, 1) := by decide +kernel
theorem dX2_wrongInNewKind_3 : decode cX2_wrongInNewKind 3 = .ok (.aload_n 0, 1) := by decide +kernel
theorem dX2_wrongInNewKind_4 : decode cX2_wrongInNewKind 4 = .ok (.getfield 14, 3) := by decide +kernel
theorem dX2_wrongInNewKind_7 : decode cX2_wrongInNewKind 7 = .ok (.getfield 84, 3) := by decide +kernel
theorem dX2_wrongInNewKind_10 : decode cX2_wrongInNewKind 10 = .ok (.if_icmp .ge 105, 3) := by decide +kernel
theorem dX2_wrongInNewKind_13 : decode cX2_wrongInNewKind 13 = .ok (.aload_n 0, 1) := by decide +kernel
theorem dX2_wrongInNewKind_14 : decode cX2_wrongInNewKind 14 = .ok (.iload_n 1, 1) := by decide +kernel
theorem dX2_wrongInNewKind_15 : decode cX2_wrongInNewKind 15 = .ok (.invokevirtual 141, 3) := by decide +kernel
theorem dX2_wrongInNewKind_18 : decode cX2_wrongInNewKind 18 = .ok (.istore_n 2, 1) := by decide +kernel
theorem dX2_wrongInNewKind_19 : decode cX2_wrongInNewKind 19 = .ok (.iload_n 2, 1) := by decide +kernel
theorem dX2_wrongInNewKind_20 : decode cX2_wrongInNewKind 20 = .ok (.invokestatic 93, 3) := by decide +kernel
theorem dX2_wrongInNewKind_23 : decode cX2_wrongInNewKind 23 = .ok (.ifCond .ne 18, 3) := by decide +kernel
theorem dX2_wrongInNewKind_26 : decode cX2_wrongInNewKind 26 = .ok (.iload_n 2, 1) := by decide +kernel
theorem dX2_wrongInNewKind_27 : decode cX2_wrongInNewKind 27 = .ok (.invokestatic 144, 3) := by decide +kernel
theorem dX2_wrongInNewKind_30 : decode cX2_wrongInNewKind 30 = .ok (.iconst (-1), 1) := by decide +kernel
theorem dX2_wrongInNewKind_31 : decode cX2_wrongInNewKind 31 = .ok (.if_icmp .ne 10, 3) := by decide +kernel
theorem dX2_wrongInNewKind_34 : decode cX2_wrongInNewKind 34 = .ok (.iload_n 2, 1) := by decide +kernel
theorem dX2_wrongInNewKind_35 : decode cX2_wrongInNewKind 35 = .ok (.invokestatic 107, 3) := by decide +kernel
theorem dX2_wrongInNewKind_38 : decode cX2_wrongInNewKind 38 = .ok (.ifCond .eq 7, 3) := by decide +kernel
theorem dX2_wrongInNewKind_41 : decode cX2_wrongInNewKind 41 = .ok (.iconst 1, 1) := by decide +kernel
theorem dX2_wrongInNewKind_42 : decode cX2_wrongInNewKind 42 = .ok (.goto 4, 3) := by decide +kernel
theorem dX2_wrongInNewKind_45 : decode cX2_wrongInNewKind 45 = .ok (.iconst 0, 1) := by decide +kernel
theorem dX2_wrongInNewKind_46 : decode cX2_wrongInNewKind 46 = .ok (.istore_n 3, 1) := by decide +kernel
theorem dX2_wrongInNewKind_47 : decode cX2_wrongInNewKind 47 = .ok (.iload_n 2, 1) := by decide +kernel
theorem dX2_wrongInNewKind_48 : decode cX2_wrongInNewKind 48 = .ok (.invokestatic 134, 3) := by decide +kernel
theorem dX2_wrongInNewKind_51 : decode cX2_wrongInNewKind 51 = .ok (.ifCond .eq 17, 3) := by decide +kernel
theorem dX2_wrongInNewKind_54 : decode cX2_wrongInNewKind 54 = .ok (.aload_n 0, 1) := by decide +kernel
theorem dX2_wrongInNewKind_55 : decode cX2_wrongInNewKind 55 = .ok (.getfield 31, 3) := by decide +kernel
theorem dX2_wrongInNewKind_58 : decode cX2_wrongInNewKind 58 = .ok (.getfield 71, 3) := by decide +kernel
theorem dX2_wrongInNewKind_61 : decode cX2_wrongInNewKind 61 = .ok (.ifCond .ne 7, 3) := by decide +kernel
theorem dX2_wrongInNewKind_64 : decode cX2_wrongInNewKind 64 = .ok (.iconst 1, 1) := by decide +kernel
theorem dX2_wrongInNewKind_65 : decode cX2_wrongInNewKind 65 = .ok (.goto 4, 3) := by decide +kernel
theorem dX2_wrongInNewKind_68 : decode cX2_wrongInNewKind 68 = .ok (.iconst 0, 1) := by decide +kernel
theorem dX2_wrongInNewKind_69 : decode cX2_wrongInNewKind 69 = .ok (.istore 4, 2) := by decide +kernel
theorem dX2_wrongInNewKind_71 : decode cX2_wrongInNewKind 71 = .ok (.iload_n 3, 1) := by decide +kernel
theorem dX2_wrongInNewKind_72 : decode cX2_wrongInNewKind 72 = .ok (.ifCond .eq 20, 3) := by decide +kernel
theorem dX2_wrongInNewKind_75 : decode cX2_wrongInNewKind 75 = .ok (.iload 4, 2) := by decide +kernel
theorem dX2_wrongInNewKind_77 : decode cX2_wrongInNewKind 77 = .ok (.ifCond .ne 15, 3) := by decide +kernel
theorem dX2_wrongInNewKind_80 : decode cX2_wrongInNewKind 80 = .ok (.aload_n 0, 1) := by decide +kernel
theorem dX2_wrongInNewKind_81 : decode cX2_wrongInNewKind 81 = .ok (.getfield 31, 3) := by decide +kernel
theorem dX2_wrongInNewKind_84 : decode cX2_wrongInNewKind 84 = .ok (.getfield 71, 3) := by decide +kernel
theorem dX2_wrongInNewKind_87 : decode cX2_wrongInNewKind 87 = .ok (.bipush 100, 2) := by decide +kernel
theorem dX2_wrongInNewKind_89 : decode cX2_wrongInNewKind 89 = .ok (.if_icmp .lt 5, 3) := by decide +kernel
theorem dX2_wrongInNewKind_92 : decode cX2_wrongInNewKind 92 = .ok (.iload_n 1, 1) := by decide +kernel
theorem dX2_wrongInNewKind_93 : decode cX2_wrongInNewKind 93 = .ok (.ireturn, 1) := by decide +kernel
theorem dX2_wrongInNewKind_94 : decode cX2_wrongInNewKind 94 = .ok (.aload_n 0, 1) := by decide +kernel
theorem dX2_wrongInNewKind_95 : decode cX2_wrongInNewKind 95 = .ok (.getfield 31, 3) := by decide +kernel
theorem dX2_wrongInNewKind_98 : decode cX2_wrongInNewKind 98 = .ok (.iload_n 2, 1) := by decide +kernel
theorem dX2_wrongInNewKind_99 : decode cX2_wrongInNewKind 99 = .ok (.invokevirtual 137, 3) := by decide +kernel
theorem dX2_wrongInNewKind_102 : decode cX2_wrongInNewKind 102 = .ok (.iload_n 1, 1) := by decide +kernel
theorem dX2_wrongInNewKind_103 : decode cX2_wrongInNewKind 103 = .ok (.iload_n 2, 1) := by decide +kernel
theorem dX2_wrongInNewKind_104 : decode cX2_wrongInNewKind 104 = .ok (.invokestatic 147, 3) := by decide +kernel
theorem dX2_wrongInNewKind_107 : decode cX2_wrongInNewKind 107 = .ok (.iadd, 1) := by decide +kernel
theorem dX2_wrongInNewKind_108 : decode cX2_wrongInNewKind 108 = .ok (.istore_n 1, 1) := by decide +kernel
theorem dX2_wrongInNewKind_109 : decode cX2_wrongInNewKind 109 = .ok (.iinc 1 1, 3) := by decide +kernel
theorem dX2_wrongInNewKind_112 : decode cX2_wrongInNewKind 112 = .ok (.goto (-110), 3) := by decide +kernel
theorem dX2_wrongInNewKind_115 : decode cX2_wrongInNewKind 115 = .ok (.iconst (-1), 1) := by decide +kernel
theorem dX2_wrongInNewKind_116 : decode cX2_wrongInNewKind 116 = .ok (.ireturn, 1) := by decide +kernel
set_option maxRecDepth 20000 in
theorem ggX2_codeOfNewBytes_X1_at : GoodIn wsX2_codeOfNewBytes wsX1_at := goodIn_r _ [6, 7, 8, 24, 25] (by decide +kernel) (by decide +kernel)
set_option maxRecDepth 20000 in
theorem gX2_codeOfNewBytes_X1_at : GoodIn wsX2_codeOfNewBytes (wsV RX2 85 RX1 yX1_at wsX1_at) := goodIn_app (goodIn_of _ (by decide +kernel)) ggX2_codeOfNewBytes_X1_at
set_option maxRecDepth 20000 in
theorem ggX2_codeOfNewBytes_X2_bytesBehindFirst : GoodIn wsX2_codeOfNewBytes wsX2_bytesBehindFirst := goodIn_r _ [12] (by decide +kernel) (by decide +kernel)
set_option maxRecDepth 20000 in
theorem gX2_codeOfNewBytes_X2_bytesBehindFirst : GoodIn wsX2_codeOfNewBytes (va_wsS RX2 147 yX2_bytesBehindFirst wsX2_bytesBehindFirst) := goodIn_app (goodIn_of _ (by decide +kernel)) ggX2_codeOfNewBytes_X2_bytesBehindFirst
theorem dX2_codeOfNewBytes_0 : decode cX2_codeOfNewBytes 0 = .ok (.aload_n 0, 1) := by decide +kernel
theorem dX2_codeOfNewBytes_1 : decode cX2_codeOfNewBytes 1 = .ok (.getfield 14, 3) := by decide +kernel
theorem dX2_codeOfNewBytes_4 : decode cX2_codeOfNewBytes 4 = .ok (.iload_n 1, 1) := by decide +kernel
theorem dX2_codeOfNewBytes_5 : decode cX2_codeOfNewBytes 5 = .ok (.invokevirtual 85, 3) := by decide +kernel
theorem dX2_codeOfNewBytes_8 : decode cX2_codeOfNewBytes 8 = .ok (.istore_n 2, 1) := by decide +kernel
theorem dX2_codeOfNewBytes_9 : decode cX2_codeOfNewBytes 9 = .ok (.iload_n 2, 1) := by decide +kernel
theorem dX2_codeOfNewBytes_10 : decode cX2_codeOfNewBytes 10 = .ok (.sipush 128, 3) := by decide +kernel
theorem dX2_codeOfNewBytes_13 : decode cX2_codeOfNewBytes 13 = .ok (.if_icmp .ge 5, 3) := by decide +kernel
theorem dX2_codeOfNewBytes_16 : decode cX2_codeOfNewBytes 16 = .ok (.iload_n 2, 1) := by decide +kernel
theorem dX2_codeOfNewBytes_17 : decode cX2_codeOfNewBytes 17 = .ok (.ireturn, 1) := by decide +kernel
theorem dX2_codeOfNewBytes_18 : decode cX2_codeOfNewBytes 18 = .ok (.iload_n 2, 1) := by decide +kernel
theorem dX2_codeOfNewBytes_19 : decode cX2_codeOfNewBytes 19 = .ok (.sipush 192, 3) := by decide +kernel
theorem dX2_codeOfNewBytes_22 : decode cX2_codeOfNewBytes 22 = .ok (.if_icmp .lt 10, 3) := by decide +kernel
theorem dX2_codeOfNewBytes_25 : decode cX2_codeOfNewBytes 25 = .ok (.iload_n 2, 1) := by decide +kernel
theorem dX2_codeOfNewBytes_26 : decode cX2_codeOfNewBytes 26 = .ok (.sipush 240, 3) := by decide +kernel
theorem dX2_codeOfNewBytes_29 : decode cX2_codeOfNewBytes 29 = .ok (.if_icmp .lt 5, 3) := by decide +kernel
theorem dX2_codeOfNewBytes_32 : decode cX2_codeOfNewBytes 32 = .ok (.iconst (-1), 1) := by decide +kernel
theorem dX2_codeOfNewBytes_33 : decode cX2_codeOfNewBytes 33 = .ok (.ireturn, 1) := by decide +kernel
theorem dX2_codeOfNewBytes_34 : decode cX2_codeOfNewBytes 34 = .ok (.iload_n 2, 1) := by decide +kernel
theorem dX2_codeOfNewBytes_35 : decode cX2_codeOfNewBytes 35 = .ok (.sipush 224, 3) := by decide +kernel
theorem dX2_codeOfNewBytes_38 : decode cX2_codeOfNewBytes 38 = .ok (.if_icmp .ge 7, 3) := by decide +kernel
theorem dX2_codeOfNewBytes_41 : decode cX2_codeOfNewBytes 41 = .ok (.iconst 1, 1) := by decide +kernel
theorem dX2_codeOfNewBytes_42 : decode cX2_codeOfNewBytes 42 = .ok (.goto 4, 3) := by decide +kernel
theorem dX2_codeOfNewBytes_45 : decode cX2_codeOfNewBytes 45 = .ok (.iconst 2, 1) := by decide +kernel
theorem dX2_codeOfNewBytes_46 : decode cX2_codeOfNewBytes 46 = .ok (.istore_n 3, 1) := by decide +kernel
theorem dX2_codeOfNewBytes_47 : decode cX2_codeOfNewBytes 47 = .ok (.iload_n 2, 1) := by decide +kernel
theorem dX2_codeOfNewBytes_48 : decode cX2_codeOfNewBytes 48 = .ok (.sipush 224, 3) := by decide +kernel
theorem dX2_codeOfNewBytes_51 : decode cX2_codeOfNewBytes 51 = .ok (.if_icmp .ge 11, 3) := by decide +kernel
theorem dX2_codeOfNewBytes_54 : decode cX2_codeOfNewBytes 54 = .ok (.iload_n 2, 1) := by decide +kernel
theorem dX2_codeOfNewBytes_55 : decode cX2_codeOfNewBytes 55 = .ok (.sipush 192, 3) := by decide +kernel
theorem dX2_codeOfNewBytes_58 : decode cX2_codeOfNewBytes 58 = .ok (.isub, 1) := by decide +kernel
theorem dX2_codeOfNewBytes_59 : decode cX2_codeOfNewBytes 59 = .ok (.goto 8, 3) := by decide +kernel
theorem dX2_codeOfNewBytes_62 : decode cX2_codeOfNewBytes 62 = .ok (.iload_n 2, 1) := by decide +kernel
theorem dX2_codeOfNewBytes_63 : decode cX2_codeOfNewBytes 63 = .ok (.sipush 224, 3) := by decide +kernel
theorem dX2_codeOfNewBytes_66 : decode cX2_codeOfNewBytes 66 = .ok (.isub, 1) := by decide +kernel
theorem dX2_codeOfNewBytes_67 : decode cX2_codeOfNewBytes 67 = .ok (.istore 4, 2) := by decide +kernel
theorem dX2_codeOfNewBytes_69 : decode cX2_codeOfNewBytes 69 = .ok (.iconst 1, 1) := by decide +kernel
theorem dX2_codeOfNewBytes_70 : decode cX2_codeOfNewBytes 70 = .ok (.istore 5, 2) := by decide +kernel
theorem dX2_codeOfNewBytes_72 : decode cX2_codeOfNewBytes 72 = .ok (.iload 5, 2) := by decide +kernel
theorem dX2_codeOfNewBytes_74 : decode cX2_codeOfNewBytes 74 = .ok (.iload_n 3, 1) := by decide +kernel
theorem dX2_codeOfNewBytes_75 : decode cX2_codeOfNewBytes 75 = .ok (.if_icmp .gt 54, 3) := by decide +kernel
theorem dX2_codeOfNewBytes_78 : decode cX2_codeOfNewBytes 78 = .ok (.aload_n 0, 1) := by decide +kernel
theorem dX2_codeOfNewBytes_79 : decode cX2_codeOfNewBytes 79 = .ok (.getfield 14, 3) := by decide +kernel
theorem dX2_codeOfNewBytes_82 : decode cX2_codeOfNewBytes 82 = .ok (.iload_n 1, 1) := by decide +kernel
theorem dX2_codeOfNewBytes_83 : decode cX2_codeOfNewBytes 83 = .ok (.iload 5, 2) := by decide +kernel
theorem dX2_codeOfNewBytes_85 : decode cX2_codeOfNewBytes 85 = .ok (.iadd, 1) := by decide +kernel
theorem dX2_codeOfNewBytes_86 : decode cX2_codeOfNewBytes 86 = .ok (.invokevirtual 85, 3) := by decide +kernel
theorem dX2_codeOfNewBytes_89 : decode cX2_codeOfNewBytes 89 = .ok (.istore 6, 2) := by decide +kernel
theorem dX2_codeOfNewBytes_91 : decode cX2_codeOfNewBytes 91 = .ok (.iload 6, 2) := by decide +kernel
theorem dX2_codeOfNewBytes_93 : decode cX2_codeOfNewBytes 93 = .ok (.sipush 128, 3) := by decide +kernel
theorem dX2_codeOfNewBytes_96 : decode cX2_codeOfNewBytes 96 = .ok (.if_icmp .lt 11, 3) := by decide +kernel
theorem dX2_codeOfNewBytes_99 : decode cX2_codeOfNewBytes 99 = .ok (.iload 6, 2) := by decide +kernel
theorem dX2_codeOfNewBytes_101 : decode cX2_codeOfNewBytes 101 = .ok (.sipush 191, 3) := by decide +kernel
theorem dX2_codeOfNewBytes_104 : decode cX2_codeOfNewBytes 104 = .ok (.if_icmp .le 5, 3) := by decide +kernel
theorem dX2_codeOfNewBytes_107 : decode cX2_codeOfNewBytes 107 = .ok (.iconst (-1), 1) := by decide +kernel
theorem dX2_codeOfNewBytes_108 : decode cX2_codeOfNewBytes 108 = .ok (.ireturn, 1) := by decide +kernel
theorem dX2_codeOfNewBytes_109 : decode cX2_codeOfNewBytes 109 = .ok (.iload 4, 2) := by decide +kernel
theorem dX2_codeOfNewBytes_111 : decode cX2_codeOfNewBytes 111 = .ok (.bipush 64, 2) := by decide +kernel
theorem dX2_codeOfNewBytes_113 : decode cX2_codeOfNewBytes 113 = .ok (.imul, 1) := by decide +kernel
theorem dX2_codeOfNewBytes_114 : decode cX2_codeOfNewBytes 114 = .ok (.iload 6, 2) := by decide +kernel
theorem dX2_codeOfNewBytes_116 : decode cX2_codeOfNewBytes 116 = .ok (.iadd, 1) := by decide +kernel
theorem dX2_codeOfNewBytes_117 : decode cX2_codeOfNewBytes 117 = .ok (.sipush 128, 3) := by decide +kernel
theorem dX2_codeOfNewBytes_120 : decode cX2_codeOfNewBytes 120 = .ok (.isub, 1) := by decide +kernel
theorem dX2_codeOfNewBytes_121 : decode cX2_codeOfNewBytes 121 = .ok (.istore 4, 2) := by decide +kernel
theorem dX2_codeOfNewBytes_123 : decode cX2_codeOfNewBytes 123 = .ok (.iinc 5 1, 3) := by decide +kernel
theorem dX2_codeOfNewBytes_126 : decode cX2_codeOfNewBytes 126 = .ok (.goto (-54), 3) := by decide +kernel
theorem dX2_codeOfNewBytes_129 : decode cX2_codeOfNewBytes 129 = .ok (.iload 4, 2) := by decide +kernel
theorem dX2_codeOfNewBytes_131 : decode cX2_codeOfNewBytes 131 = .ok (.invokestatic 147, 3) := by decide +kernel
theorem dX2_codeOfNewBytes_134 : decode cX2_codeOfNewBytes 134 = .ok (.iload_n 3, 1) := by decide +kernel
theorem dX2_codeOfNewBytes_135 : decode cX2_codeOfNewBytes 135 = .ok (.if_icmp .ne 8, 3) := by decide +kernel
theorem dX2_codeOfNewBytes_138 : decode cX2_codeOfNewBytes 138 = .ok (.iload 4, 2) := by decide +kernel
theorem dX2_codeOfNewBytes_140 : decode cX2_codeOfNewBytes 140 = .ok (.goto 4, 3) := by decide +kernel
theorem dX2_codeOfNewBytes_143 : decode cX2_codeOfNewBytes 143 = .ok (.iconst (-1), 1) := by decide +kernel
theorem dX2_codeOfNewBytes_144 : decode cX2_codeOfNewBytes 144 = .ok (.ireturn, 1) := by decide +kernel
theorem dX2_bytesBehindFirst_0 : decode cX2_bytesBehindFirst 0 = .ok (.iload_n 0, 1) := by decide +kernel
theorem dX2_bytesBehindFirst_1 : decode cX2_bytesBehindFirst 1 = .ok (.sipush 128, 3) := by decide +kernel
theorem dX2_bytesBehindFirst_4 : decode cX2_bytesBehindFirst 4 = .ok (.if_icmp .ge 5, 3) := by decide +kernel
theorem dX2_bytesBehindFirst_7 : decode cX2_bytesBehindFirst 7 = .ok (.iconst 0, 1) := by decide +kernel
theorem dX2_bytesBehindFirst_8 : decode cX2_bytesBehindFirst 8 = .ok (.ireturn, 1) := by decide +kernel
theorem dX2_bytesBehindFirst_9 : decode cX2_bytesBehindFirst 9 = .ok (.iload_n 0, 1) := by decide +kernel
theorem dX2_bytesBehindFirst_10 : decode cX2_bytesBehindFirst 10 = .ok (.sipush 2048, 3) := by decide +kernel
theorem dX2_bytesBehindFirst_13 : decode cX2_bytesBehindFirst 13 = .ok (.if_icmp .ge 7, 3) := by decide +kernel
theorem dX2_bytesBehindFirst_16 : decode cX2_bytesBehindFirst 16 = .ok (.iconst 1, 1) := by decide +kernel
theorem dX2_bytesBehindFirst_17 : decode cX2_bytesBehindFirst 17 = .ok (.goto 4, 3) := by decide +kernel
theorem dX2_bytesBehindFirst_20 : decode cX2_bytesBehindFirst 20 = .ok (.iconst 2, 1) := by decide +kernel
theorem dX2_bytesBehindFirst_21 : decode cX2_bytesBehindFirst 21 = .ok (.ireturn, 1) := by decide +kernel
set_option maxRecDepth 20000 in
theorem ggX2_writeOldKind_X0_at : GoodIn wsX2_writeOldKind wsX0_at := goodIn_r _ [8, 9, 10, 70, 71] (by decide +kernel) (by decide +kernel)
set_option maxRecDepth 20000 in
theorem gX2_writeOldKind_X0_at : GoodIn wsX2_writeOldKind (wsV RX2 74 RX0 yX0_at wsX0_at) := goodIn_app (goodIn_of _ (by decide +kernel)) ggX2_writeOldKind_X0_at
set_option maxRecDepth 20000 in
theorem ggX2_writeOldKind_X2_isMark : GoodIn wsX2_writeOldKind wsX2_isMark := goodIn_r _ [14] (by decide +kernel) (by decide +kernel)
set_option maxRecDepth 20000 in
theorem gX2_writeOldKind_X2_isMark : GoodIn wsX2_writeOldKind (va_wsS RX2 134 yX2_isMark wsX2_isMark) := goodIn_app (goodIn_of _ (by decide +kernel)) ggX2_writeOldKind_X2_isMark
set_option maxRecDepth 20000 in
theorem ggX2_writeOldKind_X2_tell : GoodIn wsX2_writeOldKind wsX2_tell := goodIn_r _ [18, 19, 20, 21, 22, 23, 7, 24, 9, 10, 59, 60, 61, 62, 63, 64, 65, 66, 67, 68, 69, 70, 71] (by decide +kernel) (by decide +kernel)
set_option maxRecDepth 20000 in
theorem gX2_writeOldKind_X2_tell : GoodIn wsX2_writeOldKind (wsV RX2 150 RX2 yX2_tell wsX2_tell) := goodIn_app (goodIn_of _ (by decide +kernel)) ggX2_writeOldKind_X2_tell
set_option maxRecDepth 20000 in
theorem ggX2_writeOldKind_X2_isPlain : GoodIn wsX2_writeOldKind wsX2_isPlain := goodIn_r _ [27] (by decide +kernel) (by decide +kernel)
set_option maxRecDepth 20000 in
theorem gX2_writeOldKind_X2_isPlain : GoodIn wsX2_writeOldKind (va_wsS RX2 93 yX2_isPlain wsX2_isPlain) := goodIn_app (goodIn_of _ (by decide +kernel)) ggX2_writeOldKind_X2_isPlain
set_option maxRecDepth 20000 in
theorem ggX2_writeOldKind_X2_setOf : GoodIn wsX2_writeOldKind wsX2_setOf := goodIn_r _ [30, 31, 32, 13, 33, 11, 12, 14, 34, 35, 36, 37, 38, 39] (by decide +kernel) (by decide +kernel)
set_option maxRecDepth 20000 in
theorem gX2_writeOldKind_X2_setOf : GoodIn wsX2_writeOldKind (va_wsS RX2 144 yX2_setOf wsX2_setOf) := goodIn_app (goodIn_of _ (by decide +kernel)) ggX2_writeOldKind_X2_setOf
set_option maxRecDepth 20000 in
theorem ggX2_writeOldKind_X1_add : GoodIn wsX2_writeOldKind wsX1_add := goodIn_r _ [44, 45, 46, 72, 73] (by decide +kernel) (by decide +kernel)
set_option maxRecDepth 20000 in
theorem gX2_writeOldKind_X1_add : GoodIn wsX2_writeOldKind (wsV RX2 53 RX1 yX1_add wsX1_add) := goodIn_app (goodIn_of _ (by decide +kernel)) ggX2_writeOldKind_X1_add
set_option maxRecDepth 20000 in
theorem ggX2_writeOldKind_X0_marksBehind : GoodIn wsX2_writeOldKind wsX0_marksBehind := goodIn_r _ [50, 9, 51, 5, 6, 7, 8, 10, 12, 13, 14, 70, 71] (by decide +kernel) (by decide +kernel)
set_option maxRecDepth 20000 in
theorem gX2_writeOldKind_X0_marksBehind : GoodIn wsX2_writeOldKind (wsV RX2 110 RX0 yX0_marksBehind wsX0_marksBehind) := goodIn_app (goodIn_of _ (by decide +kernel)) ggX2_writeOldKind_X0_marksBehind
set_option maxRecDepth 20000 in
theorem ggX2_writeOldKind_X2_writeOldCode : GoodIn wsX2_writeOldKind wsX2_writeOldCode := goodIn_r _ [55, 2, 25, 26, 13, 27, 40, 41, 42, 43, 44, 45, 46, 28, 29, 30, 31, 32, 33, 11, 12, 14, 34, 35, 36, 37, 38, 39, 56, 57, 58, 59, 60, 61, 62, 63, 64, 65, 66, 67, 68, 69, 72, 73] (by decide +kernel) (by decide +kernel)
set_option maxRecDepth 20000 in
theorem gX2_writeOldKind_X2_writeOldCode : GoodIn wsX2_writeOldKind (wsV RX2 154 RX2 yX2_writeOldCode wsX2_writeOldCode) := goodIn_app (goodIn_of _ (by decide +kernel)) ggX2_writeOldKind_X2_writeOldCode
theorem dX2_writeOldKind_0 : decode cX2_writeOldKind 0 = .ok (.iconst 0, 1) := by decide +kernel
theorem dX2_writeOldKind_1 : decode cX2_writeOldKind 1 = .ok (.istore_n 1, 1) := by decide +kernel
theorem dX2_writeOldKind_2 : decode cX2_writeOldKind 2 = .ok (.iconst 1, 1) := by decide +kernel
theorem dX2_writeOldKind_3 : decode cX2_writeOldKind 3 = .ok (.istore_n 2, 1) := by decide +kernel
theorem dX2_writeOldKind_4 : decode cX2_writeOldKind 4 = .ok (.iconst 0, 1) := by decide +kernel
theorem dX2_writeOldKind_5 : decode cX2_writeOldKind 5 = .ok (.istore_n 3, 1) := by decide +kernel
theorem dX2_writeOldKind_6 : decode cX2_writeOldKind 6 = .ok (.iload_n 3, 1) := by decide +kernel
theorem dX2_writeOldKind_7 : decode cX2_writeOldKind 7 = .ok (.aload_n 0, 1) := by decide +kernel
theorem dX2_writeOldKind_8 : decode cX2_writeOldKind 8 = .ok (.getfield 24, 3) := by decide +kernel
theorem dX2_writeOldKind_11 : decode cX2_writeOldKind 11 = .ok (.getfield 71, 3) := by decide +kernel
theorem dX2_writeOldKind_14 : decode cX2_writeOldKind 14 = .ok (.if_icmp .ge 140, 3) := by decide +kernel
theorem dX2_writeOldKind_17 : decode cX2_writeOldKind 17 = .ok (.aload_n 0, 1) := by decide +kernel
theorem dX2_writeOldKind_18 : decode cX2_writeOldKind 18 = .ok (.getfield 24, 3) := by decide +kernel
theorem dX2_writeOldKind_21 : decode cX2_writeOldKind 21 = .ok (.iload_n 3, 1) := by decide +kernel
theorem dX2_writeOldKind_22 : decode cX2_writeOldKind 22 = .ok (.invokevirtual 74, 3) := by decide +kernel
theorem dX2_writeOldKind_25 : decode cX2_writeOldKind 25 = .ok (.istore 4, 2) := by decide +kernel
theorem dX2_writeOldKind_27 : decode cX2_writeOldKind 27 = .ok (.iload 4, 2) := by decide +kernel
theorem dX2_writeOldKind_29 : decode cX2_writeOldKind 29 = .ok (.invokestatic 134, 3) := by decide +kernel
theorem dX2_writeOldKind_32 : decode cX2_writeOldKind 32 = .ok (.ifCond .eq 17, 3) := by decide +kernel
theorem dX2_writeOldKind_35 : decode cX2_writeOldKind 35 = .ok (.iload_n 2, 1) := by decide +kernel
theorem dX2_writeOldKind_36 : decode cX2_writeOldKind 36 = .ok (.ifCond .eq 112, 3) := by decide +kernel
theorem dX2_writeOldKind_39 : decode cX2_writeOldKind 39 = .ok (.aload_n 0, 1) := by decide +kernel
theorem dX2_writeOldKind_40 : decode cX2_writeOldKind 40 = .ok (.iload 4, 2) := by decide +kernel
theorem dX2_writeOldKind_42 : decode cX2_writeOldKind 42 = .ok (.iload_n 3, 1) := by decide +kernel
theorem dX2_writeOldKind_43 : decode cX2_writeOldKind 43 = .ok (.invokevirtual 150, 3) := by decide +kernel
theorem dX2_writeOldKind_46 : decode cX2_writeOldKind 46 = .ok (.goto 102, 3) := by decide +kernel
theorem dX2_writeOldKind_49 : decode cX2_writeOldKind 49 = .ok (.iload 4, 2) := by decide +kernel
theorem dX2_writeOldKind_51 : decode cX2_writeOldKind 51 = .ok (.invokestatic 93, 3) := by decide +kernel
theorem dX2_writeOldKind_54 : decode cX2_writeOldKind 54 = .ok (.ifCond .ne 16, 3) := by decide +kernel
theorem dX2_writeOldKind_57 : decode cX2_writeOldKind 57 = .ok (.iload 4, 2) := by decide +kernel
theorem dX2_writeOldKind_59 : decode cX2_writeOldKind 59 = .ok (.invokestatic 144, 3) := by decide +kernel
theorem dX2_writeOldKind_62 : decode cX2_writeOldKind 62 = .ok (.iconst (-1), 1) := by decide +kernel
theorem dX2_writeOldKind_63 : decode cX2_writeOldKind 63 = .ok (.if_icmp .ne 7, 3) := by decide +kernel
theorem dX2_writeOldKind_66 : decode cX2_writeOldKind 66 = .ok (.iconst 1, 1) := by decide +kernel
theorem dX2_writeOldKind_67 : decode cX2_writeOldKind 67 = .ok (.goto 4, 3) := by decide +kernel
theorem dX2_writeOldKind_70 : decode cX2_writeOldKind 70 = .ok (.iconst 0, 1) := by decide +kernel
theorem dX2_writeOldKind_71 : decode cX2_writeOldKind 71 = .ok (.istore_n 2, 1) := by decide +kernel
theorem dX2_writeOldKind_72 : decode cX2_writeOldKind 72 = .ok (.iload_n 2, 1) := by decide +kernel
theorem dX2_writeOldKind_73 : decode cX2_writeOldKind 73 = .ok (.ifCond .eq 24, 3) := by decide +kernel
theorem dX2_writeOldKind_76 : decode cX2_writeOldKind 76 = .ok (.aload_n 0, 1) := by decide +kernel
theorem dX2_writeOldKind_77 : decode cX2_writeOldKind 77 = .ok (.getfield 18, 3) := by decide +kernel
theorem dX2_writeOldKind_80 : decode cX2_writeOldKind 80 = .ok (.aload_n 0, 1) := by decide +kernel
theorem dX2_writeOldKind_81 : decode cX2_writeOldKind 81 = .ok (.getfield 49, 3) := by decide +kernel
theorem dX2_writeOldKind_84 : decode cX2_writeOldKind 84 = .ok (.invokevirtual 53, 3) := by decide +kernel
theorem dX2_writeOldKind_87 : decode cX2_writeOldKind 87 = .ok (.aload_n 0, 1) := by decide +kernel
theorem dX2_writeOldKind_88 : decode cX2_writeOldKind 88 = .ok (.iload 4, 2) := by decide +kernel
theorem dX2_writeOldKind_90 : decode cX2_writeOldKind 90 = .ok (.iload_n 3, 1) := by decide +kernel
theorem dX2_writeOldKind_91 : decode cX2_writeOldKind 91 = .ok (.invokevirtual 150, 3) := by decide +kernel
theorem dX2_writeOldKind_94 : decode cX2_writeOldKind 94 = .ok (.goto 54, 3) := by decide +kernel
theorem dX2_writeOldKind_97 : decode cX2_writeOldKind 97 = .ok (.aload_n 0, 1) := by decide +kernel
theorem dX2_writeOldKind_98 : decode cX2_writeOldKind 98 = .ok (.getfield 24, 3) := by decide +kernel
theorem dX2_writeOldKind_101 : decode cX2_writeOldKind 101 = .ok (.iload_n 3, 1) := by decide +kernel
theorem dX2_writeOldKind_102 : decode cX2_writeOldKind 102 = .ok (.invokevirtual 110, 3) := by decide +kernel
theorem dX2_writeOldKind_105 : decode cX2_writeOldKind 105 = .ok (.istore 5, 2) := by decide +kernel
theorem dX2_writeOldKind_107 : decode cX2_writeOldKind 107 = .ok (.iconst 1, 1) := by decide +kernel
theorem dX2_writeOldKind_108 : decode cX2_writeOldKind 108 = .ok (.istore 6, 2) := by decide +kernel
theorem dX2_writeOldKind_110 : decode cX2_writeOldKind 110 = .ok (.iload 6, 2) := by decide +kernel
theorem dX2_writeOldKind_112 : decode cX2_writeOldKind 112 = .ok (.iload 5, 2) := by decide +kernel
theorem dX2_writeOldKind_114 : decode cX2_writeOldKind 114 = .ok (.if_icmp .gt 26, 3) := by decide +kernel
theorem dX2_writeOldKind_117 : decode cX2_writeOldKind 117 = .ok (.aload_n 0, 1) := by decide +kernel
theorem dX2_writeOldKind_118 : decode cX2_writeOldKind 118 = .ok (.aload_n 0, 1) := by decide +kernel
theorem dX2_writeOldKind_119 : decode cX2_writeOldKind 119 = .ok (.getfield 24, 3) := by decide +kernel
theorem dX2_writeOldKind_122 : decode cX2_writeOldKind 122 = .ok (.iload_n 3, 1) := by decide +kernel
theorem dX2_writeOldKind_123 : decode cX2_writeOldKind 123 = .ok (.iload 6, 2) := by decide +kernel
theorem dX2_writeOldKind_125 : decode cX2_writeOldKind 125 = .ok (.iadd, 1) := by decide +kernel
theorem dX2_writeOldKind_126 : decode cX2_writeOldKind 126 = .ok (.invokevirtual 74, 3) := by decide +kernel
theorem dX2_writeOldKind_129 : decode cX2_writeOldKind 129 = .ok (.iload_n 1, 1) := by decide +kernel
theorem dX2_writeOldKind_130 : decode cX2_writeOldKind 130 = .ok (.invokevirtual 154, 3) := by decide +kernel
theorem dX2_writeOldKind_133 : decode cX2_writeOldKind 133 = .ok (.istore_n 1, 1) := by decide +kernel
theorem dX2_writeOldKind_134 : decode cX2_writeOldKind 134 = .ok (.iinc 6 1, 3) := by decide +kernel
theorem dX2_writeOldKind_137 : decode cX2_writeOldKind 137 = .ok (.goto (-27), 3) := by decide +kernel
theorem dX2_writeOldKind_140 : decode cX2_writeOldKind 140 = .ok (.aload_n 0, 1) := by decide +kernel
theorem dX2_writeOldKind_141 : decode cX2_writeOldKind 141 = .ok (.iload 4, 2) := by decide +kernel
theorem dX2_writeOldKind_143 : decode cX2_writeOldKind 143 = .ok (.iload_n 1, 1) := by decide +kernel
theorem dX2_writeOldKind_144 : decode cX2_writeOldKind 144 = .ok (.invokevirtual 154, 3) := by decide +kernel
theorem dX2_writeOldKind_147 : decode cX2_writeOldKind 147 = .ok (.istore_n 1, 1) := by decide +kernel
theorem dX2_writeOldKind_148 : decode cX2_writeOldKind 148 = .ok (.iinc 3 1, 3) := by decide +kernel
theorem dX2_writeOldKind_151 : decode cX2_writeOldKind 151 = .ok (.goto (-145), 3) := by decide +kernel
theorem dX2_writeOldKind_154 : decode cX2_writeOldKind 154 = .ok (.return_, 1) := by decide +kernel
set_option maxRecDepth 20000 in
theorem ggX2_tell_X0_add : GoodIn wsX2_tell wsX0_add := goodIn_r _ [7, 8, 9, 21, 22] (by decide +kernel) (by decide +kernel)
set_option maxRecDepth 20000 in
theorem gX2_tell_X0_add : GoodIn wsX2_tell (wsV RX2 137 RX0 yX0_add wsX0_add) := goodIn_app (goodIn_of _ (by decide +kernel)) ggX2_tell_X0_add
theorem dX2_tell_0 : decode cX2_tell 0 = .ok (.aload_n 0, 1) := by decide +kernel
theorem dX2_tell_1 : decode cX2_tell 1 = .ok (.getfield 43, 3) := by decide +kernel
theorem dX2_tell_4 : decode cX2_tell 4 = .ok (.iload_n 1, 1) := by decide +kernel
theorem dX2_tell_5 : decode cX2_tell 5 = .ok (.invokevirtual 137, 3) := by decide +kernel
theorem dX2_tell_8 : decode cX2_tell 8 = .ok (.aload_n 0, 1) := by decide +kernel
theorem dX2_tell_9 : decode cX2_tell 9 = .ok (.getfield 46, 3) := by decide +kernel
theorem dX2_tell_12 : decode cX2_tell 12 = .ok (.iload_n 2, 1) := by decide +kernel
theorem dX2_tell_13 : decode cX2_tell 13 = .ok (.invokevirtual 137, 3) := by decide +kernel
theorem dX2_tell_16 : decode cX2_tell 16 = .ok (.return_, 1) := by decide +kernel
set_option maxRecDepth 20000 in
theorem ggX2_writeOldCode_X2_isPlain : GoodIn wsX2_writeOldCode wsX2_isPlain := goodIn_r _ [5] (by decide +kernel) (by decide +kernel)
set_option maxRecDepth 20000 in
theorem gX2_writeOldCode_X2_isPlain : GoodIn wsX2_writeOldCode (va_wsS RX2 93 yX2_isPlain wsX2_isPlain) := goodIn_app (goodIn_of _ (by decide +kernel)) ggX2_writeOldCode_X2_isPlain
set_option maxRecDepth 20000 in
theorem ggX2_writeOldCode_X1_add : GoodIn wsX2_writeOldCode wsX1_add := goodIn_r _ [10, 11, 12, 42, 43] (by decide +kernel) (by decide +kernel)
set_option maxRecDepth 20000 in
theorem gX2_writeOldCode_X1_add : GoodIn wsX2_writeOldCode (wsV RX2 53 RX1 yX1_add wsX1_add) := goodIn_app (goodIn_of _ (by decide +kernel)) ggX2_writeOldCode_X1_add
set_option maxRecDepth 20000 in
theorem ggX2_writeOldCode_X2_setOf : GoodIn wsX2_writeOldCode wsX2_setOf := goodIn_r _ [15, 16, 17, 4, 18, 19, 20, 21, 22, 23, 24, 25, 26, 27] (by decide +kernel) (by decide +kernel)
set_option maxRecDepth 20000 in
theorem gX2_writeOldCode_X2_setOf : GoodIn wsX2_writeOldCode (va_wsS RX2 144 yX2_setOf wsX2_setOf) := goodIn_app (goodIn_of _ (by decide +kernel)) ggX2_writeOldCode_X2_setOf
set_option maxRecDepth 20000 in
theorem ggX2_writeOldCode_X2_placeInSet : GoodIn wsX2_writeOldCode wsX2_placeInSet := goodIn_r _ [30, 19, 20, 4, 21, 22, 23, 24, 25, 26, 27] (by decide +kernel) (by decide +kernel)
set_option maxRecDepth 20000 in
theorem gX2_writeOldCode_X2_placeInSet : GoodIn wsX2_writeOldCode (va_wsS RX2 157 yX2_placeInSet wsX2_placeInSet) := goodIn_app (goodIn_of _ (by decide +kernel)) ggX2_writeOldCode_X2_placeInSet
theorem dX2_writeOldCode_0 : decode cX2_writeOldCode 0 = .ok (.iload_n 1, 1) := by decide +kernel
theorem dX2_writeOldCode_1 : decode cX2_writeOldCode 1 = .ok (.invokestatic 93, 3) := by decide +kernel
theorem dX2_writeOldCode_4 : decode cX2_writeOldCode 4 = .ok (.ifCond .eq 13, 3) := by decide +kernel
theorem dX2_writeOldCode_7 : decode cX2_writeOldCode 7 = .ok (.aload_n 0, 1) := by decide +kernel
theorem dX2_writeOldCode_8 : decode cX2_writeOldCode 8 = .ok (.getfield 18, 3) := by decide +kernel
theorem dX2_writeOldCode_11 : decode cX2_writeOldCode 11 = .ok (.iload_n 1, 1) := by decide +kernel
theorem dX2_writeOldCode_12 : decode cX2_writeOldCode 12 = .ok (.invokevirtual 53, 3) := by decide +kernel
theorem dX2_writeOldCode_15 : decode cX2_writeOldCode 15 = .ok (.iload_n 2, 1) := by decide +kernel
theorem dX2_writeOldCode_16 : decode cX2_writeOldCode 16 = .ok (.ireturn, 1) := by decide +kernel
theorem dX2_writeOldCode_17 : decode cX2_writeOldCode 17 = .ok (.iload_n 1, 1) := by decide +kernel
theorem dX2_writeOldCode_18 : decode cX2_writeOldCode 18 = .ok (.invokestatic 144, 3) := by decide +kernel
theorem dX2_writeOldCode_21 : decode cX2_writeOldCode 21 = .ok (.istore_n 3, 1) := by decide +kernel
theorem dX2_writeOldCode_22 : decode cX2_writeOldCode 22 = .ok (.iload_n 3, 1) := by decide +kernel
theorem dX2_writeOldCode_23 : decode cX2_writeOldCode 23 = .ok (.iload_n 2, 1) := by decide +kernel
theorem dX2_writeOldCode_24 : decode cX2_writeOldCode 24 = .ok (.if_icmp .eq 32, 3) := by decide +kernel
theorem dX2_writeOldCode_27 : decode cX2_writeOldCode 27 = .ok (.aload_n 0, 1) := by decide +kernel
theorem dX2_writeOldCode_28 : decode cX2_writeOldCode 28 = .ok (.getfield 18, 3) := by decide +kernel
theorem dX2_writeOldCode_31 : decode cX2_writeOldCode 31 = .ok (.bipush 27, 2) := by decide +kernel
theorem dX2_writeOldCode_33 : decode cX2_writeOldCode 33 = .ok (.invokevirtual 53, 3) := by decide +kernel
theorem dX2_writeOldCode_36 : decode cX2_writeOldCode 36 = .ok (.aload_n 0, 1) := by decide +kernel
theorem dX2_writeOldCode_37 : decode cX2_writeOldCode 37 = .ok (.getfield 18, 3) := by decide +kernel
theorem dX2_writeOldCode_40 : decode cX2_writeOldCode 40 = .ok (.bipush 103, 2) := by decide +kernel
theorem dX2_writeOldCode_42 : decode cX2_writeOldCode 42 = .ok (.invokevirtual 53, 3) := by decide +kernel
theorem dX2_writeOldCode_45 : decode cX2_writeOldCode 45 = .ok (.aload_n 0, 1) := by decide +kernel
theorem dX2_writeOldCode_46 : decode cX2_writeOldCode 46 = .ok (.getfield 18, 3) := by decide +kernel
theorem dX2_writeOldCode_49 : decode cX2_writeOldCode 49 = .ok (.bipush 48, 2) := by decide +kernel
theorem dX2_writeOldCode_51 : decode cX2_writeOldCode 51 = .ok (.iload_n 3, 1) := by decide +kernel
theorem dX2_writeOldCode_52 : decode cX2_writeOldCode 52 = .ok (.iadd, 1) := by decide +kernel
theorem dX2_writeOldCode_53 : decode cX2_writeOldCode 53 = .ok (.invokevirtual 53, 3) := by decide +kernel
theorem dX2_writeOldCode_56 : decode cX2_writeOldCode 56 = .ok (.aload_n 0, 1) := by decide +kernel
theorem dX2_writeOldCode_57 : decode cX2_writeOldCode 57 = .ok (.getfield 18, 3) := by decide +kernel
theorem dX2_writeOldCode_60 : decode cX2_writeOldCode 60 = .ok (.sipush 161, 3) := by decide +kernel
theorem dX2_writeOldCode_63 : decode cX2_writeOldCode 63 = .ok (.iload_n 1, 1) := by decide +kernel
theorem dX2_writeOldCode_64 : decode cX2_writeOldCode 64 = .ok (.invokestatic 157, 3) := by decide +kernel
theorem dX2_writeOldCode_67 : decode cX2_writeOldCode 67 = .ok (.iadd, 1) := by decide +kernel
theorem dX2_writeOldCode_68 : decode cX2_writeOldCode 68 = .ok (.invokevirtual 53, 3) := by decide +kernel
theorem dX2_writeOldCode_71 : decode cX2_writeOldCode 71 = .ok (.iload_n 3, 1) := by decide +kernel
theorem dX2_writeOldCode_72 : decode cX2_writeOldCode 72 = .ok (.ireturn, 1) := by decide +kernel
set_option maxRecDepth 20000 in
theorem ggX2_writeNewKind_X0_at : GoodIn wsX2_writeNewKind wsX0_at := goodIn_r _ [6, 7, 8, 36, 37] (by decide +kernel) (by decide +kernel)
set_option maxRecDepth 20000 in
theorem gX2_writeNewKind_X0_at : GoodIn wsX2_writeNewKind (wsV RX2 74 RX0 yX0_at wsX0_at) := goodIn_app (goodIn_of _ (by decide +kernel)) ggX2_writeNewKind_X0_at
set_option maxRecDepth 20000 in
theorem ggX2_writeNewKind_X2_writeNewCode : GoodIn wsX2_writeNewKind wsX2_writeNewCode := goodIn_r _ [13, 14, 15, 16, 12, 17, 18, 19, 20, 21, 22, 23, 24, 25, 26, 27, 28, 29, 30, 31, 32, 33, 34, 35, 38, 39] (by decide +kernel) (by decide +kernel)
set_option maxRecDepth 20000 in
theorem gX2_writeNewKind_X2_writeNewCode : GoodIn wsX2_writeNewKind (wsV RX2 160 RX2 yX2_writeNewCode wsX2_writeNewCode) := goodIn_app (goodIn_of _ (by decide +kernel)) ggX2_writeNewKind_X2_writeNewCode
theorem dX2_writeNewKind_0 : decode cX2_writeNewKind 0 = .ok (.iconst 0, 1) := by decide +kernel
theorem dX2_writeNewKind_1 : decode cX2_writeNewKind 1 = .ok (.istore_n 1, 1) := by decide +kernel
theorem dX2_writeNewKind_2 : decode cX2_writeNewKind 2 = .ok (.iload_n 1, 1) := by decide +kernel
theorem dX2_writeNewKind_3 : decode cX2_writeNewKind 3 = .ok (.aload_n 0, 1) := by decide +kernel
theorem dX2_writeNewKind_4 : decode cX2_writeNewKind 4 = .ok (.getfield 24, 3) := by decide +kernel
theorem dX2_writeNewKind_7 : decode cX2_writeNewKind 7 = .ok (.getfield 71, 3) := by decide +kernel
theorem dX2_writeNewKind_10 : decode cX2_writeNewKind 10 = .ok (.if_icmp .ge 21, 3) := by decide +kernel
theorem dX2_writeNewKind_13 : decode cX2_writeNewKind 13 = .ok (.aload_n 0, 1) := by decide +kernel
theorem dX2_writeNewKind_14 : decode cX2_writeNewKind 14 = .ok (.aload_n 0, 1) := by decide +kernel
theorem dX2_writeNewKind_15 : decode cX2_writeNewKind 15 = .ok (.getfield 24, 3) := by decide +kernel
theorem dX2_writeNewKind_18 : decode cX2_writeNewKind 18 = .ok (.iload_n 1, 1) := by decide +kernel
theorem dX2_writeNewKind_19 : decode cX2_writeNewKind 19 = .ok (.invokevirtual 74, 3) := by decide +kernel
theorem dX2_writeNewKind_22 : decode cX2_writeNewKind 22 = .ok (.invokevirtual 160, 3) := by decide +kernel
theorem dX2_writeNewKind_25 : decode cX2_writeNewKind 25 = .ok (.iinc 1 1, 3) := by decide +kernel
theorem dX2_writeNewKind_28 : decode cX2_writeNewKind 28 = .ok (.goto (-26), 3) := by decide +kernel
theorem dX2_writeNewKind_31 : decode cX2_writeNewKind 31 = .ok (.return_, 1) := by decide +kernel
set_option maxRecDepth 20000 in
theorem ggX2_writeNewCode_X2_bytesBehindFirst : GoodIn wsX2_writeNewCode wsX2_bytesBehindFirst := goodIn_r _ [5] (by decide +kernel) (by decide +kernel)
set_option maxRecDepth 20000 in
theorem gX2_writeNewCode_X2_bytesBehindFirst : GoodIn wsX2_writeNewCode (va_wsS RX2 147 yX2_bytesBehindFirst wsX2_bytesBehindFirst) := goodIn_app (goodIn_of _ (by decide +kernel)) ggX2_writeNewCode_X2_bytesBehindFirst
set_option maxRecDepth 20000 in
theorem ggX2_writeNewCode_X1_add : GoodIn wsX2_writeNewCode wsX1_add := goodIn_r _ [10, 11, 12, 24, 25] (by decide +kernel) (by decide +kernel)
set_option maxRecDepth 20000 in
theorem gX2_writeNewCode_X1_add : GoodIn wsX2_writeNewCode (wsV RX2 53 RX1 yX1_add wsX1_add) := goodIn_app (goodIn_of _ (by decide +kernel)) ggX2_writeNewCode_X1_add
theorem dX2_writeNewCode_0 : decode cX2_writeNewCode 0 = .ok (.iload_n 1, 1) := by decide +kernel
theorem dX2_writeNewCode_1 : decode cX2_writeNewCode 1 = .ok (.invokestatic 147, 3) := by decide +kernel
theorem dX2_writeNewCode_4 : decode cX2_writeNewCode 4 = .ok (.istore_n 2, 1) := by decide +kernel
theorem dX2_writeNewCode_5 : decode cX2_writeNewCode 5 = .ok (.iload_n 2, 1) := by decide +kernel
theorem dX2_writeNewCode_6 : decode cX2_writeNewCode 6 = .ok (.ifCond .ne 12, 3) := by decide +kernel
theorem dX2_writeNewCode_9 : decode cX2_writeNewCode 9 = .ok (.aload_n 0, 1) := by decide +kernel
theorem dX2_writeNewCode_10 : decode cX2_writeNewCode 10 = .ok (.getfield 18, 3) := by decide +kernel
theorem dX2_writeNewCode_13 : decode cX2_writeNewCode 13 = .ok (.iload_n 1, 1) := by decide +kernel
theorem dX2_writeNewCode_14 : decode cX2_writeNewCode 14 = .ok (.invokevirtual 53, 3) := by decide +kernel
theorem dX2_writeNewCode_17 : decode cX2_writeNewCode 17 = .ok (.return_, 1) := by decide +kernel
theorem dX2_writeNewCode_18 : decode cX2_writeNewCode 18 = .ok (.iload_n 2, 1) := by decide +kernel
theorem dX2_writeNewCode_19 : decode cX2_writeNewCode 19 = .ok (.iconst 1, 1) := by decide +kernel
theorem dX2_writeNewCode_20 : decode cX2_writeNewCode 20 = .ok (.if_icmp .ne 21, 3) := by decide +kernel
theorem dX2_writeNewCode_23 : decode cX2_writeNewCode 23 = .ok (.aload_n 0, 1) := by decide +kernel
theorem dX2_writeNewCode_24 : decode cX2_writeNewCode 24 = .ok (.getfield 18, 3) := by decide +kernel
theorem dX2_writeNewCode_27 : decode cX2_writeNewCode 27 = .ok (.sipush 192, 3) := by decide +kernel
theorem dX2_writeNewCode_30 : decode cX2_writeNewCode 30 = .ok (.iload_n 1, 1) := by decide +kernel
theorem dX2_writeNewCode_31 : decode cX2_writeNewCode 31 = .ok (.bipush 64, 2) := by decide +kernel
theorem dX2_writeNewCode_33 : decode cX2_writeNewCode 33 = .ok (.idiv, 1) := by decide +kernel
theorem dX2_writeNewCode_34 : decode cX2_writeNewCode 34 = .ok (.iadd, 1) := by decide +kernel
theorem dX2_writeNewCode_35 : decode cX2_writeNewCode 35 = .ok (.invokevirtual 53, 3) := by decide +kernel
theorem dX2_writeNewCode_38 : decode cX2_writeNewCode 38 = .ok (.goto 37, 3) := by decide +kernel
theorem dX2_writeNewCode_41 : decode cX2_writeNewCode 41 = .ok (.aload_n 0, 1) := by decide +kernel
theorem dX2_writeNewCode_42 : decode cX2_writeNewCode 42 = .ok (.getfield 18, 3) := by decide +kernel
theorem dX2_writeNewCode_45 : decode cX2_writeNewCode 45 = .ok (.sipush 224, 3) := by decide +kernel
theorem dX2_writeNewCode_48 : decode cX2_writeNewCode 48 = .ok (.iload_n 1, 1) := by decide +kernel
theorem dX2_writeNewCode_49 : decode cX2_writeNewCode 49 = .ok (.sipush 4096, 3) := by decide +kernel
theorem dX2_writeNewCode_52 : decode cX2_writeNewCode 52 = .ok (.idiv, 1) := by decide +kernel
theorem dX2_writeNewCode_53 : decode cX2_writeNewCode 53 = .ok (.iadd, 1) := by decide +kernel
theorem dX2_writeNewCode_54 : decode cX2_writeNewCode 54 = .ok (.invokevirtual 53, 3) := by decide +kernel
theorem dX2_writeNewCode_57 : decode cX2_writeNewCode 57 = .ok (.aload_n 0, 1) := by decide +kernel
theorem dX2_writeNewCode_58 : decode cX2_writeNewCode 58 = .ok (.getfield 18, 3) := by decide +kernel
theorem dX2_writeNewCode_61 : decode cX2_writeNewCode 61 = .ok (.sipush 128, 3) := by decide +kernel
theorem dX2_writeNewCode_64 : decode cX2_writeNewCode 64 = .ok (.iload_n 1, 1) := by decide +kernel
theorem dX2_writeNewCode_65 : decode cX2_writeNewCode 65 = .ok (.bipush 64, 2) := by decide +kernel
theorem dX2_writeNewCode_67 : decode cX2_writeNewCode 67 = .ok (.idiv, 1) := by decide +kernel
theorem dX2_writeNewCode_68 : decode cX2_writeNewCode 68 = .ok (.bipush 64, 2) := by decide +kernel
theorem dX2_writeNewCode_70 : decode cX2_writeNewCode 70 = .ok (.irem, 1) := by decide +kernel
theorem dX2_writeNewCode_71 : decode cX2_writeNewCode 71 = .ok (.iadd, 1) := by decide +kernel
theorem dX2_writeNewCode_72 : decode cX2_writeNewCode 72 = .ok (.invokevirtual 53, 3) := by decide +kernel
theorem dX2_writeNewCode_75 : decode cX2_writeNewCode 75 = .ok (.aload_n 0, 1) := by decide +kernel
theorem dX2_writeNewCode_76 : decode cX2_writeNewCode 76 = .ok (.getfield 18, 3) := by decide +kernel
theorem dX2_writeNewCode_79 : decode cX2_writeNewCode 79 = .ok (.sipush 128, 3) := by decide +kernel
theorem dX2_writeNewCode_82 : decode cX2_writeNewCode 82 = .ok (.iload_n 1, 1) := by decide +kernel
theorem dX2_writeNewCode_83 : decode cX2_writeNewCode 83 = .ok (.bipush 64, 2) := by decide +kernel
theorem dX2_writeNewCode_85 : decode cX2_writeNewCode 85 = .ok (.irem, 1) := by decide +kernel
theorem dX2_writeNewCode_86 : decode cX2_writeNewCode 86 = .ok (.iadd, 1) := by decide +kernel
theorem dX2_writeNewCode_87 : decode cX2_writeNewCode 87 = .ok (.invokevirtual 53, 3) := by decide +kernel
theorem dX2_writeNewCode_90 : decode cX2_writeNewCode 90 = .ok (.return_, 1) := by decide +kernel
theorem dX2_isPlain_0 : decode cX2_isPlain 0 = .ok (.iload_n 0, 1) := by decide +kernel
theorem dX2_isPlain_1 : decode cX2_isPlain 1 = .ok (.bipush 32, 2) := by decide +kernel
theorem dX2_isPlain_3 : decode cX2_isPlain 3 = .ok (.if_icmp .lt 13, 3) := by decide +kernel
theorem dX2_isPlain_6 : decode cX2_isPlain 6 = .ok (.iload_n 0, 1) := by decide +kernel
theorem dX2_isPlain_7 : decode cX2_isPlain 7 = .ok (.bipush 126, 2) := by decide +kernel
theorem dX2_isPlain_9 : decode cX2_isPlain 9 = .ok (.if_icmp .gt 7, 3) := by decide +kernel
theorem dX2_isPlain_12 : decode cX2_isPlain 12 = .ok (.iconst 1, 1) := by decide +kernel
theorem dX2_isPlain_13 : decode cX2_isPlain 13 = .ok (.goto 4, 3) := by decide +kernel
theorem dX2_isPlain_16 : decode cX2_isPlain 16 = .ok (.iconst 0, 1) := by decide +kernel
theorem dX2_isPlain_17 : decode cX2_isPlain 17 = .ok (.ireturn, 1) := by decide +kernel
theorem dX2_isCapital_0 : decode cX2_isCapital 0 = .ok (.iload_n 0, 1) := by decide +kernel
theorem dX2_isCapital_1 : decode cX2_isCapital 1 = .ok (.bipush 65, 2) := by decide +kernel
theorem dX2_isCapital_3 : decode cX2_isCapital 3 = .ok (.if_icmp .lt 13, 3) := by decide +kernel
theorem dX2_isCapital_6 : decode cX2_isCapital 6 = .ok (.iload_n 0, 1) := by decide +kernel
theorem dX2_isCapital_7 : decode cX2_isCapital 7 = .ok (.bipush 90, 2) := by decide +kernel
theorem dX2_isCapital_9 : decode cX2_isCapital 9 = .ok (.if_icmp .gt 7, 3) := by decide +kernel
theorem dX2_isCapital_12 : decode cX2_isCapital 12 = .ok (.iconst 1, 1) := by decide +kernel
theorem dX2_isCapital_13 : decode cX2_isCapital 13 = .ok (.goto 4, 3) := by decide +kernel
theorem dX2_isCapital_16 : decode cX2_isCapital 16 = .ok (.iconst 0, 1) := by decide +kernel
theorem dX2_isCapital_17 : decode cX2_isCapital 17 = .ok (.ireturn, 1) := by decide +kernel
set_option maxRecDepth 20000 in
theorem ggX2_isLetter_X2_isCapital : GoodIn wsX2_isLetter wsX2_isCapital := goodIn_r _ [4] (by decide +kernel) (by decide +kernel)
set_option maxRecDepth 20000 in
theorem gX2_isLetter_X2_isCapital : GoodIn wsX2_isLetter (va_wsS RX2 163 yX2_isCapital wsX2_isCapital) := goodIn_app (goodIn_of _ (by decide +kernel)) ggX2_isLetter_X2_isCapital
theorem dX2_isLetter_0 : decode cX2_isLetter 0 = .ok (.iload_n 0, 1) := by decide +kernel
theorem dX2_isLetter_1 : decode cX2_isLetter 1 = .ok (.invokestatic 163, 3) := by decide +kernel
theorem dX2_isLetter_4 : decode cX2_isLetter 4 = .ok (.ifCond .ne 15, 3) := by decide +kernel
theorem dX2_isLetter_7 : decode cX2_isLetter 7 = .ok (.iload_n 0, 1) := by decide +kernel
theorem dX2_isLetter_8 : decode cX2_isLetter 8 = .ok (.bipush 97, 2) := by decide +kernel
theorem dX2_isLetter_10 : decode cX2_isLetter 10 = .ok (.if_icmp .lt 13, 3) := by decide +kernel
theorem dX2_isLetter_13 : decode cX2_isLetter 13 = .ok (.iload_n 0, 1) := by decide +kernel
theorem dX2_isLetter_14 : decode cX2_isLetter 14 = .ok (.bipush 122, 2) := by decide +kernel
theorem dX2_isLetter_16 : decode cX2_isLetter 16 = .ok (.if_icmp .gt 7, 3) := by decide +kernel
theorem dX2_isLetter_19 : decode cX2_isLetter 19 = .ok (.iconst 1, 1) := by decide +kernel
theorem dX2_isLetter_20 : decode cX2_isLetter 20 = .ok (.goto 4, 3) := by decide +kernel
theorem dX2_isLetter_23 : decode cX2_isLetter 23 = .ok (.iconst 0, 1) := by decide +kernel
theorem dX2_isLetter_24 : decode cX2_isLetter 24 = .ok (.ireturn, 1) := by decide +kernel
theorem dX2_isMark_0 : decode cX2_isMark 0 = .ok (.iload_n 0, 1) := by decide +kernel
theorem dX2_isMark_1 : decode cX2_isMark 1 = .ok (.sipush 768, 3) := by decide +kernel
theorem dX2_isMark_4 : decode cX2_isMark 4 = .ok (.if_icmp .lt 14, 3) := by decide +kernel
theorem dX2_isMark_7 : decode cX2_isMark 7 = .ok (.iload_n 0, 1) := by decide +kernel
theorem dX2_isMark_8 : decode cX2_isMark 8 = .ok (.sipush 783, 3) := by decide +kernel
theorem dX2_isMark_11 : decode cX2_isMark 11 = .ok (.if_icmp .ge 7, 3) := by decide +kernel
theorem dX2_isMark_14 : decode cX2_isMark 14 = .ok (.iconst 1, 1) := by decide +kernel
theorem dX2_isMark_15 : decode cX2_isMark 15 = .ok (.goto 4, 3) := by decide +kernel
theorem dX2_isMark_18 : decode cX2_isMark 18 = .ok (.iconst 0, 1) := by decide +kernel
theorem dX2_isMark_19 : decode cX2_isMark 19 = .ok (.ireturn, 1) := by decide +kernel
theorem dX2_rankOf_0 : decode cX2_rankOf 0 = .ok (.iload_n 0, 1) := by decide +kernel
theorem dX2_rankOf_1 : decode cX2_rankOf 1 = .ok (.sipush 768, 3) := by decide +kernel
theorem dX2_rankOf_4 : decode cX2_rankOf 4 = .ok (.isub, 1) := by decide +kernel
theorem dX2_rankOf_5 : decode cX2_rankOf 5 = .ok (.iconst 5, 1) := by decide +kernel
theorem dX2_rankOf_6 : decode cX2_rankOf 6 = .ok (.idiv, 1) := by decide +kernel
theorem dX2_rankOf_7 : decode cX2_rankOf 7 = .ok (.ireturn, 1) := by decide +kernel
set_option maxRecDepth 20000 in
theorem ggX2_isComposed_X2_letterOf : GoodIn wsX2_isComposed wsX2_letterOf := goodIn_r _ [6, 1] (by decide +kernel) (by decide +kernel)
set_option maxRecDepth 20000 in
theorem gX2_isComposed_X2_letterOf : GoodIn wsX2_isComposed (va_wsS RX2 168 yX2_letterOf wsX2_letterOf) := goodIn_app (goodIn_of _ (by decide +kernel)) ggX2_isComposed_X2_letterOf
set_option maxRecDepth 20000 in
theorem ggX2_isComposed_X2_isLetter : GoodIn wsX2_isComposed wsX2_isLetter := goodIn_r _ [9, 10, 11, 5, 12] (by decide +kernel) (by decide +kernel)
set_option maxRecDepth 20000 in
theorem gX2_isComposed_X2_isLetter : GoodIn wsX2_isComposed (va_wsS RX2 171 yX2_isLetter wsX2_isLetter) := goodIn_app (goodIn_of _ (by decide +kernel)) ggX2_isComposed_X2_isLetter
theorem dX2_isComposed_0 : decode cX2_isComposed 0 = .ok (.iload_n 0, 1) := by decide +kernel
theorem dX2_isComposed_1 : decode cX2_isComposed 1 = .ok (.ldc 166, 2) := by decide +kernel
theorem dX2_isComposed_3 : decode cX2_isComposed 3 = .ok (.if_icmp .lt 23, 3) := by decide +kernel
theorem dX2_isComposed_6 : decode cX2_isComposed 6 = .ok (.iload_n 0, 1) := by decide +kernel
theorem dX2_isComposed_7 : decode cX2_isComposed 7 = .ok (.ldc 167, 2) := by decide +kernel
theorem dX2_isComposed_9 : decode cX2_isComposed 9 = .ok (.if_icmp .ge 17, 3) := by decide +kernel
theorem dX2_isComposed_12 : decode cX2_isComposed 12 = .ok (.iload_n 0, 1) := by decide +kernel
theorem dX2_isComposed_13 : decode cX2_isComposed 13 = .ok (.invokestatic 168, 3) := by decide +kernel
theorem dX2_isComposed_16 : decode cX2_isComposed 16 = .ok (.invokestatic 171, 3) := by decide +kernel
theorem dX2_isComposed_19 : decode cX2_isComposed 19 = .ok (.ifCond .eq 7, 3) := by decide +kernel
theorem dX2_isComposed_22 : decode cX2_isComposed 22 = .ok (.iconst 1, 1) := by decide +kernel
theorem dX2_isComposed_23 : decode cX2_isComposed 23 = .ok (.goto 4, 3) := by decide +kernel
theorem dX2_isComposed_26 : decode cX2_isComposed 26 = .ok (.iconst 0, 1) := by decide +kernel
theorem dX2_isComposed_27 : decode cX2_isComposed 27 = .ok (.ireturn, 1) := by decide +kernel
theorem dX2_letterOf_0 : decode cX2_letterOf 0 = .ok (.iload_n 0, 1) := by decide +kernel
theorem dX2_letterOf_1 : decode cX2_letterOf 1 = .ok (.ldc 166, 2) := by decide +kernel
theorem dX2_letterOf_3 : decode cX2_letterOf 3 = .ok (.isub, 1) := by decide +kernel
theorem dX2_letterOf_4 : decode cX2_letterOf 4 = .ok (.bipush 64, 2) := by decide +kernel
theorem dX2_letterOf_6 : decode cX2_letterOf 6 = .ok (.irem, 1) := by decide +kernel
theorem dX2_letterOf_7 : decode cX2_letterOf 7 = .ok (.bipush 64, 2) := by decide +kernel
theorem dX2_letterOf_9 : decode cX2_letterOf 9 = .ok (.iadd, 1) := by decide +kernel
theorem dX2_letterOf_10 : decode cX2_letterOf 10 = .ok (.ireturn, 1) := by decide +kernel
theorem dX2_markOf_0 : decode cX2_markOf 0 = .ok (.iload_n 0, 1) := by decide +kernel
theorem dX2_markOf_1 : decode cX2_markOf 1 = .ok (.ldc 166, 2) := by decide +kernel
theorem dX2_markOf_3 : decode cX2_markOf 3 = .ok (.isub, 1) := by decide +kernel
theorem dX2_markOf_4 : decode cX2_markOf 4 = .ok (.bipush 64, 2) := by decide +kernel
theorem dX2_markOf_6 : decode cX2_markOf 6 = .ok (.idiv, 1) := by decide +kernel
theorem dX2_markOf_7 : decode cX2_markOf 7 = .ok (.sipush 768, 3) := by decide +kernel
theorem dX2_markOf_10 : decode cX2_markOf 10 = .ok (.iadd, 1) := by decide +kernel
theorem dX2_markOf_11 : decode cX2_markOf 11 = .ok (.ireturn, 1) := by decide +kernel
theorem dX2_composedOf_0 : decode cX2_composedOf 0 = .ok (.ldc 166, 2) := by decide +kernel
theorem dX2_composedOf_2 : decode cX2_composedOf 2 = .ok (.bipush 64, 2) := by decide +kernel
theorem dX2_composedOf_4 : decode cX2_composedOf 4 = .ok (.iload_n 1, 1) := by decide +kernel
theorem dX2_composedOf_5 : decode cX2_composedOf 5 = .ok (.sipush 768, 3) := by decide +kernel
theorem dX2_composedOf_8 : decode cX2_composedOf 8 = .ok (.isub, 1) := by decide +kernel
theorem dX2_composedOf_9 : decode cX2_composedOf 9 = .ok (.imul, 1) := by decide +kernel
theorem dX2_composedOf_10 : decode cX2_composedOf 10 = .ok (.iadd, 1) := by decide +kernel
theorem dX2_composedOf_11 : decode cX2_composedOf 11 = .ok (.iload_n 0, 1) := by decide +kernel
theorem dX2_composedOf_12 : decode cX2_composedOf 12 = .ok (.iadd, 1) := by decide +kernel
theorem dX2_composedOf_13 : decode cX2_composedOf 13 = .ok (.bipush 64, 2) := by decide +kernel
theorem dX2_composedOf_15 : decode cX2_composedOf 15 = .ok (.isub, 1) := by decide +kernel
theorem dX2_composedOf_16 : decode cX2_composedOf 16 = .ok (.ireturn, 1) := by decide +kernel
set_option maxRecDepth 20000 in
theorem ggX2_keyOf_X2_isComposed : GoodIn wsX2_keyOf wsX2_isComposed := goodIn_r _ [4, 5, 6, 7, 8, 3, 9, 10, 11, 12, 13, 14, 15] (by decide +kernel) (by decide +kernel)
set_option maxRecDepth 20000 in
theorem gX2_keyOf_X2_isComposed : GoodIn wsX2_keyOf (va_wsS RX2 107 yX2_isComposed wsX2_isComposed) := goodIn_app (goodIn_of _ (by decide +kernel)) ggX2_keyOf_X2_isComposed
set_option maxRecDepth 20000 in
theorem ggX2_keyOf_X2_letterOf : GoodIn wsX2_keyOf wsX2_letterOf := goodIn_r _ [9, 5] (by decide +kernel) (by decide +kernel)
set_option maxRecDepth 20000 in
theorem gX2_keyOf_X2_letterOf : GoodIn wsX2_keyOf (va_wsS RX2 168 yX2_letterOf wsX2_letterOf) := goodIn_app (goodIn_of _ (by decide +kernel)) ggX2_keyOf_X2_letterOf
set_option maxRecDepth 20000 in
theorem ggX2_keyOf_X2_isCapital : GoodIn wsX2_keyOf wsX2_isCapital := goodIn_r _ [15] (by decide +kernel) (by decide +kernel)
set_option maxRecDepth 20000 in
theorem gX2_keyOf_X2_isCapital : GoodIn wsX2_keyOf (va_wsS RX2 163 yX2_isCapital wsX2_isCapital) := goodIn_app (goodIn_of _ (by decide +kernel)) ggX2_keyOf_X2_isCapital
theorem dX2_keyOf_0 : decode cX2_keyOf 0 = .ok (.iload_n 0, 1) := by decide +kernel
theorem dX2_keyOf_1 : decode cX2_keyOf 1 = .ok (.invokestatic 107, 3) := by decide +kernel
theorem dX2_keyOf_4 : decode cX2_keyOf 4 = .ok (.ifCond .eq 10, 3) := by decide +kernel
theorem dX2_keyOf_7 : decode cX2_keyOf 7 = .ok (.iload_n 0, 1) := by decide +kernel
theorem dX2_keyOf_8 : decode cX2_keyOf 8 = .ok (.invokestatic 168, 3) := by decide +kernel
theorem dX2_keyOf_11 : decode cX2_keyOf 11 = .ok (.goto 4, 3) := by decide +kernel
theorem dX2_keyOf_14 : decode cX2_keyOf 14 = .ok (.iload_n 0, 1) := by decide +kernel
theorem dX2_keyOf_15 : decode cX2_keyOf 15 = .ok (.istore_n 1, 1) := by decide +kernel
theorem dX2_keyOf_16 : decode cX2_keyOf 16 = .ok (.iload_n 1, 1) := by decide +kernel
theorem dX2_keyOf_17 : decode cX2_keyOf 17 = .ok (.invokestatic 163, 3) := by decide +kernel
theorem dX2_keyOf_20 : decode cX2_keyOf 20 = .ok (.ifCond .eq 13, 3) := by decide +kernel
theorem dX2_keyOf_23 : decode cX2_keyOf 23 = .ok (.iload_n 1, 1) := by decide +kernel
theorem dX2_keyOf_24 : decode cX2_keyOf 24 = .ok (.bipush 65, 2) := by decide +kernel
theorem dX2_keyOf_26 : decode cX2_keyOf 26 = .ok (.isub, 1) := by decide +kernel
theorem dX2_keyOf_27 : decode cX2_keyOf 27 = .ok (.bipush 97, 2) := by decide +kernel
theorem dX2_keyOf_29 : decode cX2_keyOf 29 = .ok (.iadd, 1) := by decide +kernel
theorem dX2_keyOf_30 : decode cX2_keyOf 30 = .ok (.goto 4, 3) := by decide +kernel
theorem dX2_keyOf_33 : decode cX2_keyOf 33 = .ok (.iload_n 1, 1) := by decide +kernel
theorem dX2_keyOf_34 : decode cX2_keyOf 34 = .ok (.ireturn, 1) := by decide +kernel
theorem dX2_isLatin_0 : decode cX2_isLatin 0 = .ok (.iload_n 0, 1) := by decide +kernel
theorem dX2_isLatin_1 : decode cX2_isLatin 1 = .ok (.sipush 192, 3) := by decide +kernel
theorem dX2_isLatin_4 : decode cX2_isLatin 4 = .ok (.if_icmp .lt 14, 3) := by decide +kernel
theorem dX2_isLatin_7 : decode cX2_isLatin 7 = .ok (.iload_n 0, 1) := by decide +kernel
theorem dX2_isLatin_8 : decode cX2_isLatin 8 = .ok (.sipush 222, 3) := by decide +kernel
theorem dX2_isLatin_11 : decode cX2_isLatin 11 = .ok (.if_icmp .ge 7, 3) := by decide +kernel
theorem dX2_isLatin_14 : decode cX2_isLatin 14 = .ok (.iconst 1, 1) := by decide +kernel
theorem dX2_isLatin_15 : decode cX2_isLatin 15 = .ok (.goto 4, 3) := by decide +kernel
theorem dX2_isLatin_18 : decode cX2_isLatin 18 = .ok (.iconst 0, 1) := by decide +kernel
theorem dX2_isLatin_19 : decode cX2_isLatin 19 = .ok (.ireturn, 1) := by decide +kernel
theorem dX2_isGreek_0 : decode cX2_isGreek 0 = .ok (.iload_n 0, 1) := by decide +kernel
theorem dX2_isGreek_1 : decode cX2_isGreek 1 = .ok (.sipush 913, 3) := by decide +kernel
theorem dX2_isGreek_4 : decode cX2_isGreek 4 = .ok (.if_icmp .lt 14, 3) := by decide +kernel
theorem dX2_isGreek_7 : decode cX2_isGreek 7 = .ok (.iload_n 0, 1) := by decide +kernel
theorem dX2_isGreek_8 : decode cX2_isGreek 8 = .ok (.sipush 970, 3) := by decide +kernel
theorem dX2_isGreek_11 : decode cX2_isGreek 11 = .ok (.if_icmp .ge 7, 3) := by decide +kernel
theorem dX2_isGreek_14 : decode cX2_isGreek 14 = .ok (.iconst 1, 1) := by decide +kernel
theorem dX2_isGreek_15 : decode cX2_isGreek 15 = .ok (.goto 4, 3) := by decide +kernel
theorem dX2_isGreek_18 : decode cX2_isGreek 18 = .ok (.iconst 0, 1) := by decide +kernel
theorem dX2_isGreek_19 : decode cX2_isGreek 19 = .ok (.ireturn, 1) := by decide +kernel
theorem dX2_isCyrillic_0 : decode cX2_isCyrillic 0 = .ok (.iload_n 0, 1) := by decide +kernel
theorem dX2_isCyrillic_1 : decode cX2_isCyrillic 1 = .ok (.sipush 1040, 3) := by decide +kernel
theorem dX2_isCyrillic_4 : decode cX2_isCyrillic 4 = .ok (.if_icmp .lt 14, 3) := by decide +kernel
theorem dX2_isCyrillic_7 : decode cX2_isCyrillic 7 = .ok (.iload_n 0, 1) := by decide +kernel
theorem dX2_isCyrillic_8 : decode cX2_isCyrillic 8 = .ok (.sipush 1104, 3) := by decide +kernel
theorem dX2_isCyrillic_11 : decode cX2_isCyrillic 11 = .ok (.if_icmp .ge 7, 3) := by decide +kernel
theorem dX2_isCyrillic_14 : decode cX2_isCyrillic 14 = .ok (.iconst 1, 1) := by decide +kernel
theorem dX2_isCyrillic_15 : decode cX2_isCyrillic 15 = .ok (.goto 4, 3) := by decide +kernel
theorem dX2_isCyrillic_18 : decode cX2_isCyrillic 18 = .ok (.iconst 0, 1) := by decide +kernel
theorem dX2_isCyrillic_19 : decode cX2_isCyrillic 19 = .ok (.ireturn, 1) := by decide +kernel
set_option maxRecDepth 20000 in
theorem ggX2_setOf_X2_isLatin : GoodIn wsX2_setOf wsX2_isLatin := goodIn_r _ [4] (by decide +kernel) (by decide +kernel)
set_option maxRecDepth 20000 in
theorem gX2_setOf_X2_isLatin : GoodIn wsX2_setOf (va_wsS RX2 174 yX2_isLatin wsX2_isLatin) := goodIn_app (goodIn_of _ (by decide +kernel)) ggX2_setOf_X2_isLatin
set_option maxRecDepth 20000 in
theorem ggX2_setOf_X2_isMark : GoodIn wsX2_setOf wsX2_isMark := goodIn_r _ [7] (by decide +kernel) (by decide +kernel)
set_option maxRecDepth 20000 in
theorem gX2_setOf_X2_isMark : GoodIn wsX2_setOf (va_wsS RX2 134 yX2_isMark wsX2_isMark) := goodIn_app (goodIn_of _ (by decide +kernel)) ggX2_setOf_X2_isMark
set_option maxRecDepth 20000 in
theorem ggX2_setOf_X2_isGreek : GoodIn wsX2_setOf wsX2_isGreek := goodIn_r _ [10] (by decide +kernel) (by decide +kernel)
set_option maxRecDepth 20000 in
theorem gX2_setOf_X2_isGreek : GoodIn wsX2_setOf (va_wsS RX2 177 yX2_isGreek wsX2_isGreek) := goodIn_app (goodIn_of _ (by decide +kernel)) ggX2_setOf_X2_isGreek
set_option maxRecDepth 20000 in
theorem ggX2_setOf_X2_isCyrillic : GoodIn wsX2_setOf wsX2_isCyrillic := goodIn_r _ [13] (by decide +kernel) (by decide +kernel)
set_option maxRecDepth 20000 in
theorem gX2_setOf_X2_isCyrillic : GoodIn wsX2_setOf (va_wsS RX2 180 yX2_isCyrillic wsX2_isCyrillic) := goodIn_app (goodIn_of _ (by decide +kernel)) ggX2_setOf_X2_isCyrillic
theorem dX2_setOf_0 : decode cX2_setOf 0 = .ok (.iload_n 0, 1) := by decide +kernel
theorem dX2_setOf_1 : decode cX2_setOf 1 = .ok (.invokestatic 174, 3) := by decide +kernel
theorem dX2_setOf_4 : decode cX2_setOf 4 = .ok (.ifCond .ne 10, 3) := by decide +kernel
theorem dX2_setOf_7 : decode cX2_setOf 7 = .ok (.iload_n 0, 1) := by decide +kernel
theorem dX2_setOf_8 : decode cX2_setOf 8 = .ok (.invokestatic 134, 3) := by decide +kernel
theorem dX2_setOf_11 : decode cX2_setOf 11 = .ok (.ifCond .eq 5, 3) := by decide +kernel
theorem dX2_setOf_14 : decode cX2_setOf 14 = .ok (.iconst 0, 1) := by decide +kernel
theorem dX2_setOf_15 : decode cX2_setOf 15 = .ok (.ireturn, 1) := by decide +kernel
theorem dX2_setOf_16 : decode cX2_setOf 16 = .ok (.iload_n 0, 1) := by decide +kernel
theorem dX2_setOf_17 : decode cX2_setOf 17 = .ok (.invokestatic 177, 3) := by decide +kernel
theorem dX2_setOf_20 : decode cX2_setOf 20 = .ok (.ifCond .eq 5, 3) := by decide +kernel
theorem dX2_setOf_23 : decode cX2_setOf 23 = .ok (.iconst 1, 1) := by decide +kernel
theorem dX2_setOf_24 : decode cX2_setOf 24 = .ok (.ireturn, 1) := by decide +kernel
theorem dX2_setOf_25 : decode cX2_setOf 25 = .ok (.iload_n 0, 1) := by decide +kernel
theorem dX2_setOf_26 : decode cX2_setOf 26 = .ok (.invokestatic 180, 3) := by decide +kernel
theorem dX2_setOf_29 : decode cX2_setOf 29 = .ok (.ifCond .eq 7, 3) := by decide +kernel
theorem dX2_setOf_32 : decode cX2_setOf 32 = .ok (.iconst 2, 1) := by decide +kernel
theorem dX2_setOf_33 : decode cX2_setOf 33 = .ok (.goto 4, 3) := by decide +kernel
theorem dX2_setOf_36 : decode cX2_setOf 36 = .ok (.iconst (-1), 1) := by decide +kernel
theorem dX2_setOf_37 : decode cX2_setOf 37 = .ok (.ireturn, 1) := by decide +kernel
set_option maxRecDepth 20000 in
theorem ggX2_placeInSet_X2_isMark : GoodIn wsX2_placeInSet wsX2_isMark := goodIn_r _ [4] (by decide +kernel) (by decide +kernel)
set_option maxRecDepth 20000 in
theorem gX2_placeInSet_X2_isMark : GoodIn wsX2_placeInSet (va_wsS RX2 134 yX2_isMark wsX2_isMark) := goodIn_app (goodIn_of _ (by decide +kernel)) ggX2_placeInSet_X2_isMark
set_option maxRecDepth 20000 in
theorem ggX2_placeInSet_X2_isGreek : GoodIn wsX2_placeInSet wsX2_isGreek := goodIn_r _ [7] (by decide +kernel) (by decide +kernel)
set_option maxRecDepth 20000 in
theorem gX2_placeInSet_X2_isGreek : GoodIn wsX2_placeInSet (va_wsS RX2 177 yX2_isGreek wsX2_isGreek) := goodIn_app (goodIn_of _ (by decide +kernel)) ggX2_placeInSet_X2_isGreek
set_option maxRecDepth 20000 in
theorem ggX2_placeInSet_X2_isCyrillic : GoodIn wsX2_placeInSet wsX2_isCyrillic := goodIn_r _ [10] (by decide +kernel) (by decide +kernel)
set_option maxRecDepth 20000 in
theorem gX2_placeInSet_X2_isCyrillic : GoodIn wsX2_placeInSet (va_wsS RX2 180 yX2_isCyrillic wsX2_isCyrillic) := goodIn_app (goodIn_of _ (by decide +kernel)) ggX2_placeInSet_X2_isCyrillic
theorem dX2_placeInSet_0 : decode cX2_placeInSet 0 = .ok (.iload_n 0, 1) := by decide +kernel
theorem dX2_placeInSet_1 : decode cX2_placeInSet 1 = .ok (.invokestatic 134, 3) := by decide +kernel
theorem dX2_placeInSet_4 : decode cX2_placeInSet 4 = .ok (.ifCond .eq 12, 3) := by decide +kernel
theorem dX2_placeInSet_7 : decode cX2_placeInSet 7 = .ok (.iload_n 0, 1) := by decide +kernel
theorem dX2_placeInSet_8 : decode cX2_placeInSet 8 = .ok (.sipush 768, 3) := by decide +kernel
theorem dX2_placeInSet_11 : decode cX2_placeInSet 11 = .ok (.isub, 1) := by decide +kernel
theorem dX2_placeInSet_12 : decode cX2_placeInSet 12 = .ok (.bipush 40, 2) := by decide +kernel
theorem dX2_placeInSet_14 : decode cX2_placeInSet 14 = .ok (.iadd, 1) := by decide +kernel
theorem dX2_placeInSet_15 : decode cX2_placeInSet 15 = .ok (.ireturn, 1) := by decide +kernel
theorem dX2_placeInSet_16 : decode cX2_placeInSet 16 = .ok (.iload_n 0, 1) := by decide +kernel
theorem dX2_placeInSet_17 : decode cX2_placeInSet 17 = .ok (.invokestatic 177, 3) := by decide +kernel
theorem dX2_placeInSet_20 : decode cX2_placeInSet 20 = .ok (.ifCond .eq 9, 3) := by decide +kernel
theorem dX2_placeInSet_23 : decode cX2_placeInSet 23 = .ok (.iload_n 0, 1) := by decide +kernel
theorem dX2_placeInSet_24 : decode cX2_placeInSet 24 = .ok (.sipush 913, 3) := by decide +kernel
theorem dX2_placeInSet_27 : decode cX2_placeInSet 27 = .ok (.isub, 1) := by decide +kernel
theorem dX2_placeInSet_28 : decode cX2_placeInSet 28 = .ok (.ireturn, 1) := by decide +kernel
theorem dX2_placeInSet_29 : decode cX2_placeInSet 29 = .ok (.iload_n 0, 1) := by decide +kernel
theorem dX2_placeInSet_30 : decode cX2_placeInSet 30 = .ok (.invokestatic 180, 3) := by decide +kernel
theorem dX2_placeInSet_33 : decode cX2_placeInSet 33 = .ok (.ifCond .eq 11, 3) := by decide +kernel
theorem dX2_placeInSet_36 : decode cX2_placeInSet 36 = .ok (.iload_n 0, 1) := by decide +kernel
theorem dX2_placeInSet_37 : decode cX2_placeInSet 37 = .ok (.sipush 1040, 3) := by decide +kernel
theorem dX2_placeInSet_40 : decode cX2_placeInSet 40 = .ok (.isub, 1) := by decide +kernel
theorem dX2_placeInSet_41 : decode cX2_placeInSet 41 = .ok (.goto 8, 3) := by decide +kernel
theorem dX2_placeInSet_44 : decode cX2_placeInSet 44 = .ok (.iload_n 0, 1) := by decide +kernel
theorem dX2_placeInSet_45 : decode cX2_placeInSet 45 = .ok (.sipush 192, 3) := by decide +kernel
theorem dX2_placeInSet_48 : decode cX2_placeInSet 48 = .ok (.isub, 1) := by decide +kernel
theorem dX2_placeInSet_49 : decode cX2_placeInSet 49 = .ok (.ireturn, 1) := by decide +kernel
set_option maxRecDepth 20000 in
theorem ggX2_codeInSet_X2_isMark : GoodIn wsX2_codeInSet wsX2_isMark := goodIn_r _ [4] (by decide +kernel) (by decide +kernel)
set_option maxRecDepth 20000 in
theorem gX2_codeInSet_X2_isMark : GoodIn wsX2_codeInSet (va_wsS RX2 134 yX2_isMark wsX2_isMark) := goodIn_app (goodIn_of _ (by decide +kernel)) ggX2_codeInSet_X2_isMark
set_option maxRecDepth 20000 in
theorem ggX2_codeInSet_X2_codeInRange : GoodIn wsX2_codeInSet wsX2_codeInRange := goodIn_r _ [7] (by decide +kernel) (by decide +kernel)
set_option maxRecDepth 20000 in
theorem gX2_codeInSet_X2_codeInRange : GoodIn wsX2_codeInSet (va_wsS RX2 183 yX2_codeInRange wsX2_codeInRange) := goodIn_app (goodIn_of _ (by decide +kernel)) ggX2_codeInSet_X2_codeInRange
theorem dX2_codeInSet_0 : decode cX2_codeInSet 0 = .ok (.iload_n 0, 1) := by decide +kernel
theorem dX2_codeInSet_1 : decode cX2_codeInSet 1 = .ok (.ifCond .ne 33, 3) := by decide +kernel
theorem dX2_codeInSet_4 : decode cX2_codeInSet 4 = .ok (.iload_n 1, 1) := by decide +kernel
theorem dX2_codeInSet_5 : decode cX2_codeInSet 5 = .ok (.bipush 40, 2) := by decide +kernel
theorem dX2_codeInSet_7 : decode cX2_codeInSet 7 = .ok (.isub, 1) := by decide +kernel
theorem dX2_codeInSet_8 : decode cX2_codeInSet 8 = .ok (.sipush 768, 3) := by decide +kernel
theorem dX2_codeInSet_11 : decode cX2_codeInSet 11 = .ok (.iadd, 1) := by decide +kernel
theorem dX2_codeInSet_12 : decode cX2_codeInSet 12 = .ok (.istore_n 2, 1) := by decide +kernel
theorem dX2_codeInSet_13 : decode cX2_codeInSet 13 = .ok (.iload_n 2, 1) := by decide +kernel
theorem dX2_codeInSet_14 : decode cX2_codeInSet 14 = .ok (.invokestatic 134, 3) := by decide +kernel
theorem dX2_codeInSet_17 : decode cX2_codeInSet 17 = .ok (.ifCond .eq 7, 3) := by decide +kernel
theorem dX2_codeInSet_20 : decode cX2_codeInSet 20 = .ok (.iload_n 2, 1) := by decide +kernel
theorem dX2_codeInSet_21 : decode cX2_codeInSet 21 = .ok (.goto 12, 3) := by decide +kernel
theorem dX2_codeInSet_24 : decode cX2_codeInSet 24 = .ok (.iload_n 1, 1) := by decide +kernel
theorem dX2_codeInSet_25 : decode cX2_codeInSet 25 = .ok (.sipush 192, 3) := by decide +kernel
theorem dX2_codeInSet_28 : decode cX2_codeInSet 28 = .ok (.bipush 30, 2) := by decide +kernel
theorem dX2_codeInSet_30 : decode cX2_codeInSet 30 = .ok (.invokestatic 183, 3) := by decide +kernel
theorem dX2_codeInSet_33 : decode cX2_codeInSet 33 = .ok (.ireturn, 1) := by decide +kernel
theorem dX2_codeInSet_34 : decode cX2_codeInSet 34 = .ok (.iload_n 0, 1) := by decide +kernel
theorem dX2_codeInSet_35 : decode cX2_codeInSet 35 = .ok (.iconst 1, 1) := by decide +kernel
theorem dX2_codeInSet_36 : decode cX2_codeInSet 36 = .ok (.if_icmp .ne 13, 3) := by decide +kernel
theorem dX2_codeInSet_39 : decode cX2_codeInSet 39 = .ok (.iload_n 1, 1) := by decide +kernel
theorem dX2_codeInSet_40 : decode cX2_codeInSet 40 = .ok (.sipush 913, 3) := by decide +kernel
theorem dX2_codeInSet_43 : decode cX2_codeInSet 43 = .ok (.bipush 57, 2) := by decide +kernel
theorem dX2_codeInSet_45 : decode cX2_codeInSet 45 = .ok (.invokestatic 183, 3) := by decide +kernel
theorem dX2_codeInSet_48 : decode cX2_codeInSet 48 = .ok (.ireturn, 1) := by decide +kernel
theorem dX2_codeInSet_49 : decode cX2_codeInSet 49 = .ok (.iload_n 0, 1) := by decide +kernel
theorem dX2_codeInSet_50 : decode cX2_codeInSet 50 = .ok (.iconst 2, 1) := by decide +kernel
theorem dX2_codeInSet_51 : decode cX2_codeInSet 51 = .ok (.if_icmp .ne 15, 3) := by decide +kernel
theorem dX2_codeInSet_54 : decode cX2_codeInSet 54 = .ok (.iload_n 1, 1) := by decide +kernel
theorem dX2_codeInSet_55 : decode cX2_codeInSet 55 = .ok (.sipush 1040, 3) := by decide +kernel
theorem dX2_codeInSet_58 : decode cX2_codeInSet 58 = .ok (.bipush 64, 2) := by decide +kernel
theorem dX2_codeInSet_60 : decode cX2_codeInSet 60 = .ok (.invokestatic 183, 3) := by decide +kernel
theorem dX2_codeInSet_63 : decode cX2_codeInSet 63 = .ok (.goto 4, 3) := by decide +kernel
theorem dX2_codeInSet_66 : decode cX2_codeInSet 66 = .ok (.iconst 0, 1) := by decide +kernel
theorem dX2_codeInSet_67 : decode cX2_codeInSet 67 = .ok (.ireturn, 1) := by decide +kernel
theorem dX2_codeInRange_0 : decode cX2_codeInRange 0 = .ok (.iload_n 0, 1) := by decide +kernel
theorem dX2_codeInRange_1 : decode cX2_codeInRange 1 = .ok (.ifCond .lt 14, 3) := by decide +kernel
theorem dX2_codeInRange_4 : decode cX2_codeInRange 4 = .ok (.iload_n 0, 1) := by decide +kernel
theorem dX2_codeInRange_5 : decode cX2_codeInRange 5 = .ok (.iload_n 2, 1) := by decide +kernel
theorem dX2_codeInRange_6 : decode cX2_codeInRange 6 = .ok (.if_icmp .ge 9, 3) := by decide +kernel
theorem dX2_codeInRange_9 : decode cX2_codeInRange 9 = .ok (.iload_n 1, 1) := by decide +kernel
theorem dX2_codeInRange_10 : decode cX2_codeInRange 10 = .ok (.iload_n 0, 1) := by decide +kernel
theorem dX2_codeInRange_11 : decode cX2_codeInRange 11 = .ok (.iadd, 1) := by decide +kernel
theorem dX2_codeInRange_12 : decode cX2_codeInRange 12 = .ok (.goto 4, 3) := by decide +kernel
theorem dX2_codeInRange_15 : decode cX2_codeInRange 15 = .ok (.iconst 0, 1) := by decide +kernel
theorem dX2_codeInRange_16 : decode cX2_codeInRange 16 = .ok (.ireturn, 1) := by decide +kernel
