theorem dX3_init_0 : decode cX3_init 0 = .ok (.aload_n 0, 1) := by decide +kernel
theorem dX3_init_1 : decode cX3_init 1 = .ok (.invokespecial 1, 3) := by decide +kernel
theorem dX3_init_4 : decode cX3_init 4 = .ok (.aload_n 0, 1) := by decide +kernel
theorem dX3_init_5 : decode cX3_init 5 = .ok (.sipush 200, 3) := by decide +kernel
theorem dX3_init_8 : decode cX3_init 8 = .ok (.newarray .int, 2) := by decide +kernel
theorem dX3_init_10 : decode cX3_init 10 = .ok (.putfield 7, 3) := by decide +kernel
theorem dX3_init_13 : decode cX3_init 13 = .ok (.aload_n 0, 1) := by decide +kernel
theorem dX3_init_14 : decode cX3_init 14 = .ok (.bipush 100, 2) := by decide +kernel
theorem dX3_init_16 : decode cX3_init 16 = .ok (.newarray .int, 2) := by decide +kernel
theorem dX3_init_18 : decode cX3_init 18 = .ok (.putfield 13, 3) := by decide +kernel
theorem dX3_init_21 : decode cX3_init 21 = .ok (.aload_n 0, 1) := by decide +kernel
theorem dX3_init_22 : decode cX3_init 22 = .ok (.bipush 100, 2) := by decide +kernel
theorem dX3_init_24 : decode cX3_init 24 = .ok (.newarray .int, 2) := by decide +kernel
theorem dX3_init_26 : decode cX3_init 26 = .ok (.putfield 16, 3) := by decide +kernel
theorem dX3_init_29 : decode cX3_init 29 = .ok (.aload_n 0, 1) := by decide +kernel
theorem dX3_init_30 : decode cX3_init 30 = .ok (.sipush 400, 3) := by decide +kernel
theorem dX3_init_33 : decode cX3_init 33 = .ok (.newarray .int, 2) := by decide +kernel
theorem dX3_init_35 : decode cX3_init 35 = .ok (.putfield 19, 3) := by decide +kernel
theorem dX3_init_38 : decode cX3_init 38 = .ok (.aload_n 0, 1) := by decide +kernel
theorem dX3_init_39 : decode cX3_init 39 = .ok (.sipush 400, 3) := by decide +kernel
theorem dX3_init_42 : decode cX3_init 42 = .ok (.newarray .int, 2) := by decide +kernel
theorem dX3_init_44 : decode cX3_init 44 = .ok (.putfield 22, 3) := by decide +kernel
theorem dX3_init_47 : decode cX3_init 47 = .ok (.aload_n 0, 1) := by decide +kernel
theorem dX3_init_48 : decode cX3_init 48 = .ok (.sipush 1200, 3) := by decide +kernel
theorem dX3_init_51 : decode cX3_init 51 = .ok (.newarray .byte, 2) := by decide +kernel
theorem dX3_init_53 : decode cX3_init 53 = .ok (.putfield 25, 3) := by decide +kernel
theorem dX3_init_56 : decode cX3_init 56 = .ok (.aload_n 0, 1) := by decide +kernel
theorem dX3_init_57 : decode cX3_init 57 = .ok (.sipush 200, 3) := by decide +kernel
theorem dX3_init_60 : decode cX3_init 60 = .ok (.newarray .int, 2) := by decide +kernel
theorem dX3_init_62 : decode cX3_init 62 = .ok (.putfield 29, 3) := by decide +kernel
theorem dX3_init_65 : decode cX3_init 65 = .ok (.aload_n 0, 1) := by decide +kernel
theorem dX3_init_66 : decode cX3_init 66 = .ok (.bipush 63, 2) := by decide +kernel
theorem dX3_init_68 : decode cX3_init 68 = .ok (.putfield 32, 3) := by decide +kernel
theorem dX3_init_71 : decode cX3_init 71 = .ok (.return_, 1) := by decide +kernel
theorem dX3_thrown_0 : decode cX3_thrown 0 = .ok (.aload_n 0, 1) := by decide +kernel
theorem dX3_thrown_1 : decode cX3_thrown 1 = .ok (.getfield 36, 3) := by decide +kernel
theorem dX3_thrown_4 : decode cX3_thrown 4 = .ok (.ireturn, 1) := by decide +kernel
theorem dX3_octet_0 : decode cX3_octet 0 = .ok (.aload_n 0, 1) := by decide +kernel
theorem dX3_octet_1 : decode cX3_octet 1 = .ok (.iconst 0, 1) := by decide +kernel
theorem dX3_octet_2 : decode cX3_octet 2 = .ok (.putfield 36, 3) := by decide +kernel
theorem dX3_octet_5 : decode cX3_octet 5 = .ok (.aload_n 0, 1) := by decide +kernel
theorem dX3_octet_6 : decode cX3_octet 6 = .ok (.getfield 39, 3) := by decide +kernel
theorem dX3_octet_9 : decode cX3_octet 9 = .ok (.sipush 200, 3) := by decide +kernel
theorem dX3_octet_12 : decode cX3_octet 12 = .ok (.if_icmp .ge 27, 3) := by decide +kernel
theorem dX3_octet_15 : decode cX3_octet 15 = .ok (.aload_n 0, 1) := by decide +kernel
theorem dX3_octet_16 : decode cX3_octet 16 = .ok (.getfield 7, 3) := by decide +kernel
theorem dX3_octet_19 : decode cX3_octet 19 = .ok (.aload_n 0, 1) := by decide +kernel
theorem dX3_octet_20 : decode cX3_octet 20 = .ok (.getfield 39, 3) := by decide +kernel
theorem dX3_octet_23 : decode cX3_octet 23 = .ok (.iload_n 1, 1) := by decide +kernel
theorem dX3_octet_24 : decode cX3_octet 24 = .ok (.sipush 255, 3) := by decide +kernel
theorem dX3_octet_27 : decode cX3_octet 27 = .ok (.iand, 1) := by decide +kernel
theorem dX3_octet_28 : decode cX3_octet 28 = .ok (.iastore, 1) := by decide +kernel
theorem dX3_octet_29 : decode cX3_octet 29 = .ok (.aload_n 0, 1) := by decide +kernel
theorem dX3_octet_30 : decode cX3_octet 30 = .ok (.dup, 1) := by decide +kernel
theorem dX3_octet_31 : decode cX3_octet 31 = .ok (.getfield 39, 3) := by decide +kernel
theorem dX3_octet_34 : decode cX3_octet 34 = .ok (.iconst 1, 1) := by decide +kernel
theorem dX3_octet_35 : decode cX3_octet 35 = .ok (.iadd, 1) := by decide +kernel
theorem dX3_octet_36 : decode cX3_octet 36 = .ok (.putfield 39, 3) := by decide +kernel
theorem dX3_octet_39 : decode cX3_octet 39 = .ok (.return_, 1) := by decide +kernel
theorem dX3_placed_0 : decode cX3_placed 0 = .ok (.iload_n 0, 1) := by decide +kernel
theorem dX3_placed_1 : decode cX3_placed 1 = .ok (.ifCond .ne 39, 3) := by decide +kernel
theorem dX3_placed_4 : decode cX3_placed 4 = .ok (.iload_n 1, 1) := by decide +kernel
theorem dX3_placed_5 : decode cX3_placed 5 = .ok (.bipush 30, 2) := by decide +kernel
theorem dX3_placed_7 : decode cX3_placed 7 = .ok (.if_icmp .ge 11, 3) := by decide +kernel
theorem dX3_placed_10 : decode cX3_placed 10 = .ok (.sipush 192, 3) := by decide +kernel
theorem dX3_placed_13 : decode cX3_placed 13 = .ok (.iload_n 1, 1) := by decide +kernel
theorem dX3_placed_14 : decode cX3_placed 14 = .ok (.iadd, 1) := by decide +kernel
theorem dX3_placed_15 : decode cX3_placed 15 = .ok (.goto 24, 3) := by decide +kernel
theorem dX3_placed_18 : decode cX3_placed 18 = .ok (.iload_n 1, 1) := by decide +kernel
theorem dX3_placed_19 : decode cX3_placed 19 = .ok (.bipush 40, 2) := by decide +kernel
theorem dX3_placed_21 : decode cX3_placed 21 = .ok (.if_icmp .lt 17, 3) := by decide +kernel
theorem dX3_placed_24 : decode cX3_placed 24 = .ok (.iload_n 1, 1) := by decide +kernel
theorem dX3_placed_25 : decode cX3_placed 25 = .ok (.bipush 55, 2) := by decide +kernel
theorem dX3_placed_27 : decode cX3_placed 27 = .ok (.if_icmp .ge 11, 3) := by decide +kernel
theorem dX3_placed_30 : decode cX3_placed 30 = .ok (.sipush 728, 3) := by decide +kernel
theorem dX3_placed_33 : decode cX3_placed 33 = .ok (.iload_n 1, 1) := by decide +kernel
theorem dX3_placed_34 : decode cX3_placed 34 = .ok (.iadd, 1) := by decide +kernel
theorem dX3_placed_35 : decode cX3_placed 35 = .ok (.goto 4, 3) := by decide +kernel
theorem dX3_placed_38 : decode cX3_placed 38 = .ok (.iconst 0, 1) := by decide +kernel
theorem dX3_placed_39 : decode cX3_placed 39 = .ok (.ireturn, 1) := by decide +kernel
theorem dX3_placed_40 : decode cX3_placed 40 = .ok (.iload_n 0, 1) := by decide +kernel
theorem dX3_placed_41 : decode cX3_placed 41 = .ok (.iconst 1, 1) := by decide +kernel
theorem dX3_placed_42 : decode cX3_placed 42 = .ok (.if_icmp .ne 21, 3) := by decide +kernel
theorem dX3_placed_45 : decode cX3_placed 45 = .ok (.iload_n 1, 1) := by decide +kernel
theorem dX3_placed_46 : decode cX3_placed 46 = .ok (.bipush 57, 2) := by decide +kernel
theorem dX3_placed_48 : decode cX3_placed 48 = .ok (.if_icmp .ge 11, 3) := by decide +kernel
theorem dX3_placed_51 : decode cX3_placed 51 = .ok (.sipush 913, 3) := by decide +kernel
theorem dX3_placed_54 : decode cX3_placed 54 = .ok (.iload_n 1, 1) := by decide +kernel
theorem dX3_placed_55 : decode cX3_placed 55 = .ok (.iadd, 1) := by decide +kernel
theorem dX3_placed_56 : decode cX3_placed 56 = .ok (.goto 22, 3) := by decide +kernel
theorem dX3_placed_59 : decode cX3_placed 59 = .ok (.iconst 0, 1) := by decide +kernel
theorem dX3_placed_60 : decode cX3_placed 60 = .ok (.goto 18, 3) := by decide +kernel
theorem dX3_placed_63 : decode cX3_placed 63 = .ok (.iload_n 1, 1) := by decide +kernel
theorem dX3_placed_64 : decode cX3_placed 64 = .ok (.bipush 64, 2) := by decide +kernel
theorem dX3_placed_66 : decode cX3_placed 66 = .ok (.if_icmp .ge 11, 3) := by decide +kernel
theorem dX3_placed_69 : decode cX3_placed 69 = .ok (.sipush 1040, 3) := by decide +kernel
theorem dX3_placed_72 : decode cX3_placed 72 = .ok (.iload_n 1, 1) := by decide +kernel
theorem dX3_placed_73 : decode cX3_placed 73 = .ok (.iadd, 1) := by decide +kernel
theorem dX3_placed_74 : decode cX3_placed 74 = .ok (.goto 4, 3) := by decide +kernel
theorem dX3_placed_77 : decode cX3_placed 77 = .ok (.iconst 0, 1) := by decide +kernel
theorem dX3_placed_78 : decode cX3_placed 78 = .ok (.ireturn, 1) := by decide +kernel
set_option maxRecDepth 20000 in
theorem ggX3_find_X3_placed : GoodIn wsX3_find wsX3_placed := goodIn_r _ [4] (by decide +kernel) (by decide +kernel)
set_option maxRecDepth 20000 in
theorem gX3_find_X3_placed : GoodIn wsX3_find (va_wsS RX3 42 yX3_placed wsX3_placed) := goodIn_app (goodIn_of _ (by decide +kernel)) ggX3_find_X3_placed
theorem dX3_find_0 : decode cX3_find 0 = .ok (.iconst 0, 1) := by decide +kernel
theorem dX3_find_1 : decode cX3_find 1 = .ok (.istore_n 1, 1) := by decide +kernel
theorem dX3_find_2 : decode cX3_find 2 = .ok (.iload_n 1, 1) := by decide +kernel
theorem dX3_find_3 : decode cX3_find 3 = .ok (.iconst 3, 1) := by decide +kernel
theorem dX3_find_4 : decode cX3_find 4 = .ok (.if_icmp .ge 43, 3) := by decide +kernel
theorem dX3_find_7 : decode cX3_find 7 = .ok (.iconst 0, 1) := by decide +kernel
theorem dX3_find_8 : decode cX3_find 8 = .ok (.istore_n 2, 1) := by decide +kernel
theorem dX3_find_9 : decode cX3_find 9 = .ok (.iload_n 2, 1) := by decide +kernel
theorem dX3_find_10 : decode cX3_find 10 = .ok (.bipush 94, 2) := by decide +kernel
theorem dX3_find_12 : decode cX3_find 12 = .ok (.if_icmp .ge 29, 3) := by decide +kernel
theorem dX3_find_15 : decode cX3_find 15 = .ok (.iload_n 0, 1) := by decide +kernel
theorem dX3_find_16 : decode cX3_find 16 = .ok (.ifCond .eq 19, 3) := by decide +kernel
theorem dX3_find_19 : decode cX3_find 19 = .ok (.iload_n 1, 1) := by decide +kernel
theorem dX3_find_20 : decode cX3_find 20 = .ok (.iload_n 2, 1) := by decide +kernel
theorem dX3_find_21 : decode cX3_find 21 = .ok (.invokestatic 42, 3) := by decide +kernel
theorem dX3_find_24 : decode cX3_find 24 = .ok (.iload_n 0, 1) := by decide +kernel
theorem dX3_find_25 : decode cX3_find 25 = .ok (.if_icmp .ne 10, 3) := by decide +kernel
theorem dX3_find_28 : decode cX3_find 28 = .ok (.bipush 100, 2) := by decide +kernel
theorem dX3_find_30 : decode cX3_find 30 = .ok (.iload_n 1, 1) := by decide +kernel
theorem dX3_find_31 : decode cX3_find 31 = .ok (.imul, 1) := by decide +kernel
theorem dX3_find_32 : decode cX3_find 32 = .ok (.iload_n 2, 1) := by decide +kernel
theorem dX3_find_33 : decode cX3_find 33 = .ok (.iadd, 1) := by decide +kernel
theorem dX3_find_34 : decode cX3_find 34 = .ok (.ireturn, 1) := by decide +kernel
theorem dX3_find_35 : decode cX3_find 35 = .ok (.iinc 2 1, 3) := by decide +kernel
theorem dX3_find_38 : decode cX3_find 38 = .ok (.goto (-29), 3) := by decide +kernel
theorem dX3_find_41 : decode cX3_find 41 = .ok (.iinc 1 1, 3) := by decide +kernel
theorem dX3_find_44 : decode cX3_find 44 = .ok (.goto (-42), 3) := by decide +kernel
theorem dX3_find_47 : decode cX3_find 47 = .ok (.iconst (-1), 1) := by decide +kernel
theorem dX3_find_48 : decode cX3_find 48 = .ok (.ireturn, 1) := by decide +kernel
theorem dX3_isMark_0 : decode cX3_isMark 0 = .ok (.iload_n 0, 1) := by decide +kernel
theorem dX3_isMark_1 : decode cX3_isMark 1 = .ok (.sipush 768, 3) := by decide +kernel
theorem dX3_isMark_4 : decode cX3_isMark 4 = .ok (.if_icmp .lt 14, 3) := by decide +kernel
theorem dX3_isMark_7 : decode cX3_isMark 7 = .ok (.iload_n 0, 1) := by decide +kernel
theorem dX3_isMark_8 : decode cX3_isMark 8 = .ok (.sipush 782, 3) := by decide +kernel
theorem dX3_isMark_11 : decode cX3_isMark 11 = .ok (.if_icmp .gt 7, 3) := by decide +kernel
theorem dX3_isMark_14 : decode cX3_isMark 14 = .ok (.iconst 1, 1) := by decide +kernel
theorem dX3_isMark_15 : decode cX3_isMark 15 = .ok (.goto 4, 3) := by decide +kernel
theorem dX3_isMark_18 : decode cX3_isMark 18 = .ok (.iconst 0, 1) := by decide +kernel
theorem dX3_isMark_19 : decode cX3_isMark 19 = .ok (.ireturn, 1) := by decide +kernel
theorem dX3_isLetter_0 : decode cX3_isLetter 0 = .ok (.iload_n 0, 1) := by decide +kernel
theorem dX3_isLetter_1 : decode cX3_isLetter 1 = .ok (.bipush 65, 2) := by decide +kernel
theorem dX3_isLetter_3 : decode cX3_isLetter 3 = .ok (.if_icmp .lt 9, 3) := by decide +kernel
theorem dX3_isLetter_6 : decode cX3_isLetter 6 = .ok (.iload_n 0, 1) := by decide +kernel
theorem dX3_isLetter_7 : decode cX3_isLetter 7 = .ok (.bipush 90, 2) := by decide +kernel
theorem dX3_isLetter_9 : decode cX3_isLetter 9 = .ok (.if_icmp .le 15, 3) := by decide +kernel
theorem dX3_isLetter_12 : decode cX3_isLetter 12 = .ok (.iload_n 0, 1) := by decide +kernel
theorem dX3_isLetter_13 : decode cX3_isLetter 13 = .ok (.bipush 97, 2) := by decide +kernel
theorem dX3_isLetter_15 : decode cX3_isLetter 15 = .ok (.if_icmp .lt 13, 3) := by decide +kernel
theorem dX3_isLetter_18 : decode cX3_isLetter 18 = .ok (.iload_n 0, 1) := by decide +kernel
theorem dX3_isLetter_19 : decode cX3_isLetter 19 = .ok (.bipush 122, 2) := by decide +kernel
theorem dX3_isLetter_21 : decode cX3_isLetter 21 = .ok (.if_icmp .gt 7, 3) := by decide +kernel
theorem dX3_isLetter_24 : decode cX3_isLetter 24 = .ok (.iconst 1, 1) := by decide +kernel
theorem dX3_isLetter_25 : decode cX3_isLetter 25 = .ok (.goto 4, 3) := by decide +kernel
theorem dX3_isLetter_28 : decode cX3_isLetter 28 = .ok (.iconst 0, 1) := by decide +kernel
theorem dX3_isLetter_29 : decode cX3_isLetter 29 = .ok (.ireturn, 1) := by decide +kernel
theorem dX3_isPlain_0 : decode cX3_isPlain 0 = .ok (.iload_n 0, 1) := by decide +kernel
theorem dX3_isPlain_1 : decode cX3_isPlain 1 = .ok (.bipush 32, 2) := by decide +kernel
theorem dX3_isPlain_3 : decode cX3_isPlain 3 = .ok (.if_icmp .lt 13, 3) := by decide +kernel
theorem dX3_isPlain_6 : decode cX3_isPlain 6 = .ok (.iload_n 0, 1) := by decide +kernel
theorem dX3_isPlain_7 : decode cX3_isPlain 7 = .ok (.bipush 126, 2) := by decide +kernel
theorem dX3_isPlain_9 : decode cX3_isPlain 9 = .ok (.if_icmp .gt 7, 3) := by decide +kernel
theorem dX3_isPlain_12 : decode cX3_isPlain 12 = .ok (.iconst 1, 1) := by decide +kernel
theorem dX3_isPlain_13 : decode cX3_isPlain 13 = .ok (.goto 4, 3) := by decide +kernel
theorem dX3_isPlain_16 : decode cX3_isPlain 16 = .ok (.iconst 0, 1) := by decide +kernel
theorem dX3_isPlain_17 : decode cX3_isPlain 17 = .ok (.ireturn, 1) := by decide +kernel
set_option maxRecDepth 20000 in
theorem ggX3_isComposed_X3_isLetter : GoodIn wsX3_isComposed wsX3_isLetter := goodIn_r _ [6] (by decide +kernel) (by decide +kernel)
set_option maxRecDepth 20000 in
theorem gX3_isComposed_X3_isLetter : GoodIn wsX3_isComposed (va_wsS RX3 48 yX3_isLetter wsX3_isLetter) := goodIn_app (goodIn_of _ (by decide +kernel)) ggX3_isComposed_X3_isLetter
theorem dX3_isComposed_0 : decode cX3_isComposed 0 = .ok (.iload_n 0, 1) := by decide +kernel
theorem dX3_isComposed_1 : decode cX3_isComposed 1 = .ok (.ldc 46, 2) := by decide +kernel
theorem dX3_isComposed_3 : decode cX3_isComposed 3 = .ok (.if_icmp .lt 29, 3) := by decide +kernel
theorem dX3_isComposed_6 : decode cX3_isComposed 6 = .ok (.iload_n 0, 1) := by decide +kernel
theorem dX3_isComposed_7 : decode cX3_isComposed 7 = .ok (.ldc 47, 2) := by decide +kernel
theorem dX3_isComposed_9 : decode cX3_isComposed 9 = .ok (.if_icmp .ge 23, 3) := by decide +kernel
theorem dX3_isComposed_12 : decode cX3_isComposed 12 = .ok (.iload_n 0, 1) := by decide +kernel
theorem dX3_isComposed_13 : decode cX3_isComposed 13 = .ok (.ldc 46, 2) := by decide +kernel
theorem dX3_isComposed_15 : decode cX3_isComposed 15 = .ok (.isub, 1) := by decide +kernel
theorem dX3_isComposed_16 : decode cX3_isComposed 16 = .ok (.bipush 64, 2) := by decide +kernel
theorem dX3_isComposed_18 : decode cX3_isComposed 18 = .ok (.irem, 1) := by decide +kernel
theorem dX3_isComposed_19 : decode cX3_isComposed 19 = .ok (.bipush 64, 2) := by decide +kernel
theorem dX3_isComposed_21 : decode cX3_isComposed 21 = .ok (.iadd, 1) := by decide +kernel
theorem dX3_isComposed_22 : decode cX3_isComposed 22 = .ok (.invokestatic 48, 3) := by decide +kernel
theorem dX3_isComposed_25 : decode cX3_isComposed 25 = .ok (.ifCond .eq 7, 3) := by decide +kernel
theorem dX3_isComposed_28 : decode cX3_isComposed 28 = .ok (.iconst 1, 1) := by decide +kernel
theorem dX3_isComposed_29 : decode cX3_isComposed 29 = .ok (.goto 4, 3) := by decide +kernel
theorem dX3_isComposed_32 : decode cX3_isComposed 32 = .ok (.iconst 0, 1) := by decide +kernel
theorem dX3_isComposed_33 : decode cX3_isComposed 33 = .ok (.ireturn, 1) := by decide +kernel
theorem dX3_letterOf_0 : decode cX3_letterOf 0 = .ok (.iload_n 0, 1) := by decide +kernel
theorem dX3_letterOf_1 : decode cX3_letterOf 1 = .ok (.ldc 46, 2) := by decide +kernel
theorem dX3_letterOf_3 : decode cX3_letterOf 3 = .ok (.isub, 1) := by decide +kernel
theorem dX3_letterOf_4 : decode cX3_letterOf 4 = .ok (.bipush 64, 2) := by decide +kernel
theorem dX3_letterOf_6 : decode cX3_letterOf 6 = .ok (.irem, 1) := by decide +kernel
theorem dX3_letterOf_7 : decode cX3_letterOf 7 = .ok (.bipush 64, 2) := by decide +kernel
theorem dX3_letterOf_9 : decode cX3_letterOf 9 = .ok (.iadd, 1) := by decide +kernel
theorem dX3_letterOf_10 : decode cX3_letterOf 10 = .ok (.ireturn, 1) := by decide +kernel
theorem dX3_markOf_0 : decode cX3_markOf 0 = .ok (.sipush 768, 3) := by decide +kernel
theorem dX3_markOf_3 : decode cX3_markOf 3 = .ok (.iload_n 0, 1) := by decide +kernel
theorem dX3_markOf_4 : decode cX3_markOf 4 = .ok (.ldc 46, 2) := by decide +kernel
theorem dX3_markOf_6 : decode cX3_markOf 6 = .ok (.isub, 1) := by decide +kernel
theorem dX3_markOf_7 : decode cX3_markOf 7 = .ok (.bipush 64, 2) := by decide +kernel
theorem dX3_markOf_9 : decode cX3_markOf 9 = .ok (.idiv, 1) := by decide +kernel
theorem dX3_markOf_10 : decode cX3_markOf 10 = .ok (.iadd, 1) := by decide +kernel
theorem dX3_markOf_11 : decode cX3_markOf 11 = .ok (.ireturn, 1) := by decide +kernel
set_option maxRecDepth 20000 in
theorem ggX3_order_X3_isMark : GoodIn wsX3_order wsX3_isMark := goodIn_r _ [4] (by decide +kernel) (by decide +kernel)
set_option maxRecDepth 20000 in
theorem gX3_order_X3_isMark : GoodIn wsX3_order (va_wsS RX3 52 yX3_isMark wsX3_isMark) := goodIn_app (goodIn_of _ (by decide +kernel)) ggX3_order_X3_isMark
theorem dX3_order_0 : decode cX3_order 0 = .ok (.iconst 1, 1) := by decide +kernel
theorem dX3_order_1 : decode cX3_order 1 = .ok (.istore_n 2, 1) := by decide +kernel
theorem dX3_order_2 : decode cX3_order 2 = .ok (.iload_n 2, 1) := by decide +kernel
theorem dX3_order_3 : decode cX3_order 3 = .ok (.ifCond .eq 88, 3) := by decide +kernel
theorem dX3_order_6 : decode cX3_order 6 = .ok (.iconst 0, 1) := by decide +kernel
theorem dX3_order_7 : decode cX3_order 7 = .ok (.istore_n 2, 1) := by decide +kernel
theorem dX3_order_8 : decode cX3_order 8 = .ok (.iconst 0, 1) := by decide +kernel
theorem dX3_order_9 : decode cX3_order 9 = .ok (.istore_n 3, 1) := by decide +kernel
theorem dX3_order_10 : decode cX3_order 10 = .ok (.iload_n 3, 1) := by decide +kernel
theorem dX3_order_11 : decode cX3_order 11 = .ok (.iconst 1, 1) := by decide +kernel
theorem dX3_order_12 : decode cX3_order 12 = .ok (.iadd, 1) := by decide +kernel
theorem dX3_order_13 : decode cX3_order 13 = .ok (.iload_n 1, 1) := by decide +kernel
theorem dX3_order_14 : decode cX3_order 14 = .ok (.if_icmp .ge 74, 3) := by decide +kernel
theorem dX3_order_17 : decode cX3_order 17 = .ok (.aload_n 0, 1) := by decide +kernel
theorem dX3_order_18 : decode cX3_order 18 = .ok (.iload_n 3, 1) := by decide +kernel
theorem dX3_order_19 : decode cX3_order 19 = .ok (.iaload, 1) := by decide +kernel
theorem dX3_order_20 : decode cX3_order 20 = .ok (.invokestatic 52, 3) := by decide +kernel
theorem dX3_order_23 : decode cX3_order 23 = .ok (.ifCond .eq 59, 3) := by decide +kernel
theorem dX3_order_26 : decode cX3_order 26 = .ok (.aload_n 0, 1) := by decide +kernel
theorem dX3_order_27 : decode cX3_order 27 = .ok (.iload_n 3, 1) := by decide +kernel
theorem dX3_order_28 : decode cX3_order 28 = .ok (.iconst 1, 1) := by decide +kernel
theorem dX3_order_29 : decode cX3_order 29 = .ok (.iadd, 1) := by decide +kernel
theorem dX3_order_30 : decode cX3_order 30 = .ok (.iaload, 1) := by decide +kernel
theorem dX3_order_31 : decode cX3_order 31 = .ok (.invokestatic 52, 3) := by decide +kernel
theorem dX3_order_34 : decode cX3_order 34 = .ok (.ifCond .eq 48, 3) := by decide +kernel
theorem dX3_order_37 : decode cX3_order 37 = .ok (.aload_n 0, 1) := by decide +kernel
theorem dX3_order_38 : decode cX3_order 38 = .ok (.iload_n 3, 1) := by decide +kernel
theorem dX3_order_39 : decode cX3_order 39 = .ok (.iaload, 1) := by decide +kernel
theorem dX3_order_40 : decode cX3_order 40 = .ok (.sipush 768, 3) := by decide +kernel
theorem dX3_order_43 : decode cX3_order 43 = .ok (.isub, 1) := by decide +kernel
theorem dX3_order_44 : decode cX3_order 44 = .ok (.iconst 5, 1) := by decide +kernel
theorem dX3_order_45 : decode cX3_order 45 = .ok (.idiv, 1) := by decide +kernel
theorem dX3_order_46 : decode cX3_order 46 = .ok (.aload_n 0, 1) := by decide +kernel
theorem dX3_order_47 : decode cX3_order 47 = .ok (.iload_n 3, 1) := by decide +kernel
theorem dX3_order_48 : decode cX3_order 48 = .ok (.iconst 1, 1) := by decide +kernel
theorem dX3_order_49 : decode cX3_order 49 = .ok (.iadd, 1) := by decide +kernel
theorem dX3_order_50 : decode cX3_order 50 = .ok (.iaload, 1) := by decide +kernel
theorem dX3_order_51 : decode cX3_order 51 = .ok (.sipush 768, 3) := by decide +kernel
theorem dX3_order_54 : decode cX3_order 54 = .ok (.isub, 1) := by decide +kernel
theorem dX3_order_55 : decode cX3_order 55 = .ok (.iconst 5, 1) := by decide +kernel
theorem dX3_order_56 : decode cX3_order 56 = .ok (.idiv, 1) := by decide +kernel
theorem dX3_order_57 : decode cX3_order 57 = .ok (.if_icmp .le 25, 3) := by decide +kernel
theorem dX3_order_60 : decode cX3_order 60 = .ok (.aload_n 0, 1) := by decide +kernel
theorem dX3_order_61 : decode cX3_order 61 = .ok (.iload_n 3, 1) := by decide +kernel
theorem dX3_order_62 : decode cX3_order 62 = .ok (.iaload, 1) := by decide +kernel
theorem dX3_order_63 : decode cX3_order 63 = .ok (.istore 4, 2) := by decide +kernel
theorem dX3_order_65 : decode cX3_order 65 = .ok (.aload_n 0, 1) := by decide +kernel
theorem dX3_order_66 : decode cX3_order 66 = .ok (.iload_n 3, 1) := by decide +kernel
theorem dX3_order_67 : decode cX3_order 67 = .ok (.aload_n 0, 1) := by decide +kernel
theorem dX3_order_68 : decode cX3_order 68 = .ok (.iload_n 3, 1) := by decide +kernel
theorem dX3_order_69 : decode cX3_order 69 = .ok (.iconst 1, 1) := by decide +kernel
theorem dX3_order_70 : decode cX3_order 70 = .ok (.iadd, 1) := by decide +kernel
theorem dX3_order_71 : decode cX3_order 71 = .ok (.iaload, 1) := by decide +kernel
theorem dX3_order_72 : decode cX3_order 72 = .ok (.iastore, 1) := by decide +kernel
theorem dX3_order_73 : decode cX3_order 73 = .ok (.aload_n 0, 1) := by decide +kernel
theorem dX3_order_74 : decode cX3_order 74 = .ok (.iload_n 3, 1) := by decide +kernel
theorem dX3_order_75 : decode cX3_order 75 = .ok (.iconst 1, 1) := by decide +kernel
theorem dX3_order_76 : decode cX3_order 76 = .ok (.iadd, 1) := by decide +kernel
theorem dX3_order_77 : decode cX3_order 77 = .ok (.iload 4, 2) := by decide +kernel
theorem dX3_order_79 : decode cX3_order 79 = .ok (.iastore, 1) := by decide +kernel
theorem dX3_order_80 : decode cX3_order 80 = .ok (.iconst 1, 1) := by decide +kernel
theorem dX3_order_81 : decode cX3_order 81 = .ok (.istore_n 2, 1) := by decide +kernel
theorem dX3_order_82 : decode cX3_order 82 = .ok (.iinc 3 1, 3) := by decide +kernel
theorem dX3_order_85 : decode cX3_order 85 = .ok (.goto (-75), 3) := by decide +kernel
theorem dX3_order_88 : decode cX3_order 88 = .ok (.goto (-86), 3) := by decide +kernel
theorem dX3_order_91 : decode cX3_order 91 = .ok (.return_, 1) := by decide +kernel
theorem dX3_bad_0 : decode cX3_bad 0 = .ok (.aload_n 0, 1) := by decide +kernel
theorem dX3_bad_1 : decode cX3_bad 1 = .ok (.iload_n 1, 1) := by decide +kernel
theorem dX3_bad_2 : decode cX3_bad 2 = .ok (.putfield 55, 3) := by decide +kernel
theorem dX3_bad_5 : decode cX3_bad 5 = .ok (.iconst (-1), 1) := by decide +kernel
theorem dX3_bad_6 : decode cX3_bad 6 = .ok (.ireturn, 1) := by decide +kernel
set_option maxRecDepth 20000 in
theorem ggX3_readOld_X3_bad : GoodIn wsX3_readOld wsX3_bad := goodIn_r _ [9, 10, 17, 18, 19, 20, 21, 22, 23, 24, 25, 26, 27, 28, 29, 30, 31] (by decide +kernel) (by decide +kernel)
set_option maxRecDepth 20000 in
theorem gX3_readOld_X3_bad : GoodIn wsX3_readOld (wsV RX3 58 RX3 yX3_bad wsX3_bad) := goodIn_app (goodIn_of _ (by decide +kernel)) ggX3_readOld_X3_bad
set_option maxRecDepth 20000 in
theorem ggX3_readOld_X3_placed : GoodIn wsX3_readOld wsX3_placed := goodIn_r _ [13] (by decide +kernel) (by decide +kernel)
set_option maxRecDepth 20000 in
theorem gX3_readOld_X3_placed : GoodIn wsX3_readOld (va_wsS RX3 42 yX3_placed wsX3_placed) := goodIn_app (goodIn_of _ (by decide +kernel)) ggX3_readOld_X3_placed
set_option maxRecDepth 20000 in
theorem ggX3_readOld_X3_isMark : GoodIn wsX3_readOld wsX3_isMark := goodIn_r _ [16] (by decide +kernel) (by decide +kernel)
set_option maxRecDepth 20000 in
theorem gX3_readOld_X3_isMark : GoodIn wsX3_readOld (va_wsS RX3 52 yX3_isMark wsX3_isMark) := goodIn_app (goodIn_of _ (by decide +kernel)) ggX3_readOld_X3_isMark
theorem dX3_readOld_0 : decode cX3_readOld 0 = .ok (.iconst 0, 1) := by decide +kernel
theorem dX3_readOld_1 : decode cX3_readOld 1 = .ok (.istore_n 1, 1) := by decide +kernel
theorem dX3_readOld_2 : decode cX3_readOld 2 = .ok (.iconst 0, 1) := by decide +kernel
theorem dX3_readOld_3 : decode cX3_readOld 3 = .ok (.istore_n 2, 1) := by decide +kernel
theorem dX3_readOld_4 : decode cX3_readOld 4 = .ok (.iconst 0, 1) := by decide +kernel
theorem dX3_readOld_5 : decode cX3_readOld 5 = .ok (.istore_n 3, 1) := by decide +kernel
theorem dX3_readOld_6 : decode cX3_readOld 6 = .ok (.iconst 0, 1) := by decide +kernel
theorem dX3_readOld_7 : decode cX3_readOld 7 = .ok (.istore 4, 2) := by decide +kernel
theorem dX3_readOld_9 : decode cX3_readOld 9 = .ok (.iconst 0, 1) := by decide +kernel
theorem dX3_readOld_10 : decode cX3_readOld 10 = .ok (.istore 5, 2) := by decide +kernel
theorem dX3_readOld_12 : decode cX3_readOld 12 = .ok (.iload 5, 2) := by decide +kernel
theorem dX3_readOld_14 : decode cX3_readOld 14 = .ok (.aload_n 0, 1) := by decide +kernel
theorem dX3_readOld_15 : decode cX3_readOld 15 = .ok (.getfield 39, 3) := by decide +kernel
theorem dX3_readOld_18 : decode cX3_readOld 18 = .ok (.if_icmp .ge 272, 3) := by decide +kernel
theorem dX3_readOld_21 : decode cX3_readOld 21 = .ok (.aload_n 0, 1) := by decide +kernel
theorem dX3_readOld_22 : decode cX3_readOld 22 = .ok (.getfield 7, 3) := by decide +kernel
theorem dX3_readOld_25 : decode cX3_readOld 25 = .ok (.iload 5, 2) := by decide +kernel
theorem dX3_readOld_27 : decode cX3_readOld 27 = .ok (.iaload, 1) := by decide +kernel
theorem dX3_readOld_28 : decode cX3_readOld 28 = .ok (.istore 6, 2) := by decide +kernel
theorem dX3_readOld_30 : decode cX3_readOld 30 = .ok (.iload 6, 2) := by decide +kernel
theorem dX3_readOld_32 : decode cX3_readOld 32 = .ok (.bipush 27, 2) := by decide +kernel
theorem dX3_readOld_34 : decode cX3_readOld 34 = .ok (.if_icmp .ne 82, 3) := by decide +kernel
theorem dX3_readOld_37 : decode cX3_readOld 37 = .ok (.iload 5, 2) := by decide +kernel
theorem dX3_readOld_39 : decode cX3_readOld 39 = .ok (.iconst 2, 1) := by decide +kernel
theorem dX3_readOld_40 : decode cX3_readOld 40 = .ok (.iadd, 1) := by decide +kernel
theorem dX3_readOld_41 : decode cX3_readOld 41 = .ok (.aload_n 0, 1) := by decide +kernel
theorem dX3_readOld_42 : decode cX3_readOld 42 = .ok (.getfield 39, 3) := by decide +kernel
theorem dX3_readOld_45 : decode cX3_readOld 45 = .ok (.if_icmp .ge 45, 3) := by decide +kernel
theorem dX3_readOld_48 : decode cX3_readOld 48 = .ok (.aload_n 0, 1) := by decide +kernel
theorem dX3_readOld_49 : decode cX3_readOld 49 = .ok (.getfield 7, 3) := by decide +kernel
theorem dX3_readOld_52 : decode cX3_readOld 52 = .ok (.iload 5, 2) := by decide +kernel
theorem dX3_readOld_54 : decode cX3_readOld 54 = .ok (.iconst 1, 1) := by decide +kernel
theorem dX3_readOld_55 : decode cX3_readOld 55 = .ok (.iadd, 1) := by decide +kernel
theorem dX3_readOld_56 : decode cX3_readOld 56 = .ok (.iaload, 1) := by decide +kernel
theorem dX3_readOld_57 : decode cX3_readOld 57 = .ok (.bipush 103, 2) := by decide +kernel
theorem dX3_readOld_59 : decode cX3_readOld 59 = .ok (.if_icmp .ne 31, 3) := by decide +kernel
theorem dX3_readOld_62 : decode cX3_readOld 62 = .ok (.aload_n 0, 1) := by decide +kernel
theorem dX3_readOld_63 : decode cX3_readOld 63 = .ok (.getfield 7, 3) := by decide +kernel
theorem dX3_readOld_66 : decode cX3_readOld 66 = .ok (.iload 5, 2) := by decide +kernel
theorem dX3_readOld_68 : decode cX3_readOld 68 = .ok (.iconst 2, 1) := by decide +kernel
theorem dX3_readOld_69 : decode cX3_readOld 69 = .ok (.iadd, 1) := by decide +kernel
theorem dX3_readOld_70 : decode cX3_readOld 70 = .ok (.iaload, 1) := by decide +kernel
theorem dX3_readOld_71 : decode cX3_readOld 71 = .ok (.bipush 48, 2) := by decide +kernel
theorem dX3_readOld_73 : decode cX3_readOld 73 = .ok (.if_icmp .lt 17, 3) := by decide +kernel
theorem dX3_readOld_76 : decode cX3_readOld 76 = .ok (.aload_n 0, 1) := by decide +kernel
theorem dX3_readOld_77 : decode cX3_readOld 77 = .ok (.getfield 7, 3) := by decide +kernel
theorem dX3_readOld_80 : decode cX3_readOld 80 = .ok (.iload 5, 2) := by decide +kernel
theorem dX3_readOld_82 : decode cX3_readOld 82 = .ok (.iconst 2, 1) := by decide +kernel
theorem dX3_readOld_83 : decode cX3_readOld 83 = .ok (.iadd, 1) := by decide +kernel
theorem dX3_readOld_84 : decode cX3_readOld 84 = .ok (.iaload, 1) := by decide +kernel
theorem dX3_readOld_85 : decode cX3_readOld 85 = .ok (.bipush 50, 2) := by decide +kernel
theorem dX3_readOld_87 : decode cX3_readOld 87 = .ok (.if_icmp .le 10, 3) := by decide +kernel
theorem dX3_readOld_90 : decode cX3_readOld 90 = .ok (.aload_n 0, 1) := by decide +kernel
theorem dX3_readOld_91 : decode cX3_readOld 91 = .ok (.iload 5, 2) := by decide +kernel
theorem dX3_readOld_93 : decode cX3_readOld 93 = .ok (.invokevirtual 58, 3) := by decide +kernel
theorem dX3_readOld_96 : decode cX3_readOld 96 = .ok (.ireturn, 1) := by decide +kernel
theorem dX3_readOld_97 : decode cX3_readOld 97 = .ok (.aload_n 0, 1) := by decide +kernel
theorem dX3_readOld_98 : decode cX3_readOld 98 = .ok (.getfield 7, 3) := by decide +kernel
theorem dX3_readOld_101 : decode cX3_readOld 101 = .ok (.iload 5, 2) := by decide +kernel
theorem dX3_readOld_103 : decode cX3_readOld 103 = .ok (.iconst 2, 1) := by decide +kernel
theorem dX3_readOld_104 : decode cX3_readOld 104 = .ok (.iadd, 1) := by decide +kernel
theorem dX3_readOld_105 : decode cX3_readOld 105 = .ok (.iaload, 1) := by decide +kernel
theorem dX3_readOld_106 : decode cX3_readOld 106 = .ok (.bipush 48, 2) := by decide +kernel
theorem dX3_readOld_108 : decode cX3_readOld 108 = .ok (.isub, 1) := by decide +kernel
theorem dX3_readOld_109 : decode cX3_readOld 109 = .ok (.istore_n 1, 1) := by decide +kernel
theorem dX3_readOld_110 : decode cX3_readOld 110 = .ok (.iinc 5 3, 3) := by decide +kernel
theorem dX3_readOld_113 : decode cX3_readOld 113 = .ok (.goto 174, 3) := by decide +kernel
theorem dX3_readOld_116 : decode cX3_readOld 116 = .ok (.iload 6, 2) := by decide +kernel
theorem dX3_readOld_118 : decode cX3_readOld 118 = .ok (.bipush 32, 2) := by decide +kernel
theorem dX3_readOld_120 : decode cX3_readOld 120 = .ok (.if_icmp .lt 15, 3) := by decide +kernel
theorem dX3_readOld_123 : decode cX3_readOld 123 = .ok (.iload 6, 2) := by decide +kernel
theorem dX3_readOld_125 : decode cX3_readOld 125 = .ok (.bipush 126, 2) := by decide +kernel
theorem dX3_readOld_127 : decode cX3_readOld 127 = .ok (.if_icmp .gt 8, 3) := by decide +kernel
theorem dX3_readOld_130 : decode cX3_readOld 130 = .ok (.iload 6, 2) := by decide +kernel
theorem dX3_readOld_132 : decode cX3_readOld 132 = .ok (.goto 33, 3) := by decide +kernel
theorem dX3_readOld_135 : decode cX3_readOld 135 = .ok (.iload 6, 2) := by decide +kernel
theorem dX3_readOld_137 : decode cX3_readOld 137 = .ok (.sipush 161, 3) := by decide +kernel
theorem dX3_readOld_140 : decode cX3_readOld 140 = .ok (.if_icmp .lt 24, 3) := by decide +kernel
theorem dX3_readOld_143 : decode cX3_readOld 143 = .ok (.iload 6, 2) := by decide +kernel
theorem dX3_readOld_145 : decode cX3_readOld 145 = .ok (.sipush 254, 3) := by decide +kernel
theorem dX3_readOld_148 : decode cX3_readOld 148 = .ok (.if_icmp .gt 16, 3) := by decide +kernel
theorem dX3_readOld_151 : decode cX3_readOld 151 = .ok (.iload_n 1, 1) := by decide +kernel
theorem dX3_readOld_152 : decode cX3_readOld 152 = .ok (.iload 6, 2) := by decide +kernel
theorem dX3_readOld_154 : decode cX3_readOld 154 = .ok (.sipush 161, 3) := by decide +kernel
theorem dX3_readOld_157 : decode cX3_readOld 157 = .ok (.isub, 1) := by decide +kernel
theorem dX3_readOld_158 : decode cX3_readOld 158 = .ok (.invokestatic 42, 3) := by decide +kernel
theorem dX3_readOld_161 : decode cX3_readOld 161 = .ok (.goto 4, 3) := by decide +kernel
theorem dX3_readOld_164 : decode cX3_readOld 164 = .ok (.iconst 0, 1) := by decide +kernel
theorem dX3_readOld_165 : decode cX3_readOld 165 = .ok (.istore 7, 2) := by decide +kernel
theorem dX3_readOld_167 : decode cX3_readOld 167 = .ok (.iload 7, 2) := by decide +kernel
theorem dX3_readOld_169 : decode cX3_readOld 169 = .ok (.ifCond .ne 10, 3) := by decide +kernel
theorem dX3_readOld_172 : decode cX3_readOld 172 = .ok (.aload_n 0, 1) := by decide +kernel
theorem dX3_readOld_173 : decode cX3_readOld 173 = .ok (.iload 5, 2) := by decide +kernel
theorem dX3_readOld_175 : decode cX3_readOld 175 = .ok (.invokevirtual 58, 3) := by decide +kernel
theorem dX3_readOld_178 : decode cX3_readOld 178 = .ok (.ireturn, 1) := by decide +kernel
theorem dX3_readOld_179 : decode cX3_readOld 179 = .ok (.iload 7, 2) := by decide +kernel
theorem dX3_readOld_181 : decode cX3_readOld 181 = .ok (.invokestatic 52, 3) := by decide +kernel
theorem dX3_readOld_184 : decode cX3_readOld 184 = .ok (.ifCond .eq 30, 3) := by decide +kernel
theorem dX3_readOld_187 : decode cX3_readOld 187 = .ok (.iload_n 3, 1) := by decide +kernel
theorem dX3_readOld_188 : decode cX3_readOld 188 = .ok (.ifCond .ne 8, 3) := by decide +kernel
theorem dX3_readOld_191 : decode cX3_readOld 191 = .ok (.iload 5, 2) := by decide +kernel
theorem dX3_readOld_193 : decode cX3_readOld 193 = .ok (.goto 5, 3) := by decide +kernel
theorem dX3_readOld_196 : decode cX3_readOld 196 = .ok (.iload 4, 2) := by decide +kernel
theorem dX3_readOld_198 : decode cX3_readOld 198 = .ok (.istore 4, 2) := by decide +kernel
theorem dX3_readOld_200 : decode cX3_readOld 200 = .ok (.aload_n 0, 1) := by decide +kernel
theorem dX3_readOld_201 : decode cX3_readOld 201 = .ok (.getfield 22, 3) := by decide +kernel
theorem dX3_readOld_204 : decode cX3_readOld 204 = .ok (.iload_n 3, 1) := by decide +kernel
theorem dX3_readOld_205 : decode cX3_readOld 205 = .ok (.iload 7, 2) := by decide +kernel
theorem dX3_readOld_207 : decode cX3_readOld 207 = .ok (.iastore, 1) := by decide +kernel
theorem dX3_readOld_208 : decode cX3_readOld 208 = .ok (.iinc 3 1, 3) := by decide +kernel
theorem dX3_readOld_211 : decode cX3_readOld 211 = .ok (.goto 73, 3) := by decide +kernel
theorem dX3_readOld_214 : decode cX3_readOld 214 = .ok (.iload_n 2, 1) := by decide +kernel
theorem dX3_readOld_215 : decode cX3_readOld 215 = .ok (.iconst 1, 1) := by decide +kernel
theorem dX3_readOld_216 : decode cX3_readOld 216 = .ok (.iadd, 1) := by decide +kernel
theorem dX3_readOld_217 : decode cX3_readOld 217 = .ok (.iload_n 3, 1) := by decide +kernel
theorem dX3_readOld_218 : decode cX3_readOld 218 = .ok (.iadd, 1) := by decide +kernel
theorem dX3_readOld_219 : decode cX3_readOld 219 = .ok (.bipush 100, 2) := by decide +kernel
theorem dX3_readOld_221 : decode cX3_readOld 221 = .ok (.if_icmp .le 19, 3) := by decide +kernel
theorem dX3_readOld_224 : decode cX3_readOld 224 = .ok (.aload_n 0, 1) := by decide +kernel
theorem dX3_readOld_225 : decode cX3_readOld 225 = .ok (.iload_n 3, 1) := by decide +kernel
theorem dX3_readOld_226 : decode cX3_readOld 226 = .ok (.ifCond .le 8, 3) := by decide +kernel
theorem dX3_readOld_229 : decode cX3_readOld 229 = .ok (.iload 4, 2) := by decide +kernel
theorem dX3_readOld_231 : decode cX3_readOld 231 = .ok (.goto 5, 3) := by decide +kernel
theorem dX3_readOld_234 : decode cX3_readOld 234 = .ok (.iload 5, 2) := by decide +kernel
theorem dX3_readOld_236 : decode cX3_readOld 236 = .ok (.invokevirtual 58, 3) := by decide +kernel
theorem dX3_readOld_239 : decode cX3_readOld 239 = .ok (.ireturn, 1) := by decide +kernel
theorem dX3_readOld_240 : decode cX3_readOld 240 = .ok (.aload_n 0, 1) := by decide +kernel
theorem dX3_readOld_241 : decode cX3_readOld 241 = .ok (.getfield 19, 3) := by decide +kernel
theorem dX3_readOld_244 : decode cX3_readOld 244 = .ok (.iload_n 2, 1) := by decide +kernel
theorem dX3_readOld_245 : decode cX3_readOld 245 = .ok (.iload 7, 2) := by decide +kernel
theorem dX3_readOld_247 : decode cX3_readOld 247 = .ok (.iastore, 1) := by decide +kernel
theorem dX3_readOld_248 : decode cX3_readOld 248 = .ok (.iinc 2 1, 3) := by decide +kernel
theorem dX3_readOld_251 : decode cX3_readOld 251 = .ok (.iconst 0, 1) := by decide +kernel
theorem dX3_readOld_252 : decode cX3_readOld 252 = .ok (.istore 8, 2) := by decide +kernel
theorem dX3_readOld_254 : decode cX3_readOld 254 = .ok (.iload 8, 2) := by decide +kernel
theorem dX3_readOld_256 : decode cX3_readOld 256 = .ok (.iload_n 3, 1) := by decide +kernel
theorem dX3_readOld_257 : decode cX3_readOld 257 = .ok (.if_icmp .ge 25, 3) := by decide +kernel
theorem dX3_readOld_260 : decode cX3_readOld 260 = .ok (.aload_n 0, 1) := by decide +kernel
theorem dX3_readOld_261 : decode cX3_readOld 261 = .ok (.getfield 19, 3) := by decide +kernel
theorem dX3_readOld_264 : decode cX3_readOld 264 = .ok (.iload_n 2, 1) := by decide +kernel
theorem dX3_readOld_265 : decode cX3_readOld 265 = .ok (.aload_n 0, 1) := by decide +kernel
theorem dX3_readOld_266 : decode cX3_readOld 266 = .ok (.getfield 22, 3) := by decide +kernel
theorem dX3_readOld_269 : decode cX3_readOld 269 = .ok (.iload 8, 2) := by decide +kernel
theorem dX3_readOld_271 : decode cX3_readOld 271 = .ok (.iaload, 1) := by decide +kernel
theorem dX3_readOld_272 : decode cX3_readOld 272 = .ok (.iastore, 1) := by decide +kernel
theorem dX3_readOld_273 : decode cX3_readOld 273 = .ok (.iinc 2 1, 3) := by decide +kernel
theorem dX3_readOld_276 : decode cX3_readOld 276 = .ok (.iinc 8 1, 3) := by decide +kernel
theorem dX3_readOld_279 : decode cX3_readOld 279 = .ok (.goto (-25), 3) := by decide +kernel
theorem dX3_readOld_282 : decode cX3_readOld 282 = .ok (.iconst 0, 1) := by decide +kernel
theorem dX3_readOld_283 : decode cX3_readOld 283 = .ok (.istore_n 3, 1) := by decide +kernel
theorem dX3_readOld_284 : decode cX3_readOld 284 = .ok (.iinc 5 1, 3) := by decide +kernel
theorem dX3_readOld_287 : decode cX3_readOld 287 = .ok (.goto (-275), 3) := by decide +kernel
theorem dX3_readOld_290 : decode cX3_readOld 290 = .ok (.iload_n 3, 1) := by decide +kernel
theorem dX3_readOld_291 : decode cX3_readOld 291 = .ok (.ifCond .le 12, 3) := by decide +kernel
theorem dX3_readOld_294 : decode cX3_readOld 294 = .ok (.aload_n 0, 1) := by decide +kernel
theorem dX3_readOld_295 : decode cX3_readOld 295 = .ok (.iload 4, 2) := by decide +kernel
theorem dX3_readOld_297 : decode cX3_readOld 297 = .ok (.invokevirtual 58, 3) := by decide +kernel
theorem dX3_readOld_300 : decode cX3_readOld 300 = .ok (.goto 4, 3) := by decide +kernel
theorem dX3_readOld_303 : decode cX3_readOld 303 = .ok (.iload_n 2, 1) := by decide +kernel
theorem dX3_readOld_304 : decode cX3_readOld 304 = .ok (.ireturn, 1) := by decide +kernel
theorem dX3_goesOn_0 : decode cX3_goesOn 0 = .ok (.iload_n 1, 1) := by decide +kernel
theorem dX3_goesOn_1 : decode cX3_goesOn 1 = .ok (.aload_n 0, 1) := by decide +kernel
theorem dX3_goesOn_2 : decode cX3_goesOn 2 = .ok (.getfield 39, 3) := by decide +kernel
theorem dX3_goesOn_5 : decode cX3_goesOn 5 = .ok (.if_icmp .ge 31, 3) := by decide +kernel
theorem dX3_goesOn_8 : decode cX3_goesOn 8 = .ok (.aload_n 0, 1) := by decide +kernel
theorem dX3_goesOn_9 : decode cX3_goesOn 9 = .ok (.getfield 7, 3) := by decide +kernel
theorem dX3_goesOn_12 : decode cX3_goesOn 12 = .ok (.iload_n 1, 1) := by decide +kernel
theorem dX3_goesOn_13 : decode cX3_goesOn 13 = .ok (.iaload, 1) := by decide +kernel
theorem dX3_goesOn_14 : decode cX3_goesOn 14 = .ok (.sipush 128, 3) := by decide +kernel
theorem dX3_goesOn_17 : decode cX3_goesOn 17 = .ok (.if_icmp .lt 19, 3) := by decide +kernel
theorem dX3_goesOn_20 : decode cX3_goesOn 20 = .ok (.aload_n 0, 1) := by decide +kernel
theorem dX3_goesOn_21 : decode cX3_goesOn 21 = .ok (.getfield 7, 3) := by decide +kernel
theorem dX3_goesOn_24 : decode cX3_goesOn 24 = .ok (.iload_n 1, 1) := by decide +kernel
theorem dX3_goesOn_25 : decode cX3_goesOn 25 = .ok (.iaload, 1) := by decide +kernel
theorem dX3_goesOn_26 : decode cX3_goesOn 26 = .ok (.sipush 192, 3) := by decide +kernel
theorem dX3_goesOn_29 : decode cX3_goesOn 29 = .ok (.if_icmp .ge 7, 3) := by decide +kernel
theorem dX3_goesOn_32 : decode cX3_goesOn 32 = .ok (.iconst 1, 1) := by decide +kernel
theorem dX3_goesOn_33 : decode cX3_goesOn 33 = .ok (.goto 4, 3) := by decide +kernel
theorem dX3_goesOn_36 : decode cX3_goesOn 36 = .ok (.iconst 0, 1) := by decide +kernel
theorem dX3_goesOn_37 : decode cX3_goesOn 37 = .ok (.ireturn, 1) := by decide +kernel
set_option maxRecDepth 20000 in
theorem ggX3_readNew_X3_goesOn : GoodIn wsX3_readNew wsX3_goesOn := goodIn_r _ [8, 1, 2, 34, 35, 36, 37, 38, 39, 40, 41, 42, 43, 44, 45, 46, 47, 48] (by decide +kernel) (by decide +kernel)
set_option maxRecDepth 20000 in
theorem gX3_readNew_X3_goesOn : GoodIn wsX3_readNew (wsV RX3 62 RX3 yX3_goesOn wsX3_goesOn) := goodIn_app (goodIn_of _ (by decide +kernel)) ggX3_readNew_X3_goesOn
set_option maxRecDepth 20000 in
theorem ggX3_readNew_X3_isPlain : GoodIn wsX3_readNew wsX3_isPlain := goodIn_r _ [11] (by decide +kernel) (by decide +kernel)
set_option maxRecDepth 20000 in
theorem gX3_readNew_X3_isPlain : GoodIn wsX3_readNew (va_wsS RX3 65 yX3_isPlain wsX3_isPlain) := goodIn_app (goodIn_of _ (by decide +kernel)) ggX3_readNew_X3_isPlain
set_option maxRecDepth 20000 in
theorem ggX3_readNew_X3_find : GoodIn wsX3_readNew wsX3_find := goodIn_r _ [14, 15, 16, 7, 17] (by decide +kernel) (by decide +kernel)
set_option maxRecDepth 20000 in
theorem gX3_readNew_X3_find : GoodIn wsX3_readNew (va_wsS RX3 68 yX3_find wsX3_find) := goodIn_app (goodIn_of _ (by decide +kernel)) ggX3_readNew_X3_find
set_option maxRecDepth 20000 in
theorem ggX3_readNew_X3_isComposed : GoodIn wsX3_readNew wsX3_isComposed := goodIn_r _ [20, 21, 22, 23, 24, 7, 25] (by decide +kernel) (by decide +kernel)
set_option maxRecDepth 20000 in
theorem gX3_readNew_X3_isComposed : GoodIn wsX3_readNew (va_wsS RX3 71 yX3_isComposed wsX3_isComposed) := goodIn_app (goodIn_of _ (by decide +kernel)) ggX3_readNew_X3_isComposed
set_option maxRecDepth 20000 in
theorem ggX3_readNew_X3_isMark : GoodIn wsX3_readNew wsX3_isMark := goodIn_r _ [28] (by decide +kernel) (by decide +kernel)
set_option maxRecDepth 20000 in
theorem gX3_readNew_X3_isMark : GoodIn wsX3_readNew (va_wsS RX3 52 yX3_isMark wsX3_isMark) := goodIn_app (goodIn_of _ (by decide +kernel)) ggX3_readNew_X3_isMark
set_option maxRecDepth 20000 in
theorem ggX3_readNew_X3_bad : GoodIn wsX3_readNew wsX3_bad := goodIn_r _ [32, 33, 34, 35, 36, 37, 38, 39, 40, 41, 42, 43, 44, 45, 46, 47, 48] (by decide +kernel) (by decide +kernel)
set_option maxRecDepth 20000 in
theorem gX3_readNew_X3_bad : GoodIn wsX3_readNew (wsV RX3 58 RX3 yX3_bad wsX3_bad) := goodIn_app (goodIn_of _ (by decide +kernel)) ggX3_readNew_X3_bad
theorem dX3_readNew_0 : decode cX3_readNew 0 = .ok (.iconst 0, 1) := by decide +kernel
theorem dX3_readNew_1 : decode cX3_readNew 1 = .ok (.istore_n 1, 1) := by decide +kernel
theorem dX3_readNew_2 : decode cX3_readNew 2 = .ok (.iconst 0, 1) := by decide +kernel
theorem dX3_readNew_3 : decode cX3_readNew 3 = .ok (.istore_n 2, 1) := by decide +kernel
theorem dX3_readNew_4 : decode cX3_readNew 4 = .ok (.iload_n 2, 1) := by decide +kernel
theorem dX3_readNew_5 : decode cX3_readNew 5 = .ok (.aload_n 0, 1) := by decide +kernel
theorem dX3_readNew_6 : decode cX3_readNew 6 = .ok (.getfield 39, 3) := by decide +kernel
theorem dX3_readNew_9 : decode cX3_readNew 9 = .ok (.if_icmp .ge 278, 3) := by decide +kernel
theorem dX3_readNew_12 : decode cX3_readNew 12 = .ok (.aload_n 0, 1) := by decide +kernel
theorem dX3_readNew_13 : decode cX3_readNew 13 = .ok (.getfield 7, 3) := by decide +kernel
theorem dX3_readNew_16 : decode cX3_readNew 16 = .ok (.iload_n 2, 1) := by decide +kernel
theorem dX3_readNew_17 : decode cX3_readNew 17 = .ok (.iaload, 1) := by decide +kernel
theorem dX3_readNew_18 : decode cX3_readNew 18 = .ok (.istore_n 3, 1) := by decide +kernel
theorem dX3_readNew_19 : decode cX3_readNew 19 = .ok (.iconst 0, 1) := by decide +kernel
theorem dX3_readNew_20 : decode cX3_readNew 20 = .ok (.istore 4, 2) := by decide +kernel
theorem dX3_readNew_22 : decode cX3_readNew 22 = .ok (.iconst 1, 1) := by decide +kernel
theorem dX3_readNew_23 : decode cX3_readNew 23 = .ok (.istore 5, 2) := by decide +kernel
theorem dX3_readNew_25 : decode cX3_readNew 25 = .ok (.iload_n 3, 1) := by decide +kernel
theorem dX3_readNew_26 : decode cX3_readNew 26 = .ok (.sipush 128, 3) := by decide +kernel
theorem dX3_readNew_29 : decode cX3_readNew 29 = .ok (.if_icmp .ge 9, 3) := by decide +kernel
theorem dX3_readNew_32 : decode cX3_readNew 32 = .ok (.iload_n 3, 1) := by decide +kernel
theorem dX3_readNew_33 : decode cX3_readNew 33 = .ok (.istore 4, 2) := by decide +kernel
theorem dX3_readNew_35 : decode cX3_readNew 35 = .ok (.goto 165, 3) := by decide +kernel
theorem dX3_readNew_38 : decode cX3_readNew 38 = .ok (.iload_n 3, 1) := by decide +kernel
theorem dX3_readNew_39 : decode cX3_readNew 39 = .ok (.sipush 192, 3) := by decide +kernel
theorem dX3_readNew_42 : decode cX3_readNew 42 = .ok (.if_icmp .lt 65, 3) := by decide +kernel
theorem dX3_readNew_45 : decode cX3_readNew 45 = .ok (.iload_n 3, 1) := by decide +kernel
theorem dX3_readNew_46 : decode cX3_readNew 46 = .ok (.sipush 224, 3) := by decide +kernel
theorem dX3_readNew_49 : decode cX3_readNew 49 = .ok (.if_icmp .ge 58, 3) := by decide +kernel
theorem dX3_readNew_52 : decode cX3_readNew 52 = .ok (.aload_n 0, 1) := by decide +kernel
theorem dX3_readNew_53 : decode cX3_readNew 53 = .ok (.iload_n 2, 1) := by decide +kernel
theorem dX3_readNew_54 : decode cX3_readNew 54 = .ok (.iconst 1, 1) := by decide +kernel
theorem dX3_readNew_55 : decode cX3_readNew 55 = .ok (.iadd, 1) := by decide +kernel
theorem dX3_readNew_56 : decode cX3_readNew 56 = .ok (.invokevirtual 62, 3) := by decide +kernel
theorem dX3_readNew_59 : decode cX3_readNew 59 = .ok (.ifCond .eq 48, 3) := by decide +kernel
theorem dX3_readNew_62 : decode cX3_readNew 62 = .ok (.iload_n 3, 1) := by decide +kernel
theorem dX3_readNew_63 : decode cX3_readNew 63 = .ok (.sipush 192, 3) := by decide +kernel
theorem dX3_readNew_66 : decode cX3_readNew 66 = .ok (.isub, 1) := by decide +kernel
theorem dX3_readNew_67 : decode cX3_readNew 67 = .ok (.bipush 64, 2) := by decide +kernel
theorem dX3_readNew_69 : decode cX3_readNew 69 = .ok (.imul, 1) := by decide +kernel
theorem dX3_readNew_70 : decode cX3_readNew 70 = .ok (.aload_n 0, 1) := by decide +kernel
theorem dX3_readNew_71 : decode cX3_readNew 71 = .ok (.getfield 7, 3) := by decide +kernel
theorem dX3_readNew_74 : decode cX3_readNew 74 = .ok (.iload_n 2, 1) := by decide +kernel
theorem dX3_readNew_75 : decode cX3_readNew 75 = .ok (.iconst 1, 1) := by decide +kernel
theorem dX3_readNew_76 : decode cX3_readNew 76 = .ok (.iadd, 1) := by decide +kernel
theorem dX3_readNew_77 : decode cX3_readNew 77 = .ok (.iaload, 1) := by decide +kernel
theorem dX3_readNew_78 : decode cX3_readNew 78 = .ok (.iadd, 1) := by decide +kernel
theorem dX3_readNew_79 : decode cX3_readNew 79 = .ok (.sipush 128, 3) := by decide +kernel
theorem dX3_readNew_82 : decode cX3_readNew 82 = .ok (.isub, 1) := by decide +kernel
theorem dX3_readNew_83 : decode cX3_readNew 83 = .ok (.istore 4, 2) := by decide +kernel
theorem dX3_readNew_85 : decode cX3_readNew 85 = .ok (.iload 4, 2) := by decide +kernel
theorem dX3_readNew_87 : decode cX3_readNew 87 = .ok (.sipush 128, 3) := by decide +kernel
theorem dX3_readNew_90 : decode cX3_readNew 90 = .ok (.if_icmp .ge 7, 3) := by decide +kernel
theorem dX3_readNew_93 : decode cX3_readNew 93 = .ok (.iconst 0, 1) := by decide +kernel
theorem dX3_readNew_94 : decode cX3_readNew 94 = .ok (.goto 5, 3) := by decide +kernel
theorem dX3_readNew_97 : decode cX3_readNew 97 = .ok (.iload 4, 2) := by decide +kernel
theorem dX3_readNew_99 : decode cX3_readNew 99 = .ok (.istore 4, 2) := by decide +kernel
theorem dX3_readNew_101 : decode cX3_readNew 101 = .ok (.iconst 2, 1) := by decide +kernel
theorem dX3_readNew_102 : decode cX3_readNew 102 = .ok (.istore 5, 2) := by decide +kernel
theorem dX3_readNew_104 : decode cX3_readNew 104 = .ok (.goto 96, 3) := by decide +kernel
theorem dX3_readNew_107 : decode cX3_readNew 107 = .ok (.iload_n 3, 1) := by decide +kernel
theorem dX3_readNew_108 : decode cX3_readNew 108 = .ok (.sipush 224, 3) := by decide +kernel
theorem dX3_readNew_111 : decode cX3_readNew 111 = .ok (.if_icmp .lt 89, 3) := by decide +kernel
theorem dX3_readNew_114 : decode cX3_readNew 114 = .ok (.iload_n 3, 1) := by decide +kernel
theorem dX3_readNew_115 : decode cX3_readNew 115 = .ok (.sipush 240, 3) := by decide +kernel
theorem dX3_readNew_118 : decode cX3_readNew 118 = .ok (.if_icmp .ge 82, 3) := by decide +kernel
theorem dX3_readNew_121 : decode cX3_readNew 121 = .ok (.aload_n 0, 1) := by decide +kernel
theorem dX3_readNew_122 : decode cX3_readNew 122 = .ok (.iload_n 2, 1) := by decide +kernel
theorem dX3_readNew_123 : decode cX3_readNew 123 = .ok (.iconst 1, 1) := by decide +kernel
theorem dX3_readNew_124 : decode cX3_readNew 124 = .ok (.iadd, 1) := by decide +kernel
theorem dX3_readNew_125 : decode cX3_readNew 125 = .ok (.invokevirtual 62, 3) := by decide +kernel
theorem dX3_readNew_128 : decode cX3_readNew 128 = .ok (.ifCond .eq 72, 3) := by decide +kernel
theorem dX3_readNew_131 : decode cX3_readNew 131 = .ok (.aload_n 0, 1) := by decide +kernel
theorem dX3_readNew_132 : decode cX3_readNew 132 = .ok (.iload_n 2, 1) := by decide +kernel
theorem dX3_readNew_133 : decode cX3_readNew 133 = .ok (.iconst 2, 1) := by decide +kernel
theorem dX3_readNew_134 : decode cX3_readNew 134 = .ok (.iadd, 1) := by decide +kernel
theorem dX3_readNew_135 : decode cX3_readNew 135 = .ok (.invokevirtual 62, 3) := by decide +kernel
theorem dX3_readNew_138 : decode cX3_readNew 138 = .ok (.ifCond .eq 62, 3) := by decide +kernel
theorem dX3_readNew_141 : decode cX3_readNew 141 = .ok (.iload_n 3, 1) := by decide +kernel
theorem dX3_readNew_142 : decode cX3_readNew 142 = .ok (.sipush 224, 3) := by decide +kernel
theorem dX3_readNew_145 : decode cX3_readNew 145 = .ok (.isub, 1) := by decide +kernel
theorem dX3_readNew_146 : decode cX3_readNew 146 = .ok (.sipush 4096, 3) := by decide +kernel
theorem dX3_readNew_149 : decode cX3_readNew 149 = .ok (.imul, 1) := by decide +kernel
theorem dX3_readNew_150 : decode cX3_readNew 150 = .ok (.aload_n 0, 1) := by decide +kernel
theorem dX3_readNew_151 : decode cX3_readNew 151 = .ok (.getfield 7, 3) := by decide +kernel
theorem dX3_readNew_154 : decode cX3_readNew 154 = .ok (.iload_n 2, 1) := by decide +kernel
theorem dX3_readNew_155 : decode cX3_readNew 155 = .ok (.iconst 1, 1) := by decide +kernel
theorem dX3_readNew_156 : decode cX3_readNew 156 = .ok (.iadd, 1) := by decide +kernel
theorem dX3_readNew_157 : decode cX3_readNew 157 = .ok (.iaload, 1) := by decide +kernel
theorem dX3_readNew_158 : decode cX3_readNew 158 = .ok (.sipush 128, 3) := by decide +kernel
theorem dX3_readNew_161 : decode cX3_readNew 161 = .ok (.isub, 1) := by decide +kernel
theorem dX3_readNew_162 : decode cX3_readNew 162 = .ok (.bipush 64, 2) := by decide +kernel
theorem dX3_readNew_164 : decode cX3_readNew 164 = .ok (.imul, 1) := by decide +kernel
theorem dX3_readNew_165 : decode cX3_readNew 165 = .ok (.iadd, 1) := by decide +kernel
theorem dX3_readNew_166 : decode cX3_readNew 166 = .ok (.aload_n 0, 1) := by decide +kernel
theorem dX3_readNew_167 : decode cX3_readNew 167 = .ok (.getfield 7, 3) := by decide +kernel
theorem dX3_readNew_170 : decode cX3_readNew 170 = .ok (.iload_n 2, 1) := by decide +kernel
theorem dX3_readNew_171 : decode cX3_readNew 171 = .ok (.iconst 2, 1) := by decide +kernel
theorem dX3_readNew_172 : decode cX3_readNew 172 = .ok (.iadd, 1) := by decide +kernel
theorem dX3_readNew_173 : decode cX3_readNew 173 = .ok (.iaload, 1) := by decide +kernel
theorem dX3_readNew_174 : decode cX3_readNew 174 = .ok (.iadd, 1) := by decide +kernel
theorem dX3_readNew_175 : decode cX3_readNew 175 = .ok (.sipush 128, 3) := by decide +kernel
theorem dX3_readNew_178 : decode cX3_readNew 178 = .ok (.isub, 1) := by decide +kernel
theorem dX3_readNew_179 : decode cX3_readNew 179 = .ok (.istore 4, 2) := by decide +kernel
theorem dX3_readNew_181 : decode cX3_readNew 181 = .ok (.iload 4, 2) := by decide +kernel
theorem dX3_readNew_183 : decode cX3_readNew 183 = .ok (.sipush 2048, 3) := by decide +kernel
theorem dX3_readNew_186 : decode cX3_readNew 186 = .ok (.if_icmp .ge 7, 3) := by decide +kernel
theorem dX3_readNew_189 : decode cX3_readNew 189 = .ok (.iconst 0, 1) := by decide +kernel
theorem dX3_readNew_190 : decode cX3_readNew 190 = .ok (.goto 5, 3) := by decide +kernel
theorem dX3_readNew_193 : decode cX3_readNew 193 = .ok (.iload 4, 2) := by decide +kernel
theorem dX3_readNew_195 : decode cX3_readNew 195 = .ok (.istore 4, 2) := by decide +kernel
theorem dX3_readNew_197 : decode cX3_readNew 197 = .ok (.iconst 3, 1) := by decide +kernel
theorem dX3_readNew_198 : decode cX3_readNew 198 = .ok (.istore 5, 2) := by decide +kernel
theorem dX3_readNew_200 : decode cX3_readNew 200 = .ok (.iload 4, 2) := by decide +kernel
theorem dX3_readNew_202 : decode cX3_readNew 202 = .ok (.invokestatic 65, 3) := by decide +kernel
theorem dX3_readNew_205 : decode cX3_readNew 205 = .ok (.ifCond .ne 27, 3) := by decide +kernel
theorem dX3_readNew_208 : decode cX3_readNew 208 = .ok (.iload 4, 2) := by decide +kernel
theorem dX3_readNew_210 : decode cX3_readNew 210 = .ok (.bipush 127, 2) := by decide +kernel
theorem dX3_readNew_212 : decode cX3_readNew 212 = .ok (.if_icmp .le 24, 3) := by decide +kernel
theorem dX3_readNew_215 : decode cX3_readNew 215 = .ok (.iload 4, 2) := by decide +kernel
theorem dX3_readNew_217 : decode cX3_readNew 217 = .ok (.invokestatic 68, 3) := by decide +kernel
theorem dX3_readNew_220 : decode cX3_readNew 220 = .ok (.iconst (-1), 1) := by decide +kernel
theorem dX3_readNew_221 : decode cX3_readNew 221 = .ok (.if_icmp .ne 11, 3) := by decide +kernel
theorem dX3_readNew_224 : decode cX3_readNew 224 = .ok (.iload 4, 2) := by decide +kernel
theorem dX3_readNew_226 : decode cX3_readNew 226 = .ok (.invokestatic 71, 3) := by decide +kernel
theorem dX3_readNew_229 : decode cX3_readNew 229 = .ok (.ifCond .eq 7, 3) := by decide +kernel
theorem dX3_readNew_232 : decode cX3_readNew 232 = .ok (.iconst 1, 1) := by decide +kernel
theorem dX3_readNew_233 : decode cX3_readNew 233 = .ok (.goto 4, 3) := by decide +kernel
theorem dX3_readNew_236 : decode cX3_readNew 236 = .ok (.iconst 0, 1) := by decide +kernel
theorem dX3_readNew_237 : decode cX3_readNew 237 = .ok (.istore 6, 2) := by decide +kernel
theorem dX3_readNew_239 : decode cX3_readNew 239 = .ok (.iload 6, 2) := by decide +kernel
theorem dX3_readNew_241 : decode cX3_readNew 241 = .ok (.ifCond .eq 21, 3) := by decide +kernel
theorem dX3_readNew_244 : decode cX3_readNew 244 = .ok (.iload_n 1, 1) := by decide +kernel
theorem dX3_readNew_245 : decode cX3_readNew 245 = .ok (.bipush 100, 2) := by decide +kernel
theorem dX3_readNew_247 : decode cX3_readNew 247 = .ok (.if_icmp .eq 15, 3) := by decide +kernel
theorem dX3_readNew_250 : decode cX3_readNew 250 = .ok (.iload_n 1, 1) := by decide +kernel
theorem dX3_readNew_251 : decode cX3_readNew 251 = .ok (.ifCond .ne 17, 3) := by decide +kernel
theorem dX3_readNew_254 : decode cX3_readNew 254 = .ok (.iload 4, 2) := by decide +kernel
theorem dX3_readNew_256 : decode cX3_readNew 256 = .ok (.invokestatic 52, 3) := by decide +kernel
theorem dX3_readNew_259 : decode cX3_readNew 259 = .ok (.ifCond .eq 9, 3) := by decide +kernel
theorem dX3_readNew_262 : decode cX3_readNew 262 = .ok (.aload_n 0, 1) := by decide +kernel
theorem dX3_readNew_263 : decode cX3_readNew 263 = .ok (.iload_n 2, 1) := by decide +kernel
theorem dX3_readNew_264 : decode cX3_readNew 264 = .ok (.invokevirtual 58, 3) := by decide +kernel
theorem dX3_readNew_267 : decode cX3_readNew 267 = .ok (.ireturn, 1) := by decide +kernel
theorem dX3_readNew_268 : decode cX3_readNew 268 = .ok (.aload_n 0, 1) := by decide +kernel
theorem dX3_readNew_269 : decode cX3_readNew 269 = .ok (.getfield 19, 3) := by decide +kernel
theorem dX3_readNew_272 : decode cX3_readNew 272 = .ok (.iload_n 1, 1) := by decide +kernel
theorem dX3_readNew_273 : decode cX3_readNew 273 = .ok (.iload 4, 2) := by decide +kernel
theorem dX3_readNew_275 : decode cX3_readNew 275 = .ok (.iastore, 1) := by decide +kernel
theorem dX3_readNew_276 : decode cX3_readNew 276 = .ok (.iinc 1 1, 3) := by decide +kernel
theorem dX3_readNew_279 : decode cX3_readNew 279 = .ok (.iload_n 2, 1) := by decide +kernel
theorem dX3_readNew_280 : decode cX3_readNew 280 = .ok (.iload 5, 2) := by decide +kernel
theorem dX3_readNew_282 : decode cX3_readNew 282 = .ok (.iadd, 1) := by decide +kernel
theorem dX3_readNew_283 : decode cX3_readNew 283 = .ok (.istore_n 2, 1) := by decide +kernel
theorem dX3_readNew_284 : decode cX3_readNew 284 = .ok (.goto (-280), 3) := by decide +kernel
theorem dX3_readNew_287 : decode cX3_readNew 287 = .ok (.iload_n 1, 1) := by decide +kernel
theorem dX3_readNew_288 : decode cX3_readNew 288 = .ok (.ireturn, 1) := by decide +kernel
set_option maxRecDepth 20000 in
theorem ggX3_read_X3_readOld : GoodIn wsX3_read wsX3_readOld := goodIn_r _ [13, 2, 14, 15, 4, 16, 17, 18, 12, 19, 3, 20, 21, 22, 23, 24, 25, 51, 52, 53, 54, 55, 56, 57, 58, 59, 60, 61, 62, 63, 64, 65] (by decide +kernel) (by decide +kernel)
set_option maxRecDepth 20000 in
theorem gX3_read_X3_readOld : GoodIn wsX3_read (wsV RX3 74 RX3 yX3_readOld wsX3_readOld) := goodIn_app (goodIn_of _ (by decide +kernel)) ggX3_read_X3_readOld
set_option maxRecDepth 20000 in
theorem ggX3_read_X3_readNew : GoodIn wsX3_read wsX3_readNew := goodIn_r _ [29, 2, 14, 4, 30, 31, 32, 12, 33, 34, 35, 36, 37, 38, 39, 20, 21, 22, 40, 41, 42, 43, 44, 45, 46, 47, 23, 24, 25, 16, 17, 18, 19, 3, 51, 52, 53, 54, 55, 56, 57, 58, 59, 60, 61, 62, 63, 64, 65] (by decide +kernel) (by decide +kernel)
set_option maxRecDepth 20000 in
theorem gX3_read_X3_readNew : GoodIn wsX3_read (wsV RX3 78 RX3 yX3_readNew wsX3_readNew) := goodIn_app (goodIn_of _ (by decide +kernel)) ggX3_read_X3_readNew
set_option maxRecDepth 20000 in
theorem ggX3_read_X3_order : GoodIn wsX3_read wsX3_order := goodIn_r _ [50, 23, 24, 12, 25] (by decide +kernel) (by decide +kernel)
set_option maxRecDepth 20000 in
theorem gX3_read_X3_order : GoodIn wsX3_read (va_wsS RX3 81 yX3_order wsX3_order) := goodIn_app (goodIn_of _ (by decide +kernel)) ggX3_read_X3_order
theorem dX3_read_0 : decode cX3_read 0 = .ok (.aload_n 0, 1) := by decide +kernel
theorem dX3_read_1 : decode cX3_read 1 = .ok (.iconst 0, 1) := by decide +kernel
theorem dX3_read_2 : decode cX3_read 2 = .ok (.putfield 36, 3) := by decide +kernel
theorem dX3_read_5 : decode cX3_read 5 = .ok (.iload_n 1, 1) := by decide +kernel
theorem dX3_read_6 : decode cX3_read 6 = .ok (.ifCond .ne 10, 3) := by decide +kernel
theorem dX3_read_9 : decode cX3_read 9 = .ok (.aload_n 0, 1) := by decide +kernel
theorem dX3_read_10 : decode cX3_read 10 = .ok (.invokevirtual 74, 3) := by decide +kernel
theorem dX3_read_13 : decode cX3_read 13 = .ok (.goto 7, 3) := by decide +kernel
theorem dX3_read_16 : decode cX3_read 16 = .ok (.aload_n 0, 1) := by decide +kernel
theorem dX3_read_17 : decode cX3_read 17 = .ok (.invokevirtual 78, 3) := by decide +kernel
theorem dX3_read_20 : decode cX3_read 20 = .ok (.istore_n 2, 1) := by decide +kernel
theorem dX3_read_21 : decode cX3_read 21 = .ok (.aload_n 0, 1) := by decide +kernel
theorem dX3_read_22 : decode cX3_read 22 = .ok (.iconst 0, 1) := by decide +kernel
theorem dX3_read_23 : decode cX3_read 23 = .ok (.putfield 39, 3) := by decide +kernel
theorem dX3_read_26 : decode cX3_read 26 = .ok (.iload_n 2, 1) := by decide +kernel
theorem dX3_read_27 : decode cX3_read 27 = .ok (.iconst (-1), 1) := by decide +kernel
theorem dX3_read_28 : decode cX3_read 28 = .ok (.if_icmp .ne 10, 3) := by decide +kernel
theorem dX3_read_31 : decode cX3_read 31 = .ok (.iconst (-1), 1) := by decide +kernel
theorem dX3_read_32 : decode cX3_read 32 = .ok (.aload_n 0, 1) := by decide +kernel
theorem dX3_read_33 : decode cX3_read 33 = .ok (.getfield 55, 3) := by decide +kernel
theorem dX3_read_36 : decode cX3_read 36 = .ok (.isub, 1) := by decide +kernel
theorem dX3_read_37 : decode cX3_read 37 = .ok (.ireturn, 1) := by decide +kernel
theorem dX3_read_38 : decode cX3_read 38 = .ok (.aload_n 0, 1) := by decide +kernel
theorem dX3_read_39 : decode cX3_read 39 = .ok (.getfield 19, 3) := by decide +kernel
theorem dX3_read_42 : decode cX3_read 42 = .ok (.iload_n 2, 1) := by decide +kernel
theorem dX3_read_43 : decode cX3_read 43 = .ok (.invokestatic 81, 3) := by decide +kernel
theorem dX3_read_46 : decode cX3_read 46 = .ok (.aload_n 0, 1) := by decide +kernel
theorem dX3_read_47 : decode cX3_read 47 = .ok (.getfield 16, 3) := by decide +kernel
theorem dX3_read_50 : decode cX3_read 50 = .ok (.astore_n 3, 1) := by decide +kernel
theorem dX3_read_51 : decode cX3_read 51 = .ok (.aload_n 0, 1) := by decide +kernel
theorem dX3_read_52 : decode cX3_read 52 = .ok (.aload_n 0, 1) := by decide +kernel
theorem dX3_read_53 : decode cX3_read 53 = .ok (.getfield 13, 3) := by decide +kernel
theorem dX3_read_56 : decode cX3_read 56 = .ok (.putfield 16, 3) := by decide +kernel
theorem dX3_read_59 : decode cX3_read 59 = .ok (.aload_n 0, 1) := by decide +kernel
theorem dX3_read_60 : decode cX3_read 60 = .ok (.aload_n 0, 1) := by decide +kernel
theorem dX3_read_61 : decode cX3_read 61 = .ok (.getfield 85, 3) := by decide +kernel
theorem dX3_read_64 : decode cX3_read 64 = .ok (.putfield 88, 3) := by decide +kernel
theorem dX3_read_67 : decode cX3_read 67 = .ok (.aload_n 0, 1) := by decide +kernel
theorem dX3_read_68 : decode cX3_read 68 = .ok (.aload_n 3, 1) := by decide +kernel
theorem dX3_read_69 : decode cX3_read 69 = .ok (.putfield 13, 3) := by decide +kernel
theorem dX3_read_72 : decode cX3_read 72 = .ok (.aload_n 0, 1) := by decide +kernel
theorem dX3_read_73 : decode cX3_read 73 = .ok (.iload_n 2, 1) := by decide +kernel
theorem dX3_read_74 : decode cX3_read 74 = .ok (.putfield 85, 3) := by decide +kernel
theorem dX3_read_77 : decode cX3_read 77 = .ok (.iconst 0, 1) := by decide +kernel
theorem dX3_read_78 : decode cX3_read 78 = .ok (.istore 4, 2) := by decide +kernel
theorem dX3_read_80 : decode cX3_read 80 = .ok (.iload 4, 2) := by decide +kernel
theorem dX3_read_82 : decode cX3_read 82 = .ok (.iload_n 2, 1) := by decide +kernel
theorem dX3_read_83 : decode cX3_read 83 = .ok (.if_icmp .ge 23, 3) := by decide +kernel
theorem dX3_read_86 : decode cX3_read 86 = .ok (.aload_n 0, 1) := by decide +kernel
theorem dX3_read_87 : decode cX3_read 87 = .ok (.getfield 13, 3) := by decide +kernel
theorem dX3_read_90 : decode cX3_read 90 = .ok (.iload 4, 2) := by decide +kernel
theorem dX3_read_92 : decode cX3_read 92 = .ok (.aload_n 0, 1) := by decide +kernel
theorem dX3_read_93 : decode cX3_read 93 = .ok (.getfield 19, 3) := by decide +kernel
theorem dX3_read_96 : decode cX3_read 96 = .ok (.iload 4, 2) := by decide +kernel
theorem dX3_read_98 : decode cX3_read 98 = .ok (.iaload, 1) := by decide +kernel
theorem dX3_read_99 : decode cX3_read 99 = .ok (.iastore, 1) := by decide +kernel
theorem dX3_read_100 : decode cX3_read 100 = .ok (.iinc 4 1, 3) := by decide +kernel
theorem dX3_read_103 : decode cX3_read 103 = .ok (.goto (-23), 3) := by decide +kernel
theorem dX3_read_106 : decode cX3_read 106 = .ok (.iload_n 2, 1) := by decide +kernel
theorem dX3_read_107 : decode cX3_read 107 = .ok (.ireturn, 1) := by decide +kernel
theorem dX3_character_0 : decode cX3_character 0 = .ok (.aload_n 0, 1) := by decide +kernel
theorem dX3_character_1 : decode cX3_character 1 = .ok (.iconst 0, 1) := by decide +kernel
theorem dX3_character_2 : decode cX3_character 2 = .ok (.putfield 36, 3) := by decide +kernel
theorem dX3_character_5 : decode cX3_character 5 = .ok (.iload_n 1, 1) := by decide +kernel
theorem dX3_character_6 : decode cX3_character 6 = .ok (.ifCond .lt 11, 3) := by decide +kernel
theorem dX3_character_9 : decode cX3_character 9 = .ok (.iload_n 1, 1) := by decide +kernel
theorem dX3_character_10 : decode cX3_character 10 = .ok (.aload_n 0, 1) := by decide +kernel
theorem dX3_character_11 : decode cX3_character 11 = .ok (.getfield 85, 3) := by decide +kernel
theorem dX3_character_14 : decode cX3_character 14 = .ok (.if_icmp .lt 7, 3) := by decide +kernel
theorem dX3_character_17 : decode cX3_character 17 = .ok (.iconst (-1), 1) := by decide +kernel
theorem dX3_character_18 : decode cX3_character 18 = .ok (.goto 9, 3) := by decide +kernel
theorem dX3_character_21 : decode cX3_character 21 = .ok (.aload_n 0, 1) := by decide +kernel
theorem dX3_character_22 : decode cX3_character 22 = .ok (.getfield 13, 3) := by decide +kernel
theorem dX3_character_25 : decode cX3_character 25 = .ok (.iload_n 1, 1) := by decide +kernel
theorem dX3_character_26 : decode cX3_character 26 = .ok (.iaload, 1) := by decide +kernel
theorem dX3_character_27 : decode cX3_character 27 = .ok (.ireturn, 1) := by decide +kernel
theorem dX3_put_0 : decode cX3_put 0 = .ok (.aload_n 0, 1) := by decide +kernel
theorem dX3_put_1 : decode cX3_put 1 = .ok (.getfield 25, 3) := by decide +kernel
theorem dX3_put_4 : decode cX3_put 4 = .ok (.aload_n 0, 1) := by decide +kernel
theorem dX3_put_5 : decode cX3_put 5 = .ok (.getfield 91, 3) := by decide +kernel
theorem dX3_put_8 : decode cX3_put 8 = .ok (.iload_n 1, 1) := by decide +kernel
theorem dX3_put_9 : decode cX3_put 9 = .ok (.i2b, 1) := by decide +kernel
theorem dX3_put_10 : decode cX3_put 10 = .ok (.bastore, 1) := by decide +kernel
theorem dX3_put_11 : decode cX3_put 11 = .ok (.aload_n 0, 1) := by decide +kernel
theorem dX3_put_12 : decode cX3_put 12 = .ok (.dup, 1) := by decide +kernel
theorem dX3_put_13 : decode cX3_put 13 = .ok (.getfield 91, 3) := by decide +kernel
theorem dX3_put_16 : decode cX3_put 16 = .ok (.iconst 1, 1) := by decide +kernel
theorem dX3_put_17 : decode cX3_put 17 = .ok (.iadd, 1) := by decide +kernel
theorem dX3_put_18 : decode cX3_put 18 = .ok (.putfield 91, 3) := by decide +kernel
theorem dX3_put_21 : decode cX3_put 21 = .ok (.return_, 1) := by decide +kernel
theorem dX3_tell_0 : decode cX3_tell 0 = .ok (.aload_n 0, 1) := by decide +kernel
theorem dX3_tell_1 : decode cX3_tell 1 = .ok (.getfield 29, 3) := by decide +kernel
theorem dX3_tell_4 : decode cX3_tell 4 = .ok (.iconst 2, 1) := by decide +kernel
theorem dX3_tell_5 : decode cX3_tell 5 = .ok (.aload_n 0, 1) := by decide +kernel
theorem dX3_tell_6 : decode cX3_tell 6 = .ok (.getfield 94, 3) := by decide +kernel
theorem dX3_tell_9 : decode cX3_tell 9 = .ok (.imul, 1) := by decide +kernel
theorem dX3_tell_10 : decode cX3_tell 10 = .ok (.aload_n 0, 1) := by decide +kernel
theorem dX3_tell_11 : decode cX3_tell 11 = .ok (.getfield 13, 3) := by decide +kernel
theorem dX3_tell_14 : decode cX3_tell 14 = .ok (.iload_n 1, 1) := by decide +kernel
theorem dX3_tell_15 : decode cX3_tell 15 = .ok (.iaload, 1) := by decide +kernel
theorem dX3_tell_16 : decode cX3_tell 16 = .ok (.iastore, 1) := by decide +kernel
theorem dX3_tell_17 : decode cX3_tell 17 = .ok (.aload_n 0, 1) := by decide +kernel
theorem dX3_tell_18 : decode cX3_tell 18 = .ok (.getfield 29, 3) := by decide +kernel
theorem dX3_tell_21 : decode cX3_tell 21 = .ok (.iconst 2, 1) := by decide +kernel
theorem dX3_tell_22 : decode cX3_tell 22 = .ok (.aload_n 0, 1) := by decide +kernel
theorem dX3_tell_23 : decode cX3_tell 23 = .ok (.getfield 94, 3) := by decide +kernel
theorem dX3_tell_26 : decode cX3_tell 26 = .ok (.imul, 1) := by decide +kernel
theorem dX3_tell_27 : decode cX3_tell 27 = .ok (.iconst 1, 1) := by decide +kernel
theorem dX3_tell_28 : decode cX3_tell 28 = .ok (.iadd, 1) := by decide +kernel
theorem dX3_tell_29 : decode cX3_tell 29 = .ok (.iload_n 1, 1) := by decide +kernel
theorem dX3_tell_30 : decode cX3_tell 30 = .ok (.iastore, 1) := by decide +kernel
theorem dX3_tell_31 : decode cX3_tell 31 = .ok (.aload_n 0, 1) := by decide +kernel
theorem dX3_tell_32 : decode cX3_tell 32 = .ok (.dup, 1) := by decide +kernel
theorem dX3_tell_33 : decode cX3_tell 33 = .ok (.getfield 94, 3) := by decide +kernel
theorem dX3_tell_36 : decode cX3_tell 36 = .ok (.iconst 1, 1) := by decide +kernel
theorem dX3_tell_37 : decode cX3_tell 37 = .ok (.iadd, 1) := by decide +kernel
theorem dX3_tell_38 : decode cX3_tell 38 = .ok (.putfield 94, 3) := by decide +kernel
theorem dX3_tell_41 : decode cX3_tell 41 = .ok (.return_, 1) := by decide +kernel
set_option maxRecDepth 20000 in
theorem ggX3_putSet_X3_put : GoodIn wsX3_putSet wsX3_put := goodIn_r _ [5, 6, 7, 8, 9, 10, 11, 12, 13, 14, 15, 16, 17, 18, 19, 20, 21, 22] (by decide +kernel) (by decide +kernel)
set_option maxRecDepth 20000 in
theorem gX3_putSet_X3_put : GoodIn wsX3_putSet (wsV RX3 97 RX3 yX3_put wsX3_put) := goodIn_app (goodIn_of _ (by decide +kernel)) ggX3_putSet_X3_put
theorem dX3_putSet_0 : decode cX3_putSet 0 = .ok (.iload_n 1, 1) := by decide +kernel
theorem dX3_putSet_1 : decode cX3_putSet 1 = .ok (.bipush 100, 2) := by decide +kernel
theorem dX3_putSet_3 : decode cX3_putSet 3 = .ok (.idiv, 1) := by decide +kernel
theorem dX3_putSet_4 : decode cX3_putSet 4 = .ok (.istore_n 3, 1) := by decide +kernel
theorem dX3_putSet_5 : decode cX3_putSet 5 = .ok (.iload_n 3, 1) := by decide +kernel
theorem dX3_putSet_6 : decode cX3_putSet 6 = .ok (.iload_n 2, 1) := by decide +kernel
theorem dX3_putSet_7 : decode cX3_putSet 7 = .ok (.if_icmp .eq 23, 3) := by decide +kernel
theorem dX3_putSet_10 : decode cX3_putSet 10 = .ok (.aload_n 0, 1) := by decide +kernel
theorem dX3_putSet_11 : decode cX3_putSet 11 = .ok (.bipush 27, 2) := by decide +kernel
theorem dX3_putSet_13 : decode cX3_putSet 13 = .ok (.invokevirtual 97, 3) := by decide +kernel
theorem dX3_putSet_16 : decode cX3_putSet 16 = .ok (.aload_n 0, 1) := by decide +kernel
theorem dX3_putSet_17 : decode cX3_putSet 17 = .ok (.bipush 103, 2) := by decide +kernel
theorem dX3_putSet_19 : decode cX3_putSet 19 = .ok (.invokevirtual 97, 3) := by decide +kernel
theorem dX3_putSet_22 : decode cX3_putSet 22 = .ok (.aload_n 0, 1) := by decide +kernel
theorem dX3_putSet_23 : decode cX3_putSet 23 = .ok (.bipush 48, 2) := by decide +kernel
theorem dX3_putSet_25 : decode cX3_putSet 25 = .ok (.iload_n 3, 1) := by decide +kernel
theorem dX3_putSet_26 : decode cX3_putSet 26 = .ok (.iadd, 1) := by decide +kernel
theorem dX3_putSet_27 : decode cX3_putSet 27 = .ok (.invokevirtual 97, 3) := by decide +kernel
theorem dX3_putSet_30 : decode cX3_putSet 30 = .ok (.aload_n 0, 1) := by decide +kernel
theorem dX3_putSet_31 : decode cX3_putSet 31 = .ok (.sipush 161, 3) := by decide +kernel
theorem dX3_putSet_34 : decode cX3_putSet 34 = .ok (.iload_n 1, 1) := by decide +kernel
theorem dX3_putSet_35 : decode cX3_putSet 35 = .ok (.bipush 100, 2) := by decide +kernel
theorem dX3_putSet_37 : decode cX3_putSet 37 = .ok (.irem, 1) := by decide +kernel
theorem dX3_putSet_38 : decode cX3_putSet 38 = .ok (.iadd, 1) := by decide +kernel
theorem dX3_putSet_39 : decode cX3_putSet 39 = .ok (.invokevirtual 97, 3) := by decide +kernel
theorem dX3_putSet_42 : decode cX3_putSet 42 = .ok (.iload_n 3, 1) := by decide +kernel
theorem dX3_putSet_43 : decode cX3_putSet 43 = .ok (.ireturn, 1) := by decide +kernel
set_option maxRecDepth 20000 in
theorem ggX3_writeOld_X3_isMark : GoodIn wsX3_writeOld wsX3_isMark := goodIn_r _ [7] (by decide +kernel) (by decide +kernel)
set_option maxRecDepth 20000 in
theorem gX3_writeOld_X3_isMark : GoodIn wsX3_writeOld (va_wsS RX3 52 yX3_isMark wsX3_isMark) := goodIn_app (goodIn_of _ (by decide +kernel)) ggX3_writeOld_X3_isMark
set_option maxRecDepth 20000 in
theorem ggX3_writeOld_X3_find : GoodIn wsX3_writeOld wsX3_find := goodIn_r _ [10, 11, 12, 6, 13] (by decide +kernel) (by decide +kernel)
set_option maxRecDepth 20000 in
theorem gX3_writeOld_X3_find : GoodIn wsX3_writeOld (va_wsS RX3 68 yX3_find wsX3_find) := goodIn_app (goodIn_of _ (by decide +kernel)) ggX3_writeOld_X3_find
set_option maxRecDepth 20000 in
theorem ggX3_writeOld_X3_isPlain : GoodIn wsX3_writeOld wsX3_isPlain := goodIn_r _ [16] (by decide +kernel) (by decide +kernel)
set_option maxRecDepth 20000 in
theorem gX3_writeOld_X3_isPlain : GoodIn wsX3_writeOld (va_wsS RX3 65 yX3_isPlain wsX3_isPlain) := goodIn_app (goodIn_of _ (by decide +kernel)) ggX3_writeOld_X3_isPlain
set_option maxRecDepth 20000 in
theorem ggX3_writeOld_X3_putSet : GoodIn wsX3_writeOld wsX3_putSet := goodIn_r _ [20, 21, 22, 23, 6, 24, 25, 26, 33, 34, 35, 36, 37, 38, 39, 40, 41, 42, 43, 44, 45, 46, 47] (by decide +kernel) (by decide +kernel)
set_option maxRecDepth 20000 in
theorem gX3_writeOld_X3_putSet : GoodIn wsX3_writeOld (wsV RX3 101 RX3 yX3_putSet wsX3_putSet) := goodIn_app (goodIn_of _ (by decide +kernel)) ggX3_writeOld_X3_putSet
set_option maxRecDepth 20000 in
theorem ggX3_writeOld_X3_put : GoodIn wsX3_writeOld wsX3_put := goodIn_r _ [24, 25, 26, 33, 34, 35, 36, 37, 38, 39, 40, 41, 42, 43, 44, 45, 46, 47] (by decide +kernel) (by decide +kernel)
set_option maxRecDepth 20000 in
theorem gX3_writeOld_X3_put : GoodIn wsX3_writeOld (wsV RX3 97 RX3 yX3_put wsX3_put) := goodIn_app (goodIn_of _ (by decide +kernel)) ggX3_writeOld_X3_put
set_option maxRecDepth 20000 in
theorem ggX3_writeOld_X3_tell : GoodIn wsX3_writeOld wsX3_tell := goodIn_r _ [30, 31, 32, 2, 33, 34, 35, 36, 37, 38, 39, 40, 41, 42, 43, 44, 45, 46, 47] (by decide +kernel) (by decide +kernel)
set_option maxRecDepth 20000 in
theorem gX3_writeOld_X3_tell : GoodIn wsX3_writeOld (wsV RX3 104 RX3 yX3_tell wsX3_tell) := goodIn_app (goodIn_of _ (by decide +kernel)) ggX3_writeOld_X3_tell
theorem dX3_writeOld_0 : decode cX3_writeOld 0 = .ok (.iconst 0, 1) := by decide +kernel
theorem dX3_writeOld_1 : decode cX3_writeOld 1 = .ok (.istore_n 1, 1) := by decide +kernel
theorem dX3_writeOld_2 : decode cX3_writeOld 2 = .ok (.iconst 0, 1) := by decide +kernel
theorem dX3_writeOld_3 : decode cX3_writeOld 3 = .ok (.istore_n 2, 1) := by decide +kernel
theorem dX3_writeOld_4 : decode cX3_writeOld 4 = .ok (.iload_n 2, 1) := by decide +kernel
theorem dX3_writeOld_5 : decode cX3_writeOld 5 = .ok (.aload_n 0, 1) := by decide +kernel
theorem dX3_writeOld_6 : decode cX3_writeOld 6 = .ok (.getfield 85, 3) := by decide +kernel
theorem dX3_writeOld_9 : decode cX3_writeOld 9 = .ok (.if_icmp .ge 206, 3) := by decide +kernel
theorem dX3_writeOld_12 : decode cX3_writeOld 12 = .ok (.iload_n 2, 1) := by decide +kernel
theorem dX3_writeOld_13 : decode cX3_writeOld 13 = .ok (.iconst 1, 1) := by decide +kernel
theorem dX3_writeOld_14 : decode cX3_writeOld 14 = .ok (.iadd, 1) := by decide +kernel
theorem dX3_writeOld_15 : decode cX3_writeOld 15 = .ok (.istore_n 3, 1) := by decide +kernel
theorem dX3_writeOld_16 : decode cX3_writeOld 16 = .ok (.iload_n 3, 1) := by decide +kernel
theorem dX3_writeOld_17 : decode cX3_writeOld 17 = .ok (.aload_n 0, 1) := by decide +kernel
theorem dX3_writeOld_18 : decode cX3_writeOld 18 = .ok (.getfield 85, 3) := by decide +kernel
theorem dX3_writeOld_21 : decode cX3_writeOld 21 = .ok (.if_icmp .ge 21, 3) := by decide +kernel
theorem dX3_writeOld_24 : decode cX3_writeOld 24 = .ok (.aload_n 0, 1) := by decide +kernel
theorem dX3_writeOld_25 : decode cX3_writeOld 25 = .ok (.getfield 13, 3) := by decide +kernel
theorem dX3_writeOld_28 : decode cX3_writeOld 28 = .ok (.iload_n 3, 1) := by decide +kernel
theorem dX3_writeOld_29 : decode cX3_writeOld 29 = .ok (.iaload, 1) := by decide +kernel
theorem dX3_writeOld_30 : decode cX3_writeOld 30 = .ok (.invokestatic 52, 3) := by decide +kernel
theorem dX3_writeOld_33 : decode cX3_writeOld 33 = .ok (.ifCond .eq 9, 3) := by decide +kernel
theorem dX3_writeOld_36 : decode cX3_writeOld 36 = .ok (.iinc 3 1, 3) := by decide +kernel
theorem dX3_writeOld_39 : decode cX3_writeOld 39 = .ok (.goto (-23), 3) := by decide +kernel
theorem dX3_writeOld_42 : decode cX3_writeOld 42 = .ok (.aload_n 0, 1) := by decide +kernel
theorem dX3_writeOld_43 : decode cX3_writeOld 43 = .ok (.getfield 13, 3) := by decide +kernel
theorem dX3_writeOld_46 : decode cX3_writeOld 46 = .ok (.iload_n 2, 1) := by decide +kernel
theorem dX3_writeOld_47 : decode cX3_writeOld 47 = .ok (.iaload, 1) := by decide +kernel
theorem dX3_writeOld_48 : decode cX3_writeOld 48 = .ok (.invokestatic 68, 3) := by decide +kernel
theorem dX3_writeOld_51 : decode cX3_writeOld 51 = .ok (.istore 4, 2) := by decide +kernel
theorem dX3_writeOld_53 : decode cX3_writeOld 53 = .ok (.aload_n 0, 1) := by decide +kernel
theorem dX3_writeOld_54 : decode cX3_writeOld 54 = .ok (.getfield 13, 3) := by decide +kernel
theorem dX3_writeOld_57 : decode cX3_writeOld 57 = .ok (.iload_n 2, 1) := by decide +kernel
theorem dX3_writeOld_58 : decode cX3_writeOld 58 = .ok (.iaload, 1) := by decide +kernel
theorem dX3_writeOld_59 : decode cX3_writeOld 59 = .ok (.invokestatic 65, 3) := by decide +kernel
theorem dX3_writeOld_62 : decode cX3_writeOld 62 = .ok (.ifCond .ne 21, 3) := by decide +kernel
theorem dX3_writeOld_65 : decode cX3_writeOld 65 = .ok (.iload 4, 2) := by decide +kernel
theorem dX3_writeOld_67 : decode cX3_writeOld 67 = .ok (.iconst (-1), 1) := by decide +kernel
theorem dX3_writeOld_68 : decode cX3_writeOld 68 = .ok (.if_icmp .eq 19, 3) := by decide +kernel
theorem dX3_writeOld_71 : decode cX3_writeOld 71 = .ok (.aload_n 0, 1) := by decide +kernel
theorem dX3_writeOld_72 : decode cX3_writeOld 72 = .ok (.getfield 13, 3) := by decide +kernel
theorem dX3_writeOld_75 : decode cX3_writeOld 75 = .ok (.iload_n 2, 1) := by decide +kernel
theorem dX3_writeOld_76 : decode cX3_writeOld 76 = .ok (.iaload, 1) := by decide +kernel
theorem dX3_writeOld_77 : decode cX3_writeOld 77 = .ok (.invokestatic 52, 3) := by decide +kernel
theorem dX3_writeOld_80 : decode cX3_writeOld 80 = .ok (.ifCond .ne 7, 3) := by decide +kernel
theorem dX3_writeOld_83 : decode cX3_writeOld 83 = .ok (.iconst 1, 1) := by decide +kernel
theorem dX3_writeOld_84 : decode cX3_writeOld 84 = .ok (.goto 4, 3) := by decide +kernel
theorem dX3_writeOld_87 : decode cX3_writeOld 87 = .ok (.iconst 0, 1) := by decide +kernel
theorem dX3_writeOld_88 : decode cX3_writeOld 88 = .ok (.istore 5, 2) := by decide +kernel
theorem dX3_writeOld_90 : decode cX3_writeOld 90 = .ok (.iload_n 2, 1) := by decide +kernel
theorem dX3_writeOld_91 : decode cX3_writeOld 91 = .ok (.iconst 1, 1) := by decide +kernel
theorem dX3_writeOld_92 : decode cX3_writeOld 92 = .ok (.iadd, 1) := by decide +kernel
theorem dX3_writeOld_93 : decode cX3_writeOld 93 = .ok (.istore 6, 2) := by decide +kernel
theorem dX3_writeOld_95 : decode cX3_writeOld 95 = .ok (.iload 6, 2) := by decide +kernel
theorem dX3_writeOld_97 : decode cX3_writeOld 97 = .ok (.iload_n 3, 1) := by decide +kernel
theorem dX3_writeOld_98 : decode cX3_writeOld 98 = .ok (.if_icmp .ge 30, 3) := by decide +kernel
theorem dX3_writeOld_101 : decode cX3_writeOld 101 = .ok (.iload 5, 2) := by decide +kernel
theorem dX3_writeOld_103 : decode cX3_writeOld 103 = .ok (.ifCond .eq 25, 3) := by decide +kernel
theorem dX3_writeOld_106 : decode cX3_writeOld 106 = .ok (.aload_n 0, 1) := by decide +kernel
theorem dX3_writeOld_107 : decode cX3_writeOld 107 = .ok (.aload_n 0, 1) := by decide +kernel
theorem dX3_writeOld_108 : decode cX3_writeOld 108 = .ok (.getfield 13, 3) := by decide +kernel
theorem dX3_writeOld_111 : decode cX3_writeOld 111 = .ok (.iload 6, 2) := by decide +kernel
theorem dX3_writeOld_113 : decode cX3_writeOld 113 = .ok (.iaload, 1) := by decide +kernel
theorem dX3_writeOld_114 : decode cX3_writeOld 114 = .ok (.invokestatic 68, 3) := by decide +kernel
theorem dX3_writeOld_117 : decode cX3_writeOld 117 = .ok (.iload_n 1, 1) := by decide +kernel
theorem dX3_writeOld_118 : decode cX3_writeOld 118 = .ok (.invokevirtual 101, 3) := by decide +kernel
theorem dX3_writeOld_121 : decode cX3_writeOld 121 = .ok (.istore_n 1, 1) := by decide +kernel
theorem dX3_writeOld_122 : decode cX3_writeOld 122 = .ok (.iinc 6 1, 3) := by decide +kernel
theorem dX3_writeOld_125 : decode cX3_writeOld 125 = .ok (.goto (-30), 3) := by decide +kernel
theorem dX3_writeOld_128 : decode cX3_writeOld 128 = .ok (.aload_n 0, 1) := by decide +kernel
theorem dX3_writeOld_129 : decode cX3_writeOld 129 = .ok (.getfield 13, 3) := by decide +kernel
theorem dX3_writeOld_132 : decode cX3_writeOld 132 = .ok (.iload_n 2, 1) := by decide +kernel
theorem dX3_writeOld_133 : decode cX3_writeOld 133 = .ok (.iaload, 1) := by decide +kernel
theorem dX3_writeOld_134 : decode cX3_writeOld 134 = .ok (.invokestatic 65, 3) := by decide +kernel
theorem dX3_writeOld_137 : decode cX3_writeOld 137 = .ok (.ifCond .eq 16, 3) := by decide +kernel
theorem dX3_writeOld_140 : decode cX3_writeOld 140 = .ok (.aload_n 0, 1) := by decide +kernel
theorem dX3_writeOld_141 : decode cX3_writeOld 141 = .ok (.aload_n 0, 1) := by decide +kernel
theorem dX3_writeOld_142 : decode cX3_writeOld 142 = .ok (.getfield 13, 3) := by decide +kernel
theorem dX3_writeOld_145 : decode cX3_writeOld 145 = .ok (.iload_n 2, 1) := by decide +kernel
theorem dX3_writeOld_146 : decode cX3_writeOld 146 = .ok (.iaload, 1) := by decide +kernel
theorem dX3_writeOld_147 : decode cX3_writeOld 147 = .ok (.invokevirtual 97, 3) := by decide +kernel
theorem dX3_writeOld_150 : decode cX3_writeOld 150 = .ok (.goto 60, 3) := by decide +kernel
theorem dX3_writeOld_153 : decode cX3_writeOld 153 = .ok (.iload 5, 2) := by decide +kernel
theorem dX3_writeOld_155 : decode cX3_writeOld 155 = .ok (.ifCond .eq 14, 3) := by decide +kernel
theorem dX3_writeOld_158 : decode cX3_writeOld 158 = .ok (.aload_n 0, 1) := by decide +kernel
theorem dX3_writeOld_159 : decode cX3_writeOld 159 = .ok (.iload 4, 2) := by decide +kernel
theorem dX3_writeOld_161 : decode cX3_writeOld 161 = .ok (.iload_n 1, 1) := by decide +kernel
theorem dX3_writeOld_162 : decode cX3_writeOld 162 = .ok (.invokevirtual 101, 3) := by decide +kernel
theorem dX3_writeOld_165 : decode cX3_writeOld 165 = .ok (.istore_n 1, 1) := by decide +kernel
theorem dX3_writeOld_166 : decode cX3_writeOld 166 = .ok (.goto 44, 3) := by decide +kernel
theorem dX3_writeOld_169 : decode cX3_writeOld 169 = .ok (.iload_n 2, 1) := by decide +kernel
theorem dX3_writeOld_170 : decode cX3_writeOld 170 = .ok (.istore 6, 2) := by decide +kernel
theorem dX3_writeOld_172 : decode cX3_writeOld 172 = .ok (.iload 6, 2) := by decide +kernel
theorem dX3_writeOld_174 : decode cX3_writeOld 174 = .ok (.iload_n 3, 1) := by decide +kernel
theorem dX3_writeOld_175 : decode cX3_writeOld 175 = .ok (.if_icmp .ge 15, 3) := by decide +kernel
theorem dX3_writeOld_178 : decode cX3_writeOld 178 = .ok (.aload_n 0, 1) := by decide +kernel
theorem dX3_writeOld_179 : decode cX3_writeOld 179 = .ok (.iload 6, 2) := by decide +kernel
theorem dX3_writeOld_181 : decode cX3_writeOld 181 = .ok (.invokevirtual 104, 3) := by decide +kernel
theorem dX3_writeOld_184 : decode cX3_writeOld 184 = .ok (.iinc 6 1, 3) := by decide +kernel
theorem dX3_writeOld_187 : decode cX3_writeOld 187 = .ok (.goto (-15), 3) := by decide +kernel
theorem dX3_writeOld_190 : decode cX3_writeOld 190 = .ok (.aload_n 0, 1) := by decide +kernel
theorem dX3_writeOld_191 : decode cX3_writeOld 191 = .ok (.getfield 13, 3) := by decide +kernel
theorem dX3_writeOld_194 : decode cX3_writeOld 194 = .ok (.iload_n 2, 1) := by decide +kernel
theorem dX3_writeOld_195 : decode cX3_writeOld 195 = .ok (.iaload, 1) := by decide +kernel
theorem dX3_writeOld_196 : decode cX3_writeOld 196 = .ok (.invokestatic 52, 3) := by decide +kernel
theorem dX3_writeOld_199 : decode cX3_writeOld 199 = .ok (.ifCond .ne 11, 3) := by decide +kernel
theorem dX3_writeOld_202 : decode cX3_writeOld 202 = .ok (.aload_n 0, 1) := by decide +kernel
theorem dX3_writeOld_203 : decode cX3_writeOld 203 = .ok (.aload_n 0, 1) := by decide +kernel
theorem dX3_writeOld_204 : decode cX3_writeOld 204 = .ok (.getfield 32, 3) := by decide +kernel
theorem dX3_writeOld_207 : decode cX3_writeOld 207 = .ok (.invokevirtual 97, 3) := by decide +kernel
theorem dX3_writeOld_210 : decode cX3_writeOld 210 = .ok (.iload_n 3, 1) := by decide +kernel
theorem dX3_writeOld_211 : decode cX3_writeOld 211 = .ok (.istore_n 2, 1) := by decide +kernel
theorem dX3_writeOld_212 : decode cX3_writeOld 212 = .ok (.goto (-208), 3) := by decide +kernel
theorem dX3_writeOld_215 : decode cX3_writeOld 215 = .ok (.return_, 1) := by decide +kernel
set_option maxRecDepth 20000 in
theorem ggX3_write_X3_writeOld : GoodIn wsX3_write wsX3_writeOld := goodIn_r _ [10, 4, 5, 11, 12, 13, 9, 14, 15, 16, 17, 18, 19, 20, 21, 22, 23, 24, 25, 26, 27, 28, 29, 30, 31, 32, 2, 33, 34, 35, 36, 37, 3, 38, 39, 40, 41, 42, 43, 44, 45, 46, 47, 48, 49, 50, 51, 52] (by decide +kernel) (by decide +kernel)
set_option maxRecDepth 20000 in
theorem gX3_write_X3_writeOld : GoodIn wsX3_write (wsV RX3 107 RX3 yX3_writeOld wsX3_writeOld) := goodIn_app (goodIn_of _ (by decide +kernel)) ggX3_write_X3_writeOld
set_option maxRecDepth 20000 in
theorem ggX3_write_X3_put : GoodIn wsX3_write wsX3_put := goodIn_r _ [31, 32, 2, 38, 39, 40, 41, 42, 43, 44, 45, 46, 47, 48, 49, 50, 51, 52] (by decide +kernel) (by decide +kernel)
set_option maxRecDepth 20000 in
theorem gX3_write_X3_put : GoodIn wsX3_write (wsV RX3 97 RX3 yX3_put wsX3_put) := goodIn_app (goodIn_of _ (by decide +kernel)) ggX3_write_X3_put
theorem dX3_write_0 : decode cX3_write 0 = .ok (.aload_n 0, 1) := by decide +kernel
theorem dX3_write_1 : decode cX3_write 1 = .ok (.iconst 0, 1) := by decide +kernel
theorem dX3_write_2 : decode cX3_write 2 = .ok (.putfield 36, 3) := by decide +kernel
theorem dX3_write_5 : decode cX3_write 5 = .ok (.aload_n 0, 1) := by decide +kernel
theorem dX3_write_6 : decode cX3_write 6 = .ok (.iconst 0, 1) := by decide +kernel
theorem dX3_write_7 : decode cX3_write 7 = .ok (.putfield 91, 3) := by decide +kernel
theorem dX3_write_10 : decode cX3_write 10 = .ok (.aload_n 0, 1) := by decide +kernel
theorem dX3_write_11 : decode cX3_write 11 = .ok (.iconst 0, 1) := by decide +kernel
theorem dX3_write_12 : decode cX3_write 12 = .ok (.putfield 94, 3) := by decide +kernel
theorem dX3_write_15 : decode cX3_write 15 = .ok (.iload_n 1, 1) := by decide +kernel
theorem dX3_write_16 : decode cX3_write 16 = .ok (.ifCond .ne 12, 3) := by decide +kernel
theorem dX3_write_19 : decode cX3_write 19 = .ok (.aload_n 0, 1) := by decide +kernel
theorem dX3_write_20 : decode cX3_write 20 = .ok (.invokevirtual 107, 3) := by decide +kernel
theorem dX3_write_23 : decode cX3_write 23 = .ok (.aload_n 0, 1) := by decide +kernel
theorem dX3_write_24 : decode cX3_write 24 = .ok (.getfield 91, 3) := by decide +kernel
theorem dX3_write_27 : decode cX3_write 27 = .ok (.ireturn, 1) := by decide +kernel
theorem dX3_write_28 : decode cX3_write 28 = .ok (.iconst 0, 1) := by decide +kernel
theorem dX3_write_29 : decode cX3_write 29 = .ok (.istore_n 2, 1) := by decide +kernel
theorem dX3_write_30 : decode cX3_write 30 = .ok (.iload_n 2, 1) := by decide +kernel
theorem dX3_write_31 : decode cX3_write 31 = .ok (.aload_n 0, 1) := by decide +kernel
theorem dX3_write_32 : decode cX3_write 32 = .ok (.getfield 85, 3) := by decide +kernel
theorem dX3_write_35 : decode cX3_write 35 = .ok (.if_icmp .ge 105, 3) := by decide +kernel
theorem dX3_write_38 : decode cX3_write 38 = .ok (.aload_n 0, 1) := by decide +kernel
theorem dX3_write_39 : decode cX3_write 39 = .ok (.getfield 13, 3) := by decide +kernel
theorem dX3_write_42 : decode cX3_write 42 = .ok (.iload_n 2, 1) := by decide +kernel
theorem dX3_write_43 : decode cX3_write 43 = .ok (.iaload, 1) := by decide +kernel
theorem dX3_write_44 : decode cX3_write 44 = .ok (.istore_n 3, 1) := by decide +kernel
theorem dX3_write_45 : decode cX3_write 45 = .ok (.iload_n 3, 1) := by decide +kernel
theorem dX3_write_46 : decode cX3_write 46 = .ok (.sipush 128, 3) := by decide +kernel
theorem dX3_write_49 : decode cX3_write 49 = .ok (.if_icmp .ge 11, 3) := by decide +kernel
theorem dX3_write_52 : decode cX3_write 52 = .ok (.aload_n 0, 1) := by decide +kernel
theorem dX3_write_53 : decode cX3_write 53 = .ok (.iload_n 3, 1) := by decide +kernel
theorem dX3_write_54 : decode cX3_write 54 = .ok (.invokevirtual 97, 3) := by decide +kernel
theorem dX3_write_57 : decode cX3_write 57 = .ok (.goto 77, 3) := by decide +kernel
theorem dX3_write_60 : decode cX3_write 60 = .ok (.iload_n 3, 1) := by decide +kernel
theorem dX3_write_61 : decode cX3_write 61 = .ok (.sipush 2048, 3) := by decide +kernel
theorem dX3_write_64 : decode cX3_write 64 = .ok (.if_icmp .ge 30, 3) := by decide +kernel
theorem dX3_write_67 : decode cX3_write 67 = .ok (.aload_n 0, 1) := by decide +kernel
theorem dX3_write_68 : decode cX3_write 68 = .ok (.sipush 192, 3) := by decide +kernel
theorem dX3_write_71 : decode cX3_write 71 = .ok (.iload_n 3, 1) := by decide +kernel
theorem dX3_write_72 : decode cX3_write 72 = .ok (.bipush 64, 2) := by decide +kernel
theorem dX3_write_74 : decode cX3_write 74 = .ok (.idiv, 1) := by decide +kernel
theorem dX3_write_75 : decode cX3_write 75 = .ok (.iadd, 1) := by decide +kernel
theorem dX3_write_76 : decode cX3_write 76 = .ok (.invokevirtual 97, 3) := by decide +kernel
theorem dX3_write_79 : decode cX3_write 79 = .ok (.aload_n 0, 1) := by decide +kernel
theorem dX3_write_80 : decode cX3_write 80 = .ok (.sipush 128, 3) := by decide +kernel
theorem dX3_write_83 : decode cX3_write 83 = .ok (.iload_n 3, 1) := by decide +kernel
theorem dX3_write_84 : decode cX3_write 84 = .ok (.bipush 64, 2) := by decide +kernel
theorem dX3_write_86 : decode cX3_write 86 = .ok (.irem, 1) := by decide +kernel
theorem dX3_write_87 : decode cX3_write 87 = .ok (.iadd, 1) := by decide +kernel
theorem dX3_write_88 : decode cX3_write 88 = .ok (.invokevirtual 97, 3) := by decide +kernel
theorem dX3_write_91 : decode cX3_write 91 = .ok (.goto 43, 3) := by decide +kernel
theorem dX3_write_94 : decode cX3_write 94 = .ok (.aload_n 0, 1) := by decide +kernel
theorem dX3_write_95 : decode cX3_write 95 = .ok (.sipush 224, 3) := by decide +kernel
theorem dX3_write_98 : decode cX3_write 98 = .ok (.iload_n 3, 1) := by decide +kernel
theorem dX3_write_99 : decode cX3_write 99 = .ok (.sipush 4096, 3) := by decide +kernel
theorem dX3_write_102 : decode cX3_write 102 = .ok (.idiv, 1) := by decide +kernel
theorem dX3_write_103 : decode cX3_write 103 = .ok (.iadd, 1) := by decide +kernel
theorem dX3_write_104 : decode cX3_write 104 = .ok (.invokevirtual 97, 3) := by decide +kernel
theorem dX3_write_107 : decode cX3_write 107 = .ok (.aload_n 0, 1) := by decide +kernel
theorem dX3_write_108 : decode cX3_write 108 = .ok (.sipush 128, 3) := by decide +kernel
theorem dX3_write_111 : decode cX3_write 111 = .ok (.iload_n 3, 1) := by decide +kernel
theorem dX3_write_112 : decode cX3_write 112 = .ok (.bipush 64, 2) := by decide +kernel
theorem dX3_write_114 : decode cX3_write 114 = .ok (.idiv, 1) := by decide +kernel
theorem dX3_write_115 : decode cX3_write 115 = .ok (.bipush 64, 2) := by decide +kernel
theorem dX3_write_117 : decode cX3_write 117 = .ok (.irem, 1) := by decide +kernel
theorem dX3_write_118 : decode cX3_write 118 = .ok (.iadd, 1) := by decide +kernel
theorem dX3_write_119 : decode cX3_write 119 = .ok (.invokevirtual 97, 3) := by decide +kernel
theorem dX3_write_122 : decode cX3_write 122 = .ok (.aload_n 0, 1) := by decide +kernel
theorem dX3_write_123 : decode cX3_write 123 = .ok (.sipush 128, 3) := by decide +kernel
theorem dX3_write_126 : decode cX3_write 126 = .ok (.iload_n 3, 1) := by decide +kernel
theorem dX3_write_127 : decode cX3_write 127 = .ok (.bipush 64, 2) := by decide +kernel
theorem dX3_write_129 : decode cX3_write 129 = .ok (.irem, 1) := by decide +kernel
theorem dX3_write_130 : decode cX3_write 130 = .ok (.iadd, 1) := by decide +kernel
theorem dX3_write_131 : decode cX3_write 131 = .ok (.invokevirtual 97, 3) := by decide +kernel
theorem dX3_write_134 : decode cX3_write 134 = .ok (.iinc 2 1, 3) := by decide +kernel
theorem dX3_write_137 : decode cX3_write 137 = .ok (.goto (-107), 3) := by decide +kernel
theorem dX3_write_140 : decode cX3_write 140 = .ok (.aload_n 0, 1) := by decide +kernel
theorem dX3_write_141 : decode cX3_write 141 = .ok (.getfield 91, 3) := by decide +kernel
theorem dX3_write_144 : decode cX3_write 144 = .ok (.ireturn, 1) := by decide +kernel
theorem dX3_octet2_0 : decode cX3_octet2 0 = .ok (.aload_n 0, 1) := by decide +kernel
theorem dX3_octet2_1 : decode cX3_octet2 1 = .ok (.iconst 0, 1) := by decide +kernel
theorem dX3_octet2_2 : decode cX3_octet2 2 = .ok (.putfield 36, 3) := by decide +kernel
theorem dX3_octet2_5 : decode cX3_octet2 5 = .ok (.iload_n 1, 1) := by decide +kernel
theorem dX3_octet2_6 : decode cX3_octet2 6 = .ok (.ifCond .lt 11, 3) := by decide +kernel
theorem dX3_octet2_9 : decode cX3_octet2 9 = .ok (.iload_n 1, 1) := by decide +kernel
theorem dX3_octet2_10 : decode cX3_octet2 10 = .ok (.aload_n 0, 1) := by decide +kernel
theorem dX3_octet2_11 : decode cX3_octet2 11 = .ok (.getfield 91, 3) := by decide +kernel
theorem dX3_octet2_14 : decode cX3_octet2 14 = .ok (.if_icmp .lt 7, 3) := by decide +kernel
theorem dX3_octet2_17 : decode cX3_octet2 17 = .ok (.iconst 0, 1) := by decide +kernel
theorem dX3_octet2_18 : decode cX3_octet2 18 = .ok (.goto 9, 3) := by decide +kernel
theorem dX3_octet2_21 : decode cX3_octet2 21 = .ok (.aload_n 0, 1) := by decide +kernel
theorem dX3_octet2_22 : decode cX3_octet2 22 = .ok (.getfield 25, 3) := by decide +kernel
theorem dX3_octet2_25 : decode cX3_octet2 25 = .ok (.iload_n 1, 1) := by decide +kernel
theorem dX3_octet2_26 : decode cX3_octet2 26 = .ok (.baload, 1) := by decide +kernel
theorem dX3_octet2_27 : decode cX3_octet2 27 = .ok (.ireturn, 1) := by decide +kernel
theorem dX3_told_0 : decode cX3_told 0 = .ok (.aload_n 0, 1) := by decide +kernel
theorem dX3_told_1 : decode cX3_told 1 = .ok (.iconst 0, 1) := by decide +kernel
theorem dX3_told_2 : decode cX3_told 2 = .ok (.putfield 36, 3) := by decide +kernel
theorem dX3_told_5 : decode cX3_told 5 = .ok (.iload_n 1, 1) := by decide +kernel
theorem dX3_told_6 : decode cX3_told 6 = .ok (.ifCond .lt 20, 3) := by decide +kernel
theorem dX3_told_9 : decode cX3_told 9 = .ok (.iload_n 1, 1) := by decide +kernel
theorem dX3_told_10 : decode cX3_told 10 = .ok (.aload_n 0, 1) := by decide +kernel
theorem dX3_told_11 : decode cX3_told 11 = .ok (.getfield 94, 3) := by decide +kernel
theorem dX3_told_14 : decode cX3_told 14 = .ok (.if_icmp .ge 12, 3) := by decide +kernel
theorem dX3_told_17 : decode cX3_told 17 = .ok (.iload_n 2, 1) := by decide +kernel
theorem dX3_told_18 : decode cX3_told 18 = .ok (.ifCond .lt 8, 3) := by decide +kernel
theorem dX3_told_21 : decode cX3_told 21 = .ok (.iload_n 2, 1) := by decide +kernel
theorem dX3_told_22 : decode cX3_told 22 = .ok (.iconst 1, 1) := by decide +kernel
theorem dX3_told_23 : decode cX3_told 23 = .ok (.if_icmp .le 7, 3) := by decide +kernel
theorem dX3_told_26 : decode cX3_told 26 = .ok (.iconst (-1), 1) := by decide +kernel
theorem dX3_told_27 : decode cX3_told 27 = .ok (.goto 13, 3) := by decide +kernel
theorem dX3_told_30 : decode cX3_told 30 = .ok (.aload_n 0, 1) := by decide +kernel
theorem dX3_told_31 : decode cX3_told 31 = .ok (.getfield 29, 3) := by decide +kernel
theorem dX3_told_34 : decode cX3_told 34 = .ok (.iconst 2, 1) := by decide +kernel
theorem dX3_told_35 : decode cX3_told 35 = .ok (.iload_n 1, 1) := by decide +kernel
theorem dX3_told_36 : decode cX3_told 36 = .ok (.imul, 1) := by decide +kernel
theorem dX3_told_37 : decode cX3_told 37 = .ok (.iload_n 2, 1) := by decide +kernel
theorem dX3_told_38 : decode cX3_told 38 = .ok (.iadd, 1) := by decide +kernel
theorem dX3_told_39 : decode cX3_told 39 = .ok (.iaload, 1) := by decide +kernel
theorem dX3_told_40 : decode cX3_told 40 = .ok (.ireturn, 1) := by decide +kernel
set_option maxRecDepth 20000 in
theorem ggX3_stand_X3_isPlain : GoodIn wsX3_stand wsX3_isPlain := goodIn_r _ [6] (by decide +kernel) (by decide +kernel)
set_option maxRecDepth 20000 in
theorem gX3_stand_X3_isPlain : GoodIn wsX3_stand (va_wsS RX3 65 yX3_isPlain wsX3_isPlain) := goodIn_app (goodIn_of _ (by decide +kernel)) ggX3_stand_X3_isPlain
theorem dX3_stand_0 : decode cX3_stand 0 = .ok (.aload_n 0, 1) := by decide +kernel
theorem dX3_stand_1 : decode cX3_stand 1 = .ok (.iconst 0, 1) := by decide +kernel
theorem dX3_stand_2 : decode cX3_stand 2 = .ok (.putfield 36, 3) := by decide +kernel
theorem dX3_stand_5 : decode cX3_stand 5 = .ok (.iload_n 1, 1) := by decide +kernel
theorem dX3_stand_6 : decode cX3_stand 6 = .ok (.invokestatic 65, 3) := by decide +kernel
theorem dX3_stand_9 : decode cX3_stand 9 = .ok (.ifCond .ne 5, 3) := by decide +kernel
theorem dX3_stand_12 : decode cX3_stand 12 = .ok (.iconst (-1), 1) := by decide +kernel
theorem dX3_stand_13 : decode cX3_stand 13 = .ok (.ireturn, 1) := by decide +kernel
theorem dX3_stand_14 : decode cX3_stand 14 = .ok (.aload_n 0, 1) := by decide +kernel
theorem dX3_stand_15 : decode cX3_stand 15 = .ok (.getfield 32, 3) := by decide +kernel
theorem dX3_stand_18 : decode cX3_stand 18 = .ok (.istore_n 2, 1) := by decide +kernel
theorem dX3_stand_19 : decode cX3_stand 19 = .ok (.aload_n 0, 1) := by decide +kernel
theorem dX3_stand_20 : decode cX3_stand 20 = .ok (.iload_n 1, 1) := by decide +kernel
theorem dX3_stand_21 : decode cX3_stand 21 = .ok (.putfield 32, 3) := by decide +kernel
theorem dX3_stand_24 : decode cX3_stand 24 = .ok (.iload_n 2, 1) := by decide +kernel
theorem dX3_stand_25 : decode cX3_stand 25 = .ok (.ireturn, 1) := by decide +kernel
set_option maxRecDepth 20000 in
theorem ggX3_apart_X3_isComposed : GoodIn wsX3_apart wsX3_isComposed := goodIn_r _ [4, 5, 6, 7, 8, 3, 9] (by decide +kernel) (by decide +kernel)
set_option maxRecDepth 20000 in
theorem gX3_apart_X3_isComposed : GoodIn wsX3_apart (va_wsS RX3 71 yX3_isComposed wsX3_isComposed) := goodIn_app (goodIn_of _ (by decide +kernel)) ggX3_apart_X3_isComposed
set_option maxRecDepth 20000 in
theorem ggX3_apart_X3_letterOf : GoodIn wsX3_apart wsX3_letterOf := goodIn_r _ [12, 5] (by decide +kernel) (by decide +kernel)
set_option maxRecDepth 20000 in
theorem gX3_apart_X3_letterOf : GoodIn wsX3_apart (va_wsS RX3 110 yX3_letterOf wsX3_letterOf) := goodIn_app (goodIn_of _ (by decide +kernel)) ggX3_apart_X3_letterOf
set_option maxRecDepth 20000 in
theorem ggX3_apart_X3_markOf : GoodIn wsX3_apart wsX3_markOf := goodIn_r _ [15, 5] (by decide +kernel) (by decide +kernel)
set_option maxRecDepth 20000 in
theorem gX3_apart_X3_markOf : GoodIn wsX3_apart (va_wsS RX3 113 yX3_markOf wsX3_markOf) := goodIn_app (goodIn_of _ (by decide +kernel)) ggX3_apart_X3_markOf
set_option maxRecDepth 20000 in
theorem ggX3_apart_X3_order : GoodIn wsX3_apart wsX3_order := goodIn_r _ [18, 19, 20, 3, 21] (by decide +kernel) (by decide +kernel)
set_option maxRecDepth 20000 in
theorem gX3_apart_X3_order : GoodIn wsX3_apart (va_wsS RX3 81 yX3_order wsX3_order) := goodIn_app (goodIn_of _ (by decide +kernel)) ggX3_apart_X3_order
theorem dX3_apart_0 : decode cX3_apart 0 = .ok (.iconst 0, 1) := by decide +kernel
theorem dX3_apart_1 : decode cX3_apart 1 = .ok (.istore_n 3, 1) := by decide +kernel
theorem dX3_apart_2 : decode cX3_apart 2 = .ok (.iconst 0, 1) := by decide +kernel
theorem dX3_apart_3 : decode cX3_apart 3 = .ok (.istore 4, 2) := by decide +kernel
theorem dX3_apart_5 : decode cX3_apart 5 = .ok (.iload 4, 2) := by decide +kernel
theorem dX3_apart_7 : decode cX3_apart 7 = .ok (.iload_n 1, 1) := by decide +kernel
theorem dX3_apart_8 : decode cX3_apart 8 = .ok (.if_icmp .ge 61, 3) := by decide +kernel
theorem dX3_apart_11 : decode cX3_apart 11 = .ok (.aload_n 0, 1) := by decide +kernel
theorem dX3_apart_12 : decode cX3_apart 12 = .ok (.iload 4, 2) := by decide +kernel
theorem dX3_apart_14 : decode cX3_apart 14 = .ok (.iaload, 1) := by decide +kernel
theorem dX3_apart_15 : decode cX3_apart 15 = .ok (.invokestatic 71, 3) := by decide +kernel
theorem dX3_apart_18 : decode cX3_apart 18 = .ok (.istore 5, 2) := by decide +kernel
theorem dX3_apart_20 : decode cX3_apart 20 = .ok (.aload_n 2, 1) := by decide +kernel
theorem dX3_apart_21 : decode cX3_apart 21 = .ok (.iload_n 3, 1) := by decide +kernel
theorem dX3_apart_22 : decode cX3_apart 22 = .ok (.iload 5, 2) := by decide +kernel
theorem dX3_apart_24 : decode cX3_apart 24 = .ok (.ifCond .eq 13, 3) := by decide +kernel
theorem dX3_apart_27 : decode cX3_apart 27 = .ok (.aload_n 0, 1) := by decide +kernel
theorem dX3_apart_28 : decode cX3_apart 28 = .ok (.iload 4, 2) := by decide +kernel
theorem dX3_apart_30 : decode cX3_apart 30 = .ok (.iaload, 1) := by decide +kernel
theorem dX3_apart_31 : decode cX3_apart 31 = .ok (.invokestatic 110, 3) := by decide +kernel
theorem dX3_apart_34 : decode cX3_apart 34 = .ok (.goto 7, 3) := by decide +kernel
theorem dX3_apart_37 : decode cX3_apart 37 = .ok (.aload_n 0, 1) := by decide +kernel
theorem dX3_apart_38 : decode cX3_apart 38 = .ok (.iload 4, 2) := by decide +kernel
theorem dX3_apart_40 : decode cX3_apart 40 = .ok (.iaload, 1) := by decide +kernel
theorem dX3_apart_41 : decode cX3_apart 41 = .ok (.iastore, 1) := by decide +kernel
theorem dX3_apart_42 : decode cX3_apart 42 = .ok (.iinc 3 1, 3) := by decide +kernel
theorem dX3_apart_45 : decode cX3_apart 45 = .ok (.iload 5, 2) := by decide +kernel
theorem dX3_apart_47 : decode cX3_apart 47 = .ok (.ifCond .eq 16, 3) := by decide +kernel
theorem dX3_apart_50 : decode cX3_apart 50 = .ok (.aload_n 2, 1) := by decide +kernel
theorem dX3_apart_51 : decode cX3_apart 51 = .ok (.iload_n 3, 1) := by decide +kernel
theorem dX3_apart_52 : decode cX3_apart 52 = .ok (.aload_n 0, 1) := by decide +kernel
theorem dX3_apart_53 : decode cX3_apart 53 = .ok (.iload 4, 2) := by decide +kernel
theorem dX3_apart_55 : decode cX3_apart 55 = .ok (.iaload, 1) := by decide +kernel
theorem dX3_apart_56 : decode cX3_apart 56 = .ok (.invokestatic 113, 3) := by decide +kernel
theorem dX3_apart_59 : decode cX3_apart 59 = .ok (.iastore, 1) := by decide +kernel
theorem dX3_apart_60 : decode cX3_apart 60 = .ok (.iinc 3 1, 3) := by decide +kernel
theorem dX3_apart_63 : decode cX3_apart 63 = .ok (.iinc 4 1, 3) := by decide +kernel
theorem dX3_apart_66 : decode cX3_apart 66 = .ok (.goto (-61), 3) := by decide +kernel
theorem dX3_apart_69 : decode cX3_apart 69 = .ok (.aload_n 2, 1) := by decide +kernel
theorem dX3_apart_70 : decode cX3_apart 70 = .ok (.iload_n 3, 1) := by decide +kernel
theorem dX3_apart_71 : decode cX3_apart 71 = .ok (.invokestatic 81, 3) := by decide +kernel
theorem dX3_apart_74 : decode cX3_apart 74 = .ok (.iload_n 3, 1) := by decide +kernel
theorem dX3_apart_75 : decode cX3_apart 75 = .ok (.ireturn, 1) := by decide +kernel
set_option maxRecDepth 20000 in
theorem ggX3_compose_X3_apart : GoodIn wsX3_compose wsX3_apart := goodIn_r _ [9, 10, 11, 8, 12, 5, 13, 14, 15, 16, 17, 18, 19, 20, 21, 22, 23, 24, 25, 26, 27, 28] (by decide +kernel) (by decide +kernel)
set_option maxRecDepth 20000 in
theorem gX3_compose_X3_apart : GoodIn wsX3_compose (va_wsS RX3 116 yX3_apart wsX3_apart) := goodIn_app (goodIn_of _ (by decide +kernel)) ggX3_compose_X3_apart
set_option maxRecDepth 20000 in
theorem ggX3_compose_X3_isLetter : GoodIn wsX3_compose wsX3_isLetter := goodIn_r _ [16] (by decide +kernel) (by decide +kernel)
set_option maxRecDepth 20000 in
theorem gX3_compose_X3_isLetter : GoodIn wsX3_compose (va_wsS RX3 48 yX3_isLetter wsX3_isLetter) := goodIn_app (goodIn_of _ (by decide +kernel)) ggX3_compose_X3_isLetter
set_option maxRecDepth 20000 in
theorem ggX3_compose_X3_isMark : GoodIn wsX3_compose wsX3_isMark := goodIn_r _ [28] (by decide +kernel) (by decide +kernel)
set_option maxRecDepth 20000 in
theorem gX3_compose_X3_isMark : GoodIn wsX3_compose (va_wsS RX3 52 yX3_isMark wsX3_isMark) := goodIn_app (goodIn_of _ (by decide +kernel)) ggX3_compose_X3_isMark
theorem dX3_compose_0 : decode cX3_compose 0 = .ok (.aload_n 0, 1) := by decide +kernel
theorem dX3_compose_1 : decode cX3_compose 1 = .ok (.iconst 0, 1) := by decide +kernel
theorem dX3_compose_2 : decode cX3_compose 2 = .ok (.putfield 36, 3) := by decide +kernel
theorem dX3_compose_5 : decode cX3_compose 5 = .ok (.iload_n 1, 1) := by decide +kernel
theorem dX3_compose_6 : decode cX3_compose 6 = .ok (.ifCond .lt 8, 3) := by decide +kernel
theorem dX3_compose_9 : decode cX3_compose 9 = .ok (.iload_n 1, 1) := by decide +kernel
theorem dX3_compose_10 : decode cX3_compose 10 = .ok (.iconst 1, 1) := by decide +kernel
theorem dX3_compose_11 : decode cX3_compose 11 = .ok (.if_icmp .le 5, 3) := by decide +kernel
theorem dX3_compose_14 : decode cX3_compose 14 = .ok (.iconst (-1), 1) := by decide +kernel
theorem dX3_compose_15 : decode cX3_compose 15 = .ok (.ireturn, 1) := by decide +kernel
theorem dX3_compose_16 : decode cX3_compose 16 = .ok (.aload_n 0, 1) := by decide +kernel
theorem dX3_compose_17 : decode cX3_compose 17 = .ok (.getfield 13, 3) := by decide +kernel
theorem dX3_compose_20 : decode cX3_compose 20 = .ok (.aload_n 0, 1) := by decide +kernel
theorem dX3_compose_21 : decode cX3_compose 21 = .ok (.getfield 85, 3) := by decide +kernel
theorem dX3_compose_24 : decode cX3_compose 24 = .ok (.aload_n 0, 1) := by decide +kernel
theorem dX3_compose_25 : decode cX3_compose 25 = .ok (.getfield 19, 3) := by decide +kernel
theorem dX3_compose_28 : decode cX3_compose 28 = .ok (.invokestatic 116, 3) := by decide +kernel
theorem dX3_compose_31 : decode cX3_compose 31 = .ok (.istore_n 2, 1) := by decide +kernel
theorem dX3_compose_32 : decode cX3_compose 32 = .ok (.iload_n 1, 1) := by decide +kernel
theorem dX3_compose_33 : decode cX3_compose 33 = .ok (.iconst 1, 1) := by decide +kernel
theorem dX3_compose_34 : decode cX3_compose 34 = .ok (.if_icmp .ne 131, 3) := by decide +kernel
theorem dX3_compose_37 : decode cX3_compose 37 = .ok (.iconst 0, 1) := by decide +kernel
theorem dX3_compose_38 : decode cX3_compose 38 = .ok (.istore_n 3, 1) := by decide +kernel
theorem dX3_compose_39 : decode cX3_compose 39 = .ok (.iconst 0, 1) := by decide +kernel
theorem dX3_compose_40 : decode cX3_compose 40 = .ok (.istore 4, 2) := by decide +kernel
theorem dX3_compose_42 : decode cX3_compose 42 = .ok (.iload 4, 2) := by decide +kernel
theorem dX3_compose_44 : decode cX3_compose 44 = .ok (.iload_n 2, 1) := by decide +kernel
theorem dX3_compose_45 : decode cX3_compose 45 = .ok (.if_icmp .ge 118, 3) := by decide +kernel
theorem dX3_compose_48 : decode cX3_compose 48 = .ok (.aload_n 0, 1) := by decide +kernel
theorem dX3_compose_49 : decode cX3_compose 49 = .ok (.getfield 19, 3) := by decide +kernel
theorem dX3_compose_52 : decode cX3_compose 52 = .ok (.iload 4, 2) := by decide +kernel
theorem dX3_compose_54 : decode cX3_compose 54 = .ok (.iaload, 1) := by decide +kernel
theorem dX3_compose_55 : decode cX3_compose 55 = .ok (.invokestatic 48, 3) := by decide +kernel
theorem dX3_compose_58 : decode cX3_compose 58 = .ok (.ifCond .eq 30, 3) := by decide +kernel
theorem dX3_compose_61 : decode cX3_compose 61 = .ok (.iload 4, 2) := by decide +kernel
theorem dX3_compose_63 : decode cX3_compose 63 = .ok (.iconst 1, 1) := by decide +kernel
theorem dX3_compose_64 : decode cX3_compose 64 = .ok (.iadd, 1) := by decide +kernel
theorem dX3_compose_65 : decode cX3_compose 65 = .ok (.iload_n 2, 1) := by decide +kernel
theorem dX3_compose_66 : decode cX3_compose 66 = .ok (.if_icmp .ge 22, 3) := by decide +kernel
theorem dX3_compose_69 : decode cX3_compose 69 = .ok (.aload_n 0, 1) := by decide +kernel
theorem dX3_compose_70 : decode cX3_compose 70 = .ok (.getfield 19, 3) := by decide +kernel
theorem dX3_compose_73 : decode cX3_compose 73 = .ok (.iload 4, 2) := by decide +kernel
theorem dX3_compose_75 : decode cX3_compose 75 = .ok (.iconst 1, 1) := by decide +kernel
theorem dX3_compose_76 : decode cX3_compose 76 = .ok (.iadd, 1) := by decide +kernel
theorem dX3_compose_77 : decode cX3_compose 77 = .ok (.iaload, 1) := by decide +kernel
theorem dX3_compose_78 : decode cX3_compose 78 = .ok (.invokestatic 52, 3) := by decide +kernel
theorem dX3_compose_81 : decode cX3_compose 81 = .ok (.ifCond .eq 7, 3) := by decide +kernel
theorem dX3_compose_84 : decode cX3_compose 84 = .ok (.iconst 1, 1) := by decide +kernel
theorem dX3_compose_85 : decode cX3_compose 85 = .ok (.goto 4, 3) := by decide +kernel
theorem dX3_compose_88 : decode cX3_compose 88 = .ok (.iconst 0, 1) := by decide +kernel
theorem dX3_compose_89 : decode cX3_compose 89 = .ok (.istore 5, 2) := by decide +kernel
theorem dX3_compose_91 : decode cX3_compose 91 = .ok (.aload_n 0, 1) := by decide +kernel
theorem dX3_compose_92 : decode cX3_compose 92 = .ok (.getfield 19, 3) := by decide +kernel
theorem dX3_compose_95 : decode cX3_compose 95 = .ok (.iload_n 3, 1) := by decide +kernel
theorem dX3_compose_96 : decode cX3_compose 96 = .ok (.iload 5, 2) := by decide +kernel
theorem dX3_compose_98 : decode cX3_compose 98 = .ok (.ifCond .eq 36, 3) := by decide +kernel
theorem dX3_compose_101 : decode cX3_compose 101 = .ok (.ldc 46, 2) := by decide +kernel
theorem dX3_compose_103 : decode cX3_compose 103 = .ok (.bipush 64, 2) := by decide +kernel
theorem dX3_compose_105 : decode cX3_compose 105 = .ok (.aload_n 0, 1) := by decide +kernel
theorem dX3_compose_106 : decode cX3_compose 106 = .ok (.getfield 19, 3) := by decide +kernel
theorem dX3_compose_109 : decode cX3_compose 109 = .ok (.iload 4, 2) := by decide +kernel
theorem dX3_compose_111 : decode cX3_compose 111 = .ok (.iconst 1, 1) := by decide +kernel
theorem dX3_compose_112 : decode cX3_compose 112 = .ok (.iadd, 1) := by decide +kernel
theorem dX3_compose_113 : decode cX3_compose 113 = .ok (.iaload, 1) := by decide +kernel
theorem dX3_compose_114 : decode cX3_compose 114 = .ok (.sipush 768, 3) := by decide +kernel
theorem dX3_compose_117 : decode cX3_compose 117 = .ok (.isub, 1) := by decide +kernel
theorem dX3_compose_118 : decode cX3_compose 118 = .ok (.imul, 1) := by decide +kernel
theorem dX3_compose_119 : decode cX3_compose 119 = .ok (.iadd, 1) := by decide +kernel
theorem dX3_compose_120 : decode cX3_compose 120 = .ok (.aload_n 0, 1) := by decide +kernel
theorem dX3_compose_121 : decode cX3_compose 121 = .ok (.getfield 19, 3) := by decide +kernel
theorem dX3_compose_124 : decode cX3_compose 124 = .ok (.iload 4, 2) := by decide +kernel
theorem dX3_compose_126 : decode cX3_compose 126 = .ok (.iaload, 1) := by decide +kernel
theorem dX3_compose_127 : decode cX3_compose 127 = .ok (.iadd, 1) := by decide +kernel
theorem dX3_compose_128 : decode cX3_compose 128 = .ok (.bipush 64, 2) := by decide +kernel
theorem dX3_compose_130 : decode cX3_compose 130 = .ok (.isub, 1) := by decide +kernel
theorem dX3_compose_131 : decode cX3_compose 131 = .ok (.goto 10, 3) := by decide +kernel
theorem dX3_compose_134 : decode cX3_compose 134 = .ok (.aload_n 0, 1) := by decide +kernel
theorem dX3_compose_135 : decode cX3_compose 135 = .ok (.getfield 19, 3) := by decide +kernel
theorem dX3_compose_138 : decode cX3_compose 138 = .ok (.iload 4, 2) := by decide +kernel
theorem dX3_compose_140 : decode cX3_compose 140 = .ok (.iaload, 1) := by decide +kernel
theorem dX3_compose_141 : decode cX3_compose 141 = .ok (.iastore, 1) := by decide +kernel
theorem dX3_compose_142 : decode cX3_compose 142 = .ok (.iinc 3 1, 3) := by decide +kernel
theorem dX3_compose_145 : decode cX3_compose 145 = .ok (.iload 4, 2) := by decide +kernel
theorem dX3_compose_147 : decode cX3_compose 147 = .ok (.iload 5, 2) := by decide +kernel
theorem dX3_compose_149 : decode cX3_compose 149 = .ok (.ifCond .eq 7, 3) := by decide +kernel
theorem dX3_compose_152 : decode cX3_compose 152 = .ok (.iconst 2, 1) := by decide +kernel
theorem dX3_compose_153 : decode cX3_compose 153 = .ok (.goto 4, 3) := by decide +kernel
theorem dX3_compose_156 : decode cX3_compose 156 = .ok (.iconst 1, 1) := by decide +kernel
theorem dX3_compose_157 : decode cX3_compose 157 = .ok (.iadd, 1) := by decide +kernel
theorem dX3_compose_158 : decode cX3_compose 158 = .ok (.istore 4, 2) := by decide +kernel
theorem dX3_compose_160 : decode cX3_compose 160 = .ok (.goto (-118), 3) := by decide +kernel
theorem dX3_compose_163 : decode cX3_compose 163 = .ok (.iload_n 3, 1) := by decide +kernel
theorem dX3_compose_164 : decode cX3_compose 164 = .ok (.istore_n 2, 1) := by decide +kernel
theorem dX3_compose_165 : decode cX3_compose 165 = .ok (.iload_n 2, 1) := by decide +kernel
theorem dX3_compose_166 : decode cX3_compose 166 = .ok (.bipush 100, 2) := by decide +kernel
theorem dX3_compose_168 : decode cX3_compose 168 = .ok (.if_icmp .le 5, 3) := by decide +kernel
theorem dX3_compose_171 : decode cX3_compose 171 = .ok (.iconst (-1), 1) := by decide +kernel
theorem dX3_compose_172 : decode cX3_compose 172 = .ok (.ireturn, 1) := by decide +kernel
theorem dX3_compose_173 : decode cX3_compose 173 = .ok (.iconst 0, 1) := by decide +kernel
theorem dX3_compose_174 : decode cX3_compose 174 = .ok (.istore_n 3, 1) := by decide +kernel
theorem dX3_compose_175 : decode cX3_compose 175 = .ok (.iload_n 3, 1) := by decide +kernel
theorem dX3_compose_176 : decode cX3_compose 176 = .ok (.iload_n 2, 1) := by decide +kernel
theorem dX3_compose_177 : decode cX3_compose 177 = .ok (.if_icmp .ge 21, 3) := by decide +kernel
theorem dX3_compose_180 : decode cX3_compose 180 = .ok (.aload_n 0, 1) := by decide +kernel
theorem dX3_compose_181 : decode cX3_compose 181 = .ok (.getfield 13, 3) := by decide +kernel
theorem dX3_compose_184 : decode cX3_compose 184 = .ok (.iload_n 3, 1) := by decide +kernel
theorem dX3_compose_185 : decode cX3_compose 185 = .ok (.aload_n 0, 1) := by decide +kernel
theorem dX3_compose_186 : decode cX3_compose 186 = .ok (.getfield 19, 3) := by decide +kernel
theorem dX3_compose_189 : decode cX3_compose 189 = .ok (.iload_n 3, 1) := by decide +kernel
theorem dX3_compose_190 : decode cX3_compose 190 = .ok (.iaload, 1) := by decide +kernel
theorem dX3_compose_191 : decode cX3_compose 191 = .ok (.iastore, 1) := by decide +kernel
theorem dX3_compose_192 : decode cX3_compose 192 = .ok (.iinc 3 1, 3) := by decide +kernel
theorem dX3_compose_195 : decode cX3_compose 195 = .ok (.goto (-20), 3) := by decide +kernel
theorem dX3_compose_198 : decode cX3_compose 198 = .ok (.aload_n 0, 1) := by decide +kernel
theorem dX3_compose_199 : decode cX3_compose 199 = .ok (.iload_n 2, 1) := by decide +kernel
theorem dX3_compose_200 : decode cX3_compose 200 = .ok (.putfield 85, 3) := by decide +kernel
theorem dX3_compose_203 : decode cX3_compose 203 = .ok (.iload_n 2, 1) := by decide +kernel
theorem dX3_compose_204 : decode cX3_compose 204 = .ok (.ireturn, 1) := by decide +kernel
set_option maxRecDepth 20000 in
theorem ggX3_same_X3_apart : GoodIn wsX3_same wsX3_apart := goodIn_r _ [11, 12, 13, 10, 14, 15, 16, 17, 18, 19, 20, 21, 22, 23, 24, 25, 26, 27, 28, 29, 30, 31] (by decide +kernel) (by decide +kernel)
set_option maxRecDepth 20000 in
theorem gX3_same_X3_apart : GoodIn wsX3_same (va_wsS RX3 116 yX3_apart wsX3_apart) := goodIn_app (goodIn_of _ (by decide +kernel)) ggX3_same_X3_apart
theorem dX3_same_0 : decode cX3_same 0 = .ok (.aload_n 0, 1) := by decide +kernel
theorem dX3_same_1 : decode cX3_same 1 = .ok (.iconst 0, 1) := by decide +kernel
theorem dX3_same_2 : decode cX3_same 2 = .ok (.putfield 36, 3) := by decide +kernel
theorem dX3_same_5 : decode cX3_same 5 = .ok (.iload_n 1, 1) := by decide +kernel
theorem dX3_same_6 : decode cX3_same 6 = .ok (.ifCond .lt 8, 3) := by decide +kernel
theorem dX3_same_9 : decode cX3_same 9 = .ok (.iload_n 1, 1) := by decide +kernel
theorem dX3_same_10 : decode cX3_same 10 = .ok (.iconst 1, 1) := by decide +kernel
theorem dX3_same_11 : decode cX3_same 11 = .ok (.if_icmp .le 5, 3) := by decide +kernel
theorem dX3_same_14 : decode cX3_same 14 = .ok (.iconst 0, 1) := by decide +kernel
theorem dX3_same_15 : decode cX3_same 15 = .ok (.ireturn, 1) := by decide +kernel
theorem dX3_same_16 : decode cX3_same 16 = .ok (.aload_n 0, 1) := by decide +kernel
theorem dX3_same_17 : decode cX3_same 17 = .ok (.getfield 13, 3) := by decide +kernel
theorem dX3_same_20 : decode cX3_same 20 = .ok (.aload_n 0, 1) := by decide +kernel
theorem dX3_same_21 : decode cX3_same 21 = .ok (.getfield 85, 3) := by decide +kernel
theorem dX3_same_24 : decode cX3_same 24 = .ok (.aload_n 0, 1) := by decide +kernel
theorem dX3_same_25 : decode cX3_same 25 = .ok (.getfield 19, 3) := by decide +kernel
theorem dX3_same_28 : decode cX3_same 28 = .ok (.invokestatic 116, 3) := by decide +kernel
theorem dX3_same_31 : decode cX3_same 31 = .ok (.istore_n 2, 1) := by decide +kernel
theorem dX3_same_32 : decode cX3_same 32 = .ok (.iload_n 1, 1) := by decide +kernel
theorem dX3_same_33 : decode cX3_same 33 = .ok (.ifCond .ne 21, 3) := by decide +kernel
theorem dX3_same_36 : decode cX3_same 36 = .ok (.aload_n 0, 1) := by decide +kernel
theorem dX3_same_37 : decode cX3_same 37 = .ok (.getfield 13, 3) := by decide +kernel
theorem dX3_same_40 : decode cX3_same 40 = .ok (.aload_n 0, 1) := by decide +kernel
theorem dX3_same_41 : decode cX3_same 41 = .ok (.getfield 85, 3) := by decide +kernel
theorem dX3_same_44 : decode cX3_same 44 = .ok (.aload_n 0, 1) := by decide +kernel
theorem dX3_same_45 : decode cX3_same 45 = .ok (.getfield 22, 3) := by decide +kernel
theorem dX3_same_48 : decode cX3_same 48 = .ok (.invokestatic 116, 3) := by decide +kernel
theorem dX3_same_51 : decode cX3_same 51 = .ok (.goto 18, 3) := by decide +kernel
theorem dX3_same_54 : decode cX3_same 54 = .ok (.aload_n 0, 1) := by decide +kernel
theorem dX3_same_55 : decode cX3_same 55 = .ok (.getfield 16, 3) := by decide +kernel
theorem dX3_same_58 : decode cX3_same 58 = .ok (.aload_n 0, 1) := by decide +kernel
theorem dX3_same_59 : decode cX3_same 59 = .ok (.getfield 88, 3) := by decide +kernel
theorem dX3_same_62 : decode cX3_same 62 = .ok (.aload_n 0, 1) := by decide +kernel
theorem dX3_same_63 : decode cX3_same 63 = .ok (.getfield 22, 3) := by decide +kernel
theorem dX3_same_66 : decode cX3_same 66 = .ok (.invokestatic 116, 3) := by decide +kernel
theorem dX3_same_69 : decode cX3_same 69 = .ok (.istore_n 3, 1) := by decide +kernel
theorem dX3_same_70 : decode cX3_same 70 = .ok (.iload_n 2, 1) := by decide +kernel
theorem dX3_same_71 : decode cX3_same 71 = .ok (.iload_n 3, 1) := by decide +kernel
theorem dX3_same_72 : decode cX3_same 72 = .ok (.if_icmp .ne 7, 3) := by decide +kernel
theorem dX3_same_75 : decode cX3_same 75 = .ok (.iconst 1, 1) := by decide +kernel
theorem dX3_same_76 : decode cX3_same 76 = .ok (.goto 4, 3) := by decide +kernel
theorem dX3_same_79 : decode cX3_same 79 = .ok (.iconst 0, 1) := by decide +kernel
theorem dX3_same_80 : decode cX3_same 80 = .ok (.istore 4, 2) := by decide +kernel
theorem dX3_same_82 : decode cX3_same 82 = .ok (.iconst 0, 1) := by decide +kernel
theorem dX3_same_83 : decode cX3_same 83 = .ok (.istore 5, 2) := by decide +kernel
theorem dX3_same_85 : decode cX3_same 85 = .ok (.iload 5, 2) := by decide +kernel
theorem dX3_same_87 : decode cX3_same 87 = .ok (.iload_n 2, 1) := by decide +kernel
theorem dX3_same_88 : decode cX3_same 88 = .ok (.if_icmp .ge 38, 3) := by decide +kernel
theorem dX3_same_91 : decode cX3_same 91 = .ok (.iload 4, 2) := by decide +kernel
theorem dX3_same_93 : decode cX3_same 93 = .ok (.ifCond .eq 33, 3) := by decide +kernel
theorem dX3_same_96 : decode cX3_same 96 = .ok (.aload_n 0, 1) := by decide +kernel
theorem dX3_same_97 : decode cX3_same 97 = .ok (.getfield 19, 3) := by decide +kernel
theorem dX3_same_100 : decode cX3_same 100 = .ok (.iload 5, 2) := by decide +kernel
theorem dX3_same_102 : decode cX3_same 102 = .ok (.iaload, 1) := by decide +kernel
theorem dX3_same_103 : decode cX3_same 103 = .ok (.aload_n 0, 1) := by decide +kernel
theorem dX3_same_104 : decode cX3_same 104 = .ok (.getfield 22, 3) := by decide +kernel
theorem dX3_same_107 : decode cX3_same 107 = .ok (.iload 5, 2) := by decide +kernel
theorem dX3_same_109 : decode cX3_same 109 = .ok (.iaload, 1) := by decide +kernel
theorem dX3_same_110 : decode cX3_same 110 = .ok (.if_icmp .ne 7, 3) := by decide +kernel
theorem dX3_same_113 : decode cX3_same 113 = .ok (.iconst 1, 1) := by decide +kernel
theorem dX3_same_114 : decode cX3_same 114 = .ok (.goto 4, 3) := by decide +kernel
theorem dX3_same_117 : decode cX3_same 117 = .ok (.iconst 0, 1) := by decide +kernel
theorem dX3_same_118 : decode cX3_same 118 = .ok (.istore 4, 2) := by decide +kernel
theorem dX3_same_120 : decode cX3_same 120 = .ok (.iinc 5 1, 3) := by decide +kernel
theorem dX3_same_123 : decode cX3_same 123 = .ok (.goto (-38), 3) := by decide +kernel
theorem dX3_same_126 : decode cX3_same 126 = .ok (.iload 4, 2) := by decide +kernel
theorem dX3_same_128 : decode cX3_same 128 = .ok (.ireturn, 1) := by decide +kernel
set_option maxRecDepth 20000 in
theorem ggX3_base_X3_isMark : GoodIn wsX3_base wsX3_isMark := goodIn_r _ [6] (by decide +kernel) (by decide +kernel)
set_option maxRecDepth 20000 in
theorem gX3_base_X3_isMark : GoodIn wsX3_base (va_wsS RX3 52 yX3_isMark wsX3_isMark) := goodIn_app (goodIn_of _ (by decide +kernel)) ggX3_base_X3_isMark
theorem dX3_base_0 : decode cX3_base 0 = .ok (.iconst 0, 1) := by decide +kernel
theorem dX3_base_1 : decode cX3_base 1 = .ok (.istore_n 2, 1) := by decide +kernel
theorem dX3_base_2 : decode cX3_base 2 = .ok (.iconst 0, 1) := by decide +kernel
theorem dX3_base_3 : decode cX3_base 3 = .ok (.istore_n 3, 1) := by decide +kernel
theorem dX3_base_4 : decode cX3_base 4 = .ok (.iload_n 3, 1) := by decide +kernel
theorem dX3_base_5 : decode cX3_base 5 = .ok (.aload_n 0, 1) := by decide +kernel
theorem dX3_base_6 : decode cX3_base 6 = .ok (.getfield 85, 3) := by decide +kernel
theorem dX3_base_9 : decode cX3_base 9 = .ok (.if_icmp .ge 31, 3) := by decide +kernel
theorem dX3_base_12 : decode cX3_base 12 = .ok (.aload_n 0, 1) := by decide +kernel
theorem dX3_base_13 : decode cX3_base 13 = .ok (.getfield 13, 3) := by decide +kernel
theorem dX3_base_16 : decode cX3_base 16 = .ok (.iload_n 3, 1) := by decide +kernel
theorem dX3_base_17 : decode cX3_base 17 = .ok (.iaload, 1) := by decide +kernel
theorem dX3_base_18 : decode cX3_base 18 = .ok (.invokestatic 52, 3) := by decide +kernel
theorem dX3_base_21 : decode cX3_base 21 = .ok (.ifCond .ne 13, 3) := by decide +kernel
theorem dX3_base_24 : decode cX3_base 24 = .ok (.iload_n 2, 1) := by decide +kernel
theorem dX3_base_25 : decode cX3_base 25 = .ok (.iload_n 1, 1) := by decide +kernel
theorem dX3_base_26 : decode cX3_base 26 = .ok (.if_icmp .ne 5, 3) := by decide +kernel
theorem dX3_base_29 : decode cX3_base 29 = .ok (.iload_n 3, 1) := by decide +kernel
theorem dX3_base_30 : decode cX3_base 30 = .ok (.ireturn, 1) := by decide +kernel
theorem dX3_base_31 : decode cX3_base 31 = .ok (.iinc 2 1, 3) := by decide +kernel
theorem dX3_base_34 : decode cX3_base 34 = .ok (.iinc 3 1, 3) := by decide +kernel
theorem dX3_base_37 : decode cX3_base 37 = .ok (.goto (-33), 3) := by decide +kernel
theorem dX3_base_40 : decode cX3_base 40 = .ok (.iconst (-1), 1) := by decide +kernel
theorem dX3_base_41 : decode cX3_base 41 = .ok (.ireturn, 1) := by decide +kernel
set_option maxRecDepth 20000 in
theorem ggX3_nonfiling_X3_base : GoodIn wsX3_nonfiling wsX3_base := goodIn_r _ [7, 8, 2, 9, 10, 6, 11, 23, 24, 25, 26, 27, 28, 29, 30, 31, 32, 33, 34, 35, 36, 37] (by decide +kernel) (by decide +kernel)
set_option maxRecDepth 20000 in
theorem gX3_nonfiling_X3_base : GoodIn wsX3_nonfiling (wsV RX3 120 RX3 yX3_base wsX3_base) := goodIn_app (goodIn_of _ (by decide +kernel)) ggX3_nonfiling_X3_base
set_option maxRecDepth 20000 in
theorem ggX3_nonfiling_X3_isComposed : GoodIn wsX3_nonfiling wsX3_isComposed := goodIn_r _ [14, 15, 16, 17, 18, 6, 19] (by decide +kernel) (by decide +kernel)
set_option maxRecDepth 20000 in
theorem gX3_nonfiling_X3_isComposed : GoodIn wsX3_nonfiling (va_wsS RX3 71 yX3_isComposed wsX3_isComposed) := goodIn_app (goodIn_of _ (by decide +kernel)) ggX3_nonfiling_X3_isComposed
set_option maxRecDepth 20000 in
theorem ggX3_nonfiling_X3_letterOf : GoodIn wsX3_nonfiling wsX3_letterOf := goodIn_r _ [22, 15] (by decide +kernel) (by decide +kernel)
set_option maxRecDepth 20000 in
theorem gX3_nonfiling_X3_letterOf : GoodIn wsX3_nonfiling (va_wsS RX3 110 yX3_letterOf wsX3_letterOf) := goodIn_app (goodIn_of _ (by decide +kernel)) ggX3_nonfiling_X3_letterOf
theorem dX3_nonfiling_0 : decode cX3_nonfiling 0 = .ok (.aload_n 0, 1) := by decide +kernel
theorem dX3_nonfiling_1 : decode cX3_nonfiling 1 = .ok (.iconst 0, 1) := by decide +kernel
theorem dX3_nonfiling_2 : decode cX3_nonfiling 2 = .ok (.putfield 36, 3) := by decide +kernel
theorem dX3_nonfiling_5 : decode cX3_nonfiling 5 = .ok (.iload_n 1, 1) := by decide +kernel
theorem dX3_nonfiling_6 : decode cX3_nonfiling 6 = .ok (.ifCond .lt 22, 3) := by decide +kernel
theorem dX3_nonfiling_9 : decode cX3_nonfiling 9 = .ok (.iload_n 2, 1) := by decide +kernel
theorem dX3_nonfiling_10 : decode cX3_nonfiling 10 = .ok (.ifCond .lt 18, 3) := by decide +kernel
theorem dX3_nonfiling_13 : decode cX3_nonfiling 13 = .ok (.iload_n 1, 1) := by decide +kernel
theorem dX3_nonfiling_14 : decode cX3_nonfiling 14 = .ok (.ifCond .le 16, 3) := by decide +kernel
theorem dX3_nonfiling_17 : decode cX3_nonfiling 17 = .ok (.aload_n 0, 1) := by decide +kernel
theorem dX3_nonfiling_18 : decode cX3_nonfiling 18 = .ok (.iload_n 1, 1) := by decide +kernel
theorem dX3_nonfiling_19 : decode cX3_nonfiling 19 = .ok (.iconst 1, 1) := by decide +kernel
theorem dX3_nonfiling_20 : decode cX3_nonfiling 20 = .ok (.isub, 1) := by decide +kernel
theorem dX3_nonfiling_21 : decode cX3_nonfiling 21 = .ok (.invokevirtual 120, 3) := by decide +kernel
theorem dX3_nonfiling_24 : decode cX3_nonfiling 24 = .ok (.iconst (-1), 1) := by decide +kernel
theorem dX3_nonfiling_25 : decode cX3_nonfiling 25 = .ok (.if_icmp .ne 5, 3) := by decide +kernel
theorem dX3_nonfiling_28 : decode cX3_nonfiling 28 = .ok (.iconst (-1), 1) := by decide +kernel
theorem dX3_nonfiling_29 : decode cX3_nonfiling 29 = .ok (.ireturn, 1) := by decide +kernel
theorem dX3_nonfiling_30 : decode cX3_nonfiling 30 = .ok (.iload_n 1, 1) := by decide +kernel
theorem dX3_nonfiling_31 : decode cX3_nonfiling 31 = .ok (.bipush 100, 2) := by decide +kernel
theorem dX3_nonfiling_33 : decode cX3_nonfiling 33 = .ok (.if_icmp .gt 9, 3) := by decide +kernel
theorem dX3_nonfiling_36 : decode cX3_nonfiling 36 = .ok (.iload_n 2, 1) := by decide +kernel
theorem dX3_nonfiling_37 : decode cX3_nonfiling 37 = .ok (.bipush 100, 2) := by decide +kernel
theorem dX3_nonfiling_39 : decode cX3_nonfiling 39 = .ok (.if_icmp .le 7, 3) := by decide +kernel
theorem dX3_nonfiling_42 : decode cX3_nonfiling 42 = .ok (.iconst (-1), 1) := by decide +kernel
theorem dX3_nonfiling_43 : decode cX3_nonfiling 43 = .ok (.goto 10, 3) := by decide +kernel
theorem dX3_nonfiling_46 : decode cX3_nonfiling 46 = .ok (.aload_n 0, 1) := by decide +kernel
theorem dX3_nonfiling_47 : decode cX3_nonfiling 47 = .ok (.iload_n 1, 1) := by decide +kernel
theorem dX3_nonfiling_48 : decode cX3_nonfiling 48 = .ok (.iload_n 2, 1) := by decide +kernel
theorem dX3_nonfiling_49 : decode cX3_nonfiling 49 = .ok (.iadd, 1) := by decide +kernel
theorem dX3_nonfiling_50 : decode cX3_nonfiling 50 = .ok (.invokevirtual 120, 3) := by decide +kernel
theorem dX3_nonfiling_53 : decode cX3_nonfiling 53 = .ok (.istore_n 3, 1) := by decide +kernel
theorem dX3_nonfiling_54 : decode cX3_nonfiling 54 = .ok (.iload_n 3, 1) := by decide +kernel
theorem dX3_nonfiling_55 : decode cX3_nonfiling 55 = .ok (.iconst (-1), 1) := by decide +kernel
theorem dX3_nonfiling_56 : decode cX3_nonfiling 56 = .ok (.if_icmp .ne 5, 3) := by decide +kernel
theorem dX3_nonfiling_59 : decode cX3_nonfiling 59 = .ok (.iconst 0, 1) := by decide +kernel
theorem dX3_nonfiling_60 : decode cX3_nonfiling 60 = .ok (.ireturn, 1) := by decide +kernel
theorem dX3_nonfiling_61 : decode cX3_nonfiling 61 = .ok (.aload_n 0, 1) := by decide +kernel
theorem dX3_nonfiling_62 : decode cX3_nonfiling 62 = .ok (.getfield 13, 3) := by decide +kernel
theorem dX3_nonfiling_65 : decode cX3_nonfiling 65 = .ok (.iload_n 3, 1) := by decide +kernel
theorem dX3_nonfiling_66 : decode cX3_nonfiling 66 = .ok (.iaload, 1) := by decide +kernel
theorem dX3_nonfiling_67 : decode cX3_nonfiling 67 = .ok (.invokestatic 71, 3) := by decide +kernel
theorem dX3_nonfiling_70 : decode cX3_nonfiling 70 = .ok (.ifCond .eq 15, 3) := by decide +kernel
theorem dX3_nonfiling_73 : decode cX3_nonfiling 73 = .ok (.aload_n 0, 1) := by decide +kernel
theorem dX3_nonfiling_74 : decode cX3_nonfiling 74 = .ok (.getfield 13, 3) := by decide +kernel
theorem dX3_nonfiling_77 : decode cX3_nonfiling 77 = .ok (.iload_n 3, 1) := by decide +kernel
theorem dX3_nonfiling_78 : decode cX3_nonfiling 78 = .ok (.iaload, 1) := by decide +kernel
theorem dX3_nonfiling_79 : decode cX3_nonfiling 79 = .ok (.invokestatic 110, 3) := by decide +kernel
theorem dX3_nonfiling_82 : decode cX3_nonfiling 82 = .ok (.goto 9, 3) := by decide +kernel
theorem dX3_nonfiling_85 : decode cX3_nonfiling 85 = .ok (.aload_n 0, 1) := by decide +kernel
theorem dX3_nonfiling_86 : decode cX3_nonfiling 86 = .ok (.getfield 13, 3) := by decide +kernel
theorem dX3_nonfiling_89 : decode cX3_nonfiling 89 = .ok (.iload_n 3, 1) := by decide +kernel
theorem dX3_nonfiling_90 : decode cX3_nonfiling 90 = .ok (.iaload, 1) := by decide +kernel
theorem dX3_nonfiling_91 : decode cX3_nonfiling 91 = .ok (.istore 4, 2) := by decide +kernel
theorem dX3_nonfiling_93 : decode cX3_nonfiling 93 = .ok (.iload 4, 2) := by decide +kernel
theorem dX3_nonfiling_95 : decode cX3_nonfiling 95 = .ok (.bipush 65, 2) := by decide +kernel
theorem dX3_nonfiling_97 : decode cX3_nonfiling 97 = .ok (.if_icmp .lt 18, 3) := by decide +kernel
theorem dX3_nonfiling_100 : decode cX3_nonfiling 100 = .ok (.iload 4, 2) := by decide +kernel
theorem dX3_nonfiling_102 : decode cX3_nonfiling 102 = .ok (.bipush 90, 2) := by decide +kernel
theorem dX3_nonfiling_104 : decode cX3_nonfiling 104 = .ok (.if_icmp .gt 11, 3) := by decide +kernel
theorem dX3_nonfiling_107 : decode cX3_nonfiling 107 = .ok (.iload 4, 2) := by decide +kernel
theorem dX3_nonfiling_109 : decode cX3_nonfiling 109 = .ok (.bipush 32, 2) := by decide +kernel
theorem dX3_nonfiling_111 : decode cX3_nonfiling 111 = .ok (.iadd, 1) := by decide +kernel
theorem dX3_nonfiling_112 : decode cX3_nonfiling 112 = .ok (.goto 5, 3) := by decide +kernel
theorem dX3_nonfiling_115 : decode cX3_nonfiling 115 = .ok (.iload 4, 2) := by decide +kernel
theorem dX3_nonfiling_117 : decode cX3_nonfiling 117 = .ok (.ireturn, 1) := by decide +kernel
set_option maxRecDepth 20000 in
theorem ggX3_mark_X3_base : GoodIn wsX3_mark wsX3_base := goodIn_r _ [8, 3, 2, 9, 10, 7, 11, 20, 21, 22, 23, 24, 25, 26, 27, 28, 29, 30, 31, 32, 33, 34] (by decide +kernel) (by decide +kernel)
set_option maxRecDepth 20000 in
theorem gX3_mark_X3_base : GoodIn wsX3_mark (wsV RX3 120 RX3 yX3_base wsX3_base) := goodIn_app (goodIn_of _ (by decide +kernel)) ggX3_mark_X3_base
set_option maxRecDepth 20000 in
theorem ggX3_mark_X3_isComposed : GoodIn wsX3_mark wsX3_isComposed := goodIn_r _ [14, 15, 16, 17, 18, 7, 19] (by decide +kernel) (by decide +kernel)
set_option maxRecDepth 20000 in
theorem gX3_mark_X3_isComposed : GoodIn wsX3_mark (va_wsS RX3 71 yX3_isComposed wsX3_isComposed) := goodIn_app (goodIn_of _ (by decide +kernel)) ggX3_mark_X3_isComposed
set_option maxRecDepth 20000 in
theorem ggX3_mark_X3_isMark : GoodIn wsX3_mark wsX3_isMark := goodIn_r _ [11] (by decide +kernel) (by decide +kernel)
set_option maxRecDepth 20000 in
theorem gX3_mark_X3_isMark : GoodIn wsX3_mark (va_wsS RX3 52 yX3_isMark wsX3_isMark) := goodIn_app (goodIn_of _ (by decide +kernel)) ggX3_mark_X3_isMark
theorem dX3_mark_0 : decode cX3_mark 0 = .ok (.aload_n 0, 1) := by decide +kernel
theorem dX3_mark_1 : decode cX3_mark 1 = .ok (.iconst 0, 1) := by decide +kernel
theorem dX3_mark_2 : decode cX3_mark 2 = .ok (.putfield 36, 3) := by decide +kernel
theorem dX3_mark_5 : decode cX3_mark 5 = .ok (.iload_n 1, 1) := by decide +kernel
theorem dX3_mark_6 : decode cX3_mark 6 = .ok (.ifCond .ge 7, 3) := by decide +kernel
theorem dX3_mark_9 : decode cX3_mark 9 = .ok (.iconst (-1), 1) := by decide +kernel
theorem dX3_mark_10 : decode cX3_mark 10 = .ok (.goto 8, 3) := by decide +kernel
theorem dX3_mark_13 : decode cX3_mark 13 = .ok (.aload_n 0, 1) := by decide +kernel
theorem dX3_mark_14 : decode cX3_mark 14 = .ok (.iload_n 1, 1) := by decide +kernel
theorem dX3_mark_15 : decode cX3_mark 15 = .ok (.invokevirtual 120, 3) := by decide +kernel
theorem dX3_mark_18 : decode cX3_mark 18 = .ok (.istore_n 2, 1) := by decide +kernel
theorem dX3_mark_19 : decode cX3_mark 19 = .ok (.iload_n 2, 1) := by decide +kernel
theorem dX3_mark_20 : decode cX3_mark 20 = .ok (.iconst (-1), 1) := by decide +kernel
theorem dX3_mark_21 : decode cX3_mark 21 = .ok (.if_icmp .ne 5, 3) := by decide +kernel
theorem dX3_mark_24 : decode cX3_mark 24 = .ok (.iconst (-1), 1) := by decide +kernel
theorem dX3_mark_25 : decode cX3_mark 25 = .ok (.ireturn, 1) := by decide +kernel
theorem dX3_mark_26 : decode cX3_mark 26 = .ok (.aload_n 0, 1) := by decide +kernel
theorem dX3_mark_27 : decode cX3_mark 27 = .ok (.getfield 13, 3) := by decide +kernel
theorem dX3_mark_30 : decode cX3_mark 30 = .ok (.iload_n 2, 1) := by decide +kernel
theorem dX3_mark_31 : decode cX3_mark 31 = .ok (.iaload, 1) := by decide +kernel
theorem dX3_mark_32 : decode cX3_mark 32 = .ok (.invokestatic 71, 3) := by decide +kernel
theorem dX3_mark_35 : decode cX3_mark 35 = .ok (.ifCond .eq 7, 3) := by decide +kernel
theorem dX3_mark_38 : decode cX3_mark 38 = .ok (.iconst 1, 1) := by decide +kernel
theorem dX3_mark_39 : decode cX3_mark 39 = .ok (.goto 4, 3) := by decide +kernel
theorem dX3_mark_42 : decode cX3_mark 42 = .ok (.iconst 0, 1) := by decide +kernel
theorem dX3_mark_43 : decode cX3_mark 43 = .ok (.istore_n 3, 1) := by decide +kernel
theorem dX3_mark_44 : decode cX3_mark 44 = .ok (.iload_n 2, 1) := by decide +kernel
theorem dX3_mark_45 : decode cX3_mark 45 = .ok (.iconst 1, 1) := by decide +kernel
theorem dX3_mark_46 : decode cX3_mark 46 = .ok (.iadd, 1) := by decide +kernel
theorem dX3_mark_47 : decode cX3_mark 47 = .ok (.istore 4, 2) := by decide +kernel
theorem dX3_mark_49 : decode cX3_mark 49 = .ok (.iload 4, 2) := by decide +kernel
theorem dX3_mark_51 : decode cX3_mark 51 = .ok (.aload_n 0, 1) := by decide +kernel
theorem dX3_mark_52 : decode cX3_mark 52 = .ok (.getfield 85, 3) := by decide +kernel
theorem dX3_mark_55 : decode cX3_mark 55 = .ok (.if_icmp .ge 25, 3) := by decide +kernel
theorem dX3_mark_58 : decode cX3_mark 58 = .ok (.aload_n 0, 1) := by decide +kernel
theorem dX3_mark_59 : decode cX3_mark 59 = .ok (.getfield 13, 3) := by decide +kernel
theorem dX3_mark_62 : decode cX3_mark 62 = .ok (.iload 4, 2) := by decide +kernel
theorem dX3_mark_64 : decode cX3_mark 64 = .ok (.iaload, 1) := by decide +kernel
theorem dX3_mark_65 : decode cX3_mark 65 = .ok (.invokestatic 52, 3) := by decide +kernel
theorem dX3_mark_68 : decode cX3_mark 68 = .ok (.ifCond .eq 12, 3) := by decide +kernel
theorem dX3_mark_71 : decode cX3_mark 71 = .ok (.iinc 3 1, 3) := by decide +kernel
theorem dX3_mark_74 : decode cX3_mark 74 = .ok (.iinc 4 1, 3) := by decide +kernel
theorem dX3_mark_77 : decode cX3_mark 77 = .ok (.goto (-28), 3) := by decide +kernel
theorem dX3_mark_80 : decode cX3_mark 80 = .ok (.iload_n 3, 1) := by decide +kernel
theorem dX3_mark_81 : decode cX3_mark 81 = .ok (.ireturn, 1) := by decide +kernel
set_option maxRecDepth 20000 in
theorem ggX3_row_X3_placed : GoodIn wsX3_row wsX3_placed := goodIn_r _ [5] (by decide +kernel) (by decide +kernel)
set_option maxRecDepth 20000 in
theorem gX3_row_X3_placed : GoodIn wsX3_row (va_wsS RX3 42 yX3_placed wsX3_placed) := goodIn_app (goodIn_of _ (by decide +kernel)) ggX3_row_X3_placed
theorem dX3_row_0 : decode cX3_row 0 = .ok (.aload_n 0, 1) := by decide +kernel
theorem dX3_row_1 : decode cX3_row 1 = .ok (.iconst 0, 1) := by decide +kernel
theorem dX3_row_2 : decode cX3_row 2 = .ok (.putfield 36, 3) := by decide +kernel
theorem dX3_row_5 : decode cX3_row 5 = .ok (.iload_n 1, 1) := by decide +kernel
theorem dX3_row_6 : decode cX3_row 6 = .ok (.ifCond .lt 8, 3) := by decide +kernel
theorem dX3_row_9 : decode cX3_row 9 = .ok (.iload_n 1, 1) := by decide +kernel
theorem dX3_row_10 : decode cX3_row 10 = .ok (.iconst 2, 1) := by decide +kernel
theorem dX3_row_11 : decode cX3_row 11 = .ok (.if_icmp .le 5, 3) := by decide +kernel
theorem dX3_row_14 : decode cX3_row 14 = .ok (.iconst (-1), 1) := by decide +kernel
theorem dX3_row_15 : decode cX3_row 15 = .ok (.ireturn, 1) := by decide +kernel
theorem dX3_row_16 : decode cX3_row 16 = .ok (.iload_n 2, 1) := by decide +kernel
theorem dX3_row_17 : decode cX3_row 17 = .ok (.ifCond .lt 9, 3) := by decide +kernel
theorem dX3_row_20 : decode cX3_row 20 = .ok (.iload_n 2, 1) := by decide +kernel
theorem dX3_row_21 : decode cX3_row 21 = .ok (.bipush 93, 2) := by decide +kernel
theorem dX3_row_23 : decode cX3_row 23 = .ok (.if_icmp .le 10, 3) := by decide +kernel
theorem dX3_row_26 : decode cX3_row 26 = .ok (.aload_n 0, 1) := by decide +kernel
theorem dX3_row_27 : decode cX3_row 27 = .ok (.iconst 1, 1) := by decide +kernel
theorem dX3_row_28 : decode cX3_row 28 = .ok (.putfield 36, 3) := by decide +kernel
theorem dX3_row_31 : decode cX3_row 31 = .ok (.iconst 0, 1) := by decide +kernel
theorem dX3_row_32 : decode cX3_row 32 = .ok (.ireturn, 1) := by decide +kernel
theorem dX3_row_33 : decode cX3_row 33 = .ok (.iload_n 1, 1) := by decide +kernel
theorem dX3_row_34 : decode cX3_row 34 = .ok (.iload_n 2, 1) := by decide +kernel
theorem dX3_row_35 : decode cX3_row 35 = .ok (.invokestatic 42, 3) := by decide +kernel
theorem dX3_row_38 : decode cX3_row 38 = .ok (.ireturn, 1) := by decide +kernel
