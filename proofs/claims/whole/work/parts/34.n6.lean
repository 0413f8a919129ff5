theorem dX6_init_0 : decode cX6_init 0 = .ok (.aload_n 0, 1) := by decide +kernel
theorem dX6_init_1 : decode cX6_init 1 = .ok (.invokespecial 1, 3) := by decide +kernel
theorem dX6_init_4 : decode cX6_init 4 = .ok (.aload_n 0, 1) := by decide +kernel
theorem dX6_init_5 : decode cX6_init 5 = .ok (.bipush 9, 2) := by decide +kernel
theorem dX6_init_7 : decode cX6_init 7 = .ok (.putfield 7, 3) := by decide +kernel
theorem dX6_init_10 : decode cX6_init 10 = .ok (.aload_n 0, 1) := by decide +kernel
theorem dX6_init_11 : decode cX6_init 11 = .ok (.sipush 240, 3) := by decide +kernel
theorem dX6_init_14 : decode cX6_init 14 = .ok (.newarray .int, 2) := by decide +kernel
theorem dX6_init_16 : decode cX6_init 16 = .ok (.putfield 13, 3) := by decide +kernel
theorem dX6_init_19 : decode cX6_init 19 = .ok (.aload_n 0, 1) := by decide +kernel
theorem dX6_init_20 : decode cX6_init 20 = .ok (.bipush 40, 2) := by decide +kernel
theorem dX6_init_22 : decode cX6_init 22 = .ok (.newarray .int, 2) := by decide +kernel
theorem dX6_init_24 : decode cX6_init 24 = .ok (.putfield 17, 3) := by decide +kernel
theorem dX6_init_27 : decode cX6_init 27 = .ok (.aload_n 0, 1) := by decide +kernel
theorem dX6_init_28 : decode cX6_init 28 = .ok (.sipush 4200, 3) := by decide +kernel
theorem dX6_init_31 : decode cX6_init 31 = .ok (.newarray .int, 2) := by decide +kernel
theorem dX6_init_33 : decode cX6_init 33 = .ok (.putfield 20, 3) := by decide +kernel
theorem dX6_init_36 : decode cX6_init 36 = .ok (.aload_n 0, 1) := by decide +kernel
theorem dX6_init_37 : decode cX6_init 37 = .ok (.sipush 4207, 3) := by decide +kernel
theorem dX6_init_40 : decode cX6_init 40 = .ok (.newarray .int, 2) := by decide +kernel
theorem dX6_init_42 : decode cX6_init 42 = .ok (.putfield 23, 3) := by decide +kernel
theorem dX6_init_45 : decode cX6_init 45 = .ok (.aload_n 0, 1) := by decide +kernel
theorem dX6_init_46 : decode cX6_init 46 = .ok (.sipush 2048, 3) := by decide +kernel
theorem dX6_init_49 : decode cX6_init 49 = .ok (.newarray .int, 2) := by decide +kernel
theorem dX6_init_51 : decode cX6_init 51 = .ok (.putfield 26, 3) := by decide +kernel
theorem dX6_init_54 : decode cX6_init 54 = .ok (.aload_n 0, 1) := by decide +kernel
theorem dX6_init_55 : decode cX6_init 55 = .ok (.sipush 600, 3) := by decide +kernel
theorem dX6_init_58 : decode cX6_init 58 = .ok (.newarray .int, 2) := by decide +kernel
theorem dX6_init_60 : decode cX6_init 60 = .ok (.putfield 29, 3) := by decide +kernel
theorem dX6_init_63 : decode cX6_init 63 = .ok (.aload_n 0, 1) := by decide +kernel
theorem dX6_init_64 : decode cX6_init 64 = .ok (.iload_n 1, 1) := by decide +kernel
theorem dX6_init_65 : decode cX6_init 65 = .ok (.ifCond .eq 7, 3) := by decide +kernel
theorem dX6_init_68 : decode cX6_init 68 = .ok (.iconst 1, 1) := by decide +kernel
theorem dX6_init_69 : decode cX6_init 69 = .ok (.goto 4, 3) := by decide +kernel
theorem dX6_init_72 : decode cX6_init 72 = .ok (.iconst 0, 1) := by decide +kernel
theorem dX6_init_73 : decode cX6_init 73 = .ok (.putfield 32, 3) := by decide +kernel
theorem dX6_init_76 : decode cX6_init 76 = .ok (.return_, 1) := by decide +kernel
theorem dX6_thrown_0 : decode cX6_thrown 0 = .ok (.aload_n 0, 1) := by decide +kernel
theorem dX6_thrown_1 : decode cX6_thrown 1 = .ok (.getfield 36, 3) := by decide +kernel
theorem dX6_thrown_4 : decode cX6_thrown 4 = .ok (.ireturn, 1) := by decide +kernel
theorem dX6_refuses_0 : decode cX6_refuses 0 = .ok (.aload_n 0, 1) := by decide +kernel
theorem dX6_refuses_1 : decode cX6_refuses 1 = .ok (.iload_n 1, 1) := by decide +kernel
theorem dX6_refuses_2 : decode cX6_refuses 2 = .ok (.putfield 36, 3) := by decide +kernel
theorem dX6_refuses_5 : decode cX6_refuses 5 = .ok (.iload_n 1, 1) := by decide +kernel
theorem dX6_refuses_6 : decode cX6_refuses 6 = .ok (.ifCond .le 7, 3) := by decide +kernel
theorem dX6_refuses_9 : decode cX6_refuses 9 = .ok (.iconst 1, 1) := by decide +kernel
theorem dX6_refuses_10 : decode cX6_refuses 10 = .ok (.goto 4, 3) := by decide +kernel
theorem dX6_refuses_13 : decode cX6_refuses 13 = .ok (.iconst 0, 1) := by decide +kernel
theorem dX6_refuses_14 : decode cX6_refuses 14 = .ok (.ireturn, 1) := by decide +kernel
theorem dX6_isLiteral_0 : decode cX6_isLiteral 0 = .ok (.iload_n 1, 1) := by decide +kernel
theorem dX6_isLiteral_1 : decode cX6_isLiteral 1 = .ok (.sipush 300, 3) := by decide +kernel
theorem dX6_isLiteral_4 : decode cX6_isLiteral 4 = .ok (.if_icmp .lt 19, 3) := by decide +kernel
theorem dX6_isLiteral_7 : decode cX6_isLiteral 7 = .ok (.iload_n 1, 1) := by decide +kernel
theorem dX6_isLiteral_8 : decode cX6_isLiteral 8 = .ok (.sipush 300, 3) := by decide +kernel
theorem dX6_isLiteral_11 : decode cX6_isLiteral 11 = .ok (.aload_n 0, 1) := by decide +kernel
theorem dX6_isLiteral_12 : decode cX6_isLiteral 12 = .ok (.getfield 39, 3) := by decide +kernel
theorem dX6_isLiteral_15 : decode cX6_isLiteral 15 = .ok (.iadd, 1) := by decide +kernel
theorem dX6_isLiteral_16 : decode cX6_isLiteral 16 = .ok (.if_icmp .ge 7, 3) := by decide +kernel
theorem dX6_isLiteral_19 : decode cX6_isLiteral 19 = .ok (.iconst 1, 1) := by decide +kernel
theorem dX6_isLiteral_20 : decode cX6_isLiteral 20 = .ok (.goto 4, 3) := by decide +kernel
theorem dX6_isLiteral_23 : decode cX6_isLiteral 23 = .ok (.iconst 0, 1) := by decide +kernel
theorem dX6_isLiteral_24 : decode cX6_isLiteral 24 = .ok (.ireturn, 1) := by decide +kernel
theorem dX6_isPlain_0 : decode cX6_isPlain 0 = .ok (.iload_n 1, 1) := by decide +kernel
theorem dX6_isPlain_1 : decode cX6_isPlain 1 = .ok (.ifCond .lt 9, 3) := by decide +kernel
theorem dX6_isPlain_4 : decode cX6_isPlain 4 = .ok (.iload_n 1, 1) := by decide +kernel
theorem dX6_isPlain_5 : decode cX6_isPlain 5 = .ok (.bipush 11, 2) := by decide +kernel
theorem dX6_isPlain_7 : decode cX6_isPlain 7 = .ok (.if_icmp .le 28, 3) := by decide +kernel
theorem dX6_isPlain_10 : decode cX6_isPlain 10 = .ok (.iload_n 1, 1) := by decide +kernel
theorem dX6_isPlain_11 : decode cX6_isPlain 11 = .ok (.bipush 20, 2) := by decide +kernel
theorem dX6_isPlain_13 : decode cX6_isPlain 13 = .ok (.if_icmp .lt 9, 3) := by decide +kernel
theorem dX6_isPlain_16 : decode cX6_isPlain 16 = .ok (.iload_n 1, 1) := by decide +kernel
theorem dX6_isPlain_17 : decode cX6_isPlain 17 = .ok (.bipush 28, 2) := by decide +kernel
theorem dX6_isPlain_19 : decode cX6_isPlain 19 = .ok (.if_icmp .le 16, 3) := by decide +kernel
theorem dX6_isPlain_22 : decode cX6_isPlain 22 = .ok (.iload_n 1, 1) := by decide +kernel
theorem dX6_isPlain_23 : decode cX6_isPlain 23 = .ok (.bipush 100, 2) := by decide +kernel
theorem dX6_isPlain_25 : decode cX6_isPlain 25 = .ok (.if_icmp .lt 14, 3) := by decide +kernel
theorem dX6_isPlain_28 : decode cX6_isPlain 28 = .ok (.iload_n 1, 1) := by decide +kernel
theorem dX6_isPlain_29 : decode cX6_isPlain 29 = .ok (.sipush 199, 3) := by decide +kernel
theorem dX6_isPlain_32 : decode cX6_isPlain 32 = .ok (.if_icmp .gt 7, 3) := by decide +kernel
theorem dX6_isPlain_35 : decode cX6_isPlain 35 = .ok (.iconst 1, 1) := by decide +kernel
theorem dX6_isPlain_36 : decode cX6_isPlain 36 = .ok (.goto 4, 3) := by decide +kernel
theorem dX6_isPlain_39 : decode cX6_isPlain 39 = .ok (.iconst 0, 1) := by decide +kernel
theorem dX6_isPlain_40 : decode cX6_isPlain 40 = .ok (.ireturn, 1) := by decide +kernel
set_option maxRecDepth 20000 in
theorem ggX6_literal_X6_isPlain : GoodIn wsX6_literal wsX6_isPlain := goodIn_r _ [7] (by decide +kernel) (by decide +kernel)
set_option maxRecDepth 20000 in
theorem gX6_literal_X6_isPlain : GoodIn wsX6_literal (wsV RX6 42 RX6 yX6_isPlain wsX6_isPlain) := goodIn_app (goodIn_of _ (by decide +kernel)) ggX6_literal_X6_isPlain
set_option maxRecDepth 20000 in
theorem ggX6_literal_X6_refuses : GoodIn wsX6_literal wsX6_refuses := goodIn_r _ [11, 12, 13, 14, 15, 16, 17, 18, 19, 20, 21, 22, 23, 24, 25, 26, 27, 28] (by decide +kernel) (by decide +kernel)
set_option maxRecDepth 20000 in
theorem gX6_literal_X6_refuses : GoodIn wsX6_literal (wsV RX6 46 RX6 yX6_refuses wsX6_refuses) := goodIn_app (goodIn_of _ (by decide +kernel)) ggX6_literal_X6_refuses
theorem dX6_literal_0 : decode cX6_literal 0 = .ok (.aload_n 0, 1) := by decide +kernel
theorem dX6_literal_1 : decode cX6_literal 1 = .ok (.aload_n 0, 1) := by decide +kernel
theorem dX6_literal_2 : decode cX6_literal 2 = .ok (.iload_n 1, 1) := by decide +kernel
theorem dX6_literal_3 : decode cX6_literal 3 = .ok (.invokevirtual 42, 3) := by decide +kernel
theorem dX6_literal_6 : decode cX6_literal 6 = .ok (.ifCond .ne 7, 3) := by decide +kernel
theorem dX6_literal_9 : decode cX6_literal 9 = .ok (.iconst 1, 1) := by decide +kernel
theorem dX6_literal_10 : decode cX6_literal 10 = .ok (.goto 17, 3) := by decide +kernel
theorem dX6_literal_13 : decode cX6_literal 13 = .ok (.aload_n 0, 1) := by decide +kernel
theorem dX6_literal_14 : decode cX6_literal 14 = .ok (.getfield 39, 3) := by decide +kernel
theorem dX6_literal_17 : decode cX6_literal 17 = .ok (.bipush 40, 2) := by decide +kernel
theorem dX6_literal_19 : decode cX6_literal 19 = .ok (.if_icmp .ne 7, 3) := by decide +kernel
theorem dX6_literal_22 : decode cX6_literal 22 = .ok (.iconst 2, 1) := by decide +kernel
theorem dX6_literal_23 : decode cX6_literal 23 = .ok (.goto 4, 3) := by decide +kernel
theorem dX6_literal_26 : decode cX6_literal 26 = .ok (.iconst 0, 1) := by decide +kernel
theorem dX6_literal_27 : decode cX6_literal 27 = .ok (.invokevirtual 46, 3) := by decide +kernel
theorem dX6_literal_30 : decode cX6_literal 30 = .ok (.ifCond .eq 5, 3) := by decide +kernel
theorem dX6_literal_33 : decode cX6_literal 33 = .ok (.iconst 0, 1) := by decide +kernel
theorem dX6_literal_34 : decode cX6_literal 34 = .ok (.ireturn, 1) := by decide +kernel
theorem dX6_literal_35 : decode cX6_literal 35 = .ok (.aload_n 0, 1) := by decide +kernel
theorem dX6_literal_36 : decode cX6_literal 36 = .ok (.getfield 17, 3) := by decide +kernel
theorem dX6_literal_39 : decode cX6_literal 39 = .ok (.aload_n 0, 1) := by decide +kernel
theorem dX6_literal_40 : decode cX6_literal 40 = .ok (.getfield 39, 3) := by decide +kernel
theorem dX6_literal_43 : decode cX6_literal 43 = .ok (.iload_n 1, 1) := by decide +kernel
theorem dX6_literal_44 : decode cX6_literal 44 = .ok (.iastore, 1) := by decide +kernel
theorem dX6_literal_45 : decode cX6_literal 45 = .ok (.aload_n 0, 1) := by decide +kernel
theorem dX6_literal_46 : decode cX6_literal 46 = .ok (.dup, 1) := by decide +kernel
theorem dX6_literal_47 : decode cX6_literal 47 = .ok (.getfield 39, 3) := by decide +kernel
theorem dX6_literal_50 : decode cX6_literal 50 = .ok (.iconst 1, 1) := by decide +kernel
theorem dX6_literal_51 : decode cX6_literal 51 = .ok (.iadd, 1) := by decide +kernel
theorem dX6_literal_52 : decode cX6_literal 52 = .ok (.putfield 39, 3) := by decide +kernel
theorem dX6_literal_55 : decode cX6_literal 55 = .ok (.sipush 300, 3) := by decide +kernel
theorem dX6_literal_58 : decode cX6_literal 58 = .ok (.aload_n 0, 1) := by decide +kernel
theorem dX6_literal_59 : decode cX6_literal 59 = .ok (.getfield 39, 3) := by decide +kernel
theorem dX6_literal_62 : decode cX6_literal 62 = .ok (.iadd, 1) := by decide +kernel
theorem dX6_literal_63 : decode cX6_literal 63 = .ok (.iconst 1, 1) := by decide +kernel
theorem dX6_literal_64 : decode cX6_literal 64 = .ok (.isub, 1) := by decide +kernel
theorem dX6_literal_65 : decode cX6_literal 65 = .ok (.ireturn, 1) := by decide +kernel
theorem dX6_place_0 : decode cX6_place 0 = .ok (.iconst 0, 1) := by decide +kernel
theorem dX6_place_1 : decode cX6_place 1 = .ok (.istore 4, 2) := by decide +kernel
theorem dX6_place_3 : decode cX6_place 3 = .ok (.iload 4, 2) := by decide +kernel
theorem dX6_place_5 : decode cX6_place 5 = .ok (.aload_n 0, 1) := by decide +kernel
theorem dX6_place_6 : decode cX6_place 6 = .ok (.getfield 49, 3) := by decide +kernel
theorem dX6_place_9 : decode cX6_place 9 = .ok (.if_icmp .ge 52, 3) := by decide +kernel
theorem dX6_place_12 : decode cX6_place 12 = .ok (.aload_n 0, 1) := by decide +kernel
theorem dX6_place_13 : decode cX6_place 13 = .ok (.getfield 13, 3) := by decide +kernel
theorem dX6_place_16 : decode cX6_place 16 = .ok (.iconst 3, 1) := by decide +kernel
theorem dX6_place_17 : decode cX6_place 17 = .ok (.iload 4, 2) := by decide +kernel
theorem dX6_place_19 : decode cX6_place 19 = .ok (.imul, 1) := by decide +kernel
theorem dX6_place_20 : decode cX6_place 20 = .ok (.iaload, 1) := by decide +kernel
theorem dX6_place_21 : decode cX6_place 21 = .ok (.iload_n 1, 1) := by decide +kernel
theorem dX6_place_22 : decode cX6_place 22 = .ok (.if_icmp .ne 33, 3) := by decide +kernel
theorem dX6_place_25 : decode cX6_place 25 = .ok (.aload_n 0, 1) := by decide +kernel
theorem dX6_place_26 : decode cX6_place 26 = .ok (.getfield 13, 3) := by decide +kernel
theorem dX6_place_29 : decode cX6_place 29 = .ok (.iconst 3, 1) := by decide +kernel
theorem dX6_place_30 : decode cX6_place 30 = .ok (.iload 4, 2) := by decide +kernel
theorem dX6_place_32 : decode cX6_place 32 = .ok (.imul, 1) := by decide +kernel
theorem dX6_place_33 : decode cX6_place 33 = .ok (.iconst 1, 1) := by decide +kernel
theorem dX6_place_34 : decode cX6_place 34 = .ok (.iadd, 1) := by decide +kernel
theorem dX6_place_35 : decode cX6_place 35 = .ok (.iaload, 1) := by decide +kernel
theorem dX6_place_36 : decode cX6_place 36 = .ok (.iload_n 2, 1) := by decide +kernel
theorem dX6_place_37 : decode cX6_place 37 = .ok (.if_icmp .ne 18, 3) := by decide +kernel
theorem dX6_place_40 : decode cX6_place 40 = .ok (.aload_n 0, 1) := by decide +kernel
theorem dX6_place_41 : decode cX6_place 41 = .ok (.getfield 13, 3) := by decide +kernel
theorem dX6_place_44 : decode cX6_place 44 = .ok (.iconst 3, 1) := by decide +kernel
theorem dX6_place_45 : decode cX6_place 45 = .ok (.iload 4, 2) := by decide +kernel
theorem dX6_place_47 : decode cX6_place 47 = .ok (.imul, 1) := by decide +kernel
theorem dX6_place_48 : decode cX6_place 48 = .ok (.iconst 2, 1) := by decide +kernel
theorem dX6_place_49 : decode cX6_place 49 = .ok (.iadd, 1) := by decide +kernel
theorem dX6_place_50 : decode cX6_place 50 = .ok (.iaload, 1) := by decide +kernel
theorem dX6_place_51 : decode cX6_place 51 = .ok (.iload_n 3, 1) := by decide +kernel
theorem dX6_place_52 : decode cX6_place 52 = .ok (.if_icmp .eq 9, 3) := by decide +kernel
theorem dX6_place_55 : decode cX6_place 55 = .ok (.iinc 4 1, 3) := by decide +kernel
theorem dX6_place_58 : decode cX6_place 58 = .ok (.goto (-55), 3) := by decide +kernel
theorem dX6_place_61 : decode cX6_place 61 = .ok (.iload 4, 2) := by decide +kernel
theorem dX6_place_63 : decode cX6_place 63 = .ok (.ireturn, 1) := by decide +kernel
set_option maxRecDepth 20000 in
theorem ggX6_isFact_X6_isPlain : GoodIn wsX6_isFact wsX6_isPlain := goodIn_r _ [5] (by decide +kernel) (by decide +kernel)
set_option maxRecDepth 20000 in
theorem gX6_isFact_X6_isPlain : GoodIn wsX6_isFact (wsV RX6 42 RX6 yX6_isPlain wsX6_isPlain) := goodIn_app (goodIn_of _ (by decide +kernel)) ggX6_isFact_X6_isPlain
set_option maxRecDepth 20000 in
theorem ggX6_isFact_X6_isLiteral : GoodIn wsX6_isFact wsX6_isLiteral := goodIn_r _ [9, 10, 11, 12, 13, 14, 15, 16, 17, 18, 19, 20, 21, 22, 23, 24, 25, 26] (by decide +kernel) (by decide +kernel)
set_option maxRecDepth 20000 in
theorem gX6_isFact_X6_isLiteral : GoodIn wsX6_isFact (wsV RX6 52 RX6 yX6_isLiteral wsX6_isLiteral) := goodIn_app (goodIn_of _ (by decide +kernel)) ggX6_isFact_X6_isLiteral
theorem dX6_isFact_0 : decode cX6_isFact 0 = .ok (.aload_n 0, 1) := by decide +kernel
theorem dX6_isFact_1 : decode cX6_isFact 1 = .ok (.iload_n 1, 1) := by decide +kernel
theorem dX6_isFact_2 : decode cX6_isFact 2 = .ok (.invokevirtual 42, 3) := by decide +kernel
theorem dX6_isFact_5 : decode cX6_isFact 5 = .ok (.ifCond .eq 31, 3) := by decide +kernel
theorem dX6_isFact_8 : decode cX6_isFact 8 = .ok (.aload_n 0, 1) := by decide +kernel
theorem dX6_isFact_9 : decode cX6_isFact 9 = .ok (.iload_n 2, 1) := by decide +kernel
theorem dX6_isFact_10 : decode cX6_isFact 10 = .ok (.invokevirtual 42, 3) := by decide +kernel
theorem dX6_isFact_13 : decode cX6_isFact 13 = .ok (.ifCond .eq 23, 3) := by decide +kernel
theorem dX6_isFact_16 : decode cX6_isFact 16 = .ok (.aload_n 0, 1) := by decide +kernel
theorem dX6_isFact_17 : decode cX6_isFact 17 = .ok (.iload_n 3, 1) := by decide +kernel
theorem dX6_isFact_18 : decode cX6_isFact 18 = .ok (.invokevirtual 42, 3) := by decide +kernel
theorem dX6_isFact_21 : decode cX6_isFact 21 = .ok (.ifCond .ne 11, 3) := by decide +kernel
theorem dX6_isFact_24 : decode cX6_isFact 24 = .ok (.aload_n 0, 1) := by decide +kernel
theorem dX6_isFact_25 : decode cX6_isFact 25 = .ok (.iload_n 3, 1) := by decide +kernel
theorem dX6_isFact_26 : decode cX6_isFact 26 = .ok (.invokevirtual 52, 3) := by decide +kernel
theorem dX6_isFact_29 : decode cX6_isFact 29 = .ok (.ifCond .eq 7, 3) := by decide +kernel
theorem dX6_isFact_32 : decode cX6_isFact 32 = .ok (.iconst 1, 1) := by decide +kernel
theorem dX6_isFact_33 : decode cX6_isFact 33 = .ok (.goto 4, 3) := by decide +kernel
theorem dX6_isFact_36 : decode cX6_isFact 36 = .ok (.iconst 0, 1) := by decide +kernel
theorem dX6_isFact_37 : decode cX6_isFact 37 = .ok (.ireturn, 1) := by decide +kernel
set_option maxRecDepth 20000 in
theorem ggX6_triple_X6_place : GoodIn wsX6_triple wsX6_place := goodIn_r _ [7, 1, 2, 26, 27, 28, 29, 30, 31, 32, 33, 34, 35, 36, 37, 38, 39, 40, 41] (by decide +kernel) (by decide +kernel)
set_option maxRecDepth 20000 in
theorem gX6_triple_X6_place : GoodIn wsX6_triple (wsV RX6 55 RX6 yX6_place wsX6_place) := goodIn_app (goodIn_of _ (by decide +kernel)) ggX6_triple_X6_place
set_option maxRecDepth 20000 in
theorem ggX6_triple_X6_isFact : GoodIn wsX6_triple wsX6_isFact := goodIn_r _ [11, 12, 13, 14, 6, 15, 16, 17, 18, 19, 20, 26, 27, 28, 29, 30, 31, 32, 33, 34, 35, 36, 37, 38, 39, 40, 41] (by decide +kernel) (by decide +kernel)
set_option maxRecDepth 20000 in
theorem gX6_triple_X6_isFact : GoodIn wsX6_triple (wsV RX6 59 RX6 yX6_isFact wsX6_isFact) := goodIn_app (goodIn_of _ (by decide +kernel)) ggX6_triple_X6_isFact
set_option maxRecDepth 20000 in
theorem ggX6_triple_X6_refuses : GoodIn wsX6_triple wsX6_refuses := goodIn_r _ [24, 25, 26, 27, 28, 29, 30, 31, 32, 33, 34, 35, 36, 37, 38, 39, 40, 41] (by decide +kernel) (by decide +kernel)
set_option maxRecDepth 20000 in
theorem gX6_triple_X6_refuses : GoodIn wsX6_triple (wsV RX6 46 RX6 yX6_refuses wsX6_refuses) := goodIn_app (goodIn_of _ (by decide +kernel)) ggX6_triple_X6_refuses
theorem dX6_triple_0 : decode cX6_triple 0 = .ok (.aload_n 0, 1) := by decide +kernel
theorem dX6_triple_1 : decode cX6_triple 1 = .ok (.iload_n 1, 1) := by decide +kernel
theorem dX6_triple_2 : decode cX6_triple 2 = .ok (.iload_n 2, 1) := by decide +kernel
theorem dX6_triple_3 : decode cX6_triple 3 = .ok (.iload_n 3, 1) := by decide +kernel
theorem dX6_triple_4 : decode cX6_triple 4 = .ok (.invokevirtual 55, 3) := by decide +kernel
theorem dX6_triple_7 : decode cX6_triple 7 = .ok (.aload_n 0, 1) := by decide +kernel
theorem dX6_triple_8 : decode cX6_triple 8 = .ok (.getfield 49, 3) := by decide +kernel
theorem dX6_triple_11 : decode cX6_triple 11 = .ok (.if_icmp .ge 7, 3) := by decide +kernel
theorem dX6_triple_14 : decode cX6_triple 14 = .ok (.iconst 1, 1) := by decide +kernel
theorem dX6_triple_15 : decode cX6_triple 15 = .ok (.goto 4, 3) := by decide +kernel
theorem dX6_triple_18 : decode cX6_triple 18 = .ok (.iconst 0, 1) := by decide +kernel
theorem dX6_triple_19 : decode cX6_triple 19 = .ok (.istore 4, 2) := by decide +kernel
theorem dX6_triple_21 : decode cX6_triple 21 = .ok (.aload_n 0, 1) := by decide +kernel
theorem dX6_triple_22 : decode cX6_triple 22 = .ok (.aload_n 0, 1) := by decide +kernel
theorem dX6_triple_23 : decode cX6_triple 23 = .ok (.iload_n 1, 1) := by decide +kernel
theorem dX6_triple_24 : decode cX6_triple 24 = .ok (.iload_n 2, 1) := by decide +kernel
theorem dX6_triple_25 : decode cX6_triple 25 = .ok (.iload_n 3, 1) := by decide +kernel
theorem dX6_triple_26 : decode cX6_triple 26 = .ok (.invokevirtual 59, 3) := by decide +kernel
theorem dX6_triple_29 : decode cX6_triple 29 = .ok (.ifCond .ne 7, 3) := by decide +kernel
theorem dX6_triple_32 : decode cX6_triple 32 = .ok (.iconst 1, 1) := by decide +kernel
theorem dX6_triple_33 : decode cX6_triple 33 = .ok (.goto 22, 3) := by decide +kernel
theorem dX6_triple_36 : decode cX6_triple 36 = .ok (.iload 4, 2) := by decide +kernel
theorem dX6_triple_38 : decode cX6_triple 38 = .ok (.ifCond .ne 16, 3) := by decide +kernel
theorem dX6_triple_41 : decode cX6_triple 41 = .ok (.aload_n 0, 1) := by decide +kernel
theorem dX6_triple_42 : decode cX6_triple 42 = .ok (.getfield 49, 3) := by decide +kernel
theorem dX6_triple_45 : decode cX6_triple 45 = .ok (.bipush 80, 2) := by decide +kernel
theorem dX6_triple_47 : decode cX6_triple 47 = .ok (.if_icmp .ne 7, 3) := by decide +kernel
theorem dX6_triple_50 : decode cX6_triple 50 = .ok (.iconst 2, 1) := by decide +kernel
theorem dX6_triple_51 : decode cX6_triple 51 = .ok (.goto 4, 3) := by decide +kernel
theorem dX6_triple_54 : decode cX6_triple 54 = .ok (.iconst 0, 1) := by decide +kernel
theorem dX6_triple_55 : decode cX6_triple 55 = .ok (.invokevirtual 46, 3) := by decide +kernel
theorem dX6_triple_58 : decode cX6_triple 58 = .ok (.ifCond .eq 5, 3) := by decide +kernel
theorem dX6_triple_61 : decode cX6_triple 61 = .ok (.iconst 0, 1) := by decide +kernel
theorem dX6_triple_62 : decode cX6_triple 62 = .ok (.ireturn, 1) := by decide +kernel
theorem dX6_triple_63 : decode cX6_triple 63 = .ok (.iload 4, 2) := by decide +kernel
theorem dX6_triple_65 : decode cX6_triple 65 = .ok (.ifCond .ne 53, 3) := by decide +kernel
theorem dX6_triple_68 : decode cX6_triple 68 = .ok (.aload_n 0, 1) := by decide +kernel
theorem dX6_triple_69 : decode cX6_triple 69 = .ok (.getfield 13, 3) := by decide +kernel
theorem dX6_triple_72 : decode cX6_triple 72 = .ok (.iconst 3, 1) := by decide +kernel
theorem dX6_triple_73 : decode cX6_triple 73 = .ok (.aload_n 0, 1) := by decide +kernel
theorem dX6_triple_74 : decode cX6_triple 74 = .ok (.getfield 49, 3) := by decide +kernel
theorem dX6_triple_77 : decode cX6_triple 77 = .ok (.imul, 1) := by decide +kernel
theorem dX6_triple_78 : decode cX6_triple 78 = .ok (.iload_n 1, 1) := by decide +kernel
theorem dX6_triple_79 : decode cX6_triple 79 = .ok (.iastore, 1) := by decide +kernel
theorem dX6_triple_80 : decode cX6_triple 80 = .ok (.aload_n 0, 1) := by decide +kernel
theorem dX6_triple_81 : decode cX6_triple 81 = .ok (.getfield 13, 3) := by decide +kernel
theorem dX6_triple_84 : decode cX6_triple 84 = .ok (.iconst 3, 1) := by decide +kernel
theorem dX6_triple_85 : decode cX6_triple 85 = .ok (.aload_n 0, 1) := by decide +kernel
theorem dX6_triple_86 : decode cX6_triple 86 = .ok (.getfield 49, 3) := by decide +kernel
theorem dX6_triple_89 : decode cX6_triple 89 = .ok (.imul, 1) := by decide +kernel
theorem dX6_triple_90 : decode cX6_triple 90 = .ok (.iconst 1, 1) := by decide +kernel
theorem dX6_triple_91 : decode cX6_triple 91 = .ok (.iadd, 1) := by decide +kernel
theorem dX6_triple_92 : decode cX6_triple 92 = .ok (.iload_n 2, 1) := by decide +kernel
theorem dX6_triple_93 : decode cX6_triple 93 = .ok (.iastore, 1) := by decide +kernel
theorem dX6_triple_94 : decode cX6_triple 94 = .ok (.aload_n 0, 1) := by decide +kernel
theorem dX6_triple_95 : decode cX6_triple 95 = .ok (.getfield 13, 3) := by decide +kernel
theorem dX6_triple_98 : decode cX6_triple 98 = .ok (.iconst 3, 1) := by decide +kernel
theorem dX6_triple_99 : decode cX6_triple 99 = .ok (.aload_n 0, 1) := by decide +kernel
theorem dX6_triple_100 : decode cX6_triple 100 = .ok (.getfield 49, 3) := by decide +kernel
theorem dX6_triple_103 : decode cX6_triple 103 = .ok (.imul, 1) := by decide +kernel
theorem dX6_triple_104 : decode cX6_triple 104 = .ok (.iconst 2, 1) := by decide +kernel
theorem dX6_triple_105 : decode cX6_triple 105 = .ok (.iadd, 1) := by decide +kernel
theorem dX6_triple_106 : decode cX6_triple 106 = .ok (.iload_n 3, 1) := by decide +kernel
theorem dX6_triple_107 : decode cX6_triple 107 = .ok (.iastore, 1) := by decide +kernel
theorem dX6_triple_108 : decode cX6_triple 108 = .ok (.aload_n 0, 1) := by decide +kernel
theorem dX6_triple_109 : decode cX6_triple 109 = .ok (.dup, 1) := by decide +kernel
theorem dX6_triple_110 : decode cX6_triple 110 = .ok (.getfield 49, 3) := by decide +kernel
theorem dX6_triple_113 : decode cX6_triple 113 = .ok (.iconst 1, 1) := by decide +kernel
theorem dX6_triple_114 : decode cX6_triple 114 = .ok (.iadd, 1) := by decide +kernel
theorem dX6_triple_115 : decode cX6_triple 115 = .ok (.putfield 49, 3) := by decide +kernel
theorem dX6_triple_118 : decode cX6_triple 118 = .ok (.aload_n 0, 1) := by decide +kernel
theorem dX6_triple_119 : decode cX6_triple 119 = .ok (.getfield 49, 3) := by decide +kernel
theorem dX6_triple_122 : decode cX6_triple 122 = .ok (.ireturn, 1) := by decide +kernel
theorem dX6_axiom_0 : decode cX6_axiom 0 = .ok (.iload_n 1, 1) := by decide +kernel
theorem dX6_axiom_1 : decode cX6_axiom 1 = .ok (.tableswitch 121 0 14 #[75, 77, 81, 85, 88, 91, 94, 97, 100, 103, 106, 109, 112, 115, 118], 75) := by decide +kernel
theorem dX6_axiom_76 : decode cX6_axiom 76 = .ok (.iconst 1, 1) := by decide +kernel
theorem dX6_axiom_77 : decode cX6_axiom 77 = .ok (.ireturn, 1) := by decide +kernel
theorem dX6_axiom_78 : decode cX6_axiom 78 = .ok (.sipush 602, 3) := by decide +kernel
theorem dX6_axiom_81 : decode cX6_axiom 81 = .ok (.ireturn, 1) := by decide +kernel
theorem dX6_axiom_82 : decode cX6_axiom 82 = .ok (.sipush 703, 3) := by decide +kernel
theorem dX6_axiom_85 : decode cX6_axiom 85 = .ok (.ireturn, 1) := by decide +kernel
theorem dX6_axiom_86 : decode cX6_axiom 86 = .ok (.ldc 63, 2) := by decide +kernel
theorem dX6_axiom_88 : decode cX6_axiom 88 = .ok (.ireturn, 1) := by decide +kernel
theorem dX6_axiom_89 : decode cX6_axiom 89 = .ok (.ldc 64, 2) := by decide +kernel
theorem dX6_axiom_91 : decode cX6_axiom 91 = .ok (.ireturn, 1) := by decide +kernel
theorem dX6_axiom_92 : decode cX6_axiom 92 = .ok (.ldc 65, 2) := by decide +kernel
theorem dX6_axiom_94 : decode cX6_axiom 94 = .ok (.ireturn, 1) := by decide +kernel
theorem dX6_axiom_95 : decode cX6_axiom 95 = .ok (.ldc 66, 2) := by decide +kernel
theorem dX6_axiom_97 : decode cX6_axiom 97 = .ok (.ireturn, 1) := by decide +kernel
theorem dX6_axiom_98 : decode cX6_axiom 98 = .ok (.ldc 67, 2) := by decide +kernel
theorem dX6_axiom_100 : decode cX6_axiom 100 = .ok (.ireturn, 1) := by decide +kernel
theorem dX6_axiom_101 : decode cX6_axiom 101 = .ok (.ldc 68, 2) := by decide +kernel
theorem dX6_axiom_103 : decode cX6_axiom 103 = .ok (.ireturn, 1) := by decide +kernel
theorem dX6_axiom_104 : decode cX6_axiom 104 = .ok (.ldc 69, 2) := by decide +kernel
theorem dX6_axiom_106 : decode cX6_axiom 106 = .ok (.ireturn, 1) := by decide +kernel
theorem dX6_axiom_107 : decode cX6_axiom 107 = .ok (.ldc 70, 2) := by decide +kernel
theorem dX6_axiom_109 : decode cX6_axiom 109 = .ok (.ireturn, 1) := by decide +kernel
theorem dX6_axiom_110 : decode cX6_axiom 110 = .ok (.ldc 71, 2) := by decide +kernel
theorem dX6_axiom_112 : decode cX6_axiom 112 = .ok (.ireturn, 1) := by decide +kernel
theorem dX6_axiom_113 : decode cX6_axiom 113 = .ok (.ldc 72, 2) := by decide +kernel
theorem dX6_axiom_115 : decode cX6_axiom 115 = .ok (.ireturn, 1) := by decide +kernel
theorem dX6_axiom_116 : decode cX6_axiom 116 = .ok (.ldc 73, 2) := by decide +kernel
theorem dX6_axiom_118 : decode cX6_axiom 118 = .ok (.ireturn, 1) := by decide +kernel
theorem dX6_axiom_119 : decode cX6_axiom 119 = .ok (.ldc 74, 2) := by decide +kernel
theorem dX6_axiom_121 : decode cX6_axiom 121 = .ok (.ireturn, 1) := by decide +kernel
theorem dX6_axiom_122 : decode cX6_axiom 122 = .ok (.iload_n 1, 1) := by decide +kernel
theorem dX6_axiom_123 : decode cX6_axiom 123 = .ok (.bipush 15, 2) := by decide +kernel
theorem dX6_axiom_125 : decode cX6_axiom 125 = .ok (.isub, 1) := by decide +kernel
theorem dX6_axiom_126 : decode cX6_axiom 126 = .ok (.istore_n 2, 1) := by decide +kernel
theorem dX6_axiom_127 : decode cX6_axiom 127 = .ok (.bipush 20, 2) := by decide +kernel
theorem dX6_axiom_129 : decode cX6_axiom 129 = .ok (.iload_n 2, 1) := by decide +kernel
theorem dX6_axiom_130 : decode cX6_axiom 130 = .ok (.iconst 3, 1) := by decide +kernel
theorem dX6_axiom_131 : decode cX6_axiom 131 = .ok (.idiv, 1) := by decide +kernel
theorem dX6_axiom_132 : decode cX6_axiom 132 = .ok (.iadd, 1) := by decide +kernel
theorem dX6_axiom_133 : decode cX6_axiom 133 = .ok (.istore_n 3, 1) := by decide +kernel
theorem dX6_axiom_134 : decode cX6_axiom 134 = .ok (.iload_n 2, 1) := by decide +kernel
theorem dX6_axiom_135 : decode cX6_axiom 135 = .ok (.aload_n 0, 1) := by decide +kernel
theorem dX6_axiom_136 : decode cX6_axiom 136 = .ok (.getfield 32, 3) := by decide +kernel
theorem dX6_axiom_139 : decode cX6_axiom 139 = .ok (.ifCond .eq 12, 3) := by decide +kernel
theorem dX6_axiom_142 : decode cX6_axiom 142 = .ok (.iconst 3, 1) := by decide +kernel
theorem dX6_axiom_143 : decode cX6_axiom 143 = .ok (.aload_n 0, 1) := by decide +kernel
theorem dX6_axiom_144 : decode cX6_axiom 144 = .ok (.getfield 7, 3) := by decide +kernel
theorem dX6_axiom_147 : decode cX6_axiom 147 = .ok (.imul, 1) := by decide +kernel
theorem dX6_axiom_148 : decode cX6_axiom 148 = .ok (.goto 4, 3) := by decide +kernel
theorem dX6_axiom_151 : decode cX6_axiom 151 = .ok (.iconst 0, 1) := by decide +kernel
theorem dX6_axiom_152 : decode cX6_axiom 152 = .ok (.if_icmp .lt 7, 3) := by decide +kernel
theorem dX6_axiom_155 : decode cX6_axiom 155 = .ok (.iconst (-1), 1) := by decide +kernel
theorem dX6_axiom_156 : decode cX6_axiom 156 = .ok (.goto 36, 3) := by decide +kernel
theorem dX6_axiom_159 : decode cX6_axiom 159 = .ok (.sipush 10000, 3) := by decide +kernel
theorem dX6_axiom_162 : decode cX6_axiom 162 = .ok (.iload_n 3, 1) := by decide +kernel
theorem dX6_axiom_163 : decode cX6_axiom 163 = .ok (.imul, 1) := by decide +kernel
theorem dX6_axiom_164 : decode cX6_axiom 164 = .ok (.iload_n 2, 1) := by decide +kernel
theorem dX6_axiom_165 : decode cX6_axiom 165 = .ok (.iconst 3, 1) := by decide +kernel
theorem dX6_axiom_166 : decode cX6_axiom 166 = .ok (.irem, 1) := by decide +kernel
theorem dX6_axiom_167 : decode cX6_axiom 167 = .ok (.ifCond .ne 8, 3) := by decide +kernel
theorem dX6_axiom_170 : decode cX6_axiom 170 = .ok (.bipush 11, 2) := by decide +kernel
theorem dX6_axiom_172 : decode cX6_axiom 172 = .ok (.goto 19, 3) := by decide +kernel
theorem dX6_axiom_175 : decode cX6_axiom 175 = .ok (.iload_n 2, 1) := by decide +kernel
theorem dX6_axiom_176 : decode cX6_axiom 176 = .ok (.iconst 3, 1) := by decide +kernel
theorem dX6_axiom_177 : decode cX6_axiom 177 = .ok (.irem, 1) := by decide +kernel
theorem dX6_axiom_178 : decode cX6_axiom 178 = .ok (.iconst 1, 1) := by decide +kernel
theorem dX6_axiom_179 : decode cX6_axiom 179 = .ok (.if_icmp .ne 9, 3) := by decide +kernel
theorem dX6_axiom_182 : decode cX6_axiom 182 = .ok (.sipush 602, 3) := by decide +kernel
theorem dX6_axiom_185 : decode cX6_axiom 185 = .ok (.goto 6, 3) := by decide +kernel
theorem dX6_axiom_188 : decode cX6_axiom 188 = .ok (.sipush 702, 3) := by decide +kernel
theorem dX6_axiom_191 : decode cX6_axiom 191 = .ok (.iadd, 1) := by decide +kernel
theorem dX6_axiom_192 : decode cX6_axiom 192 = .ok (.ireturn, 1) := by decide +kernel
set_option maxRecDepth 20000 in
theorem ggX6_isAxiom_X6_axiom : GoodIn wsX6_isAxiom wsX6_axiom := goodIn_r _ [6, 7, 8, 9, 10, 11, 12, 13, 14, 15, 16, 17, 18, 19, 20, 21, 22, 23, 24, 25, 26, 27, 28, 29, 30, 31, 32, 33, 34, 35, 36] (by decide +kernel) (by decide +kernel)
set_option maxRecDepth 20000 in
theorem gX6_isAxiom_X6_axiom : GoodIn wsX6_isAxiom (wsV RX6 78 RX6 yX6_axiom wsX6_axiom) := goodIn_app (goodIn_of _ (by decide +kernel)) ggX6_isAxiom_X6_axiom
theorem dX6_isAxiom_0 : decode cX6_isAxiom 0 = .ok (.iconst 0, 1) := by decide +kernel
theorem dX6_isAxiom_1 : decode cX6_isAxiom 1 = .ok (.istore 4, 2) := by decide +kernel
theorem dX6_isAxiom_3 : decode cX6_isAxiom 3 = .ok (.iconst 0, 1) := by decide +kernel
theorem dX6_isAxiom_4 : decode cX6_isAxiom 4 = .ok (.istore 5, 2) := by decide +kernel
theorem dX6_isAxiom_6 : decode cX6_isAxiom 6 = .ok (.iload 5, 2) := by decide +kernel
theorem dX6_isAxiom_8 : decode cX6_isAxiom 8 = .ok (.bipush 42, 2) := by decide +kernel
theorem dX6_isAxiom_10 : decode cX6_isAxiom 10 = .ok (.if_icmp .ge 72, 3) := by decide +kernel
theorem dX6_isAxiom_13 : decode cX6_isAxiom 13 = .ok (.aload_n 0, 1) := by decide +kernel
theorem dX6_isAxiom_14 : decode cX6_isAxiom 14 = .ok (.getfield 75, 3) := by decide +kernel
theorem dX6_isAxiom_17 : decode cX6_isAxiom 17 = .ok (.ifCond .eq 65, 3) := by decide +kernel
theorem dX6_isAxiom_20 : decode cX6_isAxiom 20 = .ok (.aload_n 0, 1) := by decide +kernel
theorem dX6_isAxiom_21 : decode cX6_isAxiom 21 = .ok (.iload 5, 2) := by decide +kernel
theorem dX6_isAxiom_23 : decode cX6_isAxiom 23 = .ok (.invokevirtual 78, 3) := by decide +kernel
theorem dX6_isAxiom_26 : decode cX6_isAxiom 26 = .ok (.istore 6, 2) := by decide +kernel
theorem dX6_isAxiom_28 : decode cX6_isAxiom 28 = .ok (.iload 4, 2) := by decide +kernel
theorem dX6_isAxiom_30 : decode cX6_isAxiom 30 = .ok (.ifCond .ne 39, 3) := by decide +kernel
theorem dX6_isAxiom_33 : decode cX6_isAxiom 33 = .ok (.iload 6, 2) := by decide +kernel
theorem dX6_isAxiom_35 : decode cX6_isAxiom 35 = .ok (.ifCond .lt 38, 3) := by decide +kernel
theorem dX6_isAxiom_38 : decode cX6_isAxiom 38 = .ok (.iload 6, 2) := by decide +kernel
theorem dX6_isAxiom_40 : decode cX6_isAxiom 40 = .ok (.sipush 10000, 3) := by decide +kernel
theorem dX6_isAxiom_43 : decode cX6_isAxiom 43 = .ok (.idiv, 1) := by decide +kernel
theorem dX6_isAxiom_44 : decode cX6_isAxiom 44 = .ok (.iload_n 1, 1) := by decide +kernel
theorem dX6_isAxiom_45 : decode cX6_isAxiom 45 = .ok (.if_icmp .ne 28, 3) := by decide +kernel
theorem dX6_isAxiom_48 : decode cX6_isAxiom 48 = .ok (.iload 6, 2) := by decide +kernel
theorem dX6_isAxiom_50 : decode cX6_isAxiom 50 = .ok (.bipush 100, 2) := by decide +kernel
theorem dX6_isAxiom_52 : decode cX6_isAxiom 52 = .ok (.idiv, 1) := by decide +kernel
theorem dX6_isAxiom_53 : decode cX6_isAxiom 53 = .ok (.bipush 100, 2) := by decide +kernel
theorem dX6_isAxiom_55 : decode cX6_isAxiom 55 = .ok (.irem, 1) := by decide +kernel
theorem dX6_isAxiom_56 : decode cX6_isAxiom 56 = .ok (.iload_n 2, 1) := by decide +kernel
theorem dX6_isAxiom_57 : decode cX6_isAxiom 57 = .ok (.if_icmp .ne 16, 3) := by decide +kernel
theorem dX6_isAxiom_60 : decode cX6_isAxiom 60 = .ok (.iload 6, 2) := by decide +kernel
theorem dX6_isAxiom_62 : decode cX6_isAxiom 62 = .ok (.bipush 100, 2) := by decide +kernel
theorem dX6_isAxiom_64 : decode cX6_isAxiom 64 = .ok (.irem, 1) := by decide +kernel
theorem dX6_isAxiom_65 : decode cX6_isAxiom 65 = .ok (.iload_n 3, 1) := by decide +kernel
theorem dX6_isAxiom_66 : decode cX6_isAxiom 66 = .ok (.if_icmp .ne 7, 3) := by decide +kernel
theorem dX6_isAxiom_69 : decode cX6_isAxiom 69 = .ok (.iconst 1, 1) := by decide +kernel
theorem dX6_isAxiom_70 : decode cX6_isAxiom 70 = .ok (.goto 4, 3) := by decide +kernel
theorem dX6_isAxiom_73 : decode cX6_isAxiom 73 = .ok (.iconst 0, 1) := by decide +kernel
theorem dX6_isAxiom_74 : decode cX6_isAxiom 74 = .ok (.istore 4, 2) := by decide +kernel
theorem dX6_isAxiom_76 : decode cX6_isAxiom 76 = .ok (.iinc 5 1, 3) := by decide +kernel
theorem dX6_isAxiom_79 : decode cX6_isAxiom 79 = .ok (.goto (-73), 3) := by decide +kernel
theorem dX6_isAxiom_82 : decode cX6_isAxiom 82 = .ok (.iload 4, 2) := by decide +kernel
theorem dX6_isAxiom_84 : decode cX6_isAxiom 84 = .ok (.ireturn, 1) := by decide +kernel
set_option maxRecDepth 20000 in
theorem ggX6_remove_X6_isFact : GoodIn wsX6_remove wsX6_isFact := goodIn_r _ [7, 8, 9, 10, 6, 11, 12, 13, 14, 15, 16, 49, 50, 51, 52, 53, 54, 55, 56, 57, 58, 59, 60, 61, 62, 63, 64] (by decide +kernel) (by decide +kernel)
set_option maxRecDepth 20000 in
theorem gX6_remove_X6_isFact : GoodIn wsX6_remove (wsV RX6 59 RX6 yX6_isFact wsX6_isFact) := goodIn_app (goodIn_of _ (by decide +kernel)) ggX6_remove_X6_isFact
set_option maxRecDepth 20000 in
theorem ggX6_remove_X6_refuses : GoodIn wsX6_remove wsX6_refuses := goodIn_r _ [20, 21, 49, 50, 51, 52, 53, 54, 55, 56, 57, 58, 59, 60, 61, 62, 63, 64] (by decide +kernel) (by decide +kernel)
set_option maxRecDepth 20000 in
theorem gX6_remove_X6_refuses : GoodIn wsX6_remove (wsV RX6 46 RX6 yX6_refuses wsX6_refuses) := goodIn_app (goodIn_of _ (by decide +kernel)) ggX6_remove_X6_refuses
set_option maxRecDepth 20000 in
theorem ggX6_remove_X6_place : GoodIn wsX6_remove wsX6_place := goodIn_r _ [25, 1, 2, 49, 50, 51, 52, 53, 54, 55, 56, 57, 58, 59, 60, 61, 62, 63, 64] (by decide +kernel) (by decide +kernel)
set_option maxRecDepth 20000 in
theorem gX6_remove_X6_place : GoodIn wsX6_remove (wsV RX6 55 RX6 yX6_place wsX6_place) := goodIn_app (goodIn_of _ (by decide +kernel)) ggX6_remove_X6_place
set_option maxRecDepth 20000 in
theorem ggX6_remove_X6_isAxiom : GoodIn wsX6_remove wsX6_isAxiom := goodIn_r _ [29, 30, 31, 32, 33, 6, 34, 35, 36, 37, 38, 39, 40, 41, 42, 43, 44, 45, 46, 47, 48, 49, 50, 51, 52, 53, 54, 55, 56, 57, 58, 59, 60, 61, 62, 63, 64] (by decide +kernel) (by decide +kernel)
set_option maxRecDepth 20000 in
theorem gX6_remove_X6_isAxiom : GoodIn wsX6_remove (wsV RX6 82 RX6 yX6_isAxiom wsX6_isAxiom) := goodIn_app (goodIn_of _ (by decide +kernel)) ggX6_remove_X6_isAxiom
theorem dX6_remove_0 : decode cX6_remove 0 = .ok (.aload_n 0, 1) := by decide +kernel
theorem dX6_remove_1 : decode cX6_remove 1 = .ok (.aload_n 0, 1) := by decide +kernel
theorem dX6_remove_2 : decode cX6_remove 2 = .ok (.iload_n 1, 1) := by decide +kernel
theorem dX6_remove_3 : decode cX6_remove 3 = .ok (.iload_n 2, 1) := by decide +kernel
theorem dX6_remove_4 : decode cX6_remove 4 = .ok (.iload_n 3, 1) := by decide +kernel
theorem dX6_remove_5 : decode cX6_remove 5 = .ok (.invokevirtual 59, 3) := by decide +kernel
theorem dX6_remove_8 : decode cX6_remove 8 = .ok (.ifCond .eq 7, 3) := by decide +kernel
theorem dX6_remove_11 : decode cX6_remove 11 = .ok (.iconst 0, 1) := by decide +kernel
theorem dX6_remove_12 : decode cX6_remove 12 = .ok (.goto 4, 3) := by decide +kernel
theorem dX6_remove_15 : decode cX6_remove 15 = .ok (.iconst 1, 1) := by decide +kernel
theorem dX6_remove_16 : decode cX6_remove 16 = .ok (.invokevirtual 46, 3) := by decide +kernel
theorem dX6_remove_19 : decode cX6_remove 19 = .ok (.ifCond .eq 5, 3) := by decide +kernel
theorem dX6_remove_22 : decode cX6_remove 22 = .ok (.iconst 0, 1) := by decide +kernel
theorem dX6_remove_23 : decode cX6_remove 23 = .ok (.ireturn, 1) := by decide +kernel
theorem dX6_remove_24 : decode cX6_remove 24 = .ok (.aload_n 0, 1) := by decide +kernel
theorem dX6_remove_25 : decode cX6_remove 25 = .ok (.iload_n 1, 1) := by decide +kernel
theorem dX6_remove_26 : decode cX6_remove 26 = .ok (.iload_n 2, 1) := by decide +kernel
theorem dX6_remove_27 : decode cX6_remove 27 = .ok (.iload_n 3, 1) := by decide +kernel
theorem dX6_remove_28 : decode cX6_remove 28 = .ok (.invokevirtual 55, 3) := by decide +kernel
theorem dX6_remove_31 : decode cX6_remove 31 = .ok (.istore 4, 2) := by decide +kernel
theorem dX6_remove_33 : decode cX6_remove 33 = .ok (.iload 4, 2) := by decide +kernel
theorem dX6_remove_35 : decode cX6_remove 35 = .ok (.aload_n 0, 1) := by decide +kernel
theorem dX6_remove_36 : decode cX6_remove 36 = .ok (.getfield 49, 3) := by decide +kernel
theorem dX6_remove_39 : decode cX6_remove 39 = .ok (.if_icmp .ne 19, 3) := by decide +kernel
theorem dX6_remove_42 : decode cX6_remove 42 = .ok (.aload_n 0, 1) := by decide +kernel
theorem dX6_remove_43 : decode cX6_remove 43 = .ok (.iload_n 1, 1) := by decide +kernel
theorem dX6_remove_44 : decode cX6_remove 44 = .ok (.iload_n 2, 1) := by decide +kernel
theorem dX6_remove_45 : decode cX6_remove 45 = .ok (.iload_n 3, 1) := by decide +kernel
theorem dX6_remove_46 : decode cX6_remove 46 = .ok (.invokevirtual 82, 3) := by decide +kernel
theorem dX6_remove_49 : decode cX6_remove 49 = .ok (.ifCond .eq 7, 3) := by decide +kernel
theorem dX6_remove_52 : decode cX6_remove 52 = .ok (.iconst 2, 1) := by decide +kernel
theorem dX6_remove_53 : decode cX6_remove 53 = .ok (.goto 4, 3) := by decide +kernel
theorem dX6_remove_56 : decode cX6_remove 56 = .ok (.iconst 0, 1) := by decide +kernel
theorem dX6_remove_57 : decode cX6_remove 57 = .ok (.ireturn, 1) := by decide +kernel
theorem dX6_remove_58 : decode cX6_remove 58 = .ok (.aload_n 0, 1) := by decide +kernel
theorem dX6_remove_59 : decode cX6_remove 59 = .ok (.dup, 1) := by decide +kernel
theorem dX6_remove_60 : decode cX6_remove 60 = .ok (.getfield 49, 3) := by decide +kernel
theorem dX6_remove_63 : decode cX6_remove 63 = .ok (.iconst 1, 1) := by decide +kernel
theorem dX6_remove_64 : decode cX6_remove 64 = .ok (.isub, 1) := by decide +kernel
theorem dX6_remove_65 : decode cX6_remove 65 = .ok (.putfield 49, 3) := by decide +kernel
theorem dX6_remove_68 : decode cX6_remove 68 = .ok (.iconst 3, 1) := by decide +kernel
theorem dX6_remove_69 : decode cX6_remove 69 = .ok (.iload 4, 2) := by decide +kernel
theorem dX6_remove_71 : decode cX6_remove 71 = .ok (.imul, 1) := by decide +kernel
theorem dX6_remove_72 : decode cX6_remove 72 = .ok (.istore 5, 2) := by decide +kernel
theorem dX6_remove_74 : decode cX6_remove 74 = .ok (.iload 5, 2) := by decide +kernel
theorem dX6_remove_76 : decode cX6_remove 76 = .ok (.iconst 3, 1) := by decide +kernel
theorem dX6_remove_77 : decode cX6_remove 77 = .ok (.aload_n 0, 1) := by decide +kernel
theorem dX6_remove_78 : decode cX6_remove 78 = .ok (.getfield 49, 3) := by decide +kernel
theorem dX6_remove_81 : decode cX6_remove 81 = .ok (.imul, 1) := by decide +kernel
theorem dX6_remove_82 : decode cX6_remove 82 = .ok (.if_icmp .ge 25, 3) := by decide +kernel
theorem dX6_remove_85 : decode cX6_remove 85 = .ok (.aload_n 0, 1) := by decide +kernel
theorem dX6_remove_86 : decode cX6_remove 86 = .ok (.getfield 13, 3) := by decide +kernel
theorem dX6_remove_89 : decode cX6_remove 89 = .ok (.iload 5, 2) := by decide +kernel
theorem dX6_remove_91 : decode cX6_remove 91 = .ok (.aload_n 0, 1) := by decide +kernel
theorem dX6_remove_92 : decode cX6_remove 92 = .ok (.getfield 13, 3) := by decide +kernel
theorem dX6_remove_95 : decode cX6_remove 95 = .ok (.iload 5, 2) := by decide +kernel
theorem dX6_remove_97 : decode cX6_remove 97 = .ok (.iconst 3, 1) := by decide +kernel
theorem dX6_remove_98 : decode cX6_remove 98 = .ok (.iadd, 1) := by decide +kernel
theorem dX6_remove_99 : decode cX6_remove 99 = .ok (.iaload, 1) := by decide +kernel
theorem dX6_remove_100 : decode cX6_remove 100 = .ok (.iastore, 1) := by decide +kernel
theorem dX6_remove_101 : decode cX6_remove 101 = .ok (.iinc 5 1, 3) := by decide +kernel
theorem dX6_remove_104 : decode cX6_remove 104 = .ok (.goto (-30), 3) := by decide +kernel
theorem dX6_remove_107 : decode cX6_remove 107 = .ok (.iconst 1, 1) := by decide +kernel
theorem dX6_remove_108 : decode cX6_remove 108 = .ok (.ireturn, 1) := by decide +kernel
theorem dX6_axioms_0 : decode cX6_axioms 0 = .ok (.aload_n 0, 1) := by decide +kernel
theorem dX6_axioms_1 : decode cX6_axioms 1 = .ok (.iconst 0, 1) := by decide +kernel
theorem dX6_axioms_2 : decode cX6_axioms 2 = .ok (.putfield 36, 3) := by decide +kernel
theorem dX6_axioms_5 : decode cX6_axioms 5 = .ok (.aload_n 0, 1) := by decide +kernel
theorem dX6_axioms_6 : decode cX6_axioms 6 = .ok (.iload_n 1, 1) := by decide +kernel
theorem dX6_axioms_7 : decode cX6_axioms 7 = .ok (.putfield 75, 3) := by decide +kernel
theorem dX6_axioms_10 : decode cX6_axioms 10 = .ok (.return_, 1) := by decide +kernel
set_option maxRecDepth 20000 in
theorem ggX6_count_X6_refuses : GoodIn wsX6_count wsX6_refuses := goodIn_r _ [6, 7, 8, 9, 10, 11, 12, 13, 14, 15, 16, 17, 18, 19, 20, 21, 22, 23] (by decide +kernel) (by decide +kernel)
set_option maxRecDepth 20000 in
theorem gX6_count_X6_refuses : GoodIn wsX6_count (wsV RX6 46 RX6 yX6_refuses wsX6_refuses) := goodIn_app (goodIn_of _ (by decide +kernel)) ggX6_count_X6_refuses
theorem dX6_count_0 : decode cX6_count 0 = .ok (.aload_n 0, 1) := by decide +kernel
theorem dX6_count_1 : decode cX6_count 1 = .ok (.iload_n 1, 1) := by decide +kernel
theorem dX6_count_2 : decode cX6_count 2 = .ok (.ifCond .lt 9, 3) := by decide +kernel
theorem dX6_count_5 : decode cX6_count 5 = .ok (.iload_n 1, 1) := by decide +kernel
theorem dX6_count_6 : decode cX6_count 6 = .ok (.bipush 9, 2) := by decide +kernel
theorem dX6_count_8 : decode cX6_count 8 = .ok (.if_icmp .le 7, 3) := by decide +kernel
theorem dX6_count_11 : decode cX6_count 11 = .ok (.iconst 1, 1) := by decide +kernel
theorem dX6_count_12 : decode cX6_count 12 = .ok (.goto 4, 3) := by decide +kernel
theorem dX6_count_15 : decode cX6_count 15 = .ok (.iconst 0, 1) := by decide +kernel
theorem dX6_count_16 : decode cX6_count 16 = .ok (.invokevirtual 46, 3) := by decide +kernel
theorem dX6_count_19 : decode cX6_count 19 = .ok (.ifCond .ne 8, 3) := by decide +kernel
theorem dX6_count_22 : decode cX6_count 22 = .ok (.aload_n 0, 1) := by decide +kernel
theorem dX6_count_23 : decode cX6_count 23 = .ok (.iload_n 1, 1) := by decide +kernel
theorem dX6_count_24 : decode cX6_count 24 = .ok (.putfield 7, 3) := by decide +kernel
theorem dX6_count_27 : decode cX6_count 27 = .ok (.return_, 1) := by decide +kernel
theorem dX6_slot_0 : decode cX6_slot 0 = .ok (.sipush 400, 3) := by decide +kernel
theorem dX6_slot_3 : decode cX6_slot 3 = .ok (.sipush 400, 3) := by decide +kernel
theorem dX6_slot_6 : decode cX6_slot 6 = .ok (.iload_n 1, 1) := by decide +kernel
theorem dX6_slot_7 : decode cX6_slot 7 = .ok (.imul, 1) := by decide +kernel
theorem dX6_slot_8 : decode cX6_slot 8 = .ok (.iload_n 2, 1) := by decide +kernel
theorem dX6_slot_9 : decode cX6_slot 9 = .ok (.iadd, 1) := by decide +kernel
theorem dX6_slot_10 : decode cX6_slot 10 = .ok (.imul, 1) := by decide +kernel
theorem dX6_slot_11 : decode cX6_slot 11 = .ok (.iload_n 3, 1) := by decide +kernel
theorem dX6_slot_12 : decode cX6_slot 12 = .ok (.iadd, 1) := by decide +kernel
theorem dX6_slot_13 : decode cX6_slot 13 = .ok (.sipush 2048, 3) := by decide +kernel
theorem dX6_slot_16 : decode cX6_slot 16 = .ok (.irem, 1) := by decide +kernel
theorem dX6_slot_17 : decode cX6_slot 17 = .ok (.istore 4, 2) := by decide +kernel
theorem dX6_slot_19 : decode cX6_slot 19 = .ok (.aload_n 0, 1) := by decide +kernel
theorem dX6_slot_20 : decode cX6_slot 20 = .ok (.getfield 26, 3) := by decide +kernel
theorem dX6_slot_23 : decode cX6_slot 23 = .ok (.iload 4, 2) := by decide +kernel
theorem dX6_slot_25 : decode cX6_slot 25 = .ok (.iaload, 1) := by decide +kernel
theorem dX6_slot_26 : decode cX6_slot 26 = .ok (.ifCond .le 81, 3) := by decide +kernel
theorem dX6_slot_29 : decode cX6_slot 29 = .ok (.aload_n 0, 1) := by decide +kernel
theorem dX6_slot_30 : decode cX6_slot 30 = .ok (.getfield 23, 3) := by decide +kernel
theorem dX6_slot_33 : decode cX6_slot 33 = .ok (.bipush 7, 2) := by decide +kernel
theorem dX6_slot_35 : decode cX6_slot 35 = .ok (.aload_n 0, 1) := by decide +kernel
theorem dX6_slot_36 : decode cX6_slot 36 = .ok (.getfield 26, 3) := by decide +kernel
theorem dX6_slot_39 : decode cX6_slot 39 = .ok (.iload 4, 2) := by decide +kernel
theorem dX6_slot_41 : decode cX6_slot 41 = .ok (.iaload, 1) := by decide +kernel
theorem dX6_slot_42 : decode cX6_slot 42 = .ok (.imul, 1) := by decide +kernel
theorem dX6_slot_43 : decode cX6_slot 43 = .ok (.bipush 7, 2) := by decide +kernel
theorem dX6_slot_45 : decode cX6_slot 45 = .ok (.isub, 1) := by decide +kernel
theorem dX6_slot_46 : decode cX6_slot 46 = .ok (.iaload, 1) := by decide +kernel
theorem dX6_slot_47 : decode cX6_slot 47 = .ok (.iload_n 1, 1) := by decide +kernel
theorem dX6_slot_48 : decode cX6_slot 48 = .ok (.if_icmp .ne 46, 3) := by decide +kernel
theorem dX6_slot_51 : decode cX6_slot 51 = .ok (.aload_n 0, 1) := by decide +kernel
theorem dX6_slot_52 : decode cX6_slot 52 = .ok (.getfield 23, 3) := by decide +kernel
theorem dX6_slot_55 : decode cX6_slot 55 = .ok (.bipush 7, 2) := by decide +kernel
theorem dX6_slot_57 : decode cX6_slot 57 = .ok (.aload_n 0, 1) := by decide +kernel
theorem dX6_slot_58 : decode cX6_slot 58 = .ok (.getfield 26, 3) := by decide +kernel
theorem dX6_slot_61 : decode cX6_slot 61 = .ok (.iload 4, 2) := by decide +kernel
theorem dX6_slot_63 : decode cX6_slot 63 = .ok (.iaload, 1) := by decide +kernel
theorem dX6_slot_64 : decode cX6_slot 64 = .ok (.imul, 1) := by decide +kernel
theorem dX6_slot_65 : decode cX6_slot 65 = .ok (.bipush 6, 2) := by decide +kernel
theorem dX6_slot_67 : decode cX6_slot 67 = .ok (.isub, 1) := by decide +kernel
theorem dX6_slot_68 : decode cX6_slot 68 = .ok (.iaload, 1) := by decide +kernel
theorem dX6_slot_69 : decode cX6_slot 69 = .ok (.iload_n 2, 1) := by decide +kernel
theorem dX6_slot_70 : decode cX6_slot 70 = .ok (.if_icmp .ne 24, 3) := by decide +kernel
theorem dX6_slot_73 : decode cX6_slot 73 = .ok (.aload_n 0, 1) := by decide +kernel
theorem dX6_slot_74 : decode cX6_slot 74 = .ok (.getfield 23, 3) := by decide +kernel
theorem dX6_slot_77 : decode cX6_slot 77 = .ok (.bipush 7, 2) := by decide +kernel
theorem dX6_slot_79 : decode cX6_slot 79 = .ok (.aload_n 0, 1) := by decide +kernel
theorem dX6_slot_80 : decode cX6_slot 80 = .ok (.getfield 26, 3) := by decide +kernel
theorem dX6_slot_83 : decode cX6_slot 83 = .ok (.iload 4, 2) := by decide +kernel
theorem dX6_slot_85 : decode cX6_slot 85 = .ok (.iaload, 1) := by decide +kernel
theorem dX6_slot_86 : decode cX6_slot 86 = .ok (.imul, 1) := by decide +kernel
theorem dX6_slot_87 : decode cX6_slot 87 = .ok (.iconst 5, 1) := by decide +kernel
theorem dX6_slot_88 : decode cX6_slot 88 = .ok (.isub, 1) := by decide +kernel
theorem dX6_slot_89 : decode cX6_slot 89 = .ok (.iaload, 1) := by decide +kernel
theorem dX6_slot_90 : decode cX6_slot 90 = .ok (.iload_n 3, 1) := by decide +kernel
theorem dX6_slot_91 : decode cX6_slot 91 = .ok (.if_icmp .eq 16, 3) := by decide +kernel
theorem dX6_slot_94 : decode cX6_slot 94 = .ok (.iload 4, 2) := by decide +kernel
theorem dX6_slot_96 : decode cX6_slot 96 = .ok (.iconst 1, 1) := by decide +kernel
theorem dX6_slot_97 : decode cX6_slot 97 = .ok (.iadd, 1) := by decide +kernel
theorem dX6_slot_98 : decode cX6_slot 98 = .ok (.sipush 2048, 3) := by decide +kernel
theorem dX6_slot_101 : decode cX6_slot 101 = .ok (.irem, 1) := by decide +kernel
theorem dX6_slot_102 : decode cX6_slot 102 = .ok (.istore 4, 2) := by decide +kernel
theorem dX6_slot_104 : decode cX6_slot 104 = .ok (.goto (-85), 3) := by decide +kernel
theorem dX6_slot_107 : decode cX6_slot 107 = .ok (.iload 4, 2) := by decide +kernel
theorem dX6_slot_109 : decode cX6_slot 109 = .ok (.ireturn, 1) := by decide +kernel
set_option maxRecDepth 20000 in
theorem ggX6_makes_X6_slot : GoodIn wsX6_makes wsX6_slot := goodIn_r _ [9, 2, 4, 10, 11, 12, 13, 14, 15, 16, 17, 18, 19, 20, 21, 22, 23, 24, 25] (by decide +kernel) (by decide +kernel)
set_option maxRecDepth 20000 in
theorem gX6_makes_X6_slot : GoodIn wsX6_makes (wsV RX6 88 RX6 yX6_slot wsX6_slot) := goodIn_app (goodIn_of _ (by decide +kernel)) ggX6_makes_X6_slot
theorem dX6_makes_0 : decode cX6_makes 0 = .ok (.aload_n 0, 1) := by decide +kernel
theorem dX6_makes_1 : decode cX6_makes 1 = .ok (.getfield 85, 3) := by decide +kernel
theorem dX6_makes_4 : decode cX6_makes 4 = .ok (.ifCond .eq 7, 3) := by decide +kernel
theorem dX6_makes_7 : decode cX6_makes 7 = .ok (.iconst 0, 1) := by decide +kernel
theorem dX6_makes_8 : decode cX6_makes 8 = .ok (.goto 10, 3) := by decide +kernel
theorem dX6_makes_11 : decode cX6_makes 11 = .ok (.aload_n 0, 1) := by decide +kernel
theorem dX6_makes_12 : decode cX6_makes 12 = .ok (.iload_n 1, 1) := by decide +kernel
theorem dX6_makes_13 : decode cX6_makes 13 = .ok (.iload_n 2, 1) := by decide +kernel
theorem dX6_makes_14 : decode cX6_makes 14 = .ok (.iload_n 3, 1) := by decide +kernel
theorem dX6_makes_15 : decode cX6_makes 15 = .ok (.invokevirtual 88, 3) := by decide +kernel
theorem dX6_makes_18 : decode cX6_makes 18 = .ok (.istore 8, 2) := by decide +kernel
theorem dX6_makes_20 : decode cX6_makes 20 = .ok (.aload_n 0, 1) := by decide +kernel
theorem dX6_makes_21 : decode cX6_makes 21 = .ok (.getfield 85, 3) := by decide +kernel
theorem dX6_makes_24 : decode cX6_makes 24 = .ok (.ifCond .ne 13, 3) := by decide +kernel
theorem dX6_makes_27 : decode cX6_makes 27 = .ok (.aload_n 0, 1) := by decide +kernel
theorem dX6_makes_28 : decode cX6_makes 28 = .ok (.getfield 26, 3) := by decide +kernel
theorem dX6_makes_31 : decode cX6_makes 31 = .ok (.iload 8, 2) := by decide +kernel
theorem dX6_makes_33 : decode cX6_makes 33 = .ok (.iaload, 1) := by decide +kernel
theorem dX6_makes_34 : decode cX6_makes 34 = .ok (.ifCond .le 4, 3) := by decide +kernel
theorem dX6_makes_37 : decode cX6_makes 37 = .ok (.return_, 1) := by decide +kernel
theorem dX6_makes_38 : decode cX6_makes 38 = .ok (.aload_n 0, 1) := by decide +kernel
theorem dX6_makes_39 : decode cX6_makes 39 = .ok (.getfield 91, 3) := by decide +kernel
theorem dX6_makes_42 : decode cX6_makes 42 = .ok (.sipush 600, 3) := by decide +kernel
theorem dX6_makes_45 : decode cX6_makes 45 = .ok (.if_icmp .ne 9, 3) := by decide +kernel
theorem dX6_makes_48 : decode cX6_makes 48 = .ok (.aload_n 0, 1) := by decide +kernel
theorem dX6_makes_49 : decode cX6_makes 49 = .ok (.iconst 1, 1) := by decide +kernel
theorem dX6_makes_50 : decode cX6_makes 50 = .ok (.putfield 85, 3) := by decide +kernel
theorem dX6_makes_53 : decode cX6_makes 53 = .ok (.return_, 1) := by decide +kernel
theorem dX6_makes_54 : decode cX6_makes 54 = .ok (.bipush 7, 2) := by decide +kernel
theorem dX6_makes_56 : decode cX6_makes 56 = .ok (.aload_n 0, 1) := by decide +kernel
theorem dX6_makes_57 : decode cX6_makes 57 = .ok (.getfield 91, 3) := by decide +kernel
theorem dX6_makes_60 : decode cX6_makes 60 = .ok (.imul, 1) := by decide +kernel
theorem dX6_makes_61 : decode cX6_makes 61 = .ok (.istore 9, 2) := by decide +kernel
theorem dX6_makes_63 : decode cX6_makes 63 = .ok (.aload_n 0, 1) := by decide +kernel
theorem dX6_makes_64 : decode cX6_makes 64 = .ok (.getfield 23, 3) := by decide +kernel
theorem dX6_makes_67 : decode cX6_makes 67 = .ok (.iload 9, 2) := by decide +kernel
theorem dX6_makes_69 : decode cX6_makes 69 = .ok (.iload_n 1, 1) := by decide +kernel
theorem dX6_makes_70 : decode cX6_makes 70 = .ok (.iastore, 1) := by decide +kernel
theorem dX6_makes_71 : decode cX6_makes 71 = .ok (.aload_n 0, 1) := by decide +kernel
theorem dX6_makes_72 : decode cX6_makes 72 = .ok (.getfield 23, 3) := by decide +kernel
theorem dX6_makes_75 : decode cX6_makes 75 = .ok (.iload 9, 2) := by decide +kernel
theorem dX6_makes_77 : decode cX6_makes 77 = .ok (.iconst 1, 1) := by decide +kernel
theorem dX6_makes_78 : decode cX6_makes 78 = .ok (.iadd, 1) := by decide +kernel
theorem dX6_makes_79 : decode cX6_makes 79 = .ok (.iload_n 2, 1) := by decide +kernel
theorem dX6_makes_80 : decode cX6_makes 80 = .ok (.iastore, 1) := by decide +kernel
theorem dX6_makes_81 : decode cX6_makes 81 = .ok (.aload_n 0, 1) := by decide +kernel
theorem dX6_makes_82 : decode cX6_makes 82 = .ok (.getfield 23, 3) := by decide +kernel
theorem dX6_makes_85 : decode cX6_makes 85 = .ok (.iload 9, 2) := by decide +kernel
theorem dX6_makes_87 : decode cX6_makes 87 = .ok (.iconst 2, 1) := by decide +kernel
theorem dX6_makes_88 : decode cX6_makes 88 = .ok (.iadd, 1) := by decide +kernel
theorem dX6_makes_89 : decode cX6_makes 89 = .ok (.iload_n 3, 1) := by decide +kernel
theorem dX6_makes_90 : decode cX6_makes 90 = .ok (.iastore, 1) := by decide +kernel
theorem dX6_makes_91 : decode cX6_makes 91 = .ok (.aload_n 0, 1) := by decide +kernel
theorem dX6_makes_92 : decode cX6_makes 92 = .ok (.getfield 23, 3) := by decide +kernel
theorem dX6_makes_95 : decode cX6_makes 95 = .ok (.iload 9, 2) := by decide +kernel
theorem dX6_makes_97 : decode cX6_makes 97 = .ok (.iconst 3, 1) := by decide +kernel
theorem dX6_makes_98 : decode cX6_makes 98 = .ok (.iadd, 1) := by decide +kernel
theorem dX6_makes_99 : decode cX6_makes 99 = .ok (.iload 4, 2) := by decide +kernel
theorem dX6_makes_101 : decode cX6_makes 101 = .ok (.iastore, 1) := by decide +kernel
theorem dX6_makes_102 : decode cX6_makes 102 = .ok (.aload_n 0, 1) := by decide +kernel
theorem dX6_makes_103 : decode cX6_makes 103 = .ok (.getfield 23, 3) := by decide +kernel
theorem dX6_makes_106 : decode cX6_makes 106 = .ok (.iload 9, 2) := by decide +kernel
theorem dX6_makes_108 : decode cX6_makes 108 = .ok (.iconst 4, 1) := by decide +kernel
theorem dX6_makes_109 : decode cX6_makes 109 = .ok (.iadd, 1) := by decide +kernel
theorem dX6_makes_110 : decode cX6_makes 110 = .ok (.iload 5, 2) := by decide +kernel
theorem dX6_makes_112 : decode cX6_makes 112 = .ok (.iastore, 1) := by decide +kernel
theorem dX6_makes_113 : decode cX6_makes 113 = .ok (.aload_n 0, 1) := by decide +kernel
theorem dX6_makes_114 : decode cX6_makes 114 = .ok (.getfield 23, 3) := by decide +kernel
theorem dX6_makes_117 : decode cX6_makes 117 = .ok (.iload 9, 2) := by decide +kernel
theorem dX6_makes_119 : decode cX6_makes 119 = .ok (.iconst 5, 1) := by decide +kernel
theorem dX6_makes_120 : decode cX6_makes 120 = .ok (.iadd, 1) := by decide +kernel
theorem dX6_makes_121 : decode cX6_makes 121 = .ok (.iload 6, 2) := by decide +kernel
theorem dX6_makes_123 : decode cX6_makes 123 = .ok (.iastore, 1) := by decide +kernel
theorem dX6_makes_124 : decode cX6_makes 124 = .ok (.aload_n 0, 1) := by decide +kernel
theorem dX6_makes_125 : decode cX6_makes 125 = .ok (.getfield 23, 3) := by decide +kernel
theorem dX6_makes_128 : decode cX6_makes 128 = .ok (.iload 9, 2) := by decide +kernel
theorem dX6_makes_130 : decode cX6_makes 130 = .ok (.bipush 6, 2) := by decide +kernel
theorem dX6_makes_132 : decode cX6_makes 132 = .ok (.iadd, 1) := by decide +kernel
theorem dX6_makes_133 : decode cX6_makes 133 = .ok (.iload 7, 2) := by decide +kernel
theorem dX6_makes_135 : decode cX6_makes 135 = .ok (.iastore, 1) := by decide +kernel
theorem dX6_makes_136 : decode cX6_makes 136 = .ok (.aload_n 0, 1) := by decide +kernel
theorem dX6_makes_137 : decode cX6_makes 137 = .ok (.dup, 1) := by decide +kernel
theorem dX6_makes_138 : decode cX6_makes 138 = .ok (.getfield 91, 3) := by decide +kernel
theorem dX6_makes_141 : decode cX6_makes 141 = .ok (.iconst 1, 1) := by decide +kernel
theorem dX6_makes_142 : decode cX6_makes 142 = .ok (.iadd, 1) := by decide +kernel
theorem dX6_makes_143 : decode cX6_makes 143 = .ok (.putfield 91, 3) := by decide +kernel
theorem dX6_makes_146 : decode cX6_makes 146 = .ok (.aload_n 0, 1) := by decide +kernel
theorem dX6_makes_147 : decode cX6_makes 147 = .ok (.getfield 26, 3) := by decide +kernel
theorem dX6_makes_150 : decode cX6_makes 150 = .ok (.iload 8, 2) := by decide +kernel
theorem dX6_makes_152 : decode cX6_makes 152 = .ok (.aload_n 0, 1) := by decide +kernel
theorem dX6_makes_153 : decode cX6_makes 153 = .ok (.getfield 91, 3) := by decide +kernel
theorem dX6_makes_156 : decode cX6_makes 156 = .ok (.iastore, 1) := by decide +kernel
theorem dX6_makes_157 : decode cX6_makes 157 = .ok (.return_, 1) := by decide +kernel
set_option maxRecDepth 20000 in
theorem ggX6_ofOne_X6_makes : GoodIn wsX6_ofOne wsX6_makes := goodIn_r _ [7, 8, 9, 10, 1, 11, 12, 13, 6, 14, 15, 16, 17, 18, 19, 20, 21, 22, 23, 24, 25, 26, 27, 28, 29, 30] (by decide +kernel) (by decide +kernel)
set_option maxRecDepth 20000 in
theorem gX6_ofOne_X6_makes : GoodIn wsX6_ofOne (wsV RX6 94 RX6 yX6_makes wsX6_makes) := goodIn_app (goodIn_of _ (by decide +kernel)) ggX6_ofOne_X6_makes
theorem dX6_ofOne_0 : decode cX6_ofOne 0 = .ok (.aload_n 0, 1) := by decide +kernel
theorem dX6_ofOne_1 : decode cX6_ofOne 1 = .ok (.getfield 23, 3) := by decide +kernel
theorem dX6_ofOne_4 : decode cX6_ofOne 4 = .ok (.bipush 7, 2) := by decide +kernel
theorem dX6_ofOne_6 : decode cX6_ofOne 6 = .ok (.iload_n 2, 1) := by decide +kernel
theorem dX6_ofOne_7 : decode cX6_ofOne 7 = .ok (.imul, 1) := by decide +kernel
theorem dX6_ofOne_8 : decode cX6_ofOne 8 = .ok (.iaload, 1) := by decide +kernel
theorem dX6_ofOne_9 : decode cX6_ofOne 9 = .ok (.istore 4, 2) := by decide +kernel
theorem dX6_ofOne_11 : decode cX6_ofOne 11 = .ok (.aload_n 0, 1) := by decide +kernel
theorem dX6_ofOne_12 : decode cX6_ofOne 12 = .ok (.getfield 23, 3) := by decide +kernel
theorem dX6_ofOne_15 : decode cX6_ofOne 15 = .ok (.bipush 7, 2) := by decide +kernel
theorem dX6_ofOne_17 : decode cX6_ofOne 17 = .ok (.iload_n 2, 1) := by decide +kernel
theorem dX6_ofOne_18 : decode cX6_ofOne 18 = .ok (.imul, 1) := by decide +kernel
theorem dX6_ofOne_19 : decode cX6_ofOne 19 = .ok (.iconst 1, 1) := by decide +kernel
theorem dX6_ofOne_20 : decode cX6_ofOne 20 = .ok (.iadd, 1) := by decide +kernel
theorem dX6_ofOne_21 : decode cX6_ofOne 21 = .ok (.iaload, 1) := by decide +kernel
theorem dX6_ofOne_22 : decode cX6_ofOne 22 = .ok (.istore 5, 2) := by decide +kernel
theorem dX6_ofOne_24 : decode cX6_ofOne 24 = .ok (.aload_n 0, 1) := by decide +kernel
theorem dX6_ofOne_25 : decode cX6_ofOne 25 = .ok (.getfield 23, 3) := by decide +kernel
theorem dX6_ofOne_28 : decode cX6_ofOne 28 = .ok (.bipush 7, 2) := by decide +kernel
theorem dX6_ofOne_30 : decode cX6_ofOne 30 = .ok (.iload_n 2, 1) := by decide +kernel
theorem dX6_ofOne_31 : decode cX6_ofOne 31 = .ok (.imul, 1) := by decide +kernel
theorem dX6_ofOne_32 : decode cX6_ofOne 32 = .ok (.iconst 2, 1) := by decide +kernel
theorem dX6_ofOne_33 : decode cX6_ofOne 33 = .ok (.iadd, 1) := by decide +kernel
theorem dX6_ofOne_34 : decode cX6_ofOne 34 = .ok (.iaload, 1) := by decide +kernel
theorem dX6_ofOne_35 : decode cX6_ofOne 35 = .ok (.istore 6, 2) := by decide +kernel
theorem dX6_ofOne_37 : decode cX6_ofOne 37 = .ok (.iload 5, 2) := by decide +kernel
theorem dX6_ofOne_39 : decode cX6_ofOne 39 = .ok (.ifCond .ne 7, 3) := by decide +kernel
theorem dX6_ofOne_42 : decode cX6_ofOne 42 = .ok (.iconst 1, 1) := by decide +kernel
theorem dX6_ofOne_43 : decode cX6_ofOne 43 = .ok (.goto 4, 3) := by decide +kernel
theorem dX6_ofOne_46 : decode cX6_ofOne 46 = .ok (.iconst 0, 1) := by decide +kernel
theorem dX6_ofOne_47 : decode cX6_ofOne 47 = .ok (.istore 7, 2) := by decide +kernel
theorem dX6_ofOne_49 : decode cX6_ofOne 49 = .ok (.iload_n 1, 1) := by decide +kernel
theorem dX6_ofOne_50 : decode cX6_ofOne 50 = .ok (.tableswitch 253 0 12 #[66, 99, 253, 253, 114, 253, 141, 253, 169, 253, 196, 253, 224], 66) := by decide +kernel
theorem dX6_ofOne_116 : decode cX6_ofOne 116 = .ok (.iload 6, 2) := by decide +kernel
theorem dX6_ofOne_118 : decode cX6_ofOne 118 = .ok (.sipush 300, 3) := by decide +kernel
theorem dX6_ofOne_121 : decode cX6_ofOne 121 = .ok (.if_icmp .lt 208, 3) := by decide +kernel
theorem dX6_ofOne_124 : decode cX6_ofOne 124 = .ok (.aload_n 0, 1) := by decide +kernel
theorem dX6_ofOne_125 : decode cX6_ofOne 125 = .ok (.iload 6, 2) := by decide +kernel
theorem dX6_ofOne_127 : decode cX6_ofOne 127 = .ok (.iconst 0, 1) := by decide +kernel
theorem dX6_ofOne_128 : decode cX6_ofOne 128 = .ok (.aload_n 0, 1) := by decide +kernel
theorem dX6_ofOne_129 : decode cX6_ofOne 129 = .ok (.getfield 17, 3) := by decide +kernel
theorem dX6_ofOne_132 : decode cX6_ofOne 132 = .ok (.iload 6, 2) := by decide +kernel
theorem dX6_ofOne_134 : decode cX6_ofOne 134 = .ok (.sipush 300, 3) := by decide +kernel
theorem dX6_ofOne_137 : decode cX6_ofOne 137 = .ok (.isub, 1) := by decide +kernel
theorem dX6_ofOne_138 : decode cX6_ofOne 138 = .ok (.iaload, 1) := by decide +kernel
theorem dX6_ofOne_139 : decode cX6_ofOne 139 = .ok (.iconst 0, 1) := by decide +kernel
theorem dX6_ofOne_140 : decode cX6_ofOne 140 = .ok (.iload_n 2, 1) := by decide +kernel
theorem dX6_ofOne_141 : decode cX6_ofOne 141 = .ok (.iconst (-1), 1) := by decide +kernel
theorem dX6_ofOne_142 : decode cX6_ofOne 142 = .ok (.iload_n 3, 1) := by decide +kernel
theorem dX6_ofOne_143 : decode cX6_ofOne 143 = .ok (.invokevirtual 94, 3) := by decide +kernel
theorem dX6_ofOne_146 : decode cX6_ofOne 146 = .ok (.goto 183, 3) := by decide +kernel
theorem dX6_ofOne_149 : decode cX6_ofOne 149 = .ok (.aload_n 0, 1) := by decide +kernel
theorem dX6_ofOne_150 : decode cX6_ofOne 150 = .ok (.iload 5, 2) := by decide +kernel
theorem dX6_ofOne_152 : decode cX6_ofOne 152 = .ok (.iconst 0, 1) := by decide +kernel
theorem dX6_ofOne_153 : decode cX6_ofOne 153 = .ok (.iconst 1, 1) := by decide +kernel
theorem dX6_ofOne_154 : decode cX6_ofOne 154 = .ok (.iconst 1, 1) := by decide +kernel
theorem dX6_ofOne_155 : decode cX6_ofOne 155 = .ok (.iload_n 2, 1) := by decide +kernel
theorem dX6_ofOne_156 : decode cX6_ofOne 156 = .ok (.iconst (-1), 1) := by decide +kernel
theorem dX6_ofOne_157 : decode cX6_ofOne 157 = .ok (.iload_n 3, 1) := by decide +kernel
theorem dX6_ofOne_158 : decode cX6_ofOne 158 = .ok (.invokevirtual 94, 3) := by decide +kernel
theorem dX6_ofOne_161 : decode cX6_ofOne 161 = .ok (.goto 168, 3) := by decide +kernel
theorem dX6_ofOne_164 : decode cX6_ofOne 164 = .ok (.aload_n 0, 1) := by decide +kernel
theorem dX6_ofOne_165 : decode cX6_ofOne 165 = .ok (.iload 4, 2) := by decide +kernel
theorem dX6_ofOne_167 : decode cX6_ofOne 167 = .ok (.iconst 0, 1) := by decide +kernel
theorem dX6_ofOne_168 : decode cX6_ofOne 168 = .ok (.iconst 2, 1) := by decide +kernel
theorem dX6_ofOne_169 : decode cX6_ofOne 169 = .ok (.iconst 4, 1) := by decide +kernel
theorem dX6_ofOne_170 : decode cX6_ofOne 170 = .ok (.iload_n 2, 1) := by decide +kernel
theorem dX6_ofOne_171 : decode cX6_ofOne 171 = .ok (.iconst (-1), 1) := by decide +kernel
theorem dX6_ofOne_172 : decode cX6_ofOne 172 = .ok (.iload_n 3, 1) := by decide +kernel
theorem dX6_ofOne_173 : decode cX6_ofOne 173 = .ok (.invokevirtual 94, 3) := by decide +kernel
theorem dX6_ofOne_176 : decode cX6_ofOne 176 = .ok (.aload_n 0, 1) := by decide +kernel
theorem dX6_ofOne_177 : decode cX6_ofOne 177 = .ok (.iload 6, 2) := by decide +kernel
theorem dX6_ofOne_179 : decode cX6_ofOne 179 = .ok (.iconst 0, 1) := by decide +kernel
theorem dX6_ofOne_180 : decode cX6_ofOne 180 = .ok (.iconst 2, 1) := by decide +kernel
theorem dX6_ofOne_181 : decode cX6_ofOne 181 = .ok (.iconst 4, 1) := by decide +kernel
theorem dX6_ofOne_182 : decode cX6_ofOne 182 = .ok (.iload_n 2, 1) := by decide +kernel
theorem dX6_ofOne_183 : decode cX6_ofOne 183 = .ok (.iconst (-1), 1) := by decide +kernel
theorem dX6_ofOne_184 : decode cX6_ofOne 184 = .ok (.iload_n 3, 1) := by decide +kernel
theorem dX6_ofOne_185 : decode cX6_ofOne 185 = .ok (.invokevirtual 94, 3) := by decide +kernel
theorem dX6_ofOne_188 : decode cX6_ofOne 188 = .ok (.goto 141, 3) := by decide +kernel
theorem dX6_ofOne_191 : decode cX6_ofOne 191 = .ok (.iload 7, 2) := by decide +kernel
theorem dX6_ofOne_193 : decode cX6_ofOne 193 = .ok (.ifCond .eq 136, 3) := by decide +kernel
theorem dX6_ofOne_196 : decode cX6_ofOne 196 = .ok (.iload 6, 2) := by decide +kernel
theorem dX6_ofOne_198 : decode cX6_ofOne 198 = .ok (.iconst 1, 1) := by decide +kernel
theorem dX6_ofOne_199 : decode cX6_ofOne 199 = .ok (.if_icmp .ne 130, 3) := by decide +kernel
theorem dX6_ofOne_202 : decode cX6_ofOne 202 = .ok (.aload_n 0, 1) := by decide +kernel
theorem dX6_ofOne_203 : decode cX6_ofOne 203 = .ok (.iload 4, 2) := by decide +kernel
theorem dX6_ofOne_205 : decode cX6_ofOne 205 = .ok (.iconst 5, 1) := by decide +kernel
theorem dX6_ofOne_206 : decode cX6_ofOne 206 = .ok (.iload 4, 2) := by decide +kernel
theorem dX6_ofOne_208 : decode cX6_ofOne 208 = .ok (.bipush 6, 2) := by decide +kernel
theorem dX6_ofOne_210 : decode cX6_ofOne 210 = .ok (.iload_n 2, 1) := by decide +kernel
theorem dX6_ofOne_211 : decode cX6_ofOne 211 = .ok (.iconst (-1), 1) := by decide +kernel
theorem dX6_ofOne_212 : decode cX6_ofOne 212 = .ok (.iload_n 3, 1) := by decide +kernel
theorem dX6_ofOne_213 : decode cX6_ofOne 213 = .ok (.invokevirtual 94, 3) := by decide +kernel
theorem dX6_ofOne_216 : decode cX6_ofOne 216 = .ok (.goto 113, 3) := by decide +kernel
theorem dX6_ofOne_219 : decode cX6_ofOne 219 = .ok (.iload 7, 2) := by decide +kernel
theorem dX6_ofOne_221 : decode cX6_ofOne 221 = .ok (.ifCond .eq 108, 3) := by decide +kernel
theorem dX6_ofOne_224 : decode cX6_ofOne 224 = .ok (.iload 6, 2) := by decide +kernel
theorem dX6_ofOne_226 : decode cX6_ofOne 226 = .ok (.iconst 3, 1) := by decide +kernel
theorem dX6_ofOne_227 : decode cX6_ofOne 227 = .ok (.if_icmp .ne 102, 3) := by decide +kernel
theorem dX6_ofOne_230 : decode cX6_ofOne 230 = .ok (.aload_n 0, 1) := by decide +kernel
theorem dX6_ofOne_231 : decode cX6_ofOne 231 = .ok (.iload 4, 2) := by decide +kernel
theorem dX6_ofOne_233 : decode cX6_ofOne 233 = .ok (.iconst 4, 1) := by decide +kernel
theorem dX6_ofOne_234 : decode cX6_ofOne 234 = .ok (.iconst 2, 1) := by decide +kernel
theorem dX6_ofOne_235 : decode cX6_ofOne 235 = .ok (.bipush 8, 2) := by decide +kernel
theorem dX6_ofOne_237 : decode cX6_ofOne 237 = .ok (.iload_n 2, 1) := by decide +kernel
theorem dX6_ofOne_238 : decode cX6_ofOne 238 = .ok (.iconst (-1), 1) := by decide +kernel
theorem dX6_ofOne_239 : decode cX6_ofOne 239 = .ok (.iload_n 3, 1) := by decide +kernel
theorem dX6_ofOne_240 : decode cX6_ofOne 240 = .ok (.invokevirtual 94, 3) := by decide +kernel
theorem dX6_ofOne_243 : decode cX6_ofOne 243 = .ok (.goto 86, 3) := by decide +kernel
theorem dX6_ofOne_246 : decode cX6_ofOne 246 = .ok (.iload 7, 2) := by decide +kernel
theorem dX6_ofOne_248 : decode cX6_ofOne 248 = .ok (.ifCond .eq 81, 3) := by decide +kernel
theorem dX6_ofOne_251 : decode cX6_ofOne 251 = .ok (.iload 6, 2) := by decide +kernel
theorem dX6_ofOne_253 : decode cX6_ofOne 253 = .ok (.iconst 3, 1) := by decide +kernel
theorem dX6_ofOne_254 : decode cX6_ofOne 254 = .ok (.if_icmp .ne 75, 3) := by decide +kernel
theorem dX6_ofOne_257 : decode cX6_ofOne 257 = .ok (.aload_n 0, 1) := by decide +kernel
theorem dX6_ofOne_258 : decode cX6_ofOne 258 = .ok (.iload 4, 2) := by decide +kernel
theorem dX6_ofOne_260 : decode cX6_ofOne 260 = .ok (.iconst 4, 1) := by decide +kernel
theorem dX6_ofOne_261 : decode cX6_ofOne 261 = .ok (.iload 4, 2) := by decide +kernel
theorem dX6_ofOne_263 : decode cX6_ofOne 263 = .ok (.bipush 10, 2) := by decide +kernel
theorem dX6_ofOne_265 : decode cX6_ofOne 265 = .ok (.iload_n 2, 1) := by decide +kernel
theorem dX6_ofOne_266 : decode cX6_ofOne 266 = .ok (.iconst (-1), 1) := by decide +kernel
theorem dX6_ofOne_267 : decode cX6_ofOne 267 = .ok (.iload_n 3, 1) := by decide +kernel
theorem dX6_ofOne_268 : decode cX6_ofOne 268 = .ok (.invokevirtual 94, 3) := by decide +kernel
theorem dX6_ofOne_271 : decode cX6_ofOne 271 = .ok (.goto 58, 3) := by decide +kernel
theorem dX6_ofOne_274 : decode cX6_ofOne 274 = .ok (.iload 7, 2) := by decide +kernel
theorem dX6_ofOne_276 : decode cX6_ofOne 276 = .ok (.ifCond .eq 53, 3) := by decide +kernel
theorem dX6_ofOne_279 : decode cX6_ofOne 279 = .ok (.iload 6, 2) := by decide +kernel
theorem dX6_ofOne_281 : decode cX6_ofOne 281 = .ok (.bipush 11, 2) := by decide +kernel
theorem dX6_ofOne_283 : decode cX6_ofOne 283 = .ok (.if_icmp .ne 46, 3) := by decide +kernel
theorem dX6_ofOne_286 : decode cX6_ofOne 286 = .ok (.aload_n 0, 1) := by decide +kernel
theorem dX6_ofOne_287 : decode cX6_ofOne 287 = .ok (.iload 4, 2) := by decide +kernel
theorem dX6_ofOne_289 : decode cX6_ofOne 289 = .ok (.iconst 5, 1) := by decide +kernel
theorem dX6_ofOne_290 : decode cX6_ofOne 290 = .ok (.bipush 10, 2) := by decide +kernel
theorem dX6_ofOne_292 : decode cX6_ofOne 292 = .ok (.bipush 12, 2) := by decide +kernel
theorem dX6_ofOne_294 : decode cX6_ofOne 294 = .ok (.iload_n 2, 1) := by decide +kernel
theorem dX6_ofOne_295 : decode cX6_ofOne 295 = .ok (.iconst (-1), 1) := by decide +kernel
theorem dX6_ofOne_296 : decode cX6_ofOne 296 = .ok (.iload_n 3, 1) := by decide +kernel
theorem dX6_ofOne_297 : decode cX6_ofOne 297 = .ok (.invokevirtual 94, 3) := by decide +kernel
theorem dX6_ofOne_300 : decode cX6_ofOne 300 = .ok (.goto 29, 3) := by decide +kernel
theorem dX6_ofOne_303 : decode cX6_ofOne 303 = .ok (.iload 7, 2) := by decide +kernel
theorem dX6_ofOne_305 : decode cX6_ofOne 305 = .ok (.ifCond .eq 24, 3) := by decide +kernel
theorem dX6_ofOne_308 : decode cX6_ofOne 308 = .ok (.iload 6, 2) := by decide +kernel
theorem dX6_ofOne_310 : decode cX6_ofOne 310 = .ok (.bipush 9, 2) := by decide +kernel
theorem dX6_ofOne_312 : decode cX6_ofOne 312 = .ok (.if_icmp .ne 17, 3) := by decide +kernel
theorem dX6_ofOne_315 : decode cX6_ofOne 315 = .ok (.aload_n 0, 1) := by decide +kernel
theorem dX6_ofOne_316 : decode cX6_ofOne 316 = .ok (.iload 4, 2) := by decide +kernel
theorem dX6_ofOne_318 : decode cX6_ofOne 318 = .ok (.iconst 4, 1) := by decide +kernel
theorem dX6_ofOne_319 : decode cX6_ofOne 319 = .ok (.bipush 8, 2) := by decide +kernel
theorem dX6_ofOne_321 : decode cX6_ofOne 321 = .ok (.bipush 13, 2) := by decide +kernel
theorem dX6_ofOne_323 : decode cX6_ofOne 323 = .ok (.iload_n 2, 1) := by decide +kernel
theorem dX6_ofOne_324 : decode cX6_ofOne 324 = .ok (.iconst (-1), 1) := by decide +kernel
theorem dX6_ofOne_325 : decode cX6_ofOne 325 = .ok (.iload_n 3, 1) := by decide +kernel
theorem dX6_ofOne_326 : decode cX6_ofOne 326 = .ok (.invokevirtual 94, 3) := by decide +kernel
theorem dX6_ofOne_329 : decode cX6_ofOne 329 = .ok (.return_, 1) := by decide +kernel
theorem dX6_firstOf_0 : decode cX6_firstOf 0 = .ok (.iload_n 0, 1) := by decide +kernel
theorem dX6_firstOf_1 : decode cX6_firstOf 1 = .ok (.tableswitch 65 2 11 #[55, 58, 65, 61, 65, 61, 65, 63, 65, 63], 55) := by decide +kernel
theorem dX6_firstOf_56 : decode cX6_firstOf 56 = .ok (.bipush 6, 2) := by decide +kernel
theorem dX6_firstOf_58 : decode cX6_firstOf 58 = .ok (.ireturn, 1) := by decide +kernel
theorem dX6_firstOf_59 : decode cX6_firstOf 59 = .ok (.bipush 7, 2) := by decide +kernel
theorem dX6_firstOf_61 : decode cX6_firstOf 61 = .ok (.ireturn, 1) := by decide +kernel
theorem dX6_firstOf_62 : decode cX6_firstOf 62 = .ok (.iconst 5, 1) := by decide +kernel
theorem dX6_firstOf_63 : decode cX6_firstOf 63 = .ok (.ireturn, 1) := by decide +kernel
theorem dX6_firstOf_64 : decode cX6_firstOf 64 = .ok (.iconst 4, 1) := by decide +kernel
theorem dX6_firstOf_65 : decode cX6_firstOf 65 = .ok (.ireturn, 1) := by decide +kernel
theorem dX6_firstOf_66 : decode cX6_firstOf 66 = .ok (.iconst (-1), 1) := by decide +kernel
theorem dX6_firstOf_67 : decode cX6_firstOf 67 = .ok (.ireturn, 1) := by decide +kernel
set_option maxRecDepth 20000 in
theorem ggX6_ofTwo_X6_makes : GoodIn wsX6_ofTwo wsX6_makes := goodIn_r _ [6, 7, 8, 9, 1, 10, 11, 12, 5, 13, 14, 15, 16, 17, 18, 19, 20, 21, 22, 23, 24, 25, 26, 27, 28, 29] (by decide +kernel) (by decide +kernel)
set_option maxRecDepth 20000 in
theorem gX6_ofTwo_X6_makes : GoodIn wsX6_ofTwo (wsV RX6 94 RX6 yX6_makes wsX6_makes) := goodIn_app (goodIn_of _ (by decide +kernel)) ggX6_ofTwo_X6_makes
theorem dX6_ofTwo_0 : decode cX6_ofTwo 0 = .ok (.aload_n 0, 1) := by decide +kernel
theorem dX6_ofTwo_1 : decode cX6_ofTwo 1 = .ok (.getfield 23, 3) := by decide +kernel
theorem dX6_ofTwo_4 : decode cX6_ofTwo 4 = .ok (.bipush 7, 2) := by decide +kernel
theorem dX6_ofTwo_6 : decode cX6_ofTwo 6 = .ok (.iload_n 2, 1) := by decide +kernel
theorem dX6_ofTwo_7 : decode cX6_ofTwo 7 = .ok (.imul, 1) := by decide +kernel
theorem dX6_ofTwo_8 : decode cX6_ofTwo 8 = .ok (.iaload, 1) := by decide +kernel
theorem dX6_ofTwo_9 : decode cX6_ofTwo 9 = .ok (.istore 5, 2) := by decide +kernel
theorem dX6_ofTwo_11 : decode cX6_ofTwo 11 = .ok (.aload_n 0, 1) := by decide +kernel
theorem dX6_ofTwo_12 : decode cX6_ofTwo 12 = .ok (.getfield 23, 3) := by decide +kernel
theorem dX6_ofTwo_15 : decode cX6_ofTwo 15 = .ok (.bipush 7, 2) := by decide +kernel
theorem dX6_ofTwo_17 : decode cX6_ofTwo 17 = .ok (.iload_n 2, 1) := by decide +kernel
theorem dX6_ofTwo_18 : decode cX6_ofTwo 18 = .ok (.imul, 1) := by decide +kernel
theorem dX6_ofTwo_19 : decode cX6_ofTwo 19 = .ok (.iconst 2, 1) := by decide +kernel
theorem dX6_ofTwo_20 : decode cX6_ofTwo 20 = .ok (.iadd, 1) := by decide +kernel
theorem dX6_ofTwo_21 : decode cX6_ofTwo 21 = .ok (.iaload, 1) := by decide +kernel
theorem dX6_ofTwo_22 : decode cX6_ofTwo 22 = .ok (.istore 6, 2) := by decide +kernel
theorem dX6_ofTwo_24 : decode cX6_ofTwo 24 = .ok (.aload_n 0, 1) := by decide +kernel
theorem dX6_ofTwo_25 : decode cX6_ofTwo 25 = .ok (.getfield 23, 3) := by decide +kernel
theorem dX6_ofTwo_28 : decode cX6_ofTwo 28 = .ok (.bipush 7, 2) := by decide +kernel
theorem dX6_ofTwo_30 : decode cX6_ofTwo 30 = .ok (.iload_n 3, 1) := by decide +kernel
theorem dX6_ofTwo_31 : decode cX6_ofTwo 31 = .ok (.imul, 1) := by decide +kernel
theorem dX6_ofTwo_32 : decode cX6_ofTwo 32 = .ok (.iaload, 1) := by decide +kernel
theorem dX6_ofTwo_33 : decode cX6_ofTwo 33 = .ok (.istore 7, 2) := by decide +kernel
theorem dX6_ofTwo_35 : decode cX6_ofTwo 35 = .ok (.aload_n 0, 1) := by decide +kernel
theorem dX6_ofTwo_36 : decode cX6_ofTwo 36 = .ok (.getfield 23, 3) := by decide +kernel
theorem dX6_ofTwo_39 : decode cX6_ofTwo 39 = .ok (.bipush 7, 2) := by decide +kernel
theorem dX6_ofTwo_41 : decode cX6_ofTwo 41 = .ok (.iload_n 3, 1) := by decide +kernel
theorem dX6_ofTwo_42 : decode cX6_ofTwo 42 = .ok (.imul, 1) := by decide +kernel
theorem dX6_ofTwo_43 : decode cX6_ofTwo 43 = .ok (.iconst 1, 1) := by decide +kernel
theorem dX6_ofTwo_44 : decode cX6_ofTwo 44 = .ok (.iadd, 1) := by decide +kernel
theorem dX6_ofTwo_45 : decode cX6_ofTwo 45 = .ok (.iaload, 1) := by decide +kernel
theorem dX6_ofTwo_46 : decode cX6_ofTwo 46 = .ok (.istore 8, 2) := by decide +kernel
theorem dX6_ofTwo_48 : decode cX6_ofTwo 48 = .ok (.aload_n 0, 1) := by decide +kernel
theorem dX6_ofTwo_49 : decode cX6_ofTwo 49 = .ok (.getfield 23, 3) := by decide +kernel
theorem dX6_ofTwo_52 : decode cX6_ofTwo 52 = .ok (.bipush 7, 2) := by decide +kernel
theorem dX6_ofTwo_54 : decode cX6_ofTwo 54 = .ok (.iload_n 3, 1) := by decide +kernel
theorem dX6_ofTwo_55 : decode cX6_ofTwo 55 = .ok (.imul, 1) := by decide +kernel
theorem dX6_ofTwo_56 : decode cX6_ofTwo 56 = .ok (.iconst 2, 1) := by decide +kernel
theorem dX6_ofTwo_57 : decode cX6_ofTwo 57 = .ok (.iadd, 1) := by decide +kernel
theorem dX6_ofTwo_58 : decode cX6_ofTwo 58 = .ok (.iaload, 1) := by decide +kernel
theorem dX6_ofTwo_59 : decode cX6_ofTwo 59 = .ok (.istore 9, 2) := by decide +kernel
theorem dX6_ofTwo_61 : decode cX6_ofTwo 61 = .ok (.iload_n 1, 1) := by decide +kernel
theorem dX6_ofTwo_62 : decode cX6_ofTwo 62 = .ok (.tableswitch 188 2 9 #[46, 70, 188, 94, 188, 124, 188, 158], 46) := by decide +kernel
theorem dX6_ofTwo_108 : decode cX6_ofTwo 108 = .ok (.iload 8, 2) := by decide +kernel
theorem dX6_ofTwo_110 : decode cX6_ofTwo 110 = .ok (.iload 5, 2) := by decide +kernel
theorem dX6_ofTwo_112 : decode cX6_ofTwo 112 = .ok (.if_icmp .ne 166, 3) := by decide +kernel
theorem dX6_ofTwo_115 : decode cX6_ofTwo 115 = .ok (.aload_n 0, 1) := by decide +kernel
theorem dX6_ofTwo_116 : decode cX6_ofTwo 116 = .ok (.iload 7, 2) := by decide +kernel
theorem dX6_ofTwo_118 : decode cX6_ofTwo 118 = .ok (.iconst 0, 1) := by decide +kernel
theorem dX6_ofTwo_119 : decode cX6_ofTwo 119 = .ok (.iload 6, 2) := by decide +kernel
theorem dX6_ofTwo_121 : decode cX6_ofTwo 121 = .ok (.iconst 2, 1) := by decide +kernel
theorem dX6_ofTwo_122 : decode cX6_ofTwo 122 = .ok (.iload_n 2, 1) := by decide +kernel
theorem dX6_ofTwo_123 : decode cX6_ofTwo 123 = .ok (.iload_n 3, 1) := by decide +kernel
theorem dX6_ofTwo_124 : decode cX6_ofTwo 124 = .ok (.iload 4, 2) := by decide +kernel
theorem dX6_ofTwo_126 : decode cX6_ofTwo 126 = .ok (.invokevirtual 94, 3) := by decide +kernel
theorem dX6_ofTwo_129 : decode cX6_ofTwo 129 = .ok (.goto 149, 3) := by decide +kernel
theorem dX6_ofTwo_132 : decode cX6_ofTwo 132 = .ok (.iload 8, 2) := by decide +kernel
theorem dX6_ofTwo_134 : decode cX6_ofTwo 134 = .ok (.iload 5, 2) := by decide +kernel
theorem dX6_ofTwo_136 : decode cX6_ofTwo 136 = .ok (.if_icmp .ne 142, 3) := by decide +kernel
theorem dX6_ofTwo_139 : decode cX6_ofTwo 139 = .ok (.aload_n 0, 1) := by decide +kernel
theorem dX6_ofTwo_140 : decode cX6_ofTwo 140 = .ok (.iload 9, 2) := by decide +kernel
theorem dX6_ofTwo_142 : decode cX6_ofTwo 142 = .ok (.iconst 0, 1) := by decide +kernel
theorem dX6_ofTwo_143 : decode cX6_ofTwo 143 = .ok (.iload 6, 2) := by decide +kernel
theorem dX6_ofTwo_145 : decode cX6_ofTwo 145 = .ok (.iconst 3, 1) := by decide +kernel
theorem dX6_ofTwo_146 : decode cX6_ofTwo 146 = .ok (.iload_n 2, 1) := by decide +kernel
theorem dX6_ofTwo_147 : decode cX6_ofTwo 147 = .ok (.iload_n 3, 1) := by decide +kernel
theorem dX6_ofTwo_148 : decode cX6_ofTwo 148 = .ok (.iload 4, 2) := by decide +kernel
theorem dX6_ofTwo_150 : decode cX6_ofTwo 150 = .ok (.invokevirtual 94, 3) := by decide +kernel
theorem dX6_ofTwo_153 : decode cX6_ofTwo 153 = .ok (.goto 125, 3) := by decide +kernel
theorem dX6_ofTwo_156 : decode cX6_ofTwo 156 = .ok (.iload 7, 2) := by decide +kernel
theorem dX6_ofTwo_158 : decode cX6_ofTwo 158 = .ok (.iload 6, 2) := by decide +kernel
theorem dX6_ofTwo_160 : decode cX6_ofTwo 160 = .ok (.if_icmp .ne 118, 3) := by decide +kernel
theorem dX6_ofTwo_163 : decode cX6_ofTwo 163 = .ok (.iload 8, 2) := by decide +kernel
theorem dX6_ofTwo_165 : decode cX6_ofTwo 165 = .ok (.iconst 5, 1) := by decide +kernel
theorem dX6_ofTwo_166 : decode cX6_ofTwo 166 = .ok (.if_icmp .ne 112, 3) := by decide +kernel
theorem dX6_ofTwo_169 : decode cX6_ofTwo 169 = .ok (.aload_n 0, 1) := by decide +kernel
theorem dX6_ofTwo_170 : decode cX6_ofTwo 170 = .ok (.iload 5, 2) := by decide +kernel
theorem dX6_ofTwo_172 : decode cX6_ofTwo 172 = .ok (.iconst 5, 1) := by decide +kernel
theorem dX6_ofTwo_173 : decode cX6_ofTwo 173 = .ok (.iload 9, 2) := by decide +kernel
theorem dX6_ofTwo_175 : decode cX6_ofTwo 175 = .ok (.iconst 5, 1) := by decide +kernel
theorem dX6_ofTwo_176 : decode cX6_ofTwo 176 = .ok (.iload_n 2, 1) := by decide +kernel
theorem dX6_ofTwo_177 : decode cX6_ofTwo 177 = .ok (.iload_n 3, 1) := by decide +kernel
theorem dX6_ofTwo_178 : decode cX6_ofTwo 178 = .ok (.iload 4, 2) := by decide +kernel
theorem dX6_ofTwo_180 : decode cX6_ofTwo 180 = .ok (.invokevirtual 94, 3) := by decide +kernel
theorem dX6_ofTwo_183 : decode cX6_ofTwo 183 = .ok (.goto 95, 3) := by decide +kernel
theorem dX6_ofTwo_186 : decode cX6_ofTwo 186 = .ok (.iload 8, 2) := by decide +kernel
theorem dX6_ofTwo_188 : decode cX6_ofTwo 188 = .ok (.iload 5, 2) := by decide +kernel
theorem dX6_ofTwo_190 : decode cX6_ofTwo 190 = .ok (.if_icmp .ne 88, 3) := by decide +kernel
theorem dX6_ofTwo_193 : decode cX6_ofTwo 193 = .ok (.iload 6, 2) := by decide +kernel
theorem dX6_ofTwo_195 : decode cX6_ofTwo 195 = .ok (.sipush 300, 3) := by decide +kernel
theorem dX6_ofTwo_198 : decode cX6_ofTwo 198 = .ok (.if_icmp .ge 80, 3) := by decide +kernel
theorem dX6_ofTwo_201 : decode cX6_ofTwo 201 = .ok (.aload_n 0, 1) := by decide +kernel
theorem dX6_ofTwo_202 : decode cX6_ofTwo 202 = .ok (.iload 7, 2) := by decide +kernel
theorem dX6_ofTwo_204 : decode cX6_ofTwo 204 = .ok (.iload 6, 2) := by decide +kernel
theorem dX6_ofTwo_206 : decode cX6_ofTwo 206 = .ok (.iload 9, 2) := by decide +kernel
theorem dX6_ofTwo_208 : decode cX6_ofTwo 208 = .ok (.bipush 7, 2) := by decide +kernel
theorem dX6_ofTwo_210 : decode cX6_ofTwo 210 = .ok (.iload_n 2, 1) := by decide +kernel
theorem dX6_ofTwo_211 : decode cX6_ofTwo 211 = .ok (.iload_n 3, 1) := by decide +kernel
theorem dX6_ofTwo_212 : decode cX6_ofTwo 212 = .ok (.iload 4, 2) := by decide +kernel
theorem dX6_ofTwo_214 : decode cX6_ofTwo 214 = .ok (.invokevirtual 94, 3) := by decide +kernel
theorem dX6_ofTwo_217 : decode cX6_ofTwo 217 = .ok (.goto 61, 3) := by decide +kernel
theorem dX6_ofTwo_220 : decode cX6_ofTwo 220 = .ok (.iload 8, 2) := by decide +kernel
theorem dX6_ofTwo_222 : decode cX6_ofTwo 222 = .ok (.ifCond .ne 56, 3) := by decide +kernel
theorem dX6_ofTwo_225 : decode cX6_ofTwo 225 = .ok (.iload 9, 2) := by decide +kernel
theorem dX6_ofTwo_227 : decode cX6_ofTwo 227 = .ok (.iload 5, 2) := by decide +kernel
theorem dX6_ofTwo_229 : decode cX6_ofTwo 229 = .ok (.if_icmp .ne 49, 3) := by decide +kernel
theorem dX6_ofTwo_232 : decode cX6_ofTwo 232 = .ok (.aload_n 0, 1) := by decide +kernel
theorem dX6_ofTwo_233 : decode cX6_ofTwo 233 = .ok (.iload 7, 2) := by decide +kernel
theorem dX6_ofTwo_235 : decode cX6_ofTwo 235 = .ok (.iconst 0, 1) := by decide +kernel
theorem dX6_ofTwo_236 : decode cX6_ofTwo 236 = .ok (.iload 6, 2) := by decide +kernel
theorem dX6_ofTwo_238 : decode cX6_ofTwo 238 = .ok (.bipush 9, 2) := by decide +kernel
theorem dX6_ofTwo_240 : decode cX6_ofTwo 240 = .ok (.iload_n 2, 1) := by decide +kernel
theorem dX6_ofTwo_241 : decode cX6_ofTwo 241 = .ok (.iload_n 3, 1) := by decide +kernel
theorem dX6_ofTwo_242 : decode cX6_ofTwo 242 = .ok (.iload 4, 2) := by decide +kernel
theorem dX6_ofTwo_244 : decode cX6_ofTwo 244 = .ok (.invokevirtual 94, 3) := by decide +kernel
theorem dX6_ofTwo_247 : decode cX6_ofTwo 247 = .ok (.goto 31, 3) := by decide +kernel
theorem dX6_ofTwo_250 : decode cX6_ofTwo 250 = .ok (.iload 7, 2) := by decide +kernel
theorem dX6_ofTwo_252 : decode cX6_ofTwo 252 = .ok (.iload 6, 2) := by decide +kernel
theorem dX6_ofTwo_254 : decode cX6_ofTwo 254 = .ok (.if_icmp .ne 24, 3) := by decide +kernel
theorem dX6_ofTwo_257 : decode cX6_ofTwo 257 = .ok (.iload 8, 2) := by decide +kernel
theorem dX6_ofTwo_259 : decode cX6_ofTwo 259 = .ok (.iconst 4, 1) := by decide +kernel
theorem dX6_ofTwo_260 : decode cX6_ofTwo 260 = .ok (.if_icmp .ne 18, 3) := by decide +kernel
theorem dX6_ofTwo_263 : decode cX6_ofTwo 263 = .ok (.aload_n 0, 1) := by decide +kernel
theorem dX6_ofTwo_264 : decode cX6_ofTwo 264 = .ok (.iload 5, 2) := by decide +kernel
theorem dX6_ofTwo_266 : decode cX6_ofTwo 266 = .ok (.iconst 4, 1) := by decide +kernel
theorem dX6_ofTwo_267 : decode cX6_ofTwo 267 = .ok (.iload 9, 2) := by decide +kernel
theorem dX6_ofTwo_269 : decode cX6_ofTwo 269 = .ok (.bipush 11, 2) := by decide +kernel
theorem dX6_ofTwo_271 : decode cX6_ofTwo 271 = .ok (.iload_n 2, 1) := by decide +kernel
theorem dX6_ofTwo_272 : decode cX6_ofTwo 272 = .ok (.iload_n 3, 1) := by decide +kernel
theorem dX6_ofTwo_273 : decode cX6_ofTwo 273 = .ok (.iload 4, 2) := by decide +kernel
theorem dX6_ofTwo_275 : decode cX6_ofTwo 275 = .ok (.invokevirtual 94, 3) := by decide +kernel
theorem dX6_ofTwo_278 : decode cX6_ofTwo 278 = .ok (.return_, 1) := by decide +kernel
set_option maxRecDepth 20000 in
theorem ggX6_run_X6_axiom : GoodIn wsX6_run wsX6_axiom := goodIn_r _ [18, 19, 20, 21, 22, 23, 24, 25, 26, 27, 28, 29, 30, 10, 11, 55, 56, 57, 58, 59, 60, 61, 62, 63, 64, 65, 66, 67, 68, 69, 70] (by decide +kernel) (by decide +kernel)
set_option maxRecDepth 20000 in
theorem gX6_run_X6_axiom : GoodIn wsX6_run (wsV RX6 78 RX6 yX6_axiom wsX6_axiom) := goodIn_app (goodIn_of _ (by decide +kernel)) ggX6_run_X6_axiom
set_option maxRecDepth 20000 in
theorem ggX6_run_X6_makes : GoodIn wsX6_run wsX6_makes := goodIn_r _ [34, 3, 4, 2, 8, 35, 36, 37, 17, 38, 55, 56, 57, 58, 59, 60, 61, 62, 63, 64, 65, 66, 67, 68, 69, 70] (by decide +kernel) (by decide +kernel)
set_option maxRecDepth 20000 in
theorem gX6_run_X6_makes : GoodIn wsX6_run (wsV RX6 94 RX6 yX6_makes wsX6_makes) := goodIn_app (goodIn_of _ (by decide +kernel)) ggX6_run_X6_makes
set_option maxRecDepth 20000 in
theorem ggX6_run_X6_firstOf : GoodIn wsX6_run wsX6_firstOf := goodIn_r _ [41] (by decide +kernel) (by decide +kernel)
set_option maxRecDepth 20000 in
theorem gX6_run_X6_firstOf : GoodIn wsX6_run (va_wsS RX6 98 yX6_firstOf wsX6_firstOf) := goodIn_app (goodIn_of _ (by decide +kernel)) ggX6_run_X6_firstOf
set_option maxRecDepth 20000 in
theorem ggX6_run_X6_ofOne : GoodIn wsX6_run wsX6_ofOne := goodIn_r _ [45, 8, 46, 31, 32, 33, 17, 34, 3, 4, 2, 35, 36, 37, 38, 55, 56, 57, 58, 59, 60, 61, 62, 63, 64, 65, 66, 67, 68, 69, 70] (by decide +kernel) (by decide +kernel)
set_option maxRecDepth 20000 in
theorem gX6_run_X6_ofOne : GoodIn wsX6_run (wsV RX6 101 RX6 yX6_ofOne wsX6_ofOne) := goodIn_app (goodIn_of _ (by decide +kernel)) ggX6_run_X6_ofOne
set_option maxRecDepth 20000 in
theorem ggX6_run_X6_ofTwo : GoodIn wsX6_run wsX6_ofTwo := goodIn_r _ [50, 8, 31, 32, 33, 17, 34, 3, 4, 2, 35, 36, 37, 38, 55, 56, 57, 58, 59, 60, 61, 62, 63, 64, 65, 66, 67, 68, 69, 70] (by decide +kernel) (by decide +kernel)
set_option maxRecDepth 20000 in
theorem gX6_run_X6_ofTwo : GoodIn wsX6_run (wsV RX6 105 RX6 yX6_ofTwo wsX6_ofTwo) := goodIn_app (goodIn_of _ (by decide +kernel)) ggX6_run_X6_ofTwo
set_option maxRecDepth 20000 in
theorem ggX6_run_X6_refuses : GoodIn wsX6_run wsX6_refuses := goodIn_r _ [54, 1, 55, 56, 57, 58, 59, 60, 61, 62, 63, 64, 65, 66, 67, 68, 69, 70] (by decide +kernel) (by decide +kernel)
set_option maxRecDepth 20000 in
theorem gX6_run_X6_refuses : GoodIn wsX6_run (wsV RX6 46 RX6 yX6_refuses wsX6_refuses) := goodIn_app (goodIn_of _ (by decide +kernel)) ggX6_run_X6_refuses
theorem dX6_run_0 : decode cX6_run 0 = .ok (.aload_n 0, 1) := by decide +kernel
theorem dX6_run_1 : decode cX6_run 1 = .ok (.iconst 0, 1) := by decide +kernel
theorem dX6_run_2 : decode cX6_run 2 = .ok (.putfield 36, 3) := by decide +kernel
theorem dX6_run_5 : decode cX6_run 5 = .ok (.aload_n 0, 1) := by decide +kernel
theorem dX6_run_6 : decode cX6_run 6 = .ok (.iconst 0, 1) := by decide +kernel
theorem dX6_run_7 : decode cX6_run 7 = .ok (.putfield 91, 3) := by decide +kernel
theorem dX6_run_10 : decode cX6_run 10 = .ok (.aload_n 0, 1) := by decide +kernel
theorem dX6_run_11 : decode cX6_run 11 = .ok (.iconst 0, 1) := by decide +kernel
theorem dX6_run_12 : decode cX6_run 12 = .ok (.putfield 85, 3) := by decide +kernel
theorem dX6_run_15 : decode cX6_run 15 = .ok (.iconst 0, 1) := by decide +kernel
theorem dX6_run_16 : decode cX6_run 16 = .ok (.istore_n 1, 1) := by decide +kernel
theorem dX6_run_17 : decode cX6_run 17 = .ok (.iload_n 1, 1) := by decide +kernel
theorem dX6_run_18 : decode cX6_run 18 = .ok (.sipush 2048, 3) := by decide +kernel
theorem dX6_run_21 : decode cX6_run 21 = .ok (.if_icmp .ge 16, 3) := by decide +kernel
theorem dX6_run_24 : decode cX6_run 24 = .ok (.aload_n 0, 1) := by decide +kernel
theorem dX6_run_25 : decode cX6_run 25 = .ok (.getfield 26, 3) := by decide +kernel
theorem dX6_run_28 : decode cX6_run 28 = .ok (.iload_n 1, 1) := by decide +kernel
theorem dX6_run_29 : decode cX6_run 29 = .ok (.iconst 0, 1) := by decide +kernel
theorem dX6_run_30 : decode cX6_run 30 = .ok (.iastore, 1) := by decide +kernel
theorem dX6_run_31 : decode cX6_run 31 = .ok (.iinc 1 1, 3) := by decide +kernel
theorem dX6_run_34 : decode cX6_run 34 = .ok (.goto (-17), 3) := by decide +kernel
theorem dX6_run_37 : decode cX6_run 37 = .ok (.iconst 0, 1) := by decide +kernel
theorem dX6_run_38 : decode cX6_run 38 = .ok (.istore_n 1, 1) := by decide +kernel
theorem dX6_run_39 : decode cX6_run 39 = .ok (.iload_n 1, 1) := by decide +kernel
theorem dX6_run_40 : decode cX6_run 40 = .ok (.bipush 42, 2) := by decide +kernel
theorem dX6_run_42 : decode cX6_run 42 = .ok (.if_icmp .ge 51, 3) := by decide +kernel
theorem dX6_run_45 : decode cX6_run 45 = .ok (.aload_n 0, 1) := by decide +kernel
theorem dX6_run_46 : decode cX6_run 46 = .ok (.getfield 75, 3) := by decide +kernel
theorem dX6_run_49 : decode cX6_run 49 = .ok (.ifCond .eq 44, 3) := by decide +kernel
theorem dX6_run_52 : decode cX6_run 52 = .ok (.aload_n 0, 1) := by decide +kernel
theorem dX6_run_53 : decode cX6_run 53 = .ok (.iload_n 1, 1) := by decide +kernel
theorem dX6_run_54 : decode cX6_run 54 = .ok (.invokevirtual 78, 3) := by decide +kernel
theorem dX6_run_57 : decode cX6_run 57 = .ok (.istore_n 2, 1) := by decide +kernel
theorem dX6_run_58 : decode cX6_run 58 = .ok (.iload_n 2, 1) := by decide +kernel
theorem dX6_run_59 : decode cX6_run 59 = .ok (.ifCond .lt 28, 3) := by decide +kernel
theorem dX6_run_62 : decode cX6_run 62 = .ok (.aload_n 0, 1) := by decide +kernel
theorem dX6_run_63 : decode cX6_run 63 = .ok (.iload_n 2, 1) := by decide +kernel
theorem dX6_run_64 : decode cX6_run 64 = .ok (.sipush 10000, 3) := by decide +kernel
theorem dX6_run_67 : decode cX6_run 67 = .ok (.idiv, 1) := by decide +kernel
theorem dX6_run_68 : decode cX6_run 68 = .ok (.iload_n 2, 1) := by decide +kernel
theorem dX6_run_69 : decode cX6_run 69 = .ok (.bipush 100, 2) := by decide +kernel
theorem dX6_run_71 : decode cX6_run 71 = .ok (.idiv, 1) := by decide +kernel
theorem dX6_run_72 : decode cX6_run 72 = .ok (.bipush 100, 2) := by decide +kernel
theorem dX6_run_74 : decode cX6_run 74 = .ok (.irem, 1) := by decide +kernel
theorem dX6_run_75 : decode cX6_run 75 = .ok (.iload_n 2, 1) := by decide +kernel
theorem dX6_run_76 : decode cX6_run 76 = .ok (.bipush 100, 2) := by decide +kernel
theorem dX6_run_78 : decode cX6_run 78 = .ok (.irem, 1) := by decide +kernel
theorem dX6_run_79 : decode cX6_run 79 = .ok (.bipush (-2), 2) := by decide +kernel
theorem dX6_run_81 : decode cX6_run 81 = .ok (.iconst (-1), 1) := by decide +kernel
theorem dX6_run_82 : decode cX6_run 82 = .ok (.iconst (-1), 1) := by decide +kernel
theorem dX6_run_83 : decode cX6_run 83 = .ok (.iconst 0, 1) := by decide +kernel
theorem dX6_run_84 : decode cX6_run 84 = .ok (.invokevirtual 94, 3) := by decide +kernel
theorem dX6_run_87 : decode cX6_run 87 = .ok (.iinc 1 1, 3) := by decide +kernel
theorem dX6_run_90 : decode cX6_run 90 = .ok (.goto (-51), 3) := by decide +kernel
theorem dX6_run_93 : decode cX6_run 93 = .ok (.iconst 0, 1) := by decide +kernel
theorem dX6_run_94 : decode cX6_run 94 = .ok (.istore_n 1, 1) := by decide +kernel
theorem dX6_run_95 : decode cX6_run 95 = .ok (.iload_n 1, 1) := by decide +kernel
theorem dX6_run_96 : decode cX6_run 96 = .ok (.aload_n 0, 1) := by decide +kernel
theorem dX6_run_97 : decode cX6_run 97 = .ok (.getfield 49, 3) := by decide +kernel
theorem dX6_run_100 : decode cX6_run 100 = .ok (.if_icmp .ge 45, 3) := by decide +kernel
theorem dX6_run_103 : decode cX6_run 103 = .ok (.aload_n 0, 1) := by decide +kernel
theorem dX6_run_104 : decode cX6_run 104 = .ok (.aload_n 0, 1) := by decide +kernel
theorem dX6_run_105 : decode cX6_run 105 = .ok (.getfield 13, 3) := by decide +kernel
theorem dX6_run_108 : decode cX6_run 108 = .ok (.iconst 3, 1) := by decide +kernel
theorem dX6_run_109 : decode cX6_run 109 = .ok (.iload_n 1, 1) := by decide +kernel
theorem dX6_run_110 : decode cX6_run 110 = .ok (.imul, 1) := by decide +kernel
theorem dX6_run_111 : decode cX6_run 111 = .ok (.iaload, 1) := by decide +kernel
theorem dX6_run_112 : decode cX6_run 112 = .ok (.aload_n 0, 1) := by decide +kernel
theorem dX6_run_113 : decode cX6_run 113 = .ok (.getfield 13, 3) := by decide +kernel
theorem dX6_run_116 : decode cX6_run 116 = .ok (.iconst 3, 1) := by decide +kernel
theorem dX6_run_117 : decode cX6_run 117 = .ok (.iload_n 1, 1) := by decide +kernel
theorem dX6_run_118 : decode cX6_run 118 = .ok (.imul, 1) := by decide +kernel
theorem dX6_run_119 : decode cX6_run 119 = .ok (.iconst 1, 1) := by decide +kernel
theorem dX6_run_120 : decode cX6_run 120 = .ok (.iadd, 1) := by decide +kernel
theorem dX6_run_121 : decode cX6_run 121 = .ok (.iaload, 1) := by decide +kernel
theorem dX6_run_122 : decode cX6_run 122 = .ok (.aload_n 0, 1) := by decide +kernel
theorem dX6_run_123 : decode cX6_run 123 = .ok (.getfield 13, 3) := by decide +kernel
theorem dX6_run_126 : decode cX6_run 126 = .ok (.iconst 3, 1) := by decide +kernel
theorem dX6_run_127 : decode cX6_run 127 = .ok (.iload_n 1, 1) := by decide +kernel
theorem dX6_run_128 : decode cX6_run 128 = .ok (.imul, 1) := by decide +kernel
theorem dX6_run_129 : decode cX6_run 129 = .ok (.iconst 2, 1) := by decide +kernel
theorem dX6_run_130 : decode cX6_run 130 = .ok (.iadd, 1) := by decide +kernel
theorem dX6_run_131 : decode cX6_run 131 = .ok (.iaload, 1) := by decide +kernel
theorem dX6_run_132 : decode cX6_run 132 = .ok (.iconst (-1), 1) := by decide +kernel
theorem dX6_run_133 : decode cX6_run 133 = .ok (.iconst (-1), 1) := by decide +kernel
theorem dX6_run_134 : decode cX6_run 134 = .ok (.iconst (-1), 1) := by decide +kernel
theorem dX6_run_135 : decode cX6_run 135 = .ok (.iconst 0, 1) := by decide +kernel
theorem dX6_run_136 : decode cX6_run 136 = .ok (.invokevirtual 94, 3) := by decide +kernel
theorem dX6_run_139 : decode cX6_run 139 = .ok (.iinc 1 1, 3) := by decide +kernel
theorem dX6_run_142 : decode cX6_run 142 = .ok (.goto (-47), 3) := by decide +kernel
theorem dX6_run_145 : decode cX6_run 145 = .ok (.iconst 0, 1) := by decide +kernel
theorem dX6_run_146 : decode cX6_run 146 = .ok (.istore_n 1, 1) := by decide +kernel
theorem dX6_run_147 : decode cX6_run 147 = .ok (.iconst (-1), 1) := by decide +kernel
theorem dX6_run_148 : decode cX6_run 148 = .ok (.istore_n 2, 1) := by decide +kernel
theorem dX6_run_149 : decode cX6_run 149 = .ok (.iload_n 2, 1) := by decide +kernel
theorem dX6_run_150 : decode cX6_run 150 = .ok (.aload_n 0, 1) := by decide +kernel
theorem dX6_run_151 : decode cX6_run 151 = .ok (.getfield 91, 3) := by decide +kernel
theorem dX6_run_154 : decode cX6_run 154 = .ok (.if_icmp .eq 138, 3) := by decide +kernel
theorem dX6_run_157 : decode cX6_run 157 = .ok (.aload_n 0, 1) := by decide +kernel
theorem dX6_run_158 : decode cX6_run 158 = .ok (.getfield 85, 3) := by decide +kernel
theorem dX6_run_161 : decode cX6_run 161 = .ok (.ifCond .ne 131, 3) := by decide +kernel
theorem dX6_run_164 : decode cX6_run 164 = .ok (.aload_n 0, 1) := by decide +kernel
theorem dX6_run_165 : decode cX6_run 165 = .ok (.getfield 91, 3) := by decide +kernel
theorem dX6_run_168 : decode cX6_run 168 = .ok (.istore_n 2, 1) := by decide +kernel
theorem dX6_run_169 : decode cX6_run 169 = .ok (.iconst 0, 1) := by decide +kernel
theorem dX6_run_170 : decode cX6_run 170 = .ok (.istore_n 3, 1) := by decide +kernel
theorem dX6_run_171 : decode cX6_run 171 = .ok (.iload_n 3, 1) := by decide +kernel
theorem dX6_run_172 : decode cX6_run 172 = .ok (.bipush 14, 2) := by decide +kernel
theorem dX6_run_174 : decode cX6_run 174 = .ok (.if_icmp .ge 99, 3) := by decide +kernel
theorem dX6_run_177 : decode cX6_run 177 = .ok (.iload_n 3, 1) := by decide +kernel
theorem dX6_run_178 : decode cX6_run 178 = .ok (.invokestatic 98, 3) := by decide +kernel
theorem dX6_run_181 : decode cX6_run 181 = .ok (.istore 4, 2) := by decide +kernel
theorem dX6_run_183 : decode cX6_run 183 = .ok (.iconst 0, 1) := by decide +kernel
theorem dX6_run_184 : decode cX6_run 184 = .ok (.istore 5, 2) := by decide +kernel
theorem dX6_run_186 : decode cX6_run 186 = .ok (.iload 5, 2) := by decide +kernel
theorem dX6_run_188 : decode cX6_run 188 = .ok (.iload_n 2, 1) := by decide +kernel
theorem dX6_run_189 : decode cX6_run 189 = .ok (.if_icmp .ge 78, 3) := by decide +kernel
theorem dX6_run_192 : decode cX6_run 192 = .ok (.aload_n 0, 1) := by decide +kernel
theorem dX6_run_193 : decode cX6_run 193 = .ok (.getfield 85, 3) := by decide +kernel
theorem dX6_run_196 : decode cX6_run 196 = .ok (.ifCond .ne 71, 3) := by decide +kernel
theorem dX6_run_199 : decode cX6_run 199 = .ok (.iload 4, 2) := by decide +kernel
theorem dX6_run_201 : decode cX6_run 201 = .ok (.ifCond .ge 16, 3) := by decide +kernel
theorem dX6_run_204 : decode cX6_run 204 = .ok (.aload_n 0, 1) := by decide +kernel
theorem dX6_run_205 : decode cX6_run 205 = .ok (.iload_n 3, 1) := by decide +kernel
theorem dX6_run_206 : decode cX6_run 206 = .ok (.iload 5, 2) := by decide +kernel
theorem dX6_run_208 : decode cX6_run 208 = .ok (.iload_n 1, 1) := by decide +kernel
theorem dX6_run_209 : decode cX6_run 209 = .ok (.iconst 1, 1) := by decide +kernel
theorem dX6_run_210 : decode cX6_run 210 = .ok (.iadd, 1) := by decide +kernel
theorem dX6_run_211 : decode cX6_run 211 = .ok (.invokevirtual 101, 3) := by decide +kernel
theorem dX6_run_214 : decode cX6_run 214 = .ok (.goto 47, 3) := by decide +kernel
theorem dX6_run_217 : decode cX6_run 217 = .ok (.aload_n 0, 1) := by decide +kernel
theorem dX6_run_218 : decode cX6_run 218 = .ok (.getfield 23, 3) := by decide +kernel
theorem dX6_run_221 : decode cX6_run 221 = .ok (.bipush 7, 2) := by decide +kernel
theorem dX6_run_223 : decode cX6_run 223 = .ok (.iload 5, 2) := by decide +kernel
theorem dX6_run_225 : decode cX6_run 225 = .ok (.imul, 1) := by decide +kernel
theorem dX6_run_226 : decode cX6_run 226 = .ok (.iconst 1, 1) := by decide +kernel
theorem dX6_run_227 : decode cX6_run 227 = .ok (.iadd, 1) := by decide +kernel
theorem dX6_run_228 : decode cX6_run 228 = .ok (.iaload, 1) := by decide +kernel
theorem dX6_run_229 : decode cX6_run 229 = .ok (.iload 4, 2) := by decide +kernel
theorem dX6_run_231 : decode cX6_run 231 = .ok (.if_icmp .ne 30, 3) := by decide +kernel
theorem dX6_run_234 : decode cX6_run 234 = .ok (.iconst 0, 1) := by decide +kernel
theorem dX6_run_235 : decode cX6_run 235 = .ok (.istore 6, 2) := by decide +kernel
theorem dX6_run_237 : decode cX6_run 237 = .ok (.iload 6, 2) := by decide +kernel
theorem dX6_run_239 : decode cX6_run 239 = .ok (.iload_n 2, 1) := by decide +kernel
theorem dX6_run_240 : decode cX6_run 240 = .ok (.if_icmp .ge 21, 3) := by decide +kernel
theorem dX6_run_243 : decode cX6_run 243 = .ok (.aload_n 0, 1) := by decide +kernel
theorem dX6_run_244 : decode cX6_run 244 = .ok (.iload_n 3, 1) := by decide +kernel
theorem dX6_run_245 : decode cX6_run 245 = .ok (.iload 5, 2) := by decide +kernel
theorem dX6_run_247 : decode cX6_run 247 = .ok (.iload 6, 2) := by decide +kernel
theorem dX6_run_249 : decode cX6_run 249 = .ok (.iload_n 1, 1) := by decide +kernel
theorem dX6_run_250 : decode cX6_run 250 = .ok (.iconst 1, 1) := by decide +kernel
theorem dX6_run_251 : decode cX6_run 251 = .ok (.iadd, 1) := by decide +kernel
theorem dX6_run_252 : decode cX6_run 252 = .ok (.invokevirtual 105, 3) := by decide +kernel
theorem dX6_run_255 : decode cX6_run 255 = .ok (.iinc 6 1, 3) := by decide +kernel
theorem dX6_run_258 : decode cX6_run 258 = .ok (.goto (-21), 3) := by decide +kernel
theorem dX6_run_261 : decode cX6_run 261 = .ok (.iinc 5 1, 3) := by decide +kernel
theorem dX6_run_264 : decode cX6_run 264 = .ok (.goto (-78), 3) := by decide +kernel
theorem dX6_run_267 : decode cX6_run 267 = .ok (.iinc 3 1, 3) := by decide +kernel
theorem dX6_run_270 : decode cX6_run 270 = .ok (.goto (-99), 3) := by decide +kernel
theorem dX6_run_273 : decode cX6_run 273 = .ok (.iload_n 1, 1) := by decide +kernel
theorem dX6_run_274 : decode cX6_run 274 = .ok (.aload_n 0, 1) := by decide +kernel
theorem dX6_run_275 : decode cX6_run 275 = .ok (.getfield 91, 3) := by decide +kernel
theorem dX6_run_278 : decode cX6_run 278 = .ok (.iload_n 2, 1) := by decide +kernel
theorem dX6_run_279 : decode cX6_run 279 = .ok (.if_icmp .le 7, 3) := by decide +kernel
theorem dX6_run_282 : decode cX6_run 282 = .ok (.iconst 1, 1) := by decide +kernel
theorem dX6_run_283 : decode cX6_run 283 = .ok (.goto 4, 3) := by decide +kernel
theorem dX6_run_286 : decode cX6_run 286 = .ok (.iconst 0, 1) := by decide +kernel
theorem dX6_run_287 : decode cX6_run 287 = .ok (.iadd, 1) := by decide +kernel
theorem dX6_run_288 : decode cX6_run 288 = .ok (.istore_n 1, 1) := by decide +kernel
theorem dX6_run_289 : decode cX6_run 289 = .ok (.goto (-140), 3) := by decide +kernel
theorem dX6_run_292 : decode cX6_run 292 = .ok (.aload_n 0, 1) := by decide +kernel
theorem dX6_run_293 : decode cX6_run 293 = .ok (.aload_n 0, 1) := by decide +kernel
theorem dX6_run_294 : decode cX6_run 294 = .ok (.getfield 85, 3) := by decide +kernel
theorem dX6_run_297 : decode cX6_run 297 = .ok (.ifCond .eq 7, 3) := by decide +kernel
theorem dX6_run_300 : decode cX6_run 300 = .ok (.iconst 1, 1) := by decide +kernel
theorem dX6_run_301 : decode cX6_run 301 = .ok (.goto 4, 3) := by decide +kernel
theorem dX6_run_304 : decode cX6_run 304 = .ok (.iconst 0, 1) := by decide +kernel
theorem dX6_run_305 : decode cX6_run 305 = .ok (.invokevirtual 46, 3) := by decide +kernel
theorem dX6_run_308 : decode cX6_run 308 = .ok (.ifCond .eq 5, 3) := by decide +kernel
theorem dX6_run_311 : decode cX6_run 311 = .ok (.iconst 0, 1) := by decide +kernel
theorem dX6_run_312 : decode cX6_run 312 = .ok (.ireturn, 1) := by decide +kernel
theorem dX6_run_313 : decode cX6_run 313 = .ok (.aload_n 0, 1) := by decide +kernel
theorem dX6_run_314 : decode cX6_run 314 = .ok (.aload_n 0, 1) := by decide +kernel
theorem dX6_run_315 : decode cX6_run 315 = .ok (.getfield 91, 3) := by decide +kernel
theorem dX6_run_318 : decode cX6_run 318 = .ok (.putfield 109, 3) := by decide +kernel
theorem dX6_run_321 : decode cX6_run 321 = .ok (.aload_n 0, 1) := by decide +kernel
theorem dX6_run_322 : decode cX6_run 322 = .ok (.aload_n 0, 1) := by decide +kernel
theorem dX6_run_323 : decode cX6_run 323 = .ok (.getfield 75, 3) := by decide +kernel
theorem dX6_run_326 : decode cX6_run 326 = .ok (.ifCond .eq 17, 3) := by decide +kernel
theorem dX6_run_329 : decode cX6_run 329 = .ok (.aload_n 0, 1) := by decide +kernel
theorem dX6_run_330 : decode cX6_run 330 = .ok (.getfield 32, 3) := by decide +kernel
theorem dX6_run_333 : decode cX6_run 333 = .ok (.ifCond .eq 10, 3) := by decide +kernel
theorem dX6_run_336 : decode cX6_run 336 = .ok (.aload_n 0, 1) := by decide +kernel
theorem dX6_run_337 : decode cX6_run 337 = .ok (.getfield 7, 3) := by decide +kernel
theorem dX6_run_340 : decode cX6_run 340 = .ok (.goto 4, 3) := by decide +kernel
theorem dX6_run_343 : decode cX6_run 343 = .ok (.iconst 0, 1) := by decide +kernel
theorem dX6_run_344 : decode cX6_run 344 = .ok (.putfield 112, 3) := by decide +kernel
theorem dX6_run_347 : decode cX6_run 347 = .ok (.iconst 0, 1) := by decide +kernel
theorem dX6_run_348 : decode cX6_run 348 = .ok (.istore_n 3, 1) := by decide +kernel
theorem dX6_run_349 : decode cX6_run 349 = .ok (.iload_n 3, 1) := by decide +kernel
theorem dX6_run_350 : decode cX6_run 350 = .ok (.bipush 7, 2) := by decide +kernel
theorem dX6_run_352 : decode cX6_run 352 = .ok (.aload_n 0, 1) := by decide +kernel
theorem dX6_run_353 : decode cX6_run 353 = .ok (.getfield 109, 3) := by decide +kernel
theorem dX6_run_356 : decode cX6_run 356 = .ok (.imul, 1) := by decide +kernel
theorem dX6_run_357 : decode cX6_run 357 = .ok (.if_icmp .ge 21, 3) := by decide +kernel
theorem dX6_run_360 : decode cX6_run 360 = .ok (.aload_n 0, 1) := by decide +kernel
theorem dX6_run_361 : decode cX6_run 361 = .ok (.getfield 20, 3) := by decide +kernel
theorem dX6_run_364 : decode cX6_run 364 = .ok (.iload_n 3, 1) := by decide +kernel
theorem dX6_run_365 : decode cX6_run 365 = .ok (.aload_n 0, 1) := by decide +kernel
theorem dX6_run_366 : decode cX6_run 366 = .ok (.getfield 23, 3) := by decide +kernel
theorem dX6_run_369 : decode cX6_run 369 = .ok (.iload_n 3, 1) := by decide +kernel
theorem dX6_run_370 : decode cX6_run 370 = .ok (.iaload, 1) := by decide +kernel
theorem dX6_run_371 : decode cX6_run 371 = .ok (.iastore, 1) := by decide +kernel
theorem dX6_run_372 : decode cX6_run 372 = .ok (.iinc 3 1, 3) := by decide +kernel
theorem dX6_run_375 : decode cX6_run 375 = .ok (.goto (-26), 3) := by decide +kernel
theorem dX6_run_378 : decode cX6_run 378 = .ok (.iload_n 1, 1) := by decide +kernel
theorem dX6_run_379 : decode cX6_run 379 = .ok (.ireturn, 1) := by decide +kernel
set_option maxRecDepth 20000 in
theorem ggX6_closed_X6_refuses : GoodIn wsX6_closed wsX6_refuses := goodIn_r _ [7, 8, 9, 10, 11, 12, 13, 14, 15, 16, 17, 18, 19, 20, 21, 22, 23, 24] (by decide +kernel) (by decide +kernel)
set_option maxRecDepth 20000 in
theorem gX6_closed_X6_refuses : GoodIn wsX6_closed (wsV RX6 46 RX6 yX6_refuses wsX6_refuses) := goodIn_app (goodIn_of _ (by decide +kernel)) ggX6_closed_X6_refuses
theorem dX6_closed_0 : decode cX6_closed 0 = .ok (.aload_n 0, 1) := by decide +kernel
theorem dX6_closed_1 : decode cX6_closed 1 = .ok (.iload_n 1, 1) := by decide +kernel
theorem dX6_closed_2 : decode cX6_closed 2 = .ok (.ifCond .lt 21, 3) := by decide +kernel
theorem dX6_closed_5 : decode cX6_closed 5 = .ok (.iload_n 1, 1) := by decide +kernel
theorem dX6_closed_6 : decode cX6_closed 6 = .ok (.aload_n 0, 1) := by decide +kernel
theorem dX6_closed_7 : decode cX6_closed 7 = .ok (.getfield 109, 3) := by decide +kernel
theorem dX6_closed_10 : decode cX6_closed 10 = .ok (.if_icmp .ge 13, 3) := by decide +kernel
theorem dX6_closed_13 : decode cX6_closed 13 = .ok (.iload_n 2, 1) := by decide +kernel
theorem dX6_closed_14 : decode cX6_closed 14 = .ok (.ifCond .lt 9, 3) := by decide +kernel
theorem dX6_closed_17 : decode cX6_closed 17 = .ok (.iload_n 2, 1) := by decide +kernel
theorem dX6_closed_18 : decode cX6_closed 18 = .ok (.bipush 6, 2) := by decide +kernel
theorem dX6_closed_20 : decode cX6_closed 20 = .ok (.if_icmp .le 7, 3) := by decide +kernel
theorem dX6_closed_23 : decode cX6_closed 23 = .ok (.iconst 1, 1) := by decide +kernel
theorem dX6_closed_24 : decode cX6_closed 24 = .ok (.goto 4, 3) := by decide +kernel
theorem dX6_closed_27 : decode cX6_closed 27 = .ok (.iconst 0, 1) := by decide +kernel
theorem dX6_closed_28 : decode cX6_closed 28 = .ok (.invokevirtual 46, 3) := by decide +kernel
theorem dX6_closed_31 : decode cX6_closed 31 = .ok (.ifCond .eq 7, 3) := by decide +kernel
theorem dX6_closed_34 : decode cX6_closed 34 = .ok (.iconst 0, 1) := by decide +kernel
theorem dX6_closed_35 : decode cX6_closed 35 = .ok (.goto 14, 3) := by decide +kernel
theorem dX6_closed_38 : decode cX6_closed 38 = .ok (.aload_n 0, 1) := by decide +kernel
theorem dX6_closed_39 : decode cX6_closed 39 = .ok (.getfield 20, 3) := by decide +kernel
theorem dX6_closed_42 : decode cX6_closed 42 = .ok (.bipush 7, 2) := by decide +kernel
theorem dX6_closed_44 : decode cX6_closed 44 = .ok (.iload_n 1, 1) := by decide +kernel
theorem dX6_closed_45 : decode cX6_closed 45 = .ok (.imul, 1) := by decide +kernel
theorem dX6_closed_46 : decode cX6_closed 46 = .ok (.iload_n 2, 1) := by decide +kernel
theorem dX6_closed_47 : decode cX6_closed 47 = .ok (.iadd, 1) := by decide +kernel
theorem dX6_closed_48 : decode cX6_closed 48 = .ok (.iaload, 1) := by decide +kernel
theorem dX6_closed_49 : decode cX6_closed 49 = .ok (.ireturn, 1) := by decide +kernel
theorem dX6_find_0 : decode cX6_find 0 = .ok (.aload_n 0, 1) := by decide +kernel
theorem dX6_find_1 : decode cX6_find 1 = .ok (.iconst 0, 1) := by decide +kernel
theorem dX6_find_2 : decode cX6_find 2 = .ok (.putfield 36, 3) := by decide +kernel
theorem dX6_find_5 : decode cX6_find 5 = .ok (.iconst 0, 1) := by decide +kernel
theorem dX6_find_6 : decode cX6_find 6 = .ok (.istore 4, 2) := by decide +kernel
theorem dX6_find_8 : decode cX6_find 8 = .ok (.iload 4, 2) := by decide +kernel
theorem dX6_find_10 : decode cX6_find 10 = .ok (.aload_n 0, 1) := by decide +kernel
theorem dX6_find_11 : decode cX6_find 11 = .ok (.getfield 109, 3) := by decide +kernel
theorem dX6_find_14 : decode cX6_find 14 = .ok (.if_icmp .ge 58, 3) := by decide +kernel
theorem dX6_find_17 : decode cX6_find 17 = .ok (.aload_n 0, 1) := by decide +kernel
theorem dX6_find_18 : decode cX6_find 18 = .ok (.getfield 20, 3) := by decide +kernel
theorem dX6_find_21 : decode cX6_find 21 = .ok (.bipush 7, 2) := by decide +kernel
theorem dX6_find_23 : decode cX6_find 23 = .ok (.iload 4, 2) := by decide +kernel
theorem dX6_find_25 : decode cX6_find 25 = .ok (.imul, 1) := by decide +kernel
theorem dX6_find_26 : decode cX6_find 26 = .ok (.iaload, 1) := by decide +kernel
theorem dX6_find_27 : decode cX6_find 27 = .ok (.iload_n 1, 1) := by decide +kernel
theorem dX6_find_28 : decode cX6_find 28 = .ok (.if_icmp .ne 38, 3) := by decide +kernel
theorem dX6_find_31 : decode cX6_find 31 = .ok (.aload_n 0, 1) := by decide +kernel
theorem dX6_find_32 : decode cX6_find 32 = .ok (.getfield 20, 3) := by decide +kernel
theorem dX6_find_35 : decode cX6_find 35 = .ok (.bipush 7, 2) := by decide +kernel
theorem dX6_find_37 : decode cX6_find 37 = .ok (.iload 4, 2) := by decide +kernel
theorem dX6_find_39 : decode cX6_find 39 = .ok (.imul, 1) := by decide +kernel
theorem dX6_find_40 : decode cX6_find 40 = .ok (.iconst 1, 1) := by decide +kernel
theorem dX6_find_41 : decode cX6_find 41 = .ok (.iadd, 1) := by decide +kernel
theorem dX6_find_42 : decode cX6_find 42 = .ok (.iaload, 1) := by decide +kernel
theorem dX6_find_43 : decode cX6_find 43 = .ok (.iload_n 2, 1) := by decide +kernel
theorem dX6_find_44 : decode cX6_find 44 = .ok (.if_icmp .ne 22, 3) := by decide +kernel
theorem dX6_find_47 : decode cX6_find 47 = .ok (.aload_n 0, 1) := by decide +kernel
theorem dX6_find_48 : decode cX6_find 48 = .ok (.getfield 20, 3) := by decide +kernel
theorem dX6_find_51 : decode cX6_find 51 = .ok (.bipush 7, 2) := by decide +kernel
theorem dX6_find_53 : decode cX6_find 53 = .ok (.iload 4, 2) := by decide +kernel
theorem dX6_find_55 : decode cX6_find 55 = .ok (.imul, 1) := by decide +kernel
theorem dX6_find_56 : decode cX6_find 56 = .ok (.iconst 2, 1) := by decide +kernel
theorem dX6_find_57 : decode cX6_find 57 = .ok (.iadd, 1) := by decide +kernel
theorem dX6_find_58 : decode cX6_find 58 = .ok (.iaload, 1) := by decide +kernel
theorem dX6_find_59 : decode cX6_find 59 = .ok (.iload_n 3, 1) := by decide +kernel
theorem dX6_find_60 : decode cX6_find 60 = .ok (.if_icmp .ne 6, 3) := by decide +kernel
theorem dX6_find_63 : decode cX6_find 63 = .ok (.iload 4, 2) := by decide +kernel
theorem dX6_find_65 : decode cX6_find 65 = .ok (.ireturn, 1) := by decide +kernel
theorem dX6_find_66 : decode cX6_find 66 = .ok (.iinc 4 1, 3) := by decide +kernel
theorem dX6_find_69 : decode cX6_find 69 = .ok (.goto (-61), 3) := by decide +kernel
theorem dX6_find_72 : decode cX6_find 72 = .ok (.iconst (-1), 1) := by decide +kernel
theorem dX6_find_73 : decode cX6_find 73 = .ok (.ireturn, 1) := by decide +kernel
theorem dX6_marks_0 : decode cX6_marks 0 = .ok (.iconst 0, 1) := by decide +kernel
theorem dX6_marks_1 : decode cX6_marks 1 = .ok (.istore_n 2, 1) := by decide +kernel
theorem dX6_marks_2 : decode cX6_marks 2 = .ok (.iload_n 2, 1) := by decide +kernel
theorem dX6_marks_3 : decode cX6_marks 3 = .ok (.iload_n 1, 1) := by decide +kernel
theorem dX6_marks_4 : decode cX6_marks 4 = .ok (.if_icmp .ge 16, 3) := by decide +kernel
theorem dX6_marks_7 : decode cX6_marks 7 = .ok (.aload_n 0, 1) := by decide +kernel
theorem dX6_marks_8 : decode cX6_marks 8 = .ok (.getfield 29, 3) := by decide +kernel
theorem dX6_marks_11 : decode cX6_marks 11 = .ok (.iload_n 2, 1) := by decide +kernel
theorem dX6_marks_12 : decode cX6_marks 12 = .ok (.iconst 0, 1) := by decide +kernel
theorem dX6_marks_13 : decode cX6_marks 13 = .ok (.iastore, 1) := by decide +kernel
theorem dX6_marks_14 : decode cX6_marks 14 = .ok (.iinc 2 1, 3) := by decide +kernel
theorem dX6_marks_17 : decode cX6_marks 17 = .ok (.goto (-15), 3) := by decide +kernel
theorem dX6_marks_20 : decode cX6_marks 20 = .ok (.aload_n 0, 1) := by decide +kernel
theorem dX6_marks_21 : decode cX6_marks 21 = .ok (.getfield 29, 3) := by decide +kernel
theorem dX6_marks_24 : decode cX6_marks 24 = .ok (.iload_n 1, 1) := by decide +kernel
theorem dX6_marks_25 : decode cX6_marks 25 = .ok (.iconst 1, 1) := by decide +kernel
theorem dX6_marks_26 : decode cX6_marks 26 = .ok (.iastore, 1) := by decide +kernel
theorem dX6_marks_27 : decode cX6_marks 27 = .ok (.iconst 0, 1) := by decide +kernel
theorem dX6_marks_28 : decode cX6_marks 28 = .ok (.istore_n 2, 1) := by decide +kernel
theorem dX6_marks_29 : decode cX6_marks 29 = .ok (.iload_n 1, 1) := by decide +kernel
theorem dX6_marks_30 : decode cX6_marks 30 = .ok (.istore_n 3, 1) := by decide +kernel
theorem dX6_marks_31 : decode cX6_marks 31 = .ok (.iload_n 3, 1) := by decide +kernel
theorem dX6_marks_32 : decode cX6_marks 32 = .ok (.ifCond .lt 77, 3) := by decide +kernel
theorem dX6_marks_35 : decode cX6_marks 35 = .ok (.iload_n 2, 1) := by decide +kernel
theorem dX6_marks_36 : decode cX6_marks 36 = .ok (.aload_n 0, 1) := by decide +kernel
theorem dX6_marks_37 : decode cX6_marks 37 = .ok (.getfield 29, 3) := by decide +kernel
theorem dX6_marks_40 : decode cX6_marks 40 = .ok (.iload_n 3, 1) := by decide +kernel
theorem dX6_marks_41 : decode cX6_marks 41 = .ok (.iaload, 1) := by decide +kernel
theorem dX6_marks_42 : decode cX6_marks 42 = .ok (.iadd, 1) := by decide +kernel
theorem dX6_marks_43 : decode cX6_marks 43 = .ok (.istore_n 2, 1) := by decide +kernel
theorem dX6_marks_44 : decode cX6_marks 44 = .ok (.iconst 4, 1) := by decide +kernel
theorem dX6_marks_45 : decode cX6_marks 45 = .ok (.istore 4, 2) := by decide +kernel
theorem dX6_marks_47 : decode cX6_marks 47 = .ok (.iload 4, 2) := by decide +kernel
theorem dX6_marks_49 : decode cX6_marks 49 = .ok (.bipush 6, 2) := by decide +kernel
theorem dX6_marks_51 : decode cX6_marks 51 = .ok (.if_icmp .ge 52, 3) := by decide +kernel
theorem dX6_marks_54 : decode cX6_marks 54 = .ok (.aload_n 0, 1) := by decide +kernel
theorem dX6_marks_55 : decode cX6_marks 55 = .ok (.getfield 29, 3) := by decide +kernel
theorem dX6_marks_58 : decode cX6_marks 58 = .ok (.iload_n 3, 1) := by decide +kernel
theorem dX6_marks_59 : decode cX6_marks 59 = .ok (.iaload, 1) := by decide +kernel
theorem dX6_marks_60 : decode cX6_marks 60 = .ok (.iconst 1, 1) := by decide +kernel
theorem dX6_marks_61 : decode cX6_marks 61 = .ok (.if_icmp .ne 42, 3) := by decide +kernel
theorem dX6_marks_64 : decode cX6_marks 64 = .ok (.aload_n 0, 1) := by decide +kernel
theorem dX6_marks_65 : decode cX6_marks 65 = .ok (.getfield 20, 3) := by decide +kernel
theorem dX6_marks_68 : decode cX6_marks 68 = .ok (.bipush 7, 2) := by decide +kernel
theorem dX6_marks_70 : decode cX6_marks 70 = .ok (.iload_n 3, 1) := by decide +kernel
theorem dX6_marks_71 : decode cX6_marks 71 = .ok (.imul, 1) := by decide +kernel
theorem dX6_marks_72 : decode cX6_marks 72 = .ok (.iload 4, 2) := by decide +kernel
theorem dX6_marks_74 : decode cX6_marks 74 = .ok (.iadd, 1) := by decide +kernel
theorem dX6_marks_75 : decode cX6_marks 75 = .ok (.iaload, 1) := by decide +kernel
theorem dX6_marks_76 : decode cX6_marks 76 = .ok (.ifCond .lt 21, 3) := by decide +kernel
theorem dX6_marks_79 : decode cX6_marks 79 = .ok (.aload_n 0, 1) := by decide +kernel
theorem dX6_marks_80 : decode cX6_marks 80 = .ok (.getfield 29, 3) := by decide +kernel
theorem dX6_marks_83 : decode cX6_marks 83 = .ok (.aload_n 0, 1) := by decide +kernel
theorem dX6_marks_84 : decode cX6_marks 84 = .ok (.getfield 20, 3) := by decide +kernel
theorem dX6_marks_87 : decode cX6_marks 87 = .ok (.bipush 7, 2) := by decide +kernel
theorem dX6_marks_89 : decode cX6_marks 89 = .ok (.iload_n 3, 1) := by decide +kernel
theorem dX6_marks_90 : decode cX6_marks 90 = .ok (.imul, 1) := by decide +kernel
theorem dX6_marks_91 : decode cX6_marks 91 = .ok (.iload 4, 2) := by decide +kernel
theorem dX6_marks_93 : decode cX6_marks 93 = .ok (.iadd, 1) := by decide +kernel
theorem dX6_marks_94 : decode cX6_marks 94 = .ok (.iaload, 1) := by decide +kernel
theorem dX6_marks_95 : decode cX6_marks 95 = .ok (.iconst 1, 1) := by decide +kernel
theorem dX6_marks_96 : decode cX6_marks 96 = .ok (.iastore, 1) := by decide +kernel
theorem dX6_marks_97 : decode cX6_marks 97 = .ok (.iinc 4 1, 3) := by decide +kernel
theorem dX6_marks_100 : decode cX6_marks 100 = .ok (.goto (-53), 3) := by decide +kernel
theorem dX6_marks_103 : decode cX6_marks 103 = .ok (.iinc 3 (-1), 3) := by decide +kernel
theorem dX6_marks_106 : decode cX6_marks 106 = .ok (.goto (-75), 3) := by decide +kernel
theorem dX6_marks_109 : decode cX6_marks 109 = .ok (.iload_n 2, 1) := by decide +kernel
theorem dX6_marks_110 : decode cX6_marks 110 = .ok (.ireturn, 1) := by decide +kernel
set_option maxRecDepth 20000 in
theorem ggX6_trace_X6_refuses : GoodIn wsX6_trace wsX6_refuses := goodIn_r _ [6, 7, 14, 15, 16, 17, 18, 19, 20, 21, 22, 23, 24, 25, 26, 27, 28, 29] (by decide +kernel) (by decide +kernel)
set_option maxRecDepth 20000 in
theorem gX6_trace_X6_refuses : GoodIn wsX6_trace (wsV RX6 46 RX6 yX6_refuses wsX6_refuses) := goodIn_app (goodIn_of _ (by decide +kernel)) ggX6_trace_X6_refuses
set_option maxRecDepth 20000 in
theorem ggX6_trace_X6_marks : GoodIn wsX6_trace wsX6_marks := goodIn_r _ [11, 12, 13, 14, 15, 16, 17, 18, 19, 20, 21, 22, 23, 24, 25, 26, 27, 28, 29] (by decide +kernel) (by decide +kernel)
set_option maxRecDepth 20000 in
theorem gX6_trace_X6_marks : GoodIn wsX6_trace (wsV RX6 115 RX6 yX6_marks wsX6_marks) := goodIn_app (goodIn_of _ (by decide +kernel)) ggX6_trace_X6_marks
theorem dX6_trace_0 : decode cX6_trace 0 = .ok (.aload_n 0, 1) := by decide +kernel
theorem dX6_trace_1 : decode cX6_trace 1 = .ok (.iload_n 1, 1) := by decide +kernel
theorem dX6_trace_2 : decode cX6_trace 2 = .ok (.ifCond .lt 11, 3) := by decide +kernel
theorem dX6_trace_5 : decode cX6_trace 5 = .ok (.iload_n 1, 1) := by decide +kernel
theorem dX6_trace_6 : decode cX6_trace 6 = .ok (.aload_n 0, 1) := by decide +kernel
theorem dX6_trace_7 : decode cX6_trace 7 = .ok (.getfield 109, 3) := by decide +kernel
theorem dX6_trace_10 : decode cX6_trace 10 = .ok (.if_icmp .lt 7, 3) := by decide +kernel
theorem dX6_trace_13 : decode cX6_trace 13 = .ok (.iconst 1, 1) := by decide +kernel
theorem dX6_trace_14 : decode cX6_trace 14 = .ok (.goto 4, 3) := by decide +kernel
theorem dX6_trace_17 : decode cX6_trace 17 = .ok (.iconst 0, 1) := by decide +kernel
theorem dX6_trace_18 : decode cX6_trace 18 = .ok (.invokevirtual 46, 3) := by decide +kernel
theorem dX6_trace_21 : decode cX6_trace 21 = .ok (.ifCond .eq 7, 3) := by decide +kernel
theorem dX6_trace_24 : decode cX6_trace 24 = .ok (.iconst 0, 1) := by decide +kernel
theorem dX6_trace_25 : decode cX6_trace 25 = .ok (.goto 8, 3) := by decide +kernel
theorem dX6_trace_28 : decode cX6_trace 28 = .ok (.aload_n 0, 1) := by decide +kernel
theorem dX6_trace_29 : decode cX6_trace 29 = .ok (.iload_n 1, 1) := by decide +kernel
theorem dX6_trace_30 : decode cX6_trace 30 = .ok (.invokevirtual 115, 3) := by decide +kernel
theorem dX6_trace_33 : decode cX6_trace 33 = .ok (.ireturn, 1) := by decide +kernel
set_option maxRecDepth 20000 in
theorem ggX6_proof_X6_refuses : GoodIn wsX6_proof wsX6_refuses := goodIn_r _ [7, 8, 14, 15, 16, 17, 18, 19, 20, 21, 22, 23, 24, 25, 26, 27, 28, 29] (by decide +kernel) (by decide +kernel)
set_option maxRecDepth 20000 in
theorem gX6_proof_X6_refuses : GoodIn wsX6_proof (wsV RX6 46 RX6 yX6_refuses wsX6_refuses) := goodIn_app (goodIn_of _ (by decide +kernel)) ggX6_proof_X6_refuses
set_option maxRecDepth 20000 in
theorem ggX6_proof_X6_marks : GoodIn wsX6_proof wsX6_marks := goodIn_r _ [12, 2, 13, 14, 15, 16, 17, 18, 19, 20, 21, 22, 23, 24, 25, 26, 27, 28, 29] (by decide +kernel) (by decide +kernel)
set_option maxRecDepth 20000 in
theorem gX6_proof_X6_marks : GoodIn wsX6_proof (wsV RX6 115 RX6 yX6_marks wsX6_marks) := goodIn_app (goodIn_of _ (by decide +kernel)) ggX6_proof_X6_marks
theorem dX6_proof_0 : decode cX6_proof 0 = .ok (.aload_n 0, 1) := by decide +kernel
theorem dX6_proof_1 : decode cX6_proof 1 = .ok (.iload_n 1, 1) := by decide +kernel
theorem dX6_proof_2 : decode cX6_proof 2 = .ok (.ifCond .lt 11, 3) := by decide +kernel
theorem dX6_proof_5 : decode cX6_proof 5 = .ok (.iload_n 1, 1) := by decide +kernel
theorem dX6_proof_6 : decode cX6_proof 6 = .ok (.aload_n 0, 1) := by decide +kernel
theorem dX6_proof_7 : decode cX6_proof 7 = .ok (.getfield 109, 3) := by decide +kernel
theorem dX6_proof_10 : decode cX6_proof 10 = .ok (.if_icmp .lt 7, 3) := by decide +kernel
theorem dX6_proof_13 : decode cX6_proof 13 = .ok (.iconst 1, 1) := by decide +kernel
theorem dX6_proof_14 : decode cX6_proof 14 = .ok (.goto 4, 3) := by decide +kernel
theorem dX6_proof_17 : decode cX6_proof 17 = .ok (.iconst 0, 1) := by decide +kernel
theorem dX6_proof_18 : decode cX6_proof 18 = .ok (.invokevirtual 46, 3) := by decide +kernel
theorem dX6_proof_21 : decode cX6_proof 21 = .ok (.ifCond .eq 5, 3) := by decide +kernel
theorem dX6_proof_24 : decode cX6_proof 24 = .ok (.iconst 0, 1) := by decide +kernel
theorem dX6_proof_25 : decode cX6_proof 25 = .ok (.ireturn, 1) := by decide +kernel
theorem dX6_proof_26 : decode cX6_proof 26 = .ok (.aload_n 0, 1) := by decide +kernel
theorem dX6_proof_27 : decode cX6_proof 27 = .ok (.iload_n 1, 1) := by decide +kernel
theorem dX6_proof_28 : decode cX6_proof 28 = .ok (.invokevirtual 115, 3) := by decide +kernel
theorem dX6_proof_31 : decode cX6_proof 31 = .ok (.istore_n 3, 1) := by decide +kernel
theorem dX6_proof_32 : decode cX6_proof 32 = .ok (.iload_n 2, 1) := by decide +kernel
theorem dX6_proof_33 : decode cX6_proof 33 = .ok (.ifCond .lt 8, 3) := by decide +kernel
theorem dX6_proof_36 : decode cX6_proof 36 = .ok (.iload_n 2, 1) := by decide +kernel
theorem dX6_proof_37 : decode cX6_proof 37 = .ok (.iload_n 3, 1) := by decide +kernel
theorem dX6_proof_38 : decode cX6_proof 38 = .ok (.if_icmp .lt 5, 3) := by decide +kernel
theorem dX6_proof_41 : decode cX6_proof 41 = .ok (.iconst (-1), 1) := by decide +kernel
theorem dX6_proof_42 : decode cX6_proof 42 = .ok (.ireturn, 1) := by decide +kernel
theorem dX6_proof_43 : decode cX6_proof 43 = .ok (.iload_n 2, 1) := by decide +kernel
theorem dX6_proof_44 : decode cX6_proof 44 = .ok (.istore 4, 2) := by decide +kernel
theorem dX6_proof_46 : decode cX6_proof 46 = .ok (.iconst 0, 1) := by decide +kernel
theorem dX6_proof_47 : decode cX6_proof 47 = .ok (.istore 5, 2) := by decide +kernel
theorem dX6_proof_49 : decode cX6_proof 49 = .ok (.aload_n 0, 1) := by decide +kernel
theorem dX6_proof_50 : decode cX6_proof 50 = .ok (.getfield 29, 3) := by decide +kernel
theorem dX6_proof_53 : decode cX6_proof 53 = .ok (.iload 5, 2) := by decide +kernel
theorem dX6_proof_55 : decode cX6_proof 55 = .ok (.iaload, 1) := by decide +kernel
theorem dX6_proof_56 : decode cX6_proof 56 = .ok (.ifCond .eq 8, 3) := by decide +kernel
theorem dX6_proof_59 : decode cX6_proof 59 = .ok (.iload 4, 2) := by decide +kernel
theorem dX6_proof_61 : decode cX6_proof 61 = .ok (.ifCond .le 21, 3) := by decide +kernel
theorem dX6_proof_64 : decode cX6_proof 64 = .ok (.iload 4, 2) := by decide +kernel
theorem dX6_proof_66 : decode cX6_proof 66 = .ok (.aload_n 0, 1) := by decide +kernel
theorem dX6_proof_67 : decode cX6_proof 67 = .ok (.getfield 29, 3) := by decide +kernel
theorem dX6_proof_70 : decode cX6_proof 70 = .ok (.iload 5, 2) := by decide +kernel
theorem dX6_proof_72 : decode cX6_proof 72 = .ok (.iaload, 1) := by decide +kernel
theorem dX6_proof_73 : decode cX6_proof 73 = .ok (.isub, 1) := by decide +kernel
theorem dX6_proof_74 : decode cX6_proof 74 = .ok (.istore 4, 2) := by decide +kernel
theorem dX6_proof_76 : decode cX6_proof 76 = .ok (.iinc 5 1, 3) := by decide +kernel
theorem dX6_proof_79 : decode cX6_proof 79 = .ok (.goto (-30), 3) := by decide +kernel
theorem dX6_proof_82 : decode cX6_proof 82 = .ok (.iload 5, 2) := by decide +kernel
theorem dX6_proof_84 : decode cX6_proof 84 = .ok (.ireturn, 1) := by decide +kernel
set_option maxRecDepth 20000 in
theorem ggX6_rule_X6_refuses : GoodIn wsX6_rule wsX6_refuses := goodIn_r _ [7, 8, 9, 10, 11, 12, 13, 14, 15, 16, 17, 18, 19, 20, 21, 22, 23, 24] (by decide +kernel) (by decide +kernel)
set_option maxRecDepth 20000 in
theorem gX6_rule_X6_refuses : GoodIn wsX6_rule (wsV RX6 46 RX6 yX6_refuses wsX6_refuses) := goodIn_app (goodIn_of _ (by decide +kernel)) ggX6_rule_X6_refuses
theorem dX6_rule_0 : decode cX6_rule 0 = .ok (.aload_n 0, 1) := by decide +kernel
theorem dX6_rule_1 : decode cX6_rule 1 = .ok (.iload_n 1, 1) := by decide +kernel
theorem dX6_rule_2 : decode cX6_rule 2 = .ok (.ifCond .lt 9, 3) := by decide +kernel
theorem dX6_rule_5 : decode cX6_rule 5 = .ok (.iload_n 1, 1) := by decide +kernel
theorem dX6_rule_6 : decode cX6_rule 6 = .ok (.bipush 14, 2) := by decide +kernel
theorem dX6_rule_8 : decode cX6_rule 8 = .ok (.if_icmp .lt 7, 3) := by decide +kernel
theorem dX6_rule_11 : decode cX6_rule 11 = .ok (.iconst 1, 1) := by decide +kernel
theorem dX6_rule_12 : decode cX6_rule 12 = .ok (.goto 4, 3) := by decide +kernel
theorem dX6_rule_15 : decode cX6_rule 15 = .ok (.iconst 0, 1) := by decide +kernel
theorem dX6_rule_16 : decode cX6_rule 16 = .ok (.invokevirtual 46, 3) := by decide +kernel
theorem dX6_rule_19 : decode cX6_rule 19 = .ok (.ifCond .eq 5, 3) := by decide +kernel
theorem dX6_rule_22 : decode cX6_rule 22 = .ok (.iconst 0, 1) := by decide +kernel
theorem dX6_rule_23 : decode cX6_rule 23 = .ok (.ireturn, 1) := by decide +kernel
theorem dX6_rule_24 : decode cX6_rule 24 = .ok (.iconst 0, 1) := by decide +kernel
theorem dX6_rule_25 : decode cX6_rule 25 = .ok (.istore_n 2, 1) := by decide +kernel
theorem dX6_rule_26 : decode cX6_rule 26 = .ok (.iconst 0, 1) := by decide +kernel
theorem dX6_rule_27 : decode cX6_rule 27 = .ok (.istore_n 3, 1) := by decide +kernel
theorem dX6_rule_28 : decode cX6_rule 28 = .ok (.iload_n 3, 1) := by decide +kernel
theorem dX6_rule_29 : decode cX6_rule 29 = .ok (.aload_n 0, 1) := by decide +kernel
theorem dX6_rule_30 : decode cX6_rule 30 = .ok (.getfield 109, 3) := by decide +kernel
theorem dX6_rule_33 : decode cX6_rule 33 = .ok (.if_icmp .ge 32, 3) := by decide +kernel
theorem dX6_rule_36 : decode cX6_rule 36 = .ok (.iload_n 2, 1) := by decide +kernel
theorem dX6_rule_37 : decode cX6_rule 37 = .ok (.aload_n 0, 1) := by decide +kernel
theorem dX6_rule_38 : decode cX6_rule 38 = .ok (.getfield 20, 3) := by decide +kernel
theorem dX6_rule_41 : decode cX6_rule 41 = .ok (.bipush 7, 2) := by decide +kernel
theorem dX6_rule_43 : decode cX6_rule 43 = .ok (.iload_n 3, 1) := by decide +kernel
theorem dX6_rule_44 : decode cX6_rule 44 = .ok (.imul, 1) := by decide +kernel
theorem dX6_rule_45 : decode cX6_rule 45 = .ok (.iconst 3, 1) := by decide +kernel
theorem dX6_rule_46 : decode cX6_rule 46 = .ok (.iadd, 1) := by decide +kernel
theorem dX6_rule_47 : decode cX6_rule 47 = .ok (.iaload, 1) := by decide +kernel
theorem dX6_rule_48 : decode cX6_rule 48 = .ok (.iload_n 1, 1) := by decide +kernel
theorem dX6_rule_49 : decode cX6_rule 49 = .ok (.if_icmp .ne 7, 3) := by decide +kernel
theorem dX6_rule_52 : decode cX6_rule 52 = .ok (.iconst 1, 1) := by decide +kernel
theorem dX6_rule_53 : decode cX6_rule 53 = .ok (.goto 4, 3) := by decide +kernel
theorem dX6_rule_56 : decode cX6_rule 56 = .ok (.iconst 0, 1) := by decide +kernel
theorem dX6_rule_57 : decode cX6_rule 57 = .ok (.iadd, 1) := by decide +kernel
theorem dX6_rule_58 : decode cX6_rule 58 = .ok (.istore_n 2, 1) := by decide +kernel
theorem dX6_rule_59 : decode cX6_rule 59 = .ok (.iinc 3 1, 3) := by decide +kernel
theorem dX6_rule_62 : decode cX6_rule 62 = .ok (.goto (-34), 3) := by decide +kernel
theorem dX6_rule_65 : decode cX6_rule 65 = .ok (.iload_n 2, 1) := by decide +kernel
theorem dX6_rule_66 : decode cX6_rule 66 = .ok (.ireturn, 1) := by decide +kernel
set_option maxRecDepth 20000 in
theorem ggX6_told_X6_refuses : GoodIn wsX6_told wsX6_refuses := goodIn_r _ [10, 11, 12, 13, 14, 15, 16, 17, 18, 19, 20, 21, 22, 23, 24, 25, 26, 27] (by decide +kernel) (by decide +kernel)
set_option maxRecDepth 20000 in
theorem gX6_told_X6_refuses : GoodIn wsX6_told (wsV RX6 46 RX6 yX6_refuses wsX6_refuses) := goodIn_app (goodIn_of _ (by decide +kernel)) ggX6_told_X6_refuses
theorem dX6_told_0 : decode cX6_told 0 = .ok (.aload_n 0, 1) := by decide +kernel
theorem dX6_told_1 : decode cX6_told 1 = .ok (.iload_n 1, 1) := by decide +kernel
theorem dX6_told_2 : decode cX6_told 2 = .ok (.ifCond .lt 8, 3) := by decide +kernel
theorem dX6_told_5 : decode cX6_told 5 = .ok (.iload_n 1, 1) := by decide +kernel
theorem dX6_told_6 : decode cX6_told 6 = .ok (.iconst 4, 1) := by decide +kernel
theorem dX6_told_7 : decode cX6_told 7 = .ok (.if_icmp .le 7, 3) := by decide +kernel
theorem dX6_told_10 : decode cX6_told 10 = .ok (.iconst 1, 1) := by decide +kernel
theorem dX6_told_11 : decode cX6_told 11 = .ok (.goto 4, 3) := by decide +kernel
theorem dX6_told_14 : decode cX6_told 14 = .ok (.iconst 0, 1) := by decide +kernel
theorem dX6_told_15 : decode cX6_told 15 = .ok (.invokevirtual 46, 3) := by decide +kernel
theorem dX6_told_18 : decode cX6_told 18 = .ok (.ifCond .eq 5, 3) := by decide +kernel
theorem dX6_told_21 : decode cX6_told 21 = .ok (.iconst 0, 1) := by decide +kernel
theorem dX6_told_22 : decode cX6_told 22 = .ok (.ireturn, 1) := by decide +kernel
theorem dX6_told_23 : decode cX6_told 23 = .ok (.iload_n 1, 1) := by decide +kernel
theorem dX6_told_24 : decode cX6_told 24 = .ok (.iconst 3, 1) := by decide +kernel
theorem dX6_told_25 : decode cX6_told 25 = .ok (.if_icmp .ge 31, 3) := by decide +kernel
theorem dX6_told_28 : decode cX6_told 28 = .ok (.iload_n 1, 1) := by decide +kernel
theorem dX6_told_29 : decode cX6_told 29 = .ok (.ifCond .ne 10, 3) := by decide +kernel
theorem dX6_told_32 : decode cX6_told 32 = .ok (.aload_n 0, 1) := by decide +kernel
theorem dX6_told_33 : decode cX6_told 33 = .ok (.getfield 109, 3) := by decide +kernel
theorem dX6_told_36 : decode cX6_told 36 = .ok (.goto 19, 3) := by decide +kernel
theorem dX6_told_39 : decode cX6_told 39 = .ok (.iload_n 1, 1) := by decide +kernel
theorem dX6_told_40 : decode cX6_told 40 = .ok (.iconst 1, 1) := by decide +kernel
theorem dX6_told_41 : decode cX6_told 41 = .ok (.if_icmp .ne 10, 3) := by decide +kernel
theorem dX6_told_44 : decode cX6_told 44 = .ok (.aload_n 0, 1) := by decide +kernel
theorem dX6_told_45 : decode cX6_told 45 = .ok (.getfield 49, 3) := by decide +kernel
theorem dX6_told_48 : decode cX6_told 48 = .ok (.goto 7, 3) := by decide +kernel
theorem dX6_told_51 : decode cX6_told 51 = .ok (.aload_n 0, 1) := by decide +kernel
theorem dX6_told_52 : decode cX6_told 52 = .ok (.getfield 39, 3) := by decide +kernel
theorem dX6_told_55 : decode cX6_told 55 = .ok (.ireturn, 1) := by decide +kernel
theorem dX6_told_56 : decode cX6_told 56 = .ok (.iconst 0, 1) := by decide +kernel
theorem dX6_told_57 : decode cX6_told 57 = .ok (.istore_n 2, 1) := by decide +kernel
theorem dX6_told_58 : decode cX6_told 58 = .ok (.iconst 0, 1) := by decide +kernel
theorem dX6_told_59 : decode cX6_told 59 = .ok (.istore_n 3, 1) := by decide +kernel
theorem dX6_told_60 : decode cX6_told 60 = .ok (.iload_n 3, 1) := by decide +kernel
theorem dX6_told_61 : decode cX6_told 61 = .ok (.aload_n 0, 1) := by decide +kernel
theorem dX6_told_62 : decode cX6_told 62 = .ok (.getfield 109, 3) := by decide +kernel
theorem dX6_told_65 : decode cX6_told 65 = .ok (.if_icmp .ge 77, 3) := by decide +kernel
theorem dX6_told_68 : decode cX6_told 68 = .ok (.aload_n 0, 1) := by decide +kernel
theorem dX6_told_69 : decode cX6_told 69 = .ok (.getfield 20, 3) := by decide +kernel
theorem dX6_told_72 : decode cX6_told 72 = .ok (.bipush 7, 2) := by decide +kernel
theorem dX6_told_74 : decode cX6_told 74 = .ok (.iload_n 3, 1) := by decide +kernel
theorem dX6_told_75 : decode cX6_told 75 = .ok (.imul, 1) := by decide +kernel
theorem dX6_told_76 : decode cX6_told 76 = .ok (.iconst 1, 1) := by decide +kernel
theorem dX6_told_77 : decode cX6_told 77 = .ok (.iadd, 1) := by decide +kernel
theorem dX6_told_78 : decode cX6_told 78 = .ok (.iaload, 1) := by decide +kernel
theorem dX6_told_79 : decode cX6_told 79 = .ok (.istore 4, 2) := by decide +kernel
theorem dX6_told_81 : decode cX6_told 81 = .ok (.iload_n 2, 1) := by decide +kernel
theorem dX6_told_82 : decode cX6_told 82 = .ok (.iload_n 1, 1) := by decide +kernel
theorem dX6_told_83 : decode cX6_told 83 = .ok (.iconst 3, 1) := by decide +kernel
theorem dX6_told_84 : decode cX6_told 84 = .ok (.if_icmp .ne 26, 3) := by decide +kernel
theorem dX6_told_87 : decode cX6_told 87 = .ok (.aload_n 0, 1) := by decide +kernel
theorem dX6_told_88 : decode cX6_told 88 = .ok (.getfield 20, 3) := by decide +kernel
theorem dX6_told_91 : decode cX6_told 91 = .ok (.bipush 7, 2) := by decide +kernel
theorem dX6_told_93 : decode cX6_told 93 = .ok (.iload_n 3, 1) := by decide +kernel
theorem dX6_told_94 : decode cX6_told 94 = .ok (.imul, 1) := by decide +kernel
theorem dX6_told_95 : decode cX6_told 95 = .ok (.iaload, 1) := by decide +kernel
theorem dX6_told_96 : decode cX6_told 96 = .ok (.sipush 300, 3) := by decide +kernel
theorem dX6_told_99 : decode cX6_told 99 = .ok (.if_icmp .lt 7, 3) := by decide +kernel
theorem dX6_told_102 : decode cX6_told 102 = .ok (.iconst 1, 1) := by decide +kernel
theorem dX6_told_103 : decode cX6_told 103 = .ok (.goto 31, 3) := by decide +kernel
theorem dX6_told_106 : decode cX6_told 106 = .ok (.iconst 0, 1) := by decide +kernel
theorem dX6_told_107 : decode cX6_told 107 = .ok (.goto 27, 3) := by decide +kernel
theorem dX6_told_110 : decode cX6_told 110 = .ok (.iload 4, 2) := by decide +kernel
theorem dX6_told_112 : decode cX6_told 112 = .ok (.bipush 20, 2) := by decide +kernel
theorem dX6_told_114 : decode cX6_told 114 = .ok (.aload_n 0, 1) := by decide +kernel
theorem dX6_told_115 : decode cX6_told 115 = .ok (.getfield 112, 3) := by decide +kernel
theorem dX6_told_118 : decode cX6_told 118 = .ok (.iadd, 1) := by decide +kernel
theorem dX6_told_119 : decode cX6_told 119 = .ok (.if_icmp .lt 14, 3) := by decide +kernel
theorem dX6_told_122 : decode cX6_told 122 = .ok (.iload 4, 2) := by decide +kernel
theorem dX6_told_124 : decode cX6_told 124 = .ok (.bipush 28, 2) := by decide +kernel
theorem dX6_told_126 : decode cX6_told 126 = .ok (.if_icmp .gt 7, 3) := by decide +kernel
theorem dX6_told_129 : decode cX6_told 129 = .ok (.iconst 1, 1) := by decide +kernel
theorem dX6_told_130 : decode cX6_told 130 = .ok (.goto 4, 3) := by decide +kernel
theorem dX6_told_133 : decode cX6_told 133 = .ok (.iconst 0, 1) := by decide +kernel
theorem dX6_told_134 : decode cX6_told 134 = .ok (.iadd, 1) := by decide +kernel
theorem dX6_told_135 : decode cX6_told 135 = .ok (.istore_n 2, 1) := by decide +kernel
theorem dX6_told_136 : decode cX6_told 136 = .ok (.iinc 3 1, 3) := by decide +kernel
theorem dX6_told_139 : decode cX6_told 139 = .ok (.goto (-79), 3) := by decide +kernel
theorem dX6_told_142 : decode cX6_told 142 = .ok (.iload_n 2, 1) := by decide +kernel
theorem dX6_told_143 : decode cX6_told 143 = .ok (.ireturn, 1) := by decide +kernel
