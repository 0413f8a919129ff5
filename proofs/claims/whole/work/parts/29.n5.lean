set_option maxRecDepth 20000 in
theorem ggX5_init_X4_init : GoodIn wsX5_init wsX4_init := goodIn_r _ [26, 27, 2, 3, 28, 29, 30, 78, 79] (by decide +kernel) (by decide +kernel)
set_option maxRecDepth 20000 in
theorem gX5_init_X4_init_n9 : GoodIn wsX5_init (wsX4_init) := ggX5_init_X4_init
set_option maxRecDepth 20000 in
theorem ggX5_init_X1_init : GoodIn wsX5_init wsX1_init := goodIn_r _ [32, 33, 2, 3, 28, 34, 35, 36, 37, 86, 87, 88, 89] (by decide +kernel) (by decide +kernel)
set_option maxRecDepth 20000 in
theorem gX5_init_X1_init_n18 : GoodIn wsX5_init (wsX1_init) := ggX5_init_X1_init
set_option maxRecDepth 20000 in
theorem ggX5_init_X0_init : GoodIn wsX5_init wsX0_init := goodIn_r _ [40, 41, 2, 3, 42, 43, 44, 90, 91, 92] (by decide +kernel) (by decide +kernel)
set_option maxRecDepth 20000 in
theorem gX5_init_X0_init : GoodIn wsX5_init (wsX0_init) := ggX5_init_X0_init
set_option maxRecDepth 20000 in
theorem ggX5_init_X3_init : GoodIn wsX5_init wsX3_init := goodIn_r _ [47, 48, 2, 3, 28, 49, 50, 51, 52, 53, 54, 55, 56, 57, 58, 59, 60, 61, 62, 63, 64, 65, 93, 94, 95, 96, 97, 98, 99, 100, 101, 102, 103, 104] (by decide +kernel) (by decide +kernel)
set_option maxRecDepth 20000 in
theorem gX5_init_X3_init : GoodIn wsX5_init (wsX3_init) := ggX5_init_X3_init
set_option maxRecDepth 20000 in
theorem ggX5_init_X2_init : GoodIn wsX5_init wsX2_init := goodIn_r _ [68, 69, 2, 3, 70, 71, 72, 73, 74, 75, 76, 77, 105, 106, 107, 108, 109, 110, 111, 112] (by decide +kernel) (by decide +kernel)
set_option maxRecDepth 20000 in
theorem gX5_init_X2_init : GoodIn wsX5_init (wsX2_init) := ggX5_init_X2_init
theorem dX5_init_0 : decode cX5_init 0 = .ok (.aload_n 0, 1) := by decide +kernel
theorem dX5_init_1 : decode cX5_init 1 = .ok (.invokespecial 1, 3) := by decide +kernel
theorem dX5_init_4 : decode cX5_init 4 = .ok (.aload_n 0, 1) := by decide +kernel
theorem dX5_init_5 : decode cX5_init 5 = .ok (.new 7, 3) := by decide +kernel
theorem dX5_init_8 : decode cX5_init 8 = .ok (.dup, 1) := by decide +kernel
theorem dX5_init_9 : decode cX5_init 9 = .ok (.invokespecial 9, 3) := by decide +kernel
theorem dX5_init_12 : decode cX5_init 12 = .ok (.putfield 10, 3) := by decide +kernel
theorem dX5_init_15 : decode cX5_init 15 = .ok (.aload_n 0, 1) := by decide +kernel
theorem dX5_init_16 : decode cX5_init 16 = .ok (.new 16, 3) := by decide +kernel
theorem dX5_init_19 : decode cX5_init 19 = .ok (.dup, 1) := by decide +kernel
theorem dX5_init_20 : decode cX5_init 20 = .ok (.invokespecial 18, 3) := by decide +kernel
theorem dX5_init_23 : decode cX5_init 23 = .ok (.putfield 19, 3) := by decide +kernel
theorem dX5_init_26 : decode cX5_init 26 = .ok (.aload_n 0, 1) := by decide +kernel
theorem dX5_init_27 : decode cX5_init 27 = .ok (.new 23, 3) := by decide +kernel
theorem dX5_init_30 : decode cX5_init 30 = .ok (.dup, 1) := by decide +kernel
theorem dX5_init_31 : decode cX5_init 31 = .ok (.iload_n 1, 1) := by decide +kernel
theorem dX5_init_32 : decode cX5_init 32 = .ok (.ifCond .eq 7, 3) := by decide +kernel
theorem dX5_init_35 : decode cX5_init 35 = .ok (.iconst 1, 1) := by decide +kernel
theorem dX5_init_36 : decode cX5_init 36 = .ok (.goto 4, 3) := by decide +kernel
theorem dX5_init_39 : decode cX5_init 39 = .ok (.iconst 0, 1) := by decide +kernel
theorem dX5_init_40 : decode cX5_init 40 = .ok (.invokespecial 25, 3) := by decide +kernel
theorem dX5_init_43 : decode cX5_init 43 = .ok (.putfield 28, 3) := by decide +kernel
theorem dX5_init_46 : decode cX5_init 46 = .ok (.aload_n 0, 1) := by decide +kernel
theorem dX5_init_47 : decode cX5_init 47 = .ok (.new 32, 3) := by decide +kernel
theorem dX5_init_50 : decode cX5_init 50 = .ok (.dup, 1) := by decide +kernel
theorem dX5_init_51 : decode cX5_init 51 = .ok (.invokespecial 34, 3) := by decide +kernel
theorem dX5_init_54 : decode cX5_init 54 = .ok (.putfield 35, 3) := by decide +kernel
theorem dX5_init_57 : decode cX5_init 57 = .ok (.aload_n 0, 1) := by decide +kernel
theorem dX5_init_58 : decode cX5_init 58 = .ok (.new 32, 3) := by decide +kernel
theorem dX5_init_61 : decode cX5_init 61 = .ok (.dup, 1) := by decide +kernel
theorem dX5_init_62 : decode cX5_init 62 = .ok (.invokespecial 34, 3) := by decide +kernel
theorem dX5_init_65 : decode cX5_init 65 = .ok (.putfield 39, 3) := by decide +kernel
theorem dX5_init_68 : decode cX5_init 68 = .ok (.aload_n 0, 1) := by decide +kernel
theorem dX5_init_69 : decode cX5_init 69 = .ok (.new 42, 3) := by decide +kernel
theorem dX5_init_72 : decode cX5_init 72 = .ok (.dup, 1) := by decide +kernel
theorem dX5_init_73 : decode cX5_init 73 = .ok (.aload_n 0, 1) := by decide +kernel
theorem dX5_init_74 : decode cX5_init 74 = .ok (.getfield 10, 3) := by decide +kernel
theorem dX5_init_77 : decode cX5_init 77 = .ok (.aload_n 0, 1) := by decide +kernel
theorem dX5_init_78 : decode cX5_init 78 = .ok (.getfield 39, 3) := by decide +kernel
theorem dX5_init_81 : decode cX5_init 81 = .ok (.invokespecial 44, 3) := by decide +kernel
theorem dX5_init_84 : decode cX5_init 84 = .ok (.putfield 47, 3) := by decide +kernel
theorem dX5_init_87 : decode cX5_init 87 = .ok (.return_, 1) := by decide +kernel
set_option maxRecDepth 20000 in
theorem ggX5_literal_X4_isNonLiteral : GoodIn wsX5_literal wsX4_isNonLiteral := goodIn_r _ [10] (by decide +kernel) (by decide +kernel)
set_option maxRecDepth 20000 in
theorem gX5_literal_X4_isNonLiteral : GoodIn wsX5_literal (wsV RX5 51 RX4 yX4_isNonLiteral wsX4_isNonLiteral) := goodIn_app (goodIn_of _ (by decide +kernel)) ggX5_literal_X4_isNonLiteral
set_option maxRecDepth 20000 in
theorem ggX5_literal_X4_literals : GoodIn wsX5_literal wsX4_literals := goodIn_r _ [14, 15, 27, 28] (by decide +kernel) (by decide +kernel)
set_option maxRecDepth 20000 in
theorem gX5_literal_X4_literals : GoodIn wsX5_literal (wsV RX5 62 RX4 yX4_literals wsX4_literals) := goodIn_app (goodIn_of _ (by decide +kernel)) ggX5_literal_X4_literals
set_option maxRecDepth 20000 in
theorem ggX5_literal_X4_addLiteral : GoodIn wsX5_literal wsX4_addLiteral := goodIn_r _ [19, 20, 15, 27, 28] (by decide +kernel) (by decide +kernel)
set_option maxRecDepth 20000 in
theorem gX5_literal_X4_addLiteral : GoodIn wsX5_literal (wsV RX5 71 RX4 yX4_addLiteral wsX4_addLiteral) := goodIn_app (goodIn_of _ (by decide +kernel)) ggX5_literal_X4_addLiteral
theorem dX5_literal_0 : decode cX5_literal 0 = .ok (.aload_n 0, 1) := by decide +kernel
theorem dX5_literal_1 : decode cX5_literal 1 = .ok (.getfield 10, 3) := by decide +kernel
theorem dX5_literal_4 : decode cX5_literal 4 = .ok (.iload_n 1, 1) := by decide +kernel
theorem dX5_literal_5 : decode cX5_literal 5 = .ok (.invokevirtual 51, 3) := by decide +kernel
theorem dX5_literal_8 : decode cX5_literal 8 = .ok (.ifCond .ne 13, 3) := by decide +kernel
theorem dX5_literal_11 : decode cX5_literal 11 = .ok (.new 55, 3) := by decide +kernel
theorem dX5_literal_14 : decode cX5_literal 14 = .ok (.dup, 1) := by decide +kernel
theorem dX5_literal_15 : decode cX5_literal 15 = .ok (.ldc 57, 2) := by decide +kernel
theorem dX5_literal_17 : decode cX5_literal 17 = .ok (.invokespecial 59, 3) := by decide +kernel
theorem dX5_literal_20 : decode cX5_literal 20 = .ok (.athrow, 1) := by decide +kernel
theorem dX5_literal_21 : decode cX5_literal 21 = .ok (.aload_n 0, 1) := by decide +kernel
theorem dX5_literal_22 : decode cX5_literal 22 = .ok (.getfield 10, 3) := by decide +kernel
theorem dX5_literal_25 : decode cX5_literal 25 = .ok (.invokevirtual 62, 3) := by decide +kernel
theorem dX5_literal_28 : decode cX5_literal 28 = .ok (.bipush 40, 2) := by decide +kernel
theorem dX5_literal_30 : decode cX5_literal 30 = .ok (.if_icmp .lt 13, 3) := by decide +kernel
theorem dX5_literal_33 : decode cX5_literal 33 = .ok (.new 66, 3) := by decide +kernel
theorem dX5_literal_36 : decode cX5_literal 36 = .ok (.dup, 1) := by decide +kernel
theorem dX5_literal_37 : decode cX5_literal 37 = .ok (.ldc 68, 2) := by decide +kernel
theorem dX5_literal_39 : decode cX5_literal 39 = .ok (.invokespecial 70, 3) := by decide +kernel
theorem dX5_literal_42 : decode cX5_literal 42 = .ok (.athrow, 1) := by decide +kernel
theorem dX5_literal_43 : decode cX5_literal 43 = .ok (.aload_n 0, 1) := by decide +kernel
theorem dX5_literal_44 : decode cX5_literal 44 = .ok (.getfield 10, 3) := by decide +kernel
theorem dX5_literal_47 : decode cX5_literal 47 = .ok (.iload_n 1, 1) := by decide +kernel
theorem dX5_literal_48 : decode cX5_literal 48 = .ok (.invokevirtual 71, 3) := by decide +kernel
theorem dX5_literal_51 : decode cX5_literal 51 = .ok (.ireturn, 1) := by decide +kernel
set_option maxRecDepth 20000 in
theorem ggX5_triple_X5_mayBeFact : GoodIn wsX5_triple wsX5_mayBeFact := goodIn_r _ [10, 11, 12, 13, 14, 15, 16, 17, 18, 19, 20, 21, 22, 23, 24, 25, 26, 44, 45, 46, 47, 48, 49, 50, 51] (by decide +kernel) (by decide +kernel)
set_option maxRecDepth 20000 in
theorem gX5_triple_X5_mayBeFact : GoodIn wsX5_triple (wsV RX5 75 RX5 yX5_mayBeFact wsX5_mayBeFact) := goodIn_app (goodIn_of _ (by decide +kernel)) ggX5_triple_X5_mayBeFact
set_option maxRecDepth 20000 in
theorem ggX5_triple_X1_placeOf : GoodIn wsX5_triple wsX1_placeOf := goodIn_r _ [31, 32, 33, 34, 35, 52, 53, 54, 55] (by decide +kernel) (by decide +kernel)
set_option maxRecDepth 20000 in
theorem gX5_triple_X1_placeOf : GoodIn wsX5_triple (wsV RX5 81 RX1 yX1_placeOf wsX1_placeOf) := goodIn_app (goodIn_of _ (by decide +kernel)) ggX5_triple_X1_placeOf
set_option maxRecDepth 20000 in
theorem ggX5_triple_X1_size : GoodIn wsX5_triple wsX1_size := goodIn_r _ [39, 32, 52, 53, 54, 55] (by decide +kernel) (by decide +kernel)
set_option maxRecDepth 20000 in
theorem gX5_triple_X1_size : GoodIn wsX5_triple (wsV RX5 85 RX1 yX1_size wsX1_size) := goodIn_app (goodIn_of _ (by decide +kernel)) ggX5_triple_X1_size
set_option maxRecDepth 20000 in
theorem ggX5_triple_X1_append : GoodIn wsX5_triple wsX1_append := goodIn_r _ [43, 33, 32, 34, 35, 52, 53, 54, 55] (by decide +kernel) (by decide +kernel)
set_option maxRecDepth 20000 in
theorem gX5_triple_X1_append : GoodIn wsX5_triple (wsV RX5 90 RX1 yX1_append wsX1_append) := goodIn_app (goodIn_of _ (by decide +kernel)) ggX5_triple_X1_append
theorem dX5_triple_0 : decode cX5_triple 0 = .ok (.aload_n 0, 1) := by decide +kernel
theorem dX5_triple_1 : decode cX5_triple 1 = .ok (.iload_n 1, 1) := by decide +kernel
theorem dX5_triple_2 : decode cX5_triple 2 = .ok (.iload_n 2, 1) := by decide +kernel
theorem dX5_triple_3 : decode cX5_triple 3 = .ok (.iload_n 3, 1) := by decide +kernel
theorem dX5_triple_4 : decode cX5_triple 4 = .ok (.invokevirtual 75, 3) := by decide +kernel
theorem dX5_triple_7 : decode cX5_triple 7 = .ok (.ifCond .ne 13, 3) := by decide +kernel
theorem dX5_triple_10 : decode cX5_triple 10 = .ok (.new 55, 3) := by decide +kernel
theorem dX5_triple_13 : decode cX5_triple 13 = .ok (.dup, 1) := by decide +kernel
theorem dX5_triple_14 : decode cX5_triple 14 = .ok (.ldc 79, 2) := by decide +kernel
theorem dX5_triple_16 : decode cX5_triple 16 = .ok (.invokespecial 59, 3) := by decide +kernel
theorem dX5_triple_19 : decode cX5_triple 19 = .ok (.athrow, 1) := by decide +kernel
theorem dX5_triple_20 : decode cX5_triple 20 = .ok (.aload_n 0, 1) := by decide +kernel
theorem dX5_triple_21 : decode cX5_triple 21 = .ok (.getfield 19, 3) := by decide +kernel
theorem dX5_triple_24 : decode cX5_triple 24 = .ok (.iload_n 1, 1) := by decide +kernel
theorem dX5_triple_25 : decode cX5_triple 25 = .ok (.iload_n 2, 1) := by decide +kernel
theorem dX5_triple_26 : decode cX5_triple 26 = .ok (.iload_n 3, 1) := by decide +kernel
theorem dX5_triple_27 : decode cX5_triple 27 = .ok (.invokevirtual 81, 3) := by decide +kernel
theorem dX5_triple_30 : decode cX5_triple 30 = .ok (.iconst (-1), 1) := by decide +kernel
theorem dX5_triple_31 : decode cX5_triple 31 = .ok (.if_icmp .ne 35, 3) := by decide +kernel
theorem dX5_triple_34 : decode cX5_triple 34 = .ok (.aload_n 0, 1) := by decide +kernel
theorem dX5_triple_35 : decode cX5_triple 35 = .ok (.getfield 19, 3) := by decide +kernel
theorem dX5_triple_38 : decode cX5_triple 38 = .ok (.invokevirtual 85, 3) := by decide +kernel
theorem dX5_triple_41 : decode cX5_triple 41 = .ok (.bipush 80, 2) := by decide +kernel
theorem dX5_triple_43 : decode cX5_triple 43 = .ok (.if_icmp .lt 13, 3) := by decide +kernel
theorem dX5_triple_46 : decode cX5_triple 46 = .ok (.new 66, 3) := by decide +kernel
theorem dX5_triple_49 : decode cX5_triple 49 = .ok (.dup, 1) := by decide +kernel
theorem dX5_triple_50 : decode cX5_triple 50 = .ok (.ldc 88, 2) := by decide +kernel
theorem dX5_triple_52 : decode cX5_triple 52 = .ok (.invokespecial 70, 3) := by decide +kernel
theorem dX5_triple_55 : decode cX5_triple 55 = .ok (.athrow, 1) := by decide +kernel
theorem dX5_triple_56 : decode cX5_triple 56 = .ok (.aload_n 0, 1) := by decide +kernel
theorem dX5_triple_57 : decode cX5_triple 57 = .ok (.getfield 19, 3) := by decide +kernel
theorem dX5_triple_60 : decode cX5_triple 60 = .ok (.iload_n 1, 1) := by decide +kernel
theorem dX5_triple_61 : decode cX5_triple 61 = .ok (.iload_n 2, 1) := by decide +kernel
theorem dX5_triple_62 : decode cX5_triple 62 = .ok (.iload_n 3, 1) := by decide +kernel
theorem dX5_triple_63 : decode cX5_triple 63 = .ok (.invokevirtual 90, 3) := by decide +kernel
theorem dX5_triple_66 : decode cX5_triple 66 = .ok (.aload_n 0, 1) := by decide +kernel
theorem dX5_triple_67 : decode cX5_triple 67 = .ok (.getfield 19, 3) := by decide +kernel
theorem dX5_triple_70 : decode cX5_triple 70 = .ok (.invokevirtual 85, 3) := by decide +kernel
theorem dX5_triple_73 : decode cX5_triple 73 = .ok (.ireturn, 1) := by decide +kernel
set_option maxRecDepth 20000 in
theorem ggX5_remove_X5_mayBeFact : GoodIn wsX5_remove wsX5_mayBeFact := goodIn_r _ [9, 10, 11, 12, 13, 14, 15, 16, 17, 18, 19, 20, 21, 22, 23, 24, 25, 69, 70, 71, 72, 73, 74, 75, 76] (by decide +kernel) (by decide +kernel)
set_option maxRecDepth 20000 in
theorem gX5_remove_X5_mayBeFact : GoodIn wsX5_remove (wsV RX5 75 RX5 yX5_mayBeFact wsX5_mayBeFact) := goodIn_app (goodIn_of _ (by decide +kernel)) ggX5_remove_X5_mayBeFact
set_option maxRecDepth 20000 in
theorem ggX5_remove_X1_placeOf : GoodIn wsX5_remove wsX1_placeOf := goodIn_r _ [30, 31, 32, 33, 34, 77, 78, 79, 80] (by decide +kernel) (by decide +kernel)
set_option maxRecDepth 20000 in
theorem gX5_remove_X1_placeOf : GoodIn wsX5_remove (wsV RX5 81 RX1 yX1_placeOf wsX1_placeOf) := goodIn_app (goodIn_of _ (by decide +kernel)) ggX5_remove_X1_placeOf
set_option maxRecDepth 20000 in
theorem ggX5_remove_X1_dropAt : GoodIn wsX5_remove wsX1_dropAt := goodIn_r _ [38, 31, 32, 33, 34, 77, 78, 79, 80] (by decide +kernel) (by decide +kernel)
set_option maxRecDepth 20000 in
theorem gX5_remove_X1_dropAt : GoodIn wsX5_remove (wsV RX5 94 RX1 yX1_dropAt wsX1_dropAt) := goodIn_app (goodIn_of _ (by decide +kernel)) ggX5_remove_X1_dropAt
set_option maxRecDepth 20000 in
theorem ggX5_remove_X0_contains : GoodIn wsX5_remove wsX0_contains := goodIn_r _ [43, 44, 45, 46, 42, 47, 48, 49, 50, 51, 52, 53, 54, 55, 56, 57, 58, 59, 60, 61, 62, 63, 64, 65, 66, 67, 68, 81, 82, 83] (by decide +kernel) (by decide +kernel)
set_option maxRecDepth 20000 in
theorem gX5_remove_X0_contains : GoodIn wsX5_remove (wsV RX5 98 RX0 yX0_contains wsX0_contains) := goodIn_app (goodIn_of _ (by decide +kernel)) ggX5_remove_X0_contains
theorem dX5_remove_0 : decode cX5_remove 0 = .ok (.aload_n 0, 1) := by decide +kernel
theorem dX5_remove_1 : decode cX5_remove 1 = .ok (.iload_n 1, 1) := by decide +kernel
theorem dX5_remove_2 : decode cX5_remove 2 = .ok (.iload_n 2, 1) := by decide +kernel
theorem dX5_remove_3 : decode cX5_remove 3 = .ok (.iload_n 3, 1) := by decide +kernel
theorem dX5_remove_4 : decode cX5_remove 4 = .ok (.invokevirtual 75, 3) := by decide +kernel
theorem dX5_remove_7 : decode cX5_remove 7 = .ok (.ifCond .ne 13, 3) := by decide +kernel
theorem dX5_remove_10 : decode cX5_remove 10 = .ok (.new 55, 3) := by decide +kernel
theorem dX5_remove_13 : decode cX5_remove 13 = .ok (.dup, 1) := by decide +kernel
theorem dX5_remove_14 : decode cX5_remove 14 = .ok (.ldc 79, 2) := by decide +kernel
theorem dX5_remove_16 : decode cX5_remove 16 = .ok (.invokespecial 59, 3) := by decide +kernel
theorem dX5_remove_19 : decode cX5_remove 19 = .ok (.athrow, 1) := by decide +kernel
theorem dX5_remove_20 : decode cX5_remove 20 = .ok (.aload_n 0, 1) := by decide +kernel
theorem dX5_remove_21 : decode cX5_remove 21 = .ok (.getfield 19, 3) := by decide +kernel
theorem dX5_remove_24 : decode cX5_remove 24 = .ok (.iload_n 1, 1) := by decide +kernel
theorem dX5_remove_25 : decode cX5_remove 25 = .ok (.iload_n 2, 1) := by decide +kernel
theorem dX5_remove_26 : decode cX5_remove 26 = .ok (.iload_n 3, 1) := by decide +kernel
theorem dX5_remove_27 : decode cX5_remove 27 = .ok (.invokevirtual 81, 3) := by decide +kernel
theorem dX5_remove_30 : decode cX5_remove 30 = .ok (.istore 4, 2) := by decide +kernel
theorem dX5_remove_32 : decode cX5_remove 32 = .ok (.iload 4, 2) := by decide +kernel
theorem dX5_remove_34 : decode cX5_remove 34 = .ok (.iconst (-1), 1) := by decide +kernel
theorem dX5_remove_35 : decode cX5_remove 35 = .ok (.if_icmp .eq 14, 3) := by decide +kernel
theorem dX5_remove_38 : decode cX5_remove 38 = .ok (.aload_n 0, 1) := by decide +kernel
theorem dX5_remove_39 : decode cX5_remove 39 = .ok (.getfield 19, 3) := by decide +kernel
theorem dX5_remove_42 : decode cX5_remove 42 = .ok (.iload 4, 2) := by decide +kernel
theorem dX5_remove_44 : decode cX5_remove 44 = .ok (.invokevirtual 94, 3) := by decide +kernel
theorem dX5_remove_47 : decode cX5_remove 47 = .ok (.iconst 1, 1) := by decide +kernel
theorem dX5_remove_48 : decode cX5_remove 48 = .ok (.ireturn, 1) := by decide +kernel
theorem dX5_remove_49 : decode cX5_remove 49 = .ok (.aload_n 0, 1) := by decide +kernel
theorem dX5_remove_50 : decode cX5_remove 50 = .ok (.getfield 28, 3) := by decide +kernel
theorem dX5_remove_53 : decode cX5_remove 53 = .ok (.iload_n 1, 1) := by decide +kernel
theorem dX5_remove_54 : decode cX5_remove 54 = .ok (.iload_n 2, 1) := by decide +kernel
theorem dX5_remove_55 : decode cX5_remove 55 = .ok (.iload_n 3, 1) := by decide +kernel
theorem dX5_remove_56 : decode cX5_remove 56 = .ok (.invokevirtual 98, 3) := by decide +kernel
theorem dX5_remove_59 : decode cX5_remove 59 = .ok (.ifCond .eq 7, 3) := by decide +kernel
theorem dX5_remove_62 : decode cX5_remove 62 = .ok (.iconst 2, 1) := by decide +kernel
theorem dX5_remove_63 : decode cX5_remove 63 = .ok (.goto 4, 3) := by decide +kernel
theorem dX5_remove_66 : decode cX5_remove 66 = .ok (.iconst 0, 1) := by decide +kernel
theorem dX5_remove_67 : decode cX5_remove 67 = .ok (.ireturn, 1) := by decide +kernel
set_option maxRecDepth 20000 in
theorem ggX5_axioms_X0_ask : GoodIn wsX5_axioms wsX0_ask := goodIn_r _ [6, 7, 14, 15, 16] (by decide +kernel) (by decide +kernel)
set_option maxRecDepth 20000 in
theorem gX5_axioms_X0_ask : GoodIn wsX5_axioms (wsV RX5 101 RX0 yX0_ask wsX0_ask) := goodIn_app (goodIn_of _ (by decide +kernel)) ggX5_axioms_X0_ask
theorem dX5_axioms_0 : decode cX5_axioms 0 = .ok (.aload_n 0, 1) := by decide +kernel
theorem dX5_axioms_1 : decode cX5_axioms 1 = .ok (.getfield 28, 3) := by decide +kernel
theorem dX5_axioms_4 : decode cX5_axioms 4 = .ok (.iload_n 1, 1) := by decide +kernel
theorem dX5_axioms_5 : decode cX5_axioms 5 = .ok (.invokevirtual 101, 3) := by decide +kernel
theorem dX5_axioms_8 : decode cX5_axioms 8 = .ok (.return_, 1) := by decide +kernel
set_option maxRecDepth 20000 in
theorem ggX5_count_X0_setCount : GoodIn wsX5_count wsX0_setCount := goodIn_r _ [8, 9, 16, 17, 18] (by decide +kernel) (by decide +kernel)
set_option maxRecDepth 20000 in
theorem gX5_count_X0_setCount : GoodIn wsX5_count (wsV RX5 106 RX0 yX0_setCount wsX0_setCount) := goodIn_app (goodIn_of _ (by decide +kernel)) ggX5_count_X0_setCount
theorem dX5_count_0 : decode cX5_count 0 = .ok (.iload_n 1, 1) := by decide +kernel
theorem dX5_count_1 : decode cX5_count 1 = .ok (.ifCond .lt 9, 3) := by decide +kernel
theorem dX5_count_4 : decode cX5_count 4 = .ok (.iload_n 1, 1) := by decide +kernel
theorem dX5_count_5 : decode cX5_count 5 = .ok (.bipush 9, 2) := by decide +kernel
theorem dX5_count_7 : decode cX5_count 7 = .ok (.if_icmp .le 13, 3) := by decide +kernel
theorem dX5_count_10 : decode cX5_count 10 = .ok (.new 55, 3) := by decide +kernel
theorem dX5_count_13 : decode cX5_count 13 = .ok (.dup, 1) := by decide +kernel
theorem dX5_count_14 : decode cX5_count 14 = .ok (.ldc 104, 2) := by decide +kernel
theorem dX5_count_16 : decode cX5_count 16 = .ok (.invokespecial 59, 3) := by decide +kernel
theorem dX5_count_19 : decode cX5_count 19 = .ok (.athrow, 1) := by decide +kernel
theorem dX5_count_20 : decode cX5_count 20 = .ok (.aload_n 0, 1) := by decide +kernel
theorem dX5_count_21 : decode cX5_count 21 = .ok (.getfield 28, 3) := by decide +kernel
theorem dX5_count_24 : decode cX5_count 24 = .ok (.iload_n 1, 1) := by decide +kernel
theorem dX5_count_25 : decode cX5_count 25 = .ok (.invokevirtual 106, 3) := by decide +kernel
theorem dX5_count_28 : decode cX5_count 28 = .ok (.return_, 1) := by decide +kernel
set_option maxRecDepth 20000 in
theorem ggX5_run_X0_memberships : GoodIn wsX5_run wsX0_memberships := goodIn_r _ [12, 13, 14, 15, 149, 150, 151] (by decide +kernel) (by decide +kernel)
set_option maxRecDepth 20000 in
theorem gX5_run_X0_memberships : GoodIn wsX5_run (wsV RX5 109 RX0 yX0_memberships wsX0_memberships) := goodIn_app (goodIn_of _ (by decide +kernel)) ggX5_run_X0_memberships
set_option maxRecDepth 20000 in
theorem ggX5_run_X3_restart : GoodIn wsX5_run wsX3_restart := goodIn_r _ [20, 21, 22, 23, 24, 25, 26, 27, 28, 152, 153, 154, 155, 156, 157, 158, 159, 160, 161, 162, 163] (by decide +kernel) (by decide +kernel)
set_option maxRecDepth 20000 in
theorem gX5_run_X3_restart : GoodIn wsX5_run (wsV RX5 112 RX3 yX3_restart wsX3_restart) := goodIn_app (goodIn_of _ (by decide +kernel)) ggX5_run_X3_restart
set_option maxRecDepth 20000 in
theorem ggX5_run_X0_appendTo : GoodIn wsX5_run wsX0_appendTo := goodIn_r _ [32, 33, 34, 35, 11, 36, 13, 37, 9, 10, 12, 14, 15, 38, 39, 40, 41, 42, 43, 44, 45, 46, 47, 48, 49, 50, 51, 52, 53, 54, 19, 55, 21, 22, 23, 56, 57, 58, 59, 60, 61, 62, 63, 64, 65, 66, 67, 149, 150, 151, 152, 153, 154, 155, 156, 157, 158, 159, 160, 161, 162, 163] (by decide +kernel) (by decide +kernel)
set_option maxRecDepth 20000 in
theorem gX5_run_X0_appendTo : GoodIn wsX5_run (wsV RX5 115 RX0 yX0_appendTo wsX0_appendTo) := goodIn_app (goodIn_of _ (by decide +kernel)) ggX5_run_X0_appendTo
set_option maxRecDepth 20000 in
theorem ggX5_run_X1_appendTo : GoodIn wsX5_run wsX1_appendTo := goodIn_r _ [72, 73, 74, 75, 76, 77, 53, 54, 19, 55, 21, 22, 23, 56, 57, 58, 59, 60, 61, 62, 63, 64, 65, 66, 67, 164, 165, 166, 167, 152, 153, 154, 155, 156, 157, 158, 159, 160, 161, 162, 163] (by decide +kernel) (by decide +kernel)
set_option maxRecDepth 20000 in
theorem gX5_run_X1_appendTo : GoodIn wsX5_run (wsV RX5 119 RX1 yX1_appendTo wsX1_appendTo) := goodIn_app (goodIn_of _ (by decide +kernel)) ggX5_run_X1_appendTo
set_option maxRecDepth 20000 in
theorem ggX5_run_X2_close : GoodIn wsX5_run wsX2_close := goodIn_r _ [82, 83, 84, 85, 86, 87, 88, 89, 90, 19, 91, 22, 92, 93, 94, 95, 23, 96, 97, 98, 81, 99, 100, 101, 102, 103, 104, 105, 106, 107, 108, 109, 110, 111, 112, 113, 114, 115, 116, 117, 118, 119, 120, 121, 122, 123, 124, 125, 126, 127, 128, 129, 130, 53, 54, 55, 21, 56, 57, 58, 59, 60, 61, 62, 63, 64, 65, 66, 67, 131, 132, 133, 134, 135, 136, 137, 138, 139, 140, 141, 142, 168, 169, 170, 171, 172, 173, 174, 175, 152, 153, 154, 155, 156, 157, 158, 159, 160, 161, 162, 163, 176, 177] (by decide +kernel) (by decide +kernel)
set_option maxRecDepth 20000 in
theorem gX5_run_X2_close : GoodIn wsX5_run (wsV RX5 120 RX2 yX2_close wsX2_close) := goodIn_app (goodIn_of _ (by decide +kernel)) ggX5_run_X2_close
theorem dX5_run_0 : decode cX5_run 0 = .ok (.aload_n 0, 1) := by decide +kernel
theorem dX5_run_1 : decode cX5_run 1 = .ok (.getfield 39, 3) := by decide +kernel
theorem dX5_run_4 : decode cX5_run 4 = .ok (.aload_n 0, 1) := by decide +kernel
theorem dX5_run_5 : decode cX5_run 5 = .ok (.getfield 28, 3) := by decide +kernel
theorem dX5_run_8 : decode cX5_run 8 = .ok (.invokevirtual 109, 3) := by decide +kernel
theorem dX5_run_11 : decode cX5_run 11 = .ok (.invokevirtual 112, 3) := by decide +kernel
theorem dX5_run_14 : decode cX5_run 14 = .ok (.aload_n 0, 1) := by decide +kernel
theorem dX5_run_15 : decode cX5_run 15 = .ok (.getfield 28, 3) := by decide +kernel
theorem dX5_run_18 : decode cX5_run 18 = .ok (.aload_n 0, 1) := by decide +kernel
theorem dX5_run_19 : decode cX5_run 19 = .ok (.getfield 39, 3) := by decide +kernel
theorem dX5_run_22 : decode cX5_run 22 = .ok (.invokevirtual 115, 3) := by decide +kernel
theorem dX5_run_25 : decode cX5_run 25 = .ok (.aload_n 0, 1) := by decide +kernel
theorem dX5_run_26 : decode cX5_run 26 = .ok (.getfield 19, 3) := by decide +kernel
theorem dX5_run_29 : decode cX5_run 29 = .ok (.aload_n 0, 1) := by decide +kernel
theorem dX5_run_30 : decode cX5_run 30 = .ok (.getfield 39, 3) := by decide +kernel
theorem dX5_run_33 : decode cX5_run 33 = .ok (.invokevirtual 119, 3) := by decide +kernel
theorem dX5_run_36 : decode cX5_run 36 = .ok (.aload_n 0, 1) := by decide +kernel
theorem dX5_run_37 : decode cX5_run 37 = .ok (.getfield 47, 3) := by decide +kernel
theorem dX5_run_40 : decode cX5_run 40 = .ok (.aload_n 0, 1) := by decide +kernel
theorem dX5_run_41 : decode cX5_run 41 = .ok (.getfield 39, 3) := by decide +kernel
theorem dX5_run_44 : decode cX5_run 44 = .ok (.invokevirtual 120, 3) := by decide +kernel
theorem dX5_run_47 : decode cX5_run 47 = .ok (.istore_n 1, 1) := by decide +kernel
theorem dX5_run_48 : decode cX5_run 48 = .ok (.iload_n 1, 1) := by decide +kernel
theorem dX5_run_49 : decode cX5_run 49 = .ok (.iconst (-1), 1) := by decide +kernel
theorem dX5_run_50 : decode cX5_run 50 = .ok (.if_icmp .ne 13, 3) := by decide +kernel
theorem dX5_run_53 : decode cX5_run 53 = .ok (.new 124, 3) := by decide +kernel
theorem dX5_run_56 : decode cX5_run 56 = .ok (.dup, 1) := by decide +kernel
theorem dX5_run_57 : decode cX5_run 57 = .ok (.ldc 126, 2) := by decide +kernel
theorem dX5_run_59 : decode cX5_run 59 = .ok (.invokespecial 128, 3) := by decide +kernel
theorem dX5_run_62 : decode cX5_run 62 = .ok (.athrow, 1) := by decide +kernel
theorem dX5_run_63 : decode cX5_run 63 = .ok (.aload_n 0, 1) := by decide +kernel
theorem dX5_run_64 : decode cX5_run 64 = .ok (.getfield 35, 3) := by decide +kernel
theorem dX5_run_67 : decode cX5_run 67 = .ok (.astore_n 2, 1) := by decide +kernel
theorem dX5_run_68 : decode cX5_run 68 = .ok (.aload_n 0, 1) := by decide +kernel
theorem dX5_run_69 : decode cX5_run 69 = .ok (.aload_n 0, 1) := by decide +kernel
theorem dX5_run_70 : decode cX5_run 70 = .ok (.getfield 39, 3) := by decide +kernel
theorem dX5_run_73 : decode cX5_run 73 = .ok (.putfield 35, 3) := by decide +kernel
theorem dX5_run_76 : decode cX5_run 76 = .ok (.aload_n 0, 1) := by decide +kernel
theorem dX5_run_77 : decode cX5_run 77 = .ok (.aload_n 2, 1) := by decide +kernel
theorem dX5_run_78 : decode cX5_run 78 = .ok (.putfield 39, 3) := by decide +kernel
theorem dX5_run_81 : decode cX5_run 81 = .ok (.iload_n 1, 1) := by decide +kernel
theorem dX5_run_82 : decode cX5_run 82 = .ok (.ireturn, 1) := by decide +kernel
set_option maxRecDepth 20000 in
theorem ggX5_closed_X3_isRow : GoodIn wsX5_closed wsX3_isRow := goodIn_r _ [8, 9, 27, 28, 29, 30, 31, 32, 33, 34, 35, 36, 37, 38] (by decide +kernel) (by decide +kernel)
set_option maxRecDepth 20000 in
theorem gX5_closed_X3_isRow : GoodIn wsX5_closed (wsV RX5 129 RX3 yX3_isRow wsX3_isRow) := goodIn_app (goodIn_of _ (by decide +kernel)) ggX5_closed_X3_isRow
set_option maxRecDepth 20000 in
theorem ggX5_closed_X3_part : GoodIn wsX5_closed wsX3_part := goodIn_r _ [13, 14, 15, 16, 17, 18, 19, 20, 27, 28, 29, 30, 31, 32, 33, 34, 35, 36, 37, 38] (by decide +kernel) (by decide +kernel)
set_option maxRecDepth 20000 in
theorem gX5_closed_X3_part : GoodIn wsX5_closed (wsV RX5 134 RX3 yX3_part wsX3_part) := goodIn_app (goodIn_of _ (by decide +kernel)) ggX5_closed_X3_part
theorem dX5_closed_0 : decode cX5_closed 0 = .ok (.aload_n 0, 1) := by decide +kernel
theorem dX5_closed_1 : decode cX5_closed 1 = .ok (.getfield 35, 3) := by decide +kernel
theorem dX5_closed_4 : decode cX5_closed 4 = .ok (.iload_n 1, 1) := by decide +kernel
theorem dX5_closed_5 : decode cX5_closed 5 = .ok (.invokevirtual 129, 3) := by decide +kernel
theorem dX5_closed_8 : decode cX5_closed 8 = .ok (.ifCond .eq 13, 3) := by decide +kernel
theorem dX5_closed_11 : decode cX5_closed 11 = .ok (.iload_n 2, 1) := by decide +kernel
theorem dX5_closed_12 : decode cX5_closed 12 = .ok (.ifCond .lt 9, 3) := by decide +kernel
theorem dX5_closed_15 : decode cX5_closed 15 = .ok (.iload_n 2, 1) := by decide +kernel
theorem dX5_closed_16 : decode cX5_closed 16 = .ok (.bipush 6, 2) := by decide +kernel
theorem dX5_closed_18 : decode cX5_closed 18 = .ok (.if_icmp .le 13, 3) := by decide +kernel
theorem dX5_closed_21 : decode cX5_closed 21 = .ok (.new 55, 3) := by decide +kernel
theorem dX5_closed_24 : decode cX5_closed 24 = .ok (.dup, 1) := by decide +kernel
theorem dX5_closed_25 : decode cX5_closed 25 = .ok (.ldc 132, 2) := by decide +kernel
theorem dX5_closed_27 : decode cX5_closed 27 = .ok (.invokespecial 59, 3) := by decide +kernel
theorem dX5_closed_30 : decode cX5_closed 30 = .ok (.athrow, 1) := by decide +kernel
theorem dX5_closed_31 : decode cX5_closed 31 = .ok (.aload_n 0, 1) := by decide +kernel
theorem dX5_closed_32 : decode cX5_closed 32 = .ok (.getfield 35, 3) := by decide +kernel
theorem dX5_closed_35 : decode cX5_closed 35 = .ok (.iload_n 1, 1) := by decide +kernel
theorem dX5_closed_36 : decode cX5_closed 36 = .ok (.iload_n 2, 1) := by decide +kernel
theorem dX5_closed_37 : decode cX5_closed 37 = .ok (.invokevirtual 134, 3) := by decide +kernel
theorem dX5_closed_40 : decode cX5_closed 40 = .ok (.ireturn, 1) := by decide +kernel
set_option maxRecDepth 20000 in
theorem ggX5_find_X3_rowOf : GoodIn wsX5_find wsX3_rowOf := goodIn_r _ [6, 7, 8, 9, 10, 5, 11, 12, 13, 14, 15, 22, 23, 24, 25, 26, 27, 28, 29, 30, 31, 32, 33] (by decide +kernel) (by decide +kernel)
set_option maxRecDepth 20000 in
theorem gX5_find_X3_rowOf : GoodIn wsX5_find (wsV RX5 138 RX3 yX3_rowOf wsX3_rowOf) := goodIn_app (goodIn_of _ (by decide +kernel)) ggX5_find_X3_rowOf
theorem dX5_find_0 : decode cX5_find 0 = .ok (.aload_n 0, 1) := by decide +kernel
theorem dX5_find_1 : decode cX5_find 1 = .ok (.getfield 35, 3) := by decide +kernel
theorem dX5_find_4 : decode cX5_find 4 = .ok (.iload_n 1, 1) := by decide +kernel
theorem dX5_find_5 : decode cX5_find 5 = .ok (.iload_n 2, 1) := by decide +kernel
theorem dX5_find_6 : decode cX5_find 6 = .ok (.iload_n 3, 1) := by decide +kernel
theorem dX5_find_7 : decode cX5_find 7 = .ok (.invokevirtual 138, 3) := by decide +kernel
theorem dX5_find_10 : decode cX5_find 10 = .ok (.ireturn, 1) := by decide +kernel
set_option maxRecDepth 20000 in
theorem ggX5_trace_X3_isRow : GoodIn wsX5_trace wsX3_isRow := goodIn_r _ [8, 9, 31, 32, 33, 34, 35, 36, 37, 38, 39, 40, 41, 42] (by decide +kernel) (by decide +kernel)
set_option maxRecDepth 20000 in
theorem gX5_trace_X3_isRow : GoodIn wsX5_trace (wsV RX5 129 RX3 yX3_isRow wsX3_isRow) := goodIn_app (goodIn_of _ (by decide +kernel)) ggX5_trace_X3_isRow
set_option maxRecDepth 20000 in
theorem ggX5_trace_X3_restSize : GoodIn wsX5_trace wsX3_restSize := goodIn_r _ [13, 14, 15, 16, 17, 7, 18, 19, 20, 21, 22, 23, 24, 31, 32, 33, 34, 35, 36, 37, 38, 39, 40, 41, 42] (by decide +kernel) (by decide +kernel)
set_option maxRecDepth 20000 in
theorem gX5_trace_X3_restSize : GoodIn wsX5_trace (wsV RX5 143 RX3 yX3_restSize wsX3_restSize) := goodIn_app (goodIn_of _ (by decide +kernel)) ggX5_trace_X3_restSize
theorem dX5_trace_0 : decode cX5_trace 0 = .ok (.aload_n 0, 1) := by decide +kernel
theorem dX5_trace_1 : decode cX5_trace 1 = .ok (.getfield 35, 3) := by decide +kernel
theorem dX5_trace_4 : decode cX5_trace 4 = .ok (.iload_n 1, 1) := by decide +kernel
theorem dX5_trace_5 : decode cX5_trace 5 = .ok (.invokevirtual 129, 3) := by decide +kernel
theorem dX5_trace_8 : decode cX5_trace 8 = .ok (.ifCond .ne 13, 3) := by decide +kernel
theorem dX5_trace_11 : decode cX5_trace 11 = .ok (.new 55, 3) := by decide +kernel
theorem dX5_trace_14 : decode cX5_trace 14 = .ok (.dup, 1) := by decide +kernel
theorem dX5_trace_15 : decode cX5_trace 15 = .ok (.ldc 141, 2) := by decide +kernel
theorem dX5_trace_17 : decode cX5_trace 17 = .ok (.invokespecial 59, 3) := by decide +kernel
theorem dX5_trace_20 : decode cX5_trace 20 = .ok (.athrow, 1) := by decide +kernel
theorem dX5_trace_21 : decode cX5_trace 21 = .ok (.aload_n 0, 1) := by decide +kernel
theorem dX5_trace_22 : decode cX5_trace 22 = .ok (.getfield 35, 3) := by decide +kernel
theorem dX5_trace_25 : decode cX5_trace 25 = .ok (.iload_n 1, 1) := by decide +kernel
theorem dX5_trace_26 : decode cX5_trace 26 = .ok (.invokevirtual 143, 3) := by decide +kernel
theorem dX5_trace_29 : decode cX5_trace 29 = .ok (.ireturn, 1) := by decide +kernel
set_option maxRecDepth 20000 in
theorem ggX5_proof_X3_isRow : GoodIn wsX5_proof wsX3_isRow := goodIn_r _ [8, 9, 31, 32, 33, 34, 35, 36, 37, 38, 39, 40, 41, 42] (by decide +kernel) (by decide +kernel)
set_option maxRecDepth 20000 in
theorem gX5_proof_X3_isRow : GoodIn wsX5_proof (wsV RX5 129 RX3 yX3_isRow wsX3_isRow) := goodIn_app (goodIn_of _ (by decide +kernel)) ggX5_proof_X3_isRow
set_option maxRecDepth 20000 in
theorem ggX5_proof_X3_restMember : GoodIn wsX5_proof wsX3_restMember := goodIn_r _ [13, 14, 15, 16, 17, 7, 18, 19, 20, 21, 22, 23, 24, 31, 32, 33, 34, 35, 36, 37, 38, 39, 40, 41, 42] (by decide +kernel) (by decide +kernel)
set_option maxRecDepth 20000 in
theorem gX5_proof_X3_restMember : GoodIn wsX5_proof (wsV RX5 146 RX3 yX3_restMember wsX3_restMember) := goodIn_app (goodIn_of _ (by decide +kernel)) ggX5_proof_X3_restMember
theorem dX5_proof_0 : decode cX5_proof 0 = .ok (.aload_n 0, 1) := by decide +kernel
theorem dX5_proof_1 : decode cX5_proof 1 = .ok (.getfield 35, 3) := by decide +kernel
theorem dX5_proof_4 : decode cX5_proof 4 = .ok (.iload_n 1, 1) := by decide +kernel
theorem dX5_proof_5 : decode cX5_proof 5 = .ok (.invokevirtual 129, 3) := by decide +kernel
theorem dX5_proof_8 : decode cX5_proof 8 = .ok (.ifCond .ne 13, 3) := by decide +kernel
theorem dX5_proof_11 : decode cX5_proof 11 = .ok (.new 55, 3) := by decide +kernel
theorem dX5_proof_14 : decode cX5_proof 14 = .ok (.dup, 1) := by decide +kernel
theorem dX5_proof_15 : decode cX5_proof 15 = .ok (.ldc 141, 2) := by decide +kernel
theorem dX5_proof_17 : decode cX5_proof 17 = .ok (.invokespecial 59, 3) := by decide +kernel
theorem dX5_proof_20 : decode cX5_proof 20 = .ok (.athrow, 1) := by decide +kernel
theorem dX5_proof_21 : decode cX5_proof 21 = .ok (.aload_n 0, 1) := by decide +kernel
theorem dX5_proof_22 : decode cX5_proof 22 = .ok (.getfield 35, 3) := by decide +kernel
theorem dX5_proof_25 : decode cX5_proof 25 = .ok (.iload_n 1, 1) := by decide +kernel
theorem dX5_proof_26 : decode cX5_proof 26 = .ok (.iload_n 2, 1) := by decide +kernel
theorem dX5_proof_27 : decode cX5_proof 27 = .ok (.invokevirtual 146, 3) := by decide +kernel
theorem dX5_proof_30 : decode cX5_proof 30 = .ok (.ireturn, 1) := by decide +kernel
set_option maxRecDepth 20000 in
theorem ggX5_rule_X3_madeBy : GoodIn wsX5_rule wsX3_madeBy := goodIn_r _ [8, 9, 10, 17, 18, 19, 20, 21, 22, 23, 24, 25, 26, 27, 28] (by decide +kernel) (by decide +kernel)
set_option maxRecDepth 20000 in
theorem gX5_rule_X3_madeBy : GoodIn wsX5_rule (wsV RX5 151 RX3 yX3_madeBy wsX3_madeBy) := goodIn_app (goodIn_of _ (by decide +kernel)) ggX5_rule_X3_madeBy
theorem dX5_rule_0 : decode cX5_rule 0 = .ok (.iload_n 1, 1) := by decide +kernel
theorem dX5_rule_1 : decode cX5_rule 1 = .ok (.ifCond .lt 9, 3) := by decide +kernel
theorem dX5_rule_4 : decode cX5_rule 4 = .ok (.iload_n 1, 1) := by decide +kernel
theorem dX5_rule_5 : decode cX5_rule 5 = .ok (.bipush 14, 2) := by decide +kernel
theorem dX5_rule_7 : decode cX5_rule 7 = .ok (.if_icmp .lt 13, 3) := by decide +kernel
theorem dX5_rule_10 : decode cX5_rule 10 = .ok (.new 55, 3) := by decide +kernel
theorem dX5_rule_13 : decode cX5_rule 13 = .ok (.dup, 1) := by decide +kernel
theorem dX5_rule_14 : decode cX5_rule 14 = .ok (.ldc 149, 2) := by decide +kernel
theorem dX5_rule_16 : decode cX5_rule 16 = .ok (.invokespecial 59, 3) := by decide +kernel
theorem dX5_rule_19 : decode cX5_rule 19 = .ok (.athrow, 1) := by decide +kernel
theorem dX5_rule_20 : decode cX5_rule 20 = .ok (.aload_n 0, 1) := by decide +kernel
theorem dX5_rule_21 : decode cX5_rule 21 = .ok (.getfield 35, 3) := by decide +kernel
theorem dX5_rule_24 : decode cX5_rule 24 = .ok (.iload_n 1, 1) := by decide +kernel
theorem dX5_rule_25 : decode cX5_rule 25 = .ok (.invokevirtual 151, 3) := by decide +kernel
theorem dX5_rule_28 : decode cX5_rule 28 = .ok (.ireturn, 1) := by decide +kernel
set_option maxRecDepth 20000 in
theorem ggX5_told_X3_size : GoodIn wsX5_told wsX3_size := goodIn_r _ [10, 11, 41, 42, 43, 44, 45, 46, 47, 48, 49, 50, 51, 52] (by decide +kernel) (by decide +kernel)
set_option maxRecDepth 20000 in
theorem gX5_told_X3_size : GoodIn wsX5_told (wsV RX5 154 RX3 yX3_size wsX3_size) := goodIn_app (goodIn_of _ (by decide +kernel)) ggX5_told_X3_size
set_option maxRecDepth 20000 in
theorem ggX5_told_X1_size : GoodIn wsX5_told wsX1_size := goodIn_r _ [16, 17, 53, 54, 55, 56] (by decide +kernel) (by decide +kernel)
set_option maxRecDepth 20000 in
theorem gX5_told_X1_size : GoodIn wsX5_told (wsV RX5 85 RX1 yX1_size wsX1_size) := goodIn_app (goodIn_of _ (by decide +kernel)) ggX5_told_X1_size
set_option maxRecDepth 20000 in
theorem ggX5_told_X4_literals : GoodIn wsX5_told wsX4_literals := goodIn_r _ [22, 23, 57, 58] (by decide +kernel) (by decide +kernel)
set_option maxRecDepth 20000 in
theorem gX5_told_X4_literals : GoodIn wsX5_told (wsV RX5 62 RX4 yX4_literals wsX4_literals) := goodIn_app (goodIn_of _ (by decide +kernel)) ggX5_told_X4_literals
set_option maxRecDepth 20000 in
theorem ggX5_told_X3_literalSubjects : GoodIn wsX5_told wsX3_literalSubjects := goodIn_r _ [27, 11, 28, 41, 42, 43, 44, 45, 46, 47, 48, 49, 50, 51, 52] (by decide +kernel) (by decide +kernel)
set_option maxRecDepth 20000 in
theorem gX5_told_X3_literalSubjects : GoodIn wsX5_told (wsV RX5 155 RX3 yX3_literalSubjects wsX3_literalSubjects) := goodIn_app (goodIn_of _ (by decide +kernel)) ggX5_told_X3_literalSubjects
set_option maxRecDepth 20000 in
theorem ggX5_told_X3_membershipsBeyondAxioms : GoodIn wsX5_told wsX3_membershipsBeyondAxioms := goodIn_r _ [32, 11, 33, 34, 41, 42, 43, 44, 45, 46, 47, 48, 49, 50, 51, 52] (by decide +kernel) (by decide +kernel)
set_option maxRecDepth 20000 in
theorem gX5_told_X3_membershipsBeyondAxioms : GoodIn wsX5_told (wsV RX5 158 RX3 yX3_membershipsBeyondAxioms wsX3_membershipsBeyondAxioms) := goodIn_app (goodIn_of _ (by decide +kernel)) ggX5_told_X3_membershipsBeyondAxioms
theorem dX5_told_0 : decode cX5_told 0 = .ok (.iload_n 1, 1) := by decide +kernel
theorem dX5_told_1 : decode cX5_told 1 = .ok (.tableswitch 75 0 4 #[35, 43, 51, 59, 67], 35) := by decide +kernel
theorem dX5_told_36 : decode cX5_told 36 = .ok (.aload_n 0, 1) := by decide +kernel
theorem dX5_told_37 : decode cX5_told 37 = .ok (.getfield 35, 3) := by decide +kernel
theorem dX5_told_40 : decode cX5_told 40 = .ok (.invokevirtual 154, 3) := by decide +kernel
theorem dX5_told_43 : decode cX5_told 43 = .ok (.ireturn, 1) := by decide +kernel
theorem dX5_told_44 : decode cX5_told 44 = .ok (.aload_n 0, 1) := by decide +kernel
theorem dX5_told_45 : decode cX5_told 45 = .ok (.getfield 19, 3) := by decide +kernel
theorem dX5_told_48 : decode cX5_told 48 = .ok (.invokevirtual 85, 3) := by decide +kernel
theorem dX5_told_51 : decode cX5_told 51 = .ok (.ireturn, 1) := by decide +kernel
theorem dX5_told_52 : decode cX5_told 52 = .ok (.aload_n 0, 1) := by decide +kernel
theorem dX5_told_53 : decode cX5_told 53 = .ok (.getfield 10, 3) := by decide +kernel
theorem dX5_told_56 : decode cX5_told 56 = .ok (.invokevirtual 62, 3) := by decide +kernel
theorem dX5_told_59 : decode cX5_told 59 = .ok (.ireturn, 1) := by decide +kernel
theorem dX5_told_60 : decode cX5_told 60 = .ok (.aload_n 0, 1) := by decide +kernel
theorem dX5_told_61 : decode cX5_told 61 = .ok (.getfield 35, 3) := by decide +kernel
theorem dX5_told_64 : decode cX5_told 64 = .ok (.invokevirtual 155, 3) := by decide +kernel
theorem dX5_told_67 : decode cX5_told 67 = .ok (.ireturn, 1) := by decide +kernel
theorem dX5_told_68 : decode cX5_told 68 = .ok (.aload_n 0, 1) := by decide +kernel
theorem dX5_told_69 : decode cX5_told 69 = .ok (.getfield 35, 3) := by decide +kernel
theorem dX5_told_72 : decode cX5_told 72 = .ok (.invokevirtual 158, 3) := by decide +kernel
theorem dX5_told_75 : decode cX5_told 75 = .ok (.ireturn, 1) := by decide +kernel
theorem dX5_told_76 : decode cX5_told 76 = .ok (.new 55, 3) := by decide +kernel
theorem dX5_told_79 : decode cX5_told 79 = .ok (.dup, 1) := by decide +kernel
theorem dX5_told_80 : decode cX5_told 80 = .ok (.ldc 161, 2) := by decide +kernel
theorem dX5_told_82 : decode cX5_told 82 = .ok (.invokespecial 59, 3) := by decide +kernel
theorem dX5_told_85 : decode cX5_told 85 = .ok (.athrow, 1) := by decide +kernel
set_option maxRecDepth 20000 in
theorem ggX5_mayBeFact_X4_isNonLiteral : GoodIn wsX5_mayBeFact wsX4_isNonLiteral := goodIn_r _ [6] (by decide +kernel) (by decide +kernel)
set_option maxRecDepth 20000 in
theorem gX5_mayBeFact_X4_isNonLiteral : GoodIn wsX5_mayBeFact (wsV RX5 51 RX4 yX4_isNonLiteral wsX4_isNonLiteral) := goodIn_app (goodIn_of _ (by decide +kernel)) ggX5_mayBeFact_X4_isNonLiteral
set_option maxRecDepth 20000 in
theorem ggX5_mayBeFact_X4_isTerm : GoodIn wsX5_mayBeFact wsX4_isTerm := goodIn_r _ [10, 11, 3, 4, 5, 6, 12, 13, 14, 15, 16, 23, 24] (by decide +kernel) (by decide +kernel)
set_option maxRecDepth 20000 in
theorem gX5_mayBeFact_X4_isTerm : GoodIn wsX5_mayBeFact (wsV RX5 163 RX4 yX4_isTerm wsX4_isTerm) := goodIn_app (goodIn_of _ (by decide +kernel)) ggX5_mayBeFact_X4_isTerm
theorem dX5_mayBeFact_0 : decode cX5_mayBeFact 0 = .ok (.aload_n 0, 1) := by decide +kernel
theorem dX5_mayBeFact_1 : decode cX5_mayBeFact 1 = .ok (.getfield 10, 3) := by decide +kernel
theorem dX5_mayBeFact_4 : decode cX5_mayBeFact 4 = .ok (.iload_n 1, 1) := by decide +kernel
theorem dX5_mayBeFact_5 : decode cX5_mayBeFact 5 = .ok (.invokevirtual 51, 3) := by decide +kernel
theorem dX5_mayBeFact_8 : decode cX5_mayBeFact 8 = .ok (.ifCond .eq 29, 3) := by decide +kernel
theorem dX5_mayBeFact_11 : decode cX5_mayBeFact 11 = .ok (.aload_n 0, 1) := by decide +kernel
theorem dX5_mayBeFact_12 : decode cX5_mayBeFact 12 = .ok (.getfield 10, 3) := by decide +kernel
theorem dX5_mayBeFact_15 : decode cX5_mayBeFact 15 = .ok (.iload_n 2, 1) := by decide +kernel
theorem dX5_mayBeFact_16 : decode cX5_mayBeFact 16 = .ok (.invokevirtual 51, 3) := by decide +kernel
theorem dX5_mayBeFact_19 : decode cX5_mayBeFact 19 = .ok (.ifCond .eq 18, 3) := by decide +kernel
theorem dX5_mayBeFact_22 : decode cX5_mayBeFact 22 = .ok (.aload_n 0, 1) := by decide +kernel
theorem dX5_mayBeFact_23 : decode cX5_mayBeFact 23 = .ok (.getfield 10, 3) := by decide +kernel
theorem dX5_mayBeFact_26 : decode cX5_mayBeFact 26 = .ok (.iload_n 3, 1) := by decide +kernel
theorem dX5_mayBeFact_27 : decode cX5_mayBeFact 27 = .ok (.invokevirtual 163, 3) := by decide +kernel
theorem dX5_mayBeFact_30 : decode cX5_mayBeFact 30 = .ok (.ifCond .eq 7, 3) := by decide +kernel
theorem dX5_mayBeFact_33 : decode cX5_mayBeFact 33 = .ok (.iconst 1, 1) := by decide +kernel
theorem dX5_mayBeFact_34 : decode cX5_mayBeFact 34 = .ok (.goto 4, 3) := by decide +kernel
theorem dX5_mayBeFact_37 : decode cX5_mayBeFact 37 = .ok (.iconst 0, 1) := by decide +kernel
theorem dX5_mayBeFact_38 : decode cX5_mayBeFact 38 = .ok (.ireturn, 1) := by decide +kernel
