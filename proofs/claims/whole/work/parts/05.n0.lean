theorem dX0_init_0 : decode cX0_init 0 = .ok (.aload_n 0, 1) := by decide +kernel
theorem dX0_init_1 : decode cX0_init 1 = .ok (.invokespecial 3, 3) := by decide +kernel
theorem dX0_init_4 : decode cX0_init 4 = .ok (.aload_n 0, 1) := by decide +kernel
theorem dX0_init_5 : decode cX0_init 5 = .ok (.iconst 0, 1) := by decide +kernel
theorem dX0_init_6 : decode cX0_init 6 = .ok (.putfield 9, 3) := by decide +kernel
theorem dX0_init_9 : decode cX0_init 9 = .ok (.aload_n 0, 1) := by decide +kernel
theorem dX0_init_10 : decode cX0_init 10 = .ok (.bipush 9, 2) := by decide +kernel
theorem dX0_init_12 : decode cX0_init 12 = .ok (.putfield 15, 3) := by decide +kernel
theorem dX0_init_15 : decode cX0_init 15 = .ok (.aload_n 0, 1) := by decide +kernel
theorem dX0_init_16 : decode cX0_init 16 = .ok (.iload_n 1, 1) := by decide +kernel
theorem dX0_init_17 : decode cX0_init 17 = .ok (.putfield 19, 3) := by decide +kernel
theorem dX0_init_20 : decode cX0_init 20 = .ok (.return_, 1) := by decide +kernel
theorem dX0_ask_0 : decode cX0_ask 0 = .ok (.aload_n 0, 1) := by decide +kernel
theorem dX0_ask_1 : decode cX0_ask 1 = .ok (.iload_n 1, 1) := by decide +kernel
theorem dX0_ask_2 : decode cX0_ask 2 = .ok (.putfield 9, 3) := by decide +kernel
theorem dX0_ask_5 : decode cX0_ask 5 = .ok (.return_, 1) := by decide +kernel
theorem dX0_setCount_0 : decode cX0_setCount 0 = .ok (.aload_n 0, 1) := by decide +kernel
theorem dX0_setCount_1 : decode cX0_setCount 1 = .ok (.iload_n 1, 1) := by decide +kernel
theorem dX0_setCount_2 : decode cX0_setCount 2 = .ok (.putfield 15, 3) := by decide +kernel
theorem dX0_setCount_5 : decode cX0_setCount 5 = .ok (.return_, 1) := by decide +kernel
theorem dX0_memberships_0 : decode cX0_memberships 0 = .ok (.aload_n 0, 1) := by decide +kernel
theorem dX0_memberships_1 : decode cX0_memberships 1 = .ok (.getfield 9, 3) := by decide +kernel
theorem dX0_memberships_4 : decode cX0_memberships 4 = .ok (.ifCond .eq 17, 3) := by decide +kernel
theorem dX0_memberships_7 : decode cX0_memberships 7 = .ok (.aload_n 0, 1) := by decide +kernel
theorem dX0_memberships_8 : decode cX0_memberships 8 = .ok (.getfield 19, 3) := by decide +kernel
theorem dX0_memberships_11 : decode cX0_memberships 11 = .ok (.ifCond .eq 10, 3) := by decide +kernel
theorem dX0_memberships_14 : decode cX0_memberships 14 = .ok (.aload_n 0, 1) := by decide +kernel
theorem dX0_memberships_15 : decode cX0_memberships 15 = .ok (.getfield 15, 3) := by decide +kernel
theorem dX0_memberships_18 : decode cX0_memberships 18 = .ok (.goto 4, 3) := by decide +kernel
theorem dX0_memberships_21 : decode cX0_memberships 21 = .ok (.iconst 0, 1) := by decide +kernel
theorem dX0_memberships_22 : decode cX0_memberships 22 = .ok (.ireturn, 1) := by decide +kernel
set_option maxRecDepth 20000 in
theorem ggX0_contains_X0_size : GoodIn wsX0_contains wsX0_size := goodIn_r _ [5, 6, 7, 8, 9, 4, 10, 11, 12, 27, 28, 29] (by decide +kernel) (by decide +kernel)
set_option maxRecDepth 20000 in
theorem gX0_contains_X0_size : GoodIn wsX0_contains (wsV RX0 22 RX0 yX0_size wsX0_size) := goodIn_app (goodIn_of _ (by decide +kernel)) ggX0_contains_X0_size
set_option maxRecDepth 20000 in
theorem ggX0_contains_X0_subject : GoodIn wsX0_contains wsX0_subject := goodIn_r _ [16, 17] (by decide +kernel) (by decide +kernel)
set_option maxRecDepth 20000 in
theorem gX0_contains_X0_subject : GoodIn wsX0_contains (wsV RX0 26 RX0 yX0_subject wsX0_subject) := goodIn_app (goodIn_of _ (by decide +kernel)) ggX0_contains_X0_subject
set_option maxRecDepth 20000 in
theorem ggX0_contains_X0_property : GoodIn wsX0_contains wsX0_property := goodIn_r _ [21, 17, 22] (by decide +kernel) (by decide +kernel)
set_option maxRecDepth 20000 in
theorem gX0_contains_X0_property : GoodIn wsX0_contains (wsV RX0 30 RX0 yX0_property wsX0_property) := goodIn_app (goodIn_of _ (by decide +kernel)) ggX0_contains_X0_property
set_option maxRecDepth 20000 in
theorem ggX0_contains_X0_object : GoodIn wsX0_contains wsX0_object := goodIn_r _ [26, 17, 22] (by decide +kernel) (by decide +kernel)
set_option maxRecDepth 20000 in
theorem gX0_contains_X0_object : GoodIn wsX0_contains (wsV RX0 33 RX0 yX0_object wsX0_object) := goodIn_app (goodIn_of _ (by decide +kernel)) ggX0_contains_X0_object
theorem dX0_contains_0 : decode cX0_contains 0 = .ok (.aload_n 0, 1) := by decide +kernel
theorem dX0_contains_1 : decode cX0_contains 1 = .ok (.invokevirtual 22, 3) := by decide +kernel
theorem dX0_contains_4 : decode cX0_contains 4 = .ok (.istore 4, 2) := by decide +kernel
theorem dX0_contains_6 : decode cX0_contains 6 = .ok (.iconst 0, 1) := by decide +kernel
theorem dX0_contains_7 : decode cX0_contains 7 = .ok (.istore 5, 2) := by decide +kernel
theorem dX0_contains_9 : decode cX0_contains 9 = .ok (.iload 5, 2) := by decide +kernel
theorem dX0_contains_11 : decode cX0_contains 11 = .ok (.iload 4, 2) := by decide +kernel
theorem dX0_contains_13 : decode cX0_contains 13 = .ok (.if_icmp .ge 41, 3) := by decide +kernel
theorem dX0_contains_16 : decode cX0_contains 16 = .ok (.aload_n 0, 1) := by decide +kernel
theorem dX0_contains_17 : decode cX0_contains 17 = .ok (.iload 5, 2) := by decide +kernel
theorem dX0_contains_19 : decode cX0_contains 19 = .ok (.invokevirtual 26, 3) := by decide +kernel
theorem dX0_contains_22 : decode cX0_contains 22 = .ok (.iload_n 1, 1) := by decide +kernel
theorem dX0_contains_23 : decode cX0_contains 23 = .ok (.if_icmp .ne 25, 3) := by decide +kernel
theorem dX0_contains_26 : decode cX0_contains 26 = .ok (.aload_n 0, 1) := by decide +kernel
theorem dX0_contains_27 : decode cX0_contains 27 = .ok (.iload 5, 2) := by decide +kernel
theorem dX0_contains_29 : decode cX0_contains 29 = .ok (.invokevirtual 30, 3) := by decide +kernel
theorem dX0_contains_32 : decode cX0_contains 32 = .ok (.iload_n 2, 1) := by decide +kernel
theorem dX0_contains_33 : decode cX0_contains 33 = .ok (.if_icmp .ne 15, 3) := by decide +kernel
theorem dX0_contains_36 : decode cX0_contains 36 = .ok (.aload_n 0, 1) := by decide +kernel
theorem dX0_contains_37 : decode cX0_contains 37 = .ok (.iload 5, 2) := by decide +kernel
theorem dX0_contains_39 : decode cX0_contains 39 = .ok (.invokevirtual 33, 3) := by decide +kernel
theorem dX0_contains_42 : decode cX0_contains 42 = .ok (.iload_n 3, 1) := by decide +kernel
theorem dX0_contains_43 : decode cX0_contains 43 = .ok (.if_icmp .ne 5, 3) := by decide +kernel
theorem dX0_contains_46 : decode cX0_contains 46 = .ok (.iconst 1, 1) := by decide +kernel
theorem dX0_contains_47 : decode cX0_contains 47 = .ok (.ireturn, 1) := by decide +kernel
theorem dX0_contains_48 : decode cX0_contains 48 = .ok (.iinc 5 1, 3) := by decide +kernel
theorem dX0_contains_51 : decode cX0_contains 51 = .ok (.goto (-42), 3) := by decide +kernel
theorem dX0_contains_54 : decode cX0_contains 54 = .ok (.iconst 0, 1) := by decide +kernel
theorem dX0_contains_55 : decode cX0_contains 55 = .ok (.ireturn, 1) := by decide +kernel
set_option maxRecDepth 20000 in
theorem ggX0_appendTo_X0_size : GoodIn wsX0_appendTo wsX0_size := goodIn_r _ [5, 6, 7, 8, 9, 4, 10, 11, 12, 47, 48, 49] (by decide +kernel) (by decide +kernel)
set_option maxRecDepth 20000 in
theorem gX0_appendTo_X0_size : GoodIn wsX0_appendTo (wsV RX0 22 RX0 yX0_size wsX0_size) := goodIn_app (goodIn_of _ (by decide +kernel)) ggX0_appendTo_X0_size
set_option maxRecDepth 20000 in
theorem ggX0_appendTo_X0_subject : GoodIn wsX0_appendTo wsX0_subject := goodIn_r _ [16, 17] (by decide +kernel) (by decide +kernel)
set_option maxRecDepth 20000 in
theorem gX0_appendTo_X0_subject : GoodIn wsX0_appendTo (wsV RX0 26 RX0 yX0_subject wsX0_subject) := goodIn_app (goodIn_of _ (by decide +kernel)) ggX0_appendTo_X0_subject
set_option maxRecDepth 20000 in
theorem ggX0_appendTo_X0_property : GoodIn wsX0_appendTo wsX0_property := goodIn_r _ [21, 17, 22] (by decide +kernel) (by decide +kernel)
set_option maxRecDepth 20000 in
theorem gX0_appendTo_X0_property : GoodIn wsX0_appendTo (wsV RX0 30 RX0 yX0_property wsX0_property) := goodIn_app (goodIn_of _ (by decide +kernel)) ggX0_appendTo_X0_property
set_option maxRecDepth 20000 in
theorem ggX0_appendTo_X0_object : GoodIn wsX0_appendTo wsX0_object := goodIn_r _ [26, 17, 22] (by decide +kernel) (by decide +kernel)
set_option maxRecDepth 20000 in
theorem gX0_appendTo_X0_object : GoodIn wsX0_appendTo (wsV RX0 33 RX0 yX0_object wsX0_object) := goodIn_app (goodIn_of _ (by decide +kernel)) ggX0_appendTo_X0_object
set_option maxRecDepth 20000 in
theorem ggX0_appendTo_X3_addNew : GoodIn wsX0_appendTo wsX3_addNew := goodIn_r _ [31, 32, 33, 34, 35, 36, 37, 38, 39, 40, 41, 42, 43, 44, 30, 45, 46, 50, 51, 52, 53, 54, 55, 56, 57, 58, 59, 60, 61] (by decide +kernel) (by decide +kernel)
set_option maxRecDepth 20000 in
theorem gX0_appendTo_X3_addNew : GoodIn wsX0_appendTo (wsV RX0 36 RX3 yX3_addNew wsX3_addNew) := goodIn_app (goodIn_of _ (by decide +kernel)) ggX0_appendTo_X3_addNew
theorem dX0_appendTo_0 : decode cX0_appendTo 0 = .ok (.aload_n 0, 1) := by decide +kernel
theorem dX0_appendTo_1 : decode cX0_appendTo 1 = .ok (.invokevirtual 22, 3) := by decide +kernel
theorem dX0_appendTo_4 : decode cX0_appendTo 4 = .ok (.istore_n 2, 1) := by decide +kernel
theorem dX0_appendTo_5 : decode cX0_appendTo 5 = .ok (.iconst 0, 1) := by decide +kernel
theorem dX0_appendTo_6 : decode cX0_appendTo 6 = .ok (.istore_n 3, 1) := by decide +kernel
theorem dX0_appendTo_7 : decode cX0_appendTo 7 = .ok (.iload_n 3, 1) := by decide +kernel
theorem dX0_appendTo_8 : decode cX0_appendTo 8 = .ok (.iload_n 2, 1) := by decide +kernel
theorem dX0_appendTo_9 : decode cX0_appendTo 9 = .ok (.if_icmp .ge 33, 3) := by decide +kernel
theorem dX0_appendTo_12 : decode cX0_appendTo 12 = .ok (.aload_n 1, 1) := by decide +kernel
theorem dX0_appendTo_13 : decode cX0_appendTo 13 = .ok (.aload_n 0, 1) := by decide +kernel
theorem dX0_appendTo_14 : decode cX0_appendTo 14 = .ok (.iload_n 3, 1) := by decide +kernel
theorem dX0_appendTo_15 : decode cX0_appendTo 15 = .ok (.invokevirtual 26, 3) := by decide +kernel
theorem dX0_appendTo_18 : decode cX0_appendTo 18 = .ok (.aload_n 0, 1) := by decide +kernel
theorem dX0_appendTo_19 : decode cX0_appendTo 19 = .ok (.iload_n 3, 1) := by decide +kernel
theorem dX0_appendTo_20 : decode cX0_appendTo 20 = .ok (.invokevirtual 30, 3) := by decide +kernel
theorem dX0_appendTo_23 : decode cX0_appendTo 23 = .ok (.aload_n 0, 1) := by decide +kernel
theorem dX0_appendTo_24 : decode cX0_appendTo 24 = .ok (.iload_n 3, 1) := by decide +kernel
theorem dX0_appendTo_25 : decode cX0_appendTo 25 = .ok (.invokevirtual 33, 3) := by decide +kernel
theorem dX0_appendTo_28 : decode cX0_appendTo 28 = .ok (.bipush (-2), 2) := by decide +kernel
theorem dX0_appendTo_30 : decode cX0_appendTo 30 = .ok (.iconst (-1), 1) := by decide +kernel
theorem dX0_appendTo_31 : decode cX0_appendTo 31 = .ok (.iconst (-1), 1) := by decide +kernel
theorem dX0_appendTo_32 : decode cX0_appendTo 32 = .ok (.iconst 0, 1) := by decide +kernel
theorem dX0_appendTo_33 : decode cX0_appendTo 33 = .ok (.invokevirtual 36, 3) := by decide +kernel
theorem dX0_appendTo_36 : decode cX0_appendTo 36 = .ok (.iinc 3 1, 3) := by decide +kernel
theorem dX0_appendTo_39 : decode cX0_appendTo 39 = .ok (.goto (-32), 3) := by decide +kernel
theorem dX0_appendTo_42 : decode cX0_appendTo 42 = .ok (.return_, 1) := by decide +kernel
set_option maxRecDepth 20000 in
theorem ggX0_size_X0_memberships : GoodIn wsX0_size wsX0_memberships := goodIn_r _ [6, 1, 7, 8, 9, 10, 11] (by decide +kernel) (by decide +kernel)
set_option maxRecDepth 20000 in
theorem gX0_size_X0_memberships : GoodIn wsX0_size (wsV RX0 42 RX0 yX0_memberships wsX0_memberships) := goodIn_app (goodIn_of _ (by decide +kernel)) ggX0_size_X0_memberships
theorem dX0_size_0 : decode cX0_size 0 = .ok (.aload_n 0, 1) := by decide +kernel
theorem dX0_size_1 : decode cX0_size 1 = .ok (.getfield 9, 3) := by decide +kernel
theorem dX0_size_4 : decode cX0_size 4 = .ok (.ifCond .eq 15, 3) := by decide +kernel
theorem dX0_size_7 : decode cX0_size 7 = .ok (.bipush 15, 2) := by decide +kernel
theorem dX0_size_9 : decode cX0_size 9 = .ok (.iconst 3, 1) := by decide +kernel
theorem dX0_size_10 : decode cX0_size 10 = .ok (.aload_n 0, 1) := by decide +kernel
theorem dX0_size_11 : decode cX0_size 11 = .ok (.invokevirtual 42, 3) := by decide +kernel
theorem dX0_size_14 : decode cX0_size 14 = .ok (.imul, 1) := by decide +kernel
theorem dX0_size_15 : decode cX0_size 15 = .ok (.iadd, 1) := by decide +kernel
theorem dX0_size_16 : decode cX0_size 16 = .ok (.goto 4, 3) := by decide +kernel
theorem dX0_size_19 : decode cX0_size 19 = .ok (.iconst 0, 1) := by decide +kernel
theorem dX0_size_20 : decode cX0_size 20 = .ok (.ireturn, 1) := by decide +kernel
theorem dX0_subject_0 : decode cX0_subject 0 = .ok (.iload_n 1, 1) := by decide +kernel
theorem dX0_subject_1 : decode cX0_subject 1 = .ok (.bipush 15, 2) := by decide +kernel
theorem dX0_subject_3 : decode cX0_subject 3 = .ok (.if_icmp .ge 13, 3) := by decide +kernel
theorem dX0_subject_6 : decode cX0_subject 6 = .ok (.getstatic 45, 3) := by decide +kernel
theorem dX0_subject_9 : decode cX0_subject 9 = .ok (.iconst 3, 1) := by decide +kernel
theorem dX0_subject_10 : decode cX0_subject 10 = .ok (.iload_n 1, 1) := by decide +kernel
theorem dX0_subject_11 : decode cX0_subject 11 = .ok (.imul, 1) := by decide +kernel
theorem dX0_subject_12 : decode cX0_subject 12 = .ok (.iaload, 1) := by decide +kernel
theorem dX0_subject_13 : decode cX0_subject 13 = .ok (.goto 12, 3) := by decide +kernel
theorem dX0_subject_16 : decode cX0_subject 16 = .ok (.bipush 20, 2) := by decide +kernel
theorem dX0_subject_18 : decode cX0_subject 18 = .ok (.iload_n 1, 1) := by decide +kernel
theorem dX0_subject_19 : decode cX0_subject 19 = .ok (.bipush 15, 2) := by decide +kernel
theorem dX0_subject_21 : decode cX0_subject 21 = .ok (.isub, 1) := by decide +kernel
theorem dX0_subject_22 : decode cX0_subject 22 = .ok (.iconst 3, 1) := by decide +kernel
theorem dX0_subject_23 : decode cX0_subject 23 = .ok (.idiv, 1) := by decide +kernel
theorem dX0_subject_24 : decode cX0_subject 24 = .ok (.iadd, 1) := by decide +kernel
theorem dX0_subject_25 : decode cX0_subject 25 = .ok (.ireturn, 1) := by decide +kernel
theorem dX0_property_0 : decode cX0_property 0 = .ok (.iload_n 1, 1) := by decide +kernel
theorem dX0_property_1 : decode cX0_property 1 = .ok (.bipush 15, 2) := by decide +kernel
theorem dX0_property_3 : decode cX0_property 3 = .ok (.if_icmp .ge 15, 3) := by decide +kernel
theorem dX0_property_6 : decode cX0_property 6 = .ok (.getstatic 45, 3) := by decide +kernel
theorem dX0_property_9 : decode cX0_property 9 = .ok (.iconst 3, 1) := by decide +kernel
theorem dX0_property_10 : decode cX0_property 10 = .ok (.iload_n 1, 1) := by decide +kernel
theorem dX0_property_11 : decode cX0_property 11 = .ok (.imul, 1) := by decide +kernel
theorem dX0_property_12 : decode cX0_property 12 = .ok (.iconst 1, 1) := by decide +kernel
theorem dX0_property_13 : decode cX0_property 13 = .ok (.iadd, 1) := by decide +kernel
theorem dX0_property_14 : decode cX0_property 14 = .ok (.iaload, 1) := by decide +kernel
theorem dX0_property_15 : decode cX0_property 15 = .ok (.goto 15, 3) := by decide +kernel
theorem dX0_property_18 : decode cX0_property 18 = .ok (.getstatic 49, 3) := by decide +kernel
theorem dX0_property_21 : decode cX0_property 21 = .ok (.iload_n 1, 1) := by decide +kernel
theorem dX0_property_22 : decode cX0_property 22 = .ok (.bipush 15, 2) := by decide +kernel
theorem dX0_property_24 : decode cX0_property 24 = .ok (.isub, 1) := by decide +kernel
theorem dX0_property_25 : decode cX0_property 25 = .ok (.iconst 3, 1) := by decide +kernel
theorem dX0_property_26 : decode cX0_property 26 = .ok (.irem, 1) := by decide +kernel
theorem dX0_property_27 : decode cX0_property 27 = .ok (.iconst 2, 1) := by decide +kernel
theorem dX0_property_28 : decode cX0_property 28 = .ok (.imul, 1) := by decide +kernel
theorem dX0_property_29 : decode cX0_property 29 = .ok (.iaload, 1) := by decide +kernel
theorem dX0_property_30 : decode cX0_property 30 = .ok (.ireturn, 1) := by decide +kernel
theorem dX0_object_0 : decode cX0_object 0 = .ok (.iload_n 1, 1) := by decide +kernel
theorem dX0_object_1 : decode cX0_object 1 = .ok (.bipush 15, 2) := by decide +kernel
theorem dX0_object_3 : decode cX0_object 3 = .ok (.if_icmp .ge 15, 3) := by decide +kernel
theorem dX0_object_6 : decode cX0_object 6 = .ok (.getstatic 45, 3) := by decide +kernel
theorem dX0_object_9 : decode cX0_object 9 = .ok (.iconst 3, 1) := by decide +kernel
theorem dX0_object_10 : decode cX0_object 10 = .ok (.iload_n 1, 1) := by decide +kernel
theorem dX0_object_11 : decode cX0_object 11 = .ok (.imul, 1) := by decide +kernel
theorem dX0_object_12 : decode cX0_object 12 = .ok (.iconst 2, 1) := by decide +kernel
theorem dX0_object_13 : decode cX0_object 13 = .ok (.iadd, 1) := by decide +kernel
theorem dX0_object_14 : decode cX0_object 14 = .ok (.iaload, 1) := by decide +kernel
theorem dX0_object_15 : decode cX0_object 15 = .ok (.goto 17, 3) := by decide +kernel
theorem dX0_object_18 : decode cX0_object 18 = .ok (.getstatic 49, 3) := by decide +kernel
theorem dX0_object_21 : decode cX0_object 21 = .ok (.iload_n 1, 1) := by decide +kernel
theorem dX0_object_22 : decode cX0_object 22 = .ok (.bipush 15, 2) := by decide +kernel
theorem dX0_object_24 : decode cX0_object 24 = .ok (.isub, 1) := by decide +kernel
theorem dX0_object_25 : decode cX0_object 25 = .ok (.iconst 3, 1) := by decide +kernel
theorem dX0_object_26 : decode cX0_object 26 = .ok (.irem, 1) := by decide +kernel
theorem dX0_object_27 : decode cX0_object 27 = .ok (.iconst 2, 1) := by decide +kernel
theorem dX0_object_28 : decode cX0_object 28 = .ok (.imul, 1) := by decide +kernel
theorem dX0_object_29 : decode cX0_object 29 = .ok (.iconst 1, 1) := by decide +kernel
theorem dX0_object_30 : decode cX0_object 30 = .ok (.iadd, 1) := by decide +kernel
theorem dX0_object_31 : decode cX0_object 31 = .ok (.iaload, 1) := by decide +kernel
theorem dX0_object_32 : decode cX0_object 32 = .ok (.ireturn, 1) := by decide +kernel
theorem dX1_init_0 : decode cX1_init 0 = .ok (.aload_n 0, 1) := by decide +kernel
theorem dX1_init_1 : decode cX1_init 1 = .ok (.invokespecial 3, 3) := by decide +kernel
theorem dX1_init_4 : decode cX1_init 4 = .ok (.aload_n 0, 1) := by decide +kernel
theorem dX1_init_5 : decode cX1_init 5 = .ok (.bipush 80, 2) := by decide +kernel
theorem dX1_init_7 : decode cX1_init 7 = .ok (.newarray .int, 2) := by decide +kernel
theorem dX1_init_9 : decode cX1_init 9 = .ok (.putfield 9, 3) := by decide +kernel
theorem dX1_init_12 : decode cX1_init 12 = .ok (.aload_n 0, 1) := by decide +kernel
theorem dX1_init_13 : decode cX1_init 13 = .ok (.bipush 80, 2) := by decide +kernel
theorem dX1_init_15 : decode cX1_init 15 = .ok (.newarray .int, 2) := by decide +kernel
theorem dX1_init_17 : decode cX1_init 17 = .ok (.putfield 15, 3) := by decide +kernel
theorem dX1_init_20 : decode cX1_init 20 = .ok (.aload_n 0, 1) := by decide +kernel
theorem dX1_init_21 : decode cX1_init 21 = .ok (.bipush 80, 2) := by decide +kernel
theorem dX1_init_23 : decode cX1_init 23 = .ok (.newarray .int, 2) := by decide +kernel
theorem dX1_init_25 : decode cX1_init 25 = .ok (.putfield 18, 3) := by decide +kernel
theorem dX1_init_28 : decode cX1_init 28 = .ok (.aload_n 0, 1) := by decide +kernel
theorem dX1_init_29 : decode cX1_init 29 = .ok (.iconst 0, 1) := by decide +kernel
theorem dX1_init_30 : decode cX1_init 30 = .ok (.putfield 21, 3) := by decide +kernel
theorem dX1_init_33 : decode cX1_init 33 = .ok (.return_, 1) := by decide +kernel
theorem dX1_size_0 : decode cX1_size 0 = .ok (.aload_n 0, 1) := by decide +kernel
theorem dX1_size_1 : decode cX1_size 1 = .ok (.getfield 21, 3) := by decide +kernel
theorem dX1_size_4 : decode cX1_size 4 = .ok (.ireturn, 1) := by decide +kernel
theorem dX1_placeOf_0 : decode cX1_placeOf 0 = .ok (.iconst 0, 1) := by decide +kernel
theorem dX1_placeOf_1 : decode cX1_placeOf 1 = .ok (.istore 4, 2) := by decide +kernel
theorem dX1_placeOf_3 : decode cX1_placeOf 3 = .ok (.iload 4, 2) := by decide +kernel
theorem dX1_placeOf_5 : decode cX1_placeOf 5 = .ok (.aload_n 0, 1) := by decide +kernel
theorem dX1_placeOf_6 : decode cX1_placeOf 6 = .ok (.getfield 21, 3) := by decide +kernel
theorem dX1_placeOf_9 : decode cX1_placeOf 9 = .ok (.if_icmp .ge 45, 3) := by decide +kernel
theorem dX1_placeOf_12 : decode cX1_placeOf 12 = .ok (.aload_n 0, 1) := by decide +kernel
theorem dX1_placeOf_13 : decode cX1_placeOf 13 = .ok (.getfield 9, 3) := by decide +kernel
theorem dX1_placeOf_16 : decode cX1_placeOf 16 = .ok (.iload 4, 2) := by decide +kernel
theorem dX1_placeOf_18 : decode cX1_placeOf 18 = .ok (.iaload, 1) := by decide +kernel
theorem dX1_placeOf_19 : decode cX1_placeOf 19 = .ok (.iload_n 1, 1) := by decide +kernel
theorem dX1_placeOf_20 : decode cX1_placeOf 20 = .ok (.if_icmp .ne 28, 3) := by decide +kernel
theorem dX1_placeOf_23 : decode cX1_placeOf 23 = .ok (.aload_n 0, 1) := by decide +kernel
theorem dX1_placeOf_24 : decode cX1_placeOf 24 = .ok (.getfield 15, 3) := by decide +kernel
theorem dX1_placeOf_27 : decode cX1_placeOf 27 = .ok (.iload 4, 2) := by decide +kernel
theorem dX1_placeOf_29 : decode cX1_placeOf 29 = .ok (.iaload, 1) := by decide +kernel
theorem dX1_placeOf_30 : decode cX1_placeOf 30 = .ok (.iload_n 2, 1) := by decide +kernel
theorem dX1_placeOf_31 : decode cX1_placeOf 31 = .ok (.if_icmp .ne 17, 3) := by decide +kernel
theorem dX1_placeOf_34 : decode cX1_placeOf 34 = .ok (.aload_n 0, 1) := by decide +kernel
theorem dX1_placeOf_35 : decode cX1_placeOf 35 = .ok (.getfield 18, 3) := by decide +kernel
theorem dX1_placeOf_38 : decode cX1_placeOf 38 = .ok (.iload 4, 2) := by decide +kernel
theorem dX1_placeOf_40 : decode cX1_placeOf 40 = .ok (.iaload, 1) := by decide +kernel
theorem dX1_placeOf_41 : decode cX1_placeOf 41 = .ok (.iload_n 3, 1) := by decide +kernel
theorem dX1_placeOf_42 : decode cX1_placeOf 42 = .ok (.if_icmp .ne 6, 3) := by decide +kernel
theorem dX1_placeOf_45 : decode cX1_placeOf 45 = .ok (.iload 4, 2) := by decide +kernel
theorem dX1_placeOf_47 : decode cX1_placeOf 47 = .ok (.ireturn, 1) := by decide +kernel
theorem dX1_placeOf_48 : decode cX1_placeOf 48 = .ok (.iinc 4 1, 3) := by decide +kernel
theorem dX1_placeOf_51 : decode cX1_placeOf 51 = .ok (.goto (-48), 3) := by decide +kernel
theorem dX1_placeOf_54 : decode cX1_placeOf 54 = .ok (.iconst (-1), 1) := by decide +kernel
theorem dX1_placeOf_55 : decode cX1_placeOf 55 = .ok (.ireturn, 1) := by decide +kernel
theorem dX1_append_0 : decode cX1_append 0 = .ok (.aload_n 0, 1) := by decide +kernel
theorem dX1_append_1 : decode cX1_append 1 = .ok (.getfield 9, 3) := by decide +kernel
theorem dX1_append_4 : decode cX1_append 4 = .ok (.aload_n 0, 1) := by decide +kernel
theorem dX1_append_5 : decode cX1_append 5 = .ok (.getfield 21, 3) := by decide +kernel
theorem dX1_append_8 : decode cX1_append 8 = .ok (.iload_n 1, 1) := by decide +kernel
theorem dX1_append_9 : decode cX1_append 9 = .ok (.iastore, 1) := by decide +kernel
theorem dX1_append_10 : decode cX1_append 10 = .ok (.aload_n 0, 1) := by decide +kernel
theorem dX1_append_11 : decode cX1_append 11 = .ok (.getfield 15, 3) := by decide +kernel
theorem dX1_append_14 : decode cX1_append 14 = .ok (.aload_n 0, 1) := by decide +kernel
theorem dX1_append_15 : decode cX1_append 15 = .ok (.getfield 21, 3) := by decide +kernel
theorem dX1_append_18 : decode cX1_append 18 = .ok (.iload_n 2, 1) := by decide +kernel
theorem dX1_append_19 : decode cX1_append 19 = .ok (.iastore, 1) := by decide +kernel
theorem dX1_append_20 : decode cX1_append 20 = .ok (.aload_n 0, 1) := by decide +kernel
theorem dX1_append_21 : decode cX1_append 21 = .ok (.getfield 18, 3) := by decide +kernel
theorem dX1_append_24 : decode cX1_append 24 = .ok (.aload_n 0, 1) := by decide +kernel
theorem dX1_append_25 : decode cX1_append 25 = .ok (.getfield 21, 3) := by decide +kernel
theorem dX1_append_28 : decode cX1_append 28 = .ok (.iload_n 3, 1) := by decide +kernel
theorem dX1_append_29 : decode cX1_append 29 = .ok (.iastore, 1) := by decide +kernel
theorem dX1_append_30 : decode cX1_append 30 = .ok (.aload_n 0, 1) := by decide +kernel
theorem dX1_append_31 : decode cX1_append 31 = .ok (.dup, 1) := by decide +kernel
theorem dX1_append_32 : decode cX1_append 32 = .ok (.getfield 21, 3) := by decide +kernel
theorem dX1_append_35 : decode cX1_append 35 = .ok (.iconst 1, 1) := by decide +kernel
theorem dX1_append_36 : decode cX1_append 36 = .ok (.iadd, 1) := by decide +kernel
theorem dX1_append_37 : decode cX1_append 37 = .ok (.putfield 21, 3) := by decide +kernel
theorem dX1_append_40 : decode cX1_append 40 = .ok (.return_, 1) := by decide +kernel
theorem dX1_dropAt_0 : decode cX1_dropAt 0 = .ok (.iload_n 1, 1) := by decide +kernel
theorem dX1_dropAt_1 : decode cX1_dropAt 1 = .ok (.istore_n 2, 1) := by decide +kernel
theorem dX1_dropAt_2 : decode cX1_dropAt 2 = .ok (.iload_n 2, 1) := by decide +kernel
theorem dX1_dropAt_3 : decode cX1_dropAt 3 = .ok (.iconst 1, 1) := by decide +kernel
theorem dX1_dropAt_4 : decode cX1_dropAt 4 = .ok (.iadd, 1) := by decide +kernel
theorem dX1_dropAt_5 : decode cX1_dropAt 5 = .ok (.aload_n 0, 1) := by decide +kernel
theorem dX1_dropAt_6 : decode cX1_dropAt 6 = .ok (.getfield 21, 3) := by decide +kernel
theorem dX1_dropAt_9 : decode cX1_dropAt 9 = .ok (.if_icmp .ge 51, 3) := by decide +kernel
theorem dX1_dropAt_12 : decode cX1_dropAt 12 = .ok (.aload_n 0, 1) := by decide +kernel
theorem dX1_dropAt_13 : decode cX1_dropAt 13 = .ok (.getfield 9, 3) := by decide +kernel
theorem dX1_dropAt_16 : decode cX1_dropAt 16 = .ok (.iload_n 2, 1) := by decide +kernel
theorem dX1_dropAt_17 : decode cX1_dropAt 17 = .ok (.aload_n 0, 1) := by decide +kernel
theorem dX1_dropAt_18 : decode cX1_dropAt 18 = .ok (.getfield 9, 3) := by decide +kernel
theorem dX1_dropAt_21 : decode cX1_dropAt 21 = .ok (.iload_n 2, 1) := by decide +kernel
theorem dX1_dropAt_22 : decode cX1_dropAt 22 = .ok (.iconst 1, 1) := by decide +kernel
theorem dX1_dropAt_23 : decode cX1_dropAt 23 = .ok (.iadd, 1) := by decide +kernel
theorem dX1_dropAt_24 : decode cX1_dropAt 24 = .ok (.iaload, 1) := by decide +kernel
theorem dX1_dropAt_25 : decode cX1_dropAt 25 = .ok (.iastore, 1) := by decide +kernel
theorem dX1_dropAt_26 : decode cX1_dropAt 26 = .ok (.aload_n 0, 1) := by decide +kernel
theorem dX1_dropAt_27 : decode cX1_dropAt 27 = .ok (.getfield 15, 3) := by decide +kernel
theorem dX1_dropAt_30 : decode cX1_dropAt 30 = .ok (.iload_n 2, 1) := by decide +kernel
theorem dX1_dropAt_31 : decode cX1_dropAt 31 = .ok (.aload_n 0, 1) := by decide +kernel
theorem dX1_dropAt_32 : decode cX1_dropAt 32 = .ok (.getfield 15, 3) := by decide +kernel
theorem dX1_dropAt_35 : decode cX1_dropAt 35 = .ok (.iload_n 2, 1) := by decide +kernel
theorem dX1_dropAt_36 : decode cX1_dropAt 36 = .ok (.iconst 1, 1) := by decide +kernel
theorem dX1_dropAt_37 : decode cX1_dropAt 37 = .ok (.iadd, 1) := by decide +kernel
theorem dX1_dropAt_38 : decode cX1_dropAt 38 = .ok (.iaload, 1) := by decide +kernel
theorem dX1_dropAt_39 : decode cX1_dropAt 39 = .ok (.iastore, 1) := by decide +kernel
theorem dX1_dropAt_40 : decode cX1_dropAt 40 = .ok (.aload_n 0, 1) := by decide +kernel
theorem dX1_dropAt_41 : decode cX1_dropAt 41 = .ok (.getfield 18, 3) := by decide +kernel
theorem dX1_dropAt_44 : decode cX1_dropAt 44 = .ok (.iload_n 2, 1) := by decide +kernel
theorem dX1_dropAt_45 : decode cX1_dropAt 45 = .ok (.aload_n 0, 1) := by decide +kernel
theorem dX1_dropAt_46 : decode cX1_dropAt 46 = .ok (.getfield 18, 3) := by decide +kernel
theorem dX1_dropAt_49 : decode cX1_dropAt 49 = .ok (.iload_n 2, 1) := by decide +kernel
theorem dX1_dropAt_50 : decode cX1_dropAt 50 = .ok (.iconst 1, 1) := by decide +kernel
theorem dX1_dropAt_51 : decode cX1_dropAt 51 = .ok (.iadd, 1) := by decide +kernel
theorem dX1_dropAt_52 : decode cX1_dropAt 52 = .ok (.iaload, 1) := by decide +kernel
theorem dX1_dropAt_53 : decode cX1_dropAt 53 = .ok (.iastore, 1) := by decide +kernel
theorem dX1_dropAt_54 : decode cX1_dropAt 54 = .ok (.iinc 2 1, 3) := by decide +kernel
theorem dX1_dropAt_57 : decode cX1_dropAt 57 = .ok (.goto (-55), 3) := by decide +kernel
theorem dX1_dropAt_60 : decode cX1_dropAt 60 = .ok (.aload_n 0, 1) := by decide +kernel
theorem dX1_dropAt_61 : decode cX1_dropAt 61 = .ok (.dup, 1) := by decide +kernel
theorem dX1_dropAt_62 : decode cX1_dropAt 62 = .ok (.getfield 21, 3) := by decide +kernel
theorem dX1_dropAt_65 : decode cX1_dropAt 65 = .ok (.iconst 1, 1) := by decide +kernel
theorem dX1_dropAt_66 : decode cX1_dropAt 66 = .ok (.isub, 1) := by decide +kernel
theorem dX1_dropAt_67 : decode cX1_dropAt 67 = .ok (.putfield 21, 3) := by decide +kernel
theorem dX1_dropAt_70 : decode cX1_dropAt 70 = .ok (.return_, 1) := by decide +kernel
set_option maxRecDepth 20000 in
theorem ggX1_appendTo_X3_addNew : GoodIn wsX1_appendTo wsX3_addNew := goodIn_r _ [9, 10, 11, 12, 13, 14, 15, 16, 17, 18, 19, 20, 21, 22, 8, 23, 24, 29, 30, 31, 32, 33, 34, 35, 36, 37, 38, 39, 40] (by decide +kernel) (by decide +kernel)
set_option maxRecDepth 20000 in
theorem gX1_appendTo_X3_addNew : GoodIn wsX1_appendTo (wsV RX1 25 RX3 yX3_addNew wsX3_addNew) := goodIn_app (goodIn_of _ (by decide +kernel)) ggX1_appendTo_X3_addNew
theorem dX1_appendTo_0 : decode cX1_appendTo 0 = .ok (.iconst 0, 1) := by decide +kernel
theorem dX1_appendTo_1 : decode cX1_appendTo 1 = .ok (.istore_n 2, 1) := by decide +kernel
theorem dX1_appendTo_2 : decode cX1_appendTo 2 = .ok (.iload_n 2, 1) := by decide +kernel
theorem dX1_appendTo_3 : decode cX1_appendTo 3 = .ok (.aload_n 0, 1) := by decide +kernel
theorem dX1_appendTo_4 : decode cX1_appendTo 4 = .ok (.getfield 21, 3) := by decide +kernel
theorem dX1_appendTo_7 : decode cX1_appendTo 7 = .ok (.if_icmp .ge 35, 3) := by decide +kernel
theorem dX1_appendTo_10 : decode cX1_appendTo 10 = .ok (.aload_n 1, 1) := by decide +kernel
theorem dX1_appendTo_11 : decode cX1_appendTo 11 = .ok (.aload_n 0, 1) := by decide +kernel
theorem dX1_appendTo_12 : decode cX1_appendTo 12 = .ok (.getfield 9, 3) := by decide +kernel
theorem dX1_appendTo_15 : decode cX1_appendTo 15 = .ok (.iload_n 2, 1) := by decide +kernel
theorem dX1_appendTo_16 : decode cX1_appendTo 16 = .ok (.iaload, 1) := by decide +kernel
theorem dX1_appendTo_17 : decode cX1_appendTo 17 = .ok (.aload_n 0, 1) := by decide +kernel
theorem dX1_appendTo_18 : decode cX1_appendTo 18 = .ok (.getfield 15, 3) := by decide +kernel
theorem dX1_appendTo_21 : decode cX1_appendTo 21 = .ok (.iload_n 2, 1) := by decide +kernel
theorem dX1_appendTo_22 : decode cX1_appendTo 22 = .ok (.iaload, 1) := by decide +kernel
theorem dX1_appendTo_23 : decode cX1_appendTo 23 = .ok (.aload_n 0, 1) := by decide +kernel
theorem dX1_appendTo_24 : decode cX1_appendTo 24 = .ok (.getfield 18, 3) := by decide +kernel
theorem dX1_appendTo_27 : decode cX1_appendTo 27 = .ok (.iload_n 2, 1) := by decide +kernel
theorem dX1_appendTo_28 : decode cX1_appendTo 28 = .ok (.iaload, 1) := by decide +kernel
theorem dX1_appendTo_29 : decode cX1_appendTo 29 = .ok (.iconst (-1), 1) := by decide +kernel
theorem dX1_appendTo_30 : decode cX1_appendTo 30 = .ok (.iconst (-1), 1) := by decide +kernel
theorem dX1_appendTo_31 : decode cX1_appendTo 31 = .ok (.iconst (-1), 1) := by decide +kernel
theorem dX1_appendTo_32 : decode cX1_appendTo 32 = .ok (.iconst 0, 1) := by decide +kernel
theorem dX1_appendTo_33 : decode cX1_appendTo 33 = .ok (.invokevirtual 25, 3) := by decide +kernel
theorem dX1_appendTo_36 : decode cX1_appendTo 36 = .ok (.iinc 2 1, 3) := by decide +kernel
theorem dX1_appendTo_39 : decode cX1_appendTo 39 = .ok (.goto (-37), 3) := by decide +kernel
theorem dX1_appendTo_42 : decode cX1_appendTo 42 = .ok (.return_, 1) := by decide +kernel
theorem dX2_init_0 : decode cX2_init 0 = .ok (.aload_n 0, 1) := by decide +kernel
theorem dX2_init_1 : decode cX2_init 1 = .ok (.invokespecial 3, 3) := by decide +kernel
theorem dX2_init_4 : decode cX2_init 4 = .ok (.aload_n 0, 1) := by decide +kernel
theorem dX2_init_5 : decode cX2_init 5 = .ok (.iconst 0, 1) := by decide +kernel
theorem dX2_init_6 : decode cX2_init 6 = .ok (.putfield 9, 3) := by decide +kernel
theorem dX2_init_9 : decode cX2_init 9 = .ok (.aload_n 0, 1) := by decide +kernel
theorem dX2_init_10 : decode cX2_init 10 = .ok (.iconst 0, 1) := by decide +kernel
theorem dX2_init_11 : decode cX2_init 11 = .ok (.putfield 15, 3) := by decide +kernel
theorem dX2_init_14 : decode cX2_init 14 = .ok (.aload_n 0, 1) := by decide +kernel
theorem dX2_init_15 : decode cX2_init 15 = .ok (.iconst 0, 1) := by decide +kernel
theorem dX2_init_16 : decode cX2_init 16 = .ok (.putfield 18, 3) := by decide +kernel
theorem dX2_init_19 : decode cX2_init 19 = .ok (.aload_n 0, 1) := by decide +kernel
theorem dX2_init_20 : decode cX2_init 20 = .ok (.iconst 0, 1) := by decide +kernel
theorem dX2_init_21 : decode cX2_init 21 = .ok (.putfield 21, 3) := by decide +kernel
theorem dX2_init_24 : decode cX2_init 24 = .ok (.aload_n 0, 1) := by decide +kernel
theorem dX2_init_25 : decode cX2_init 25 = .ok (.iconst (-1), 1) := by decide +kernel
theorem dX2_init_26 : decode cX2_init 26 = .ok (.putfield 24, 3) := by decide +kernel
theorem dX2_init_29 : decode cX2_init 29 = .ok (.aload_n 0, 1) := by decide +kernel
theorem dX2_init_30 : decode cX2_init 30 = .ok (.iconst (-1), 1) := by decide +kernel
theorem dX2_init_31 : decode cX2_init 31 = .ok (.putfield 27, 3) := by decide +kernel
theorem dX2_init_34 : decode cX2_init 34 = .ok (.aload_n 0, 1) := by decide +kernel
theorem dX2_init_35 : decode cX2_init 35 = .ok (.aload_n 1, 1) := by decide +kernel
theorem dX2_init_36 : decode cX2_init 36 = .ok (.putfield 30, 3) := by decide +kernel
theorem dX2_init_39 : decode cX2_init 39 = .ok (.aload_n 0, 1) := by decide +kernel
theorem dX2_init_40 : decode cX2_init 40 = .ok (.aload_n 2, 1) := by decide +kernel
theorem dX2_init_41 : decode cX2_init 41 = .ok (.putfield 34, 3) := by decide +kernel
theorem dX2_init_44 : decode cX2_init 44 = .ok (.return_, 1) := by decide +kernel
set_option maxRecDepth 20000 in
theorem ggX2_close_X3_size : GoodIn wsX2_close wsX3_size := goodIn_r _ [10, 11, 89, 90, 91, 92, 93, 94, 95, 96, 97, 98, 99, 100] (by decide +kernel) (by decide +kernel)
set_option maxRecDepth 20000 in
theorem gX2_close_X3_size : GoodIn wsX2_close (wsV RX2 38 RX3 yX3_size wsX3_size) := goodIn_app (goodIn_of _ (by decide +kernel)) ggX2_close_X3_size
set_option maxRecDepth 20000 in
theorem ggX2_close_X3_isOverfull : GoodIn wsX2_close wsX3_isOverfull := goodIn_r _ [15, 16, 89, 90, 91, 92, 93, 94, 95, 96, 97, 98, 99, 100] (by decide +kernel) (by decide +kernel)
set_option maxRecDepth 20000 in
theorem gX2_close_X3_isOverfull : GoodIn wsX2_close (wsV RX2 44 RX3 yX3_isOverfull wsX3_isOverfull) := goodIn_app (goodIn_of _ (by decide +kernel)) ggX2_close_X3_isOverfull
set_option maxRecDepth 20000 in
theorem ggX2_close_X2_firstProperty : GoodIn wsX2_close wsX2_firstProperty := goodIn_r _ [21, 5, 81, 82, 83, 84, 85, 86, 87, 88] (by decide +kernel) (by decide +kernel)
set_option maxRecDepth 20000 in
theorem gX2_close_X2_firstProperty : GoodIn wsX2_close (wsV RX2 48 RX2 yX2_firstProperty wsX2_firstProperty) := goodIn_app (goodIn_of _ (by decide +kernel)) ggX2_close_X2_firstProperty
set_option maxRecDepth 20000 in
theorem ggX2_close_X2_applyToSingles : GoodIn wsX2_close wsX2_applyToSingles := goodIn_r _ [25, 26, 2, 4, 27, 1, 28, 29, 30, 31, 32, 33, 20, 34, 5, 35, 36, 37, 38, 39, 40, 41, 42, 43, 44, 45, 46, 47, 48, 49, 50, 51, 3, 52, 53, 54, 9, 55, 56, 11, 16, 57, 58, 59, 60, 61, 62, 63, 64, 65, 66, 67, 68, 81, 82, 83, 84, 85, 86, 87, 88, 89, 90, 91, 92, 93, 94, 95, 96, 97, 98, 99, 100, 101, 102] (by decide +kernel) (by decide +kernel)
set_option maxRecDepth 20000 in
theorem gX2_close_X2_applyToSingles : GoodIn wsX2_close (wsV RX2 51 RX2 yX2_applyToSingles wsX2_applyToSingles) := goodIn_app (goodIn_of _ (by decide +kernel)) ggX2_close_X2_applyToSingles
set_option maxRecDepth 20000 in
theorem ggX2_close_X2_applyToPairs : GoodIn wsX2_close wsX2_applyToPairs := goodIn_r _ [72, 4, 1, 29, 27, 28, 30, 5, 2, 26, 17, 18, 19, 20, 21, 73, 74, 75, 76, 77, 78, 79, 80, 35, 48, 49, 50, 51, 3, 52, 53, 54, 9, 55, 56, 11, 16, 57, 58, 59, 60, 61, 62, 63, 64, 65, 66, 67, 68, 36, 37, 38, 39, 40, 41, 81, 82, 83, 84, 85, 86, 87, 88, 89, 90, 91, 92, 93, 94, 95, 96, 97, 98, 99, 100, 101, 102] (by decide +kernel) (by decide +kernel)
set_option maxRecDepth 20000 in
theorem gX2_close_X2_applyToPairs : GoodIn wsX2_close (wsV RX2 54 RX2 yX2_applyToPairs wsX2_applyToPairs) := goodIn_app (goodIn_of _ (by decide +kernel)) ggX2_close_X2_applyToPairs
theorem dX2_close_0 : decode cX2_close 0 = .ok (.aload_n 0, 1) := by decide +kernel
theorem dX2_close_1 : decode cX2_close 1 = .ok (.aload_n 1, 1) := by decide +kernel
theorem dX2_close_2 : decode cX2_close 2 = .ok (.putfield 34, 3) := by decide +kernel
theorem dX2_close_5 : decode cX2_close 5 = .ok (.aload_n 0, 1) := by decide +kernel
theorem dX2_close_6 : decode cX2_close 6 = .ok (.iconst 0, 1) := by decide +kernel
theorem dX2_close_7 : decode cX2_close 7 = .ok (.putfield 9, 3) := by decide +kernel
theorem dX2_close_10 : decode cX2_close 10 = .ok (.iconst 0, 1) := by decide +kernel
theorem dX2_close_11 : decode cX2_close 11 = .ok (.istore_n 2, 1) := by decide +kernel
theorem dX2_close_12 : decode cX2_close 12 = .ok (.iload_n 2, 1) := by decide +kernel
theorem dX2_close_13 : decode cX2_close 13 = .ok (.sipush 600, 3) := by decide +kernel
theorem dX2_close_16 : decode cX2_close 16 = .ok (.if_icmp .gt 111, 3) := by decide +kernel
theorem dX2_close_19 : decode cX2_close 19 = .ok (.aload_n 0, 1) := by decide +kernel
theorem dX2_close_20 : decode cX2_close 20 = .ok (.iload_n 2, 1) := by decide +kernel
theorem dX2_close_21 : decode cX2_close 21 = .ok (.iconst 1, 1) := by decide +kernel
theorem dX2_close_22 : decode cX2_close 22 = .ok (.iadd, 1) := by decide +kernel
theorem dX2_close_23 : decode cX2_close 23 = .ok (.putfield 18, 3) := by decide +kernel
theorem dX2_close_26 : decode cX2_close 26 = .ok (.aload_n 0, 1) := by decide +kernel
theorem dX2_close_27 : decode cX2_close 27 = .ok (.aload_n 0, 1) := by decide +kernel
theorem dX2_close_28 : decode cX2_close 28 = .ok (.getfield 34, 3) := by decide +kernel
theorem dX2_close_31 : decode cX2_close 31 = .ok (.invokevirtual 38, 3) := by decide +kernel
theorem dX2_close_34 : decode cX2_close 34 = .ok (.putfield 15, 3) := by decide +kernel
theorem dX2_close_37 : decode cX2_close 37 = .ok (.iconst 0, 1) := by decide +kernel
theorem dX2_close_38 : decode cX2_close 38 = .ok (.istore_n 3, 1) := by decide +kernel
theorem dX2_close_39 : decode cX2_close 39 = .ok (.iload_n 3, 1) := by decide +kernel
theorem dX2_close_40 : decode cX2_close 40 = .ok (.bipush 14, 2) := by decide +kernel
theorem dX2_close_42 : decode cX2_close 42 = .ok (.if_icmp .ge 43, 3) := by decide +kernel
theorem dX2_close_45 : decode cX2_close 45 = .ok (.aload_n 0, 1) := by decide +kernel
theorem dX2_close_46 : decode cX2_close 46 = .ok (.getfield 34, 3) := by decide +kernel
theorem dX2_close_49 : decode cX2_close 49 = .ok (.invokevirtual 44, 3) := by decide +kernel
theorem dX2_close_52 : decode cX2_close 52 = .ok (.ifCond .ne 33, 3) := by decide +kernel
theorem dX2_close_55 : decode cX2_close 55 = .ok (.aload_n 0, 1) := by decide +kernel
theorem dX2_close_56 : decode cX2_close 56 = .ok (.iload_n 3, 1) := by decide +kernel
theorem dX2_close_57 : decode cX2_close 57 = .ok (.putfield 21, 3) := by decide +kernel
theorem dX2_close_60 : decode cX2_close 60 = .ok (.aload_n 0, 1) := by decide +kernel
theorem dX2_close_61 : decode cX2_close 61 = .ok (.invokevirtual 48, 3) := by decide +kernel
theorem dX2_close_64 : decode cX2_close 64 = .ok (.iconst (-1), 1) := by decide +kernel
theorem dX2_close_65 : decode cX2_close 65 = .ok (.if_icmp .ne 10, 3) := by decide +kernel
theorem dX2_close_68 : decode cX2_close 68 = .ok (.aload_n 0, 1) := by decide +kernel
theorem dX2_close_69 : decode cX2_close 69 = .ok (.invokevirtual 51, 3) := by decide +kernel
theorem dX2_close_72 : decode cX2_close 72 = .ok (.goto 7, 3) := by decide +kernel
theorem dX2_close_75 : decode cX2_close 75 = .ok (.aload_n 0, 1) := by decide +kernel
theorem dX2_close_76 : decode cX2_close 76 = .ok (.invokevirtual 54, 3) := by decide +kernel
theorem dX2_close_79 : decode cX2_close 79 = .ok (.iinc 3 1, 3) := by decide +kernel
theorem dX2_close_82 : decode cX2_close 82 = .ok (.goto (-43), 3) := by decide +kernel
theorem dX2_close_85 : decode cX2_close 85 = .ok (.aload_n 0, 1) := by decide +kernel
theorem dX2_close_86 : decode cX2_close 86 = .ok (.getfield 34, 3) := by decide +kernel
theorem dX2_close_89 : decode cX2_close 89 = .ok (.invokevirtual 44, 3) := by decide +kernel
theorem dX2_close_92 : decode cX2_close 92 = .ok (.ifCond .eq 5, 3) := by decide +kernel
theorem dX2_close_95 : decode cX2_close 95 = .ok (.iconst (-1), 1) := by decide +kernel
theorem dX2_close_96 : decode cX2_close 96 = .ok (.ireturn, 1) := by decide +kernel
theorem dX2_close_97 : decode cX2_close 97 = .ok (.aload_n 0, 1) := by decide +kernel
theorem dX2_close_98 : decode cX2_close 98 = .ok (.getfield 34, 3) := by decide +kernel
theorem dX2_close_101 : decode cX2_close 101 = .ok (.invokevirtual 38, 3) := by decide +kernel
theorem dX2_close_104 : decode cX2_close 104 = .ok (.aload_n 0, 1) := by decide +kernel
theorem dX2_close_105 : decode cX2_close 105 = .ok (.getfield 15, 3) := by decide +kernel
theorem dX2_close_108 : decode cX2_close 108 = .ok (.if_icmp .ne 5, 3) := by decide +kernel
theorem dX2_close_111 : decode cX2_close 111 = .ok (.iload_n 2, 1) := by decide +kernel
theorem dX2_close_112 : decode cX2_close 112 = .ok (.ireturn, 1) := by decide +kernel
theorem dX2_close_113 : decode cX2_close 113 = .ok (.aload_n 0, 1) := by decide +kernel
theorem dX2_close_114 : decode cX2_close 114 = .ok (.aload_n 0, 1) := by decide +kernel
theorem dX2_close_115 : decode cX2_close 115 = .ok (.getfield 15, 3) := by decide +kernel
theorem dX2_close_118 : decode cX2_close 118 = .ok (.putfield 9, 3) := by decide +kernel
theorem dX2_close_121 : decode cX2_close 121 = .ok (.iinc 2 1, 3) := by decide +kernel
theorem dX2_close_124 : decode cX2_close 124 = .ok (.goto (-112), 3) := by decide +kernel
theorem dX2_close_127 : decode cX2_close 127 = .ok (.iconst (-1), 1) := by decide +kernel
theorem dX2_close_128 : decode cX2_close 128 = .ok (.ireturn, 1) := by decide +kernel
theorem dX2_firstProperty_0 : decode cX2_firstProperty 0 = .ok (.aload_n 0, 1) := by decide +kernel
theorem dX2_firstProperty_1 : decode cX2_firstProperty 1 = .ok (.getfield 21, 3) := by decide +kernel
theorem dX2_firstProperty_4 : decode cX2_firstProperty 4 = .ok (.tableswitch 66 2 11 #[56, 59, 66, 62, 66, 62, 66, 64, 66, 64], 56) := by decide +kernel
theorem dX2_firstProperty_60 : decode cX2_firstProperty 60 = .ok (.bipush 6, 2) := by decide +kernel
theorem dX2_firstProperty_62 : decode cX2_firstProperty 62 = .ok (.ireturn, 1) := by decide +kernel
theorem dX2_firstProperty_63 : decode cX2_firstProperty 63 = .ok (.bipush 7, 2) := by decide +kernel
theorem dX2_firstProperty_65 : decode cX2_firstProperty 65 = .ok (.ireturn, 1) := by decide +kernel
theorem dX2_firstProperty_66 : decode cX2_firstProperty 66 = .ok (.iconst 5, 1) := by decide +kernel
theorem dX2_firstProperty_67 : decode cX2_firstProperty 67 = .ok (.ireturn, 1) := by decide +kernel
theorem dX2_firstProperty_68 : decode cX2_firstProperty 68 = .ok (.iconst 4, 1) := by decide +kernel
theorem dX2_firstProperty_69 : decode cX2_firstProperty 69 = .ok (.ireturn, 1) := by decide +kernel
theorem dX2_firstProperty_70 : decode cX2_firstProperty 70 = .ok (.iconst (-1), 1) := by decide +kernel
theorem dX2_firstProperty_71 : decode cX2_firstProperty 71 = .ok (.ireturn, 1) := by decide +kernel
theorem dX2_settledParts_0 : decode cX2_settledParts 0 = .ok (.aload_n 0, 1) := by decide +kernel
theorem dX2_settledParts_1 : decode cX2_settledParts 1 = .ok (.getfield 21, 3) := by decide +kernel
theorem dX2_settledParts_4 : decode cX2_settledParts 4 = .ok (.lookupswitch 52 #[(5, 36), (9, 44), (11, 36)], 36) := by decide +kernel
theorem dX2_settledParts_40 : decode cX2_settledParts 40 = .ok (.aload_n 0, 1) := by decide +kernel
theorem dX2_settledParts_41 : decode cX2_settledParts 41 = .ok (.getfield 34, 3) := by decide +kernel
theorem dX2_settledParts_44 : decode cX2_settledParts 44 = .ok (.getfield 57, 3) := by decide +kernel
theorem dX2_settledParts_47 : decode cX2_settledParts 47 = .ok (.areturn, 1) := by decide +kernel
theorem dX2_settledParts_48 : decode cX2_settledParts 48 = .ok (.aload_n 0, 1) := by decide +kernel
theorem dX2_settledParts_49 : decode cX2_settledParts 49 = .ok (.getfield 34, 3) := by decide +kernel
theorem dX2_settledParts_52 : decode cX2_settledParts 52 = .ok (.getfield 61, 3) := by decide +kernel
theorem dX2_settledParts_55 : decode cX2_settledParts 55 = .ok (.areturn, 1) := by decide +kernel
theorem dX2_settledParts_56 : decode cX2_settledParts 56 = .ok (.aload_n 0, 1) := by decide +kernel
theorem dX2_settledParts_57 : decode cX2_settledParts 57 = .ok (.getfield 34, 3) := by decide +kernel
theorem dX2_settledParts_60 : decode cX2_settledParts 60 = .ok (.getfield 64, 3) := by decide +kernel
theorem dX2_settledParts_63 : decode cX2_settledParts 63 = .ok (.areturn, 1) := by decide +kernel
set_option maxRecDepth 20000 in
theorem ggX2_applyToSingles_X2_makeOfOne : GoodIn wsX2_applyToSingles wsX2_makeOfOne := goodIn_r _ [13, 14, 15, 16, 17, 18, 19, 20, 21, 22, 23, 24, 25, 26, 27, 28, 29, 30, 12, 31, 5, 4, 1, 32, 33, 34, 35, 36, 37, 38, 39, 40, 41, 42, 43, 44, 45, 46, 47, 48, 49, 50, 51, 52, 53, 54, 55, 56, 57, 58, 59, 60, 73, 74, 61, 62, 63, 64, 65, 66, 67, 68, 69, 70, 71, 72] (by decide +kernel) (by decide +kernel)
set_option maxRecDepth 20000 in
theorem gX2_applyToSingles_X2_makeOfOne : GoodIn wsX2_applyToSingles (wsV RX2 67 RX2 yX2_makeOfOne wsX2_makeOfOne) := goodIn_app (goodIn_of _ (by decide +kernel)) ggX2_applyToSingles_X2_makeOfOne
theorem dX2_applyToSingles_0 : decode cX2_applyToSingles 0 = .ok (.aload_n 0, 1) := by decide +kernel
theorem dX2_applyToSingles_1 : decode cX2_applyToSingles 1 = .ok (.iconst (-1), 1) := by decide +kernel
theorem dX2_applyToSingles_2 : decode cX2_applyToSingles 2 = .ok (.putfield 27, 3) := by decide +kernel
theorem dX2_applyToSingles_5 : decode cX2_applyToSingles 5 = .ok (.aload_n 0, 1) := by decide +kernel
theorem dX2_applyToSingles_6 : decode cX2_applyToSingles 6 = .ok (.getfield 9, 3) := by decide +kernel
theorem dX2_applyToSingles_9 : decode cX2_applyToSingles 9 = .ok (.istore_n 1, 1) := by decide +kernel
theorem dX2_applyToSingles_10 : decode cX2_applyToSingles 10 = .ok (.iload_n 1, 1) := by decide +kernel
theorem dX2_applyToSingles_11 : decode cX2_applyToSingles 11 = .ok (.aload_n 0, 1) := by decide +kernel
theorem dX2_applyToSingles_12 : decode cX2_applyToSingles 12 = .ok (.getfield 15, 3) := by decide +kernel
theorem dX2_applyToSingles_15 : decode cX2_applyToSingles 15 = .ok (.if_icmp .ge 45, 3) := by decide +kernel
theorem dX2_applyToSingles_18 : decode cX2_applyToSingles 18 = .ok (.aload_n 0, 1) := by decide +kernel
theorem dX2_applyToSingles_19 : decode cX2_applyToSingles 19 = .ok (.iload_n 1, 1) := by decide +kernel
theorem dX2_applyToSingles_20 : decode cX2_applyToSingles 20 = .ok (.putfield 24, 3) := by decide +kernel
theorem dX2_applyToSingles_23 : decode cX2_applyToSingles 23 = .ok (.aload_n 0, 1) := by decide +kernel
theorem dX2_applyToSingles_24 : decode cX2_applyToSingles 24 = .ok (.aload_n 0, 1) := by decide +kernel
theorem dX2_applyToSingles_25 : decode cX2_applyToSingles 25 = .ok (.getfield 34, 3) := by decide +kernel
theorem dX2_applyToSingles_28 : decode cX2_applyToSingles 28 = .ok (.getfield 57, 3) := by decide +kernel
theorem dX2_applyToSingles_31 : decode cX2_applyToSingles 31 = .ok (.iload_n 1, 1) := by decide +kernel
theorem dX2_applyToSingles_32 : decode cX2_applyToSingles 32 = .ok (.iaload, 1) := by decide +kernel
theorem dX2_applyToSingles_33 : decode cX2_applyToSingles 33 = .ok (.aload_n 0, 1) := by decide +kernel
theorem dX2_applyToSingles_34 : decode cX2_applyToSingles 34 = .ok (.getfield 34, 3) := by decide +kernel
theorem dX2_applyToSingles_37 : decode cX2_applyToSingles 37 = .ok (.getfield 64, 3) := by decide +kernel
theorem dX2_applyToSingles_40 : decode cX2_applyToSingles 40 = .ok (.iload_n 1, 1) := by decide +kernel
theorem dX2_applyToSingles_41 : decode cX2_applyToSingles 41 = .ok (.iaload, 1) := by decide +kernel
theorem dX2_applyToSingles_42 : decode cX2_applyToSingles 42 = .ok (.aload_n 0, 1) := by decide +kernel
theorem dX2_applyToSingles_43 : decode cX2_applyToSingles 43 = .ok (.getfield 34, 3) := by decide +kernel
theorem dX2_applyToSingles_46 : decode cX2_applyToSingles 46 = .ok (.getfield 61, 3) := by decide +kernel
theorem dX2_applyToSingles_49 : decode cX2_applyToSingles 49 = .ok (.iload_n 1, 1) := by decide +kernel
theorem dX2_applyToSingles_50 : decode cX2_applyToSingles 50 = .ok (.iaload, 1) := by decide +kernel
theorem dX2_applyToSingles_51 : decode cX2_applyToSingles 51 = .ok (.invokevirtual 67, 3) := by decide +kernel
theorem dX2_applyToSingles_54 : decode cX2_applyToSingles 54 = .ok (.iinc 1 1, 3) := by decide +kernel
theorem dX2_applyToSingles_57 : decode cX2_applyToSingles 57 = .ok (.goto (-47), 3) := by decide +kernel
theorem dX2_applyToSingles_60 : decode cX2_applyToSingles 60 = .ok (.return_, 1) := by decide +kernel
set_option maxRecDepth 20000 in
theorem ggX2_applyToPairs_X2_firstProperty : GoodIn wsX2_applyToPairs wsX2_firstProperty := goodIn_r _ [14, 7, 55, 56, 57, 58, 59, 60, 61, 62] (by decide +kernel) (by decide +kernel)
set_option maxRecDepth 20000 in
theorem gX2_applyToPairs_X2_firstProperty : GoodIn wsX2_applyToPairs (wsV RX2 48 RX2 yX2_firstProperty wsX2_firstProperty) := goodIn_app (goodIn_of _ (by decide +kernel)) ggX2_applyToPairs_X2_firstProperty
set_option maxRecDepth 20000 in
theorem ggX2_applyToPairs_X2_settledParts : GoodIn wsX2_applyToPairs wsX2_settledParts := goodIn_r _ [18, 7, 2, 5, 6, 3, 55, 56, 57, 58, 59, 60, 61, 62, 63, 64, 65, 66, 67, 68, 69, 70, 71, 72, 73, 74] (by decide +kernel) (by decide +kernel)
set_option maxRecDepth 20000 in
theorem gX2_applyToPairs_X2_settledParts : GoodIn wsX2_applyToPairs (wsV RX2 71 RX2 yX2_settledParts wsX2_settledParts) := goodIn_app (goodIn_of _ (by decide +kernel)) ggX2_applyToPairs_X2_settledParts
set_option maxRecDepth 20000 in
theorem ggX2_applyToPairs_X2_makeOfTwo : GoodIn wsX2_applyToPairs wsX2_makeOfTwo := goodIn_r _ [22, 7, 23, 24, 25, 26, 13, 27, 2, 4, 9, 28, 29, 30, 31, 32, 33, 34, 35, 36, 37, 38, 39, 40, 41, 42, 43, 44, 45, 46, 47, 48, 49, 50, 51, 52, 53, 54, 55, 56, 57, 58, 59, 60, 61, 62, 63, 64, 65, 66, 67, 68, 69, 70, 71, 72, 73, 74, 75, 76] (by decide +kernel) (by decide +kernel)
set_option maxRecDepth 20000 in
theorem gX2_applyToPairs_X2_makeOfTwo : GoodIn wsX2_applyToPairs (wsV RX2 75 RX2 yX2_makeOfTwo wsX2_makeOfTwo) := goodIn_app (goodIn_of _ (by decide +kernel)) ggX2_applyToPairs_X2_makeOfTwo
theorem dX2_applyToPairs_0 : decode cX2_applyToPairs 0 = .ok (.aload_n 0, 1) := by decide +kernel
theorem dX2_applyToPairs_1 : decode cX2_applyToPairs 1 = .ok (.invokevirtual 48, 3) := by decide +kernel
theorem dX2_applyToPairs_4 : decode cX2_applyToPairs 4 = .ok (.istore_n 1, 1) := by decide +kernel
theorem dX2_applyToPairs_5 : decode cX2_applyToPairs 5 = .ok (.aload_n 0, 1) := by decide +kernel
theorem dX2_applyToPairs_6 : decode cX2_applyToPairs 6 = .ok (.invokevirtual 71, 3) := by decide +kernel
theorem dX2_applyToPairs_9 : decode cX2_applyToPairs 9 = .ok (.astore_n 2, 1) := by decide +kernel
theorem dX2_applyToPairs_10 : decode cX2_applyToPairs 10 = .ok (.iconst 0, 1) := by decide +kernel
theorem dX2_applyToPairs_11 : decode cX2_applyToPairs 11 = .ok (.istore_n 3, 1) := by decide +kernel
theorem dX2_applyToPairs_12 : decode cX2_applyToPairs 12 = .ok (.iload_n 3, 1) := by decide +kernel
theorem dX2_applyToPairs_13 : decode cX2_applyToPairs 13 = .ok (.aload_n 0, 1) := by decide +kernel
theorem dX2_applyToPairs_14 : decode cX2_applyToPairs 14 = .ok (.getfield 15, 3) := by decide +kernel
theorem dX2_applyToPairs_17 : decode cX2_applyToPairs 17 = .ok (.if_icmp .ge 161, 3) := by decide +kernel
theorem dX2_applyToPairs_20 : decode cX2_applyToPairs 20 = .ok (.aload_n 0, 1) := by decide +kernel
theorem dX2_applyToPairs_21 : decode cX2_applyToPairs 21 = .ok (.getfield 34, 3) := by decide +kernel
theorem dX2_applyToPairs_24 : decode cX2_applyToPairs 24 = .ok (.getfield 64, 3) := by decide +kernel
theorem dX2_applyToPairs_27 : decode cX2_applyToPairs 27 = .ok (.iload_n 3, 1) := by decide +kernel
theorem dX2_applyToPairs_28 : decode cX2_applyToPairs 28 = .ok (.iaload, 1) := by decide +kernel
theorem dX2_applyToPairs_29 : decode cX2_applyToPairs 29 = .ok (.iload_n 1, 1) := by decide +kernel
theorem dX2_applyToPairs_30 : decode cX2_applyToPairs 30 = .ok (.if_icmp .ne 142, 3) := by decide +kernel
theorem dX2_applyToPairs_33 : decode cX2_applyToPairs 33 = .ok (.aload_n 0, 1) := by decide +kernel
theorem dX2_applyToPairs_34 : decode cX2_applyToPairs 34 = .ok (.iload_n 3, 1) := by decide +kernel
theorem dX2_applyToPairs_35 : decode cX2_applyToPairs 35 = .ok (.putfield 24, 3) := by decide +kernel
theorem dX2_applyToPairs_38 : decode cX2_applyToPairs 38 = .ok (.aload_n 0, 1) := by decide +kernel
theorem dX2_applyToPairs_39 : decode cX2_applyToPairs 39 = .ok (.getfield 34, 3) := by decide +kernel
theorem dX2_applyToPairs_42 : decode cX2_applyToPairs 42 = .ok (.getfield 57, 3) := by decide +kernel
theorem dX2_applyToPairs_45 : decode cX2_applyToPairs 45 = .ok (.iload_n 3, 1) := by decide +kernel
theorem dX2_applyToPairs_46 : decode cX2_applyToPairs 46 = .ok (.iaload, 1) := by decide +kernel
theorem dX2_applyToPairs_47 : decode cX2_applyToPairs 47 = .ok (.istore 4, 2) := by decide +kernel
theorem dX2_applyToPairs_49 : decode cX2_applyToPairs 49 = .ok (.aload_n 0, 1) := by decide +kernel
theorem dX2_applyToPairs_50 : decode cX2_applyToPairs 50 = .ok (.getfield 34, 3) := by decide +kernel
theorem dX2_applyToPairs_53 : decode cX2_applyToPairs 53 = .ok (.getfield 61, 3) := by decide +kernel
theorem dX2_applyToPairs_56 : decode cX2_applyToPairs 56 = .ok (.iload_n 3, 1) := by decide +kernel
theorem dX2_applyToPairs_57 : decode cX2_applyToPairs 57 = .ok (.iaload, 1) := by decide +kernel
theorem dX2_applyToPairs_58 : decode cX2_applyToPairs 58 = .ok (.istore 5, 2) := by decide +kernel
theorem dX2_applyToPairs_60 : decode cX2_applyToPairs 60 = .ok (.aload_n 0, 1) := by decide +kernel
theorem dX2_applyToPairs_61 : decode cX2_applyToPairs 61 = .ok (.getfield 21, 3) := by decide +kernel
theorem dX2_applyToPairs_64 : decode cX2_applyToPairs 64 = .ok (.iconst 5, 1) := by decide +kernel
theorem dX2_applyToPairs_65 : decode cX2_applyToPairs 65 = .ok (.if_icmp .eq 12, 3) := by decide +kernel
theorem dX2_applyToPairs_68 : decode cX2_applyToPairs 68 = .ok (.aload_n 0, 1) := by decide +kernel
theorem dX2_applyToPairs_69 : decode cX2_applyToPairs 69 = .ok (.getfield 21, 3) := by decide +kernel
theorem dX2_applyToPairs_72 : decode cX2_applyToPairs 72 = .ok (.bipush 11, 2) := by decide +kernel
theorem dX2_applyToPairs_74 : decode cX2_applyToPairs 74 = .ok (.if_icmp .ne 8, 3) := by decide +kernel
theorem dX2_applyToPairs_77 : decode cX2_applyToPairs 77 = .ok (.iload 5, 2) := by decide +kernel
theorem dX2_applyToPairs_79 : decode cX2_applyToPairs 79 = .ok (.goto 5, 3) := by decide +kernel
theorem dX2_applyToPairs_82 : decode cX2_applyToPairs 82 = .ok (.iload 4, 2) := by decide +kernel
theorem dX2_applyToPairs_84 : decode cX2_applyToPairs 84 = .ok (.istore 6, 2) := by decide +kernel
theorem dX2_applyToPairs_86 : decode cX2_applyToPairs 86 = .ok (.iload_n 3, 1) := by decide +kernel
theorem dX2_applyToPairs_87 : decode cX2_applyToPairs 87 = .ok (.aload_n 0, 1) := by decide +kernel
theorem dX2_applyToPairs_88 : decode cX2_applyToPairs 88 = .ok (.getfield 9, 3) := by decide +kernel
theorem dX2_applyToPairs_91 : decode cX2_applyToPairs 91 = .ok (.if_icmp .ge 10, 3) := by decide +kernel
theorem dX2_applyToPairs_94 : decode cX2_applyToPairs 94 = .ok (.aload_n 0, 1) := by decide +kernel
theorem dX2_applyToPairs_95 : decode cX2_applyToPairs 95 = .ok (.getfield 9, 3) := by decide +kernel
theorem dX2_applyToPairs_98 : decode cX2_applyToPairs 98 = .ok (.goto 4, 3) := by decide +kernel
theorem dX2_applyToPairs_101 : decode cX2_applyToPairs 101 = .ok (.iconst 0, 1) := by decide +kernel
theorem dX2_applyToPairs_102 : decode cX2_applyToPairs 102 = .ok (.istore 7, 2) := by decide +kernel
theorem dX2_applyToPairs_104 : decode cX2_applyToPairs 104 = .ok (.iload 7, 2) := by decide +kernel
theorem dX2_applyToPairs_106 : decode cX2_applyToPairs 106 = .ok (.aload_n 0, 1) := by decide +kernel
theorem dX2_applyToPairs_107 : decode cX2_applyToPairs 107 = .ok (.getfield 15, 3) := by decide +kernel
theorem dX2_applyToPairs_110 : decode cX2_applyToPairs 110 = .ok (.if_icmp .ge 62, 3) := by decide +kernel
theorem dX2_applyToPairs_113 : decode cX2_applyToPairs 113 = .ok (.aload_n 2, 1) := by decide +kernel
theorem dX2_applyToPairs_114 : decode cX2_applyToPairs 114 = .ok (.iload 7, 2) := by decide +kernel
theorem dX2_applyToPairs_116 : decode cX2_applyToPairs 116 = .ok (.iaload, 1) := by decide +kernel
theorem dX2_applyToPairs_117 : decode cX2_applyToPairs 117 = .ok (.iload 6, 2) := by decide +kernel
theorem dX2_applyToPairs_119 : decode cX2_applyToPairs 119 = .ok (.if_icmp .ne 47, 3) := by decide +kernel
theorem dX2_applyToPairs_122 : decode cX2_applyToPairs 122 = .ok (.aload_n 0, 1) := by decide +kernel
theorem dX2_applyToPairs_123 : decode cX2_applyToPairs 123 = .ok (.iload 7, 2) := by decide +kernel
theorem dX2_applyToPairs_125 : decode cX2_applyToPairs 125 = .ok (.putfield 27, 3) := by decide +kernel
theorem dX2_applyToPairs_128 : decode cX2_applyToPairs 128 = .ok (.aload_n 0, 1) := by decide +kernel
theorem dX2_applyToPairs_129 : decode cX2_applyToPairs 129 = .ok (.iload 4, 2) := by decide +kernel
theorem dX2_applyToPairs_131 : decode cX2_applyToPairs 131 = .ok (.iload 5, 2) := by decide +kernel
theorem dX2_applyToPairs_133 : decode cX2_applyToPairs 133 = .ok (.aload_n 0, 1) := by decide +kernel
theorem dX2_applyToPairs_134 : decode cX2_applyToPairs 134 = .ok (.getfield 34, 3) := by decide +kernel
theorem dX2_applyToPairs_137 : decode cX2_applyToPairs 137 = .ok (.getfield 57, 3) := by decide +kernel
theorem dX2_applyToPairs_140 : decode cX2_applyToPairs 140 = .ok (.iload 7, 2) := by decide +kernel
theorem dX2_applyToPairs_142 : decode cX2_applyToPairs 142 = .ok (.iaload, 1) := by decide +kernel
theorem dX2_applyToPairs_143 : decode cX2_applyToPairs 143 = .ok (.aload_n 0, 1) := by decide +kernel
theorem dX2_applyToPairs_144 : decode cX2_applyToPairs 144 = .ok (.getfield 34, 3) := by decide +kernel
theorem dX2_applyToPairs_147 : decode cX2_applyToPairs 147 = .ok (.getfield 64, 3) := by decide +kernel
theorem dX2_applyToPairs_150 : decode cX2_applyToPairs 150 = .ok (.iload 7, 2) := by decide +kernel
theorem dX2_applyToPairs_152 : decode cX2_applyToPairs 152 = .ok (.iaload, 1) := by decide +kernel
theorem dX2_applyToPairs_153 : decode cX2_applyToPairs 153 = .ok (.aload_n 0, 1) := by decide +kernel
theorem dX2_applyToPairs_154 : decode cX2_applyToPairs 154 = .ok (.getfield 34, 3) := by decide +kernel
theorem dX2_applyToPairs_157 : decode cX2_applyToPairs 157 = .ok (.getfield 61, 3) := by decide +kernel
theorem dX2_applyToPairs_160 : decode cX2_applyToPairs 160 = .ok (.iload 7, 2) := by decide +kernel
theorem dX2_applyToPairs_162 : decode cX2_applyToPairs 162 = .ok (.iaload, 1) := by decide +kernel
theorem dX2_applyToPairs_163 : decode cX2_applyToPairs 163 = .ok (.invokevirtual 75, 3) := by decide +kernel
theorem dX2_applyToPairs_166 : decode cX2_applyToPairs 166 = .ok (.iinc 7 1, 3) := by decide +kernel
theorem dX2_applyToPairs_169 : decode cX2_applyToPairs 169 = .ok (.goto (-65), 3) := by decide +kernel
theorem dX2_applyToPairs_172 : decode cX2_applyToPairs 172 = .ok (.iinc 3 1, 3) := by decide +kernel
theorem dX2_applyToPairs_175 : decode cX2_applyToPairs 175 = .ok (.goto (-163), 3) := by decide +kernel
theorem dX2_applyToPairs_178 : decode cX2_applyToPairs 178 = .ok (.return_, 1) := by decide +kernel
set_option maxRecDepth 20000 in
theorem ggX2_makeOfOne_X4_isLiteral : GoodIn wsX2_makeOfOne wsX4_isLiteral := goodIn_r _ [7, 8, 52, 53] (by decide +kernel) (by decide +kernel)
set_option maxRecDepth 20000 in
theorem gX2_makeOfOne_X4_isLiteral : GoodIn wsX2_makeOfOne (wsV RX2 79 RX4 yX4_isLiteral wsX4_isLiteral) := goodIn_app (goodIn_of _ (by decide +kernel)) ggX2_makeOfOne_X4_isLiteral
set_option maxRecDepth 20000 in
theorem ggX2_makeOfOne_X4_typeOf : GoodIn wsX2_makeOfOne wsX4_typeOf := goodIn_r _ [12, 13, 14, 4, 5, 6, 7, 8, 52, 53] (by decide +kernel) (by decide +kernel)
set_option maxRecDepth 20000 in
theorem gX2_makeOfOne_X4_typeOf : GoodIn wsX2_makeOfOne (wsV RX2 85 RX4 yX4_typeOf wsX4_typeOf) := goodIn_app (goodIn_of _ (by decide +kernel)) ggX2_makeOfOne_X4_typeOf
set_option maxRecDepth 20000 in
theorem ggX2_makeOfOne_X2_make : GoodIn wsX2_makeOfOne wsX2_make := goodIn_r _ [19, 20, 1, 21, 22, 23, 24, 25, 26, 27, 28, 29, 30, 31, 32, 33, 34, 35, 36, 37, 38, 39, 40, 41, 42, 43, 44, 45, 46, 47, 48, 49, 50, 51, 54, 55, 56, 57, 58, 59, 60, 61, 62, 63, 64, 65] (by decide +kernel) (by decide +kernel)
set_option maxRecDepth 20000 in
theorem gX2_makeOfOne_X2_make : GoodIn wsX2_makeOfOne (wsV RX2 89 RX2 yX2_make wsX2_make) := goodIn_app (goodIn_of _ (by decide +kernel)) ggX2_makeOfOne_X2_make
theorem dX2_makeOfOne_0 : decode cX2_makeOfOne 0 = .ok (.aload_n 0, 1) := by decide +kernel
theorem dX2_makeOfOne_1 : decode cX2_makeOfOne 1 = .ok (.getfield 21, 3) := by decide +kernel
theorem dX2_makeOfOne_4 : decode cX2_makeOfOne 4 = .ok (.ifCond .ne 31, 3) := by decide +kernel
theorem dX2_makeOfOne_7 : decode cX2_makeOfOne 7 = .ok (.aload_n 0, 1) := by decide +kernel
theorem dX2_makeOfOne_8 : decode cX2_makeOfOne 8 = .ok (.getfield 30, 3) := by decide +kernel
theorem dX2_makeOfOne_11 : decode cX2_makeOfOne 11 = .ok (.iload_n 3, 1) := by decide +kernel
theorem dX2_makeOfOne_12 : decode cX2_makeOfOne 12 = .ok (.invokevirtual 79, 3) := by decide +kernel
theorem dX2_makeOfOne_15 : decode cX2_makeOfOne 15 = .ok (.ifCond .eq 20, 3) := by decide +kernel
theorem dX2_makeOfOne_18 : decode cX2_makeOfOne 18 = .ok (.aload_n 0, 1) := by decide +kernel
theorem dX2_makeOfOne_19 : decode cX2_makeOfOne 19 = .ok (.iload_n 3, 1) := by decide +kernel
theorem dX2_makeOfOne_20 : decode cX2_makeOfOne 20 = .ok (.iconst 0, 1) := by decide +kernel
theorem dX2_makeOfOne_21 : decode cX2_makeOfOne 21 = .ok (.aload_n 0, 1) := by decide +kernel
theorem dX2_makeOfOne_22 : decode cX2_makeOfOne 22 = .ok (.getfield 30, 3) := by decide +kernel
theorem dX2_makeOfOne_25 : decode cX2_makeOfOne 25 = .ok (.iload_n 3, 1) := by decide +kernel
theorem dX2_makeOfOne_26 : decode cX2_makeOfOne 26 = .ok (.invokevirtual 85, 3) := by decide +kernel
theorem dX2_makeOfOne_29 : decode cX2_makeOfOne 29 = .ok (.invokevirtual 89, 3) := by decide +kernel
theorem dX2_makeOfOne_32 : decode cX2_makeOfOne 32 = .ok (.goto 187, 3) := by decide +kernel
theorem dX2_makeOfOne_35 : decode cX2_makeOfOne 35 = .ok (.aload_n 0, 1) := by decide +kernel
theorem dX2_makeOfOne_36 : decode cX2_makeOfOne 36 = .ok (.getfield 21, 3) := by decide +kernel
theorem dX2_makeOfOne_39 : decode cX2_makeOfOne 39 = .ok (.iconst 1, 1) := by decide +kernel
theorem dX2_makeOfOne_40 : decode cX2_makeOfOne 40 = .ok (.if_icmp .ne 13, 3) := by decide +kernel
theorem dX2_makeOfOne_43 : decode cX2_makeOfOne 43 = .ok (.aload_n 0, 1) := by decide +kernel
theorem dX2_makeOfOne_44 : decode cX2_makeOfOne 44 = .ok (.iload_n 2, 1) := by decide +kernel
theorem dX2_makeOfOne_45 : decode cX2_makeOfOne 45 = .ok (.iconst 0, 1) := by decide +kernel
theorem dX2_makeOfOne_46 : decode cX2_makeOfOne 46 = .ok (.iconst 1, 1) := by decide +kernel
theorem dX2_makeOfOne_47 : decode cX2_makeOfOne 47 = .ok (.invokevirtual 89, 3) := by decide +kernel
theorem dX2_makeOfOne_50 : decode cX2_makeOfOne 50 = .ok (.goto 169, 3) := by decide +kernel
theorem dX2_makeOfOne_53 : decode cX2_makeOfOne 53 = .ok (.aload_n 0, 1) := by decide +kernel
theorem dX2_makeOfOne_54 : decode cX2_makeOfOne 54 = .ok (.getfield 21, 3) := by decide +kernel
theorem dX2_makeOfOne_57 : decode cX2_makeOfOne 57 = .ok (.iconst 4, 1) := by decide +kernel
theorem dX2_makeOfOne_58 : decode cX2_makeOfOne 58 = .ok (.if_icmp .ne 20, 3) := by decide +kernel
theorem dX2_makeOfOne_61 : decode cX2_makeOfOne 61 = .ok (.aload_n 0, 1) := by decide +kernel
theorem dX2_makeOfOne_62 : decode cX2_makeOfOne 62 = .ok (.iload_n 1, 1) := by decide +kernel
theorem dX2_makeOfOne_63 : decode cX2_makeOfOne 63 = .ok (.iconst 0, 1) := by decide +kernel
theorem dX2_makeOfOne_64 : decode cX2_makeOfOne 64 = .ok (.iconst 2, 1) := by decide +kernel
theorem dX2_makeOfOne_65 : decode cX2_makeOfOne 65 = .ok (.invokevirtual 89, 3) := by decide +kernel
theorem dX2_makeOfOne_68 : decode cX2_makeOfOne 68 = .ok (.aload_n 0, 1) := by decide +kernel
theorem dX2_makeOfOne_69 : decode cX2_makeOfOne 69 = .ok (.iload_n 3, 1) := by decide +kernel
theorem dX2_makeOfOne_70 : decode cX2_makeOfOne 70 = .ok (.iconst 0, 1) := by decide +kernel
theorem dX2_makeOfOne_71 : decode cX2_makeOfOne 71 = .ok (.iconst 2, 1) := by decide +kernel
theorem dX2_makeOfOne_72 : decode cX2_makeOfOne 72 = .ok (.invokevirtual 89, 3) := by decide +kernel
theorem dX2_makeOfOne_75 : decode cX2_makeOfOne 75 = .ok (.goto 144, 3) := by decide +kernel
theorem dX2_makeOfOne_78 : decode cX2_makeOfOne 78 = .ok (.aload_n 0, 1) := by decide +kernel
theorem dX2_makeOfOne_79 : decode cX2_makeOfOne 79 = .ok (.getfield 21, 3) := by decide +kernel
theorem dX2_makeOfOne_82 : decode cX2_makeOfOne 82 = .ok (.bipush 6, 2) := by decide +kernel
theorem dX2_makeOfOne_84 : decode cX2_makeOfOne 84 = .ok (.if_icmp .ne 22, 3) := by decide +kernel
theorem dX2_makeOfOne_87 : decode cX2_makeOfOne 87 = .ok (.iload_n 2, 1) := by decide +kernel
theorem dX2_makeOfOne_88 : decode cX2_makeOfOne 88 = .ok (.ifCond .ne 18, 3) := by decide +kernel
theorem dX2_makeOfOne_91 : decode cX2_makeOfOne 91 = .ok (.iload_n 3, 1) := by decide +kernel
theorem dX2_makeOfOne_92 : decode cX2_makeOfOne 92 = .ok (.iconst 1, 1) := by decide +kernel
theorem dX2_makeOfOne_93 : decode cX2_makeOfOne 93 = .ok (.if_icmp .ne 13, 3) := by decide +kernel
theorem dX2_makeOfOne_96 : decode cX2_makeOfOne 96 = .ok (.aload_n 0, 1) := by decide +kernel
theorem dX2_makeOfOne_97 : decode cX2_makeOfOne 97 = .ok (.iload_n 1, 1) := by decide +kernel
theorem dX2_makeOfOne_98 : decode cX2_makeOfOne 98 = .ok (.iconst 5, 1) := by decide +kernel
theorem dX2_makeOfOne_99 : decode cX2_makeOfOne 99 = .ok (.iload_n 1, 1) := by decide +kernel
theorem dX2_makeOfOne_100 : decode cX2_makeOfOne 100 = .ok (.invokevirtual 89, 3) := by decide +kernel
theorem dX2_makeOfOne_103 : decode cX2_makeOfOne 103 = .ok (.goto 116, 3) := by decide +kernel
theorem dX2_makeOfOne_106 : decode cX2_makeOfOne 106 = .ok (.aload_n 0, 1) := by decide +kernel
theorem dX2_makeOfOne_107 : decode cX2_makeOfOne 107 = .ok (.getfield 21, 3) := by decide +kernel
theorem dX2_makeOfOne_110 : decode cX2_makeOfOne 110 = .ok (.bipush 8, 2) := by decide +kernel
theorem dX2_makeOfOne_112 : decode cX2_makeOfOne 112 = .ok (.if_icmp .ne 22, 3) := by decide +kernel
theorem dX2_makeOfOne_115 : decode cX2_makeOfOne 115 = .ok (.iload_n 2, 1) := by decide +kernel
theorem dX2_makeOfOne_116 : decode cX2_makeOfOne 116 = .ok (.ifCond .ne 18, 3) := by decide +kernel
theorem dX2_makeOfOne_119 : decode cX2_makeOfOne 119 = .ok (.iload_n 3, 1) := by decide +kernel
theorem dX2_makeOfOne_120 : decode cX2_makeOfOne 120 = .ok (.iconst 3, 1) := by decide +kernel
theorem dX2_makeOfOne_121 : decode cX2_makeOfOne 121 = .ok (.if_icmp .ne 13, 3) := by decide +kernel
theorem dX2_makeOfOne_124 : decode cX2_makeOfOne 124 = .ok (.aload_n 0, 1) := by decide +kernel
theorem dX2_makeOfOne_125 : decode cX2_makeOfOne 125 = .ok (.iload_n 1, 1) := by decide +kernel
theorem dX2_makeOfOne_126 : decode cX2_makeOfOne 126 = .ok (.iconst 4, 1) := by decide +kernel
theorem dX2_makeOfOne_127 : decode cX2_makeOfOne 127 = .ok (.iconst 2, 1) := by decide +kernel
theorem dX2_makeOfOne_128 : decode cX2_makeOfOne 128 = .ok (.invokevirtual 89, 3) := by decide +kernel
theorem dX2_makeOfOne_131 : decode cX2_makeOfOne 131 = .ok (.goto 88, 3) := by decide +kernel
theorem dX2_makeOfOne_134 : decode cX2_makeOfOne 134 = .ok (.aload_n 0, 1) := by decide +kernel
theorem dX2_makeOfOne_135 : decode cX2_makeOfOne 135 = .ok (.getfield 21, 3) := by decide +kernel
theorem dX2_makeOfOne_138 : decode cX2_makeOfOne 138 = .ok (.bipush 10, 2) := by decide +kernel
theorem dX2_makeOfOne_140 : decode cX2_makeOfOne 140 = .ok (.if_icmp .ne 22, 3) := by decide +kernel
theorem dX2_makeOfOne_143 : decode cX2_makeOfOne 143 = .ok (.iload_n 2, 1) := by decide +kernel
theorem dX2_makeOfOne_144 : decode cX2_makeOfOne 144 = .ok (.ifCond .ne 18, 3) := by decide +kernel
theorem dX2_makeOfOne_147 : decode cX2_makeOfOne 147 = .ok (.iload_n 3, 1) := by decide +kernel
theorem dX2_makeOfOne_148 : decode cX2_makeOfOne 148 = .ok (.iconst 3, 1) := by decide +kernel
theorem dX2_makeOfOne_149 : decode cX2_makeOfOne 149 = .ok (.if_icmp .ne 13, 3) := by decide +kernel
theorem dX2_makeOfOne_152 : decode cX2_makeOfOne 152 = .ok (.aload_n 0, 1) := by decide +kernel
theorem dX2_makeOfOne_153 : decode cX2_makeOfOne 153 = .ok (.iload_n 1, 1) := by decide +kernel
theorem dX2_makeOfOne_154 : decode cX2_makeOfOne 154 = .ok (.iconst 4, 1) := by decide +kernel
theorem dX2_makeOfOne_155 : decode cX2_makeOfOne 155 = .ok (.iload_n 1, 1) := by decide +kernel
theorem dX2_makeOfOne_156 : decode cX2_makeOfOne 156 = .ok (.invokevirtual 89, 3) := by decide +kernel
theorem dX2_makeOfOne_159 : decode cX2_makeOfOne 159 = .ok (.goto 60, 3) := by decide +kernel
theorem dX2_makeOfOne_162 : decode cX2_makeOfOne 162 = .ok (.aload_n 0, 1) := by decide +kernel
theorem dX2_makeOfOne_163 : decode cX2_makeOfOne 163 = .ok (.getfield 21, 3) := by decide +kernel
theorem dX2_makeOfOne_166 : decode cX2_makeOfOne 166 = .ok (.bipush 12, 2) := by decide +kernel
theorem dX2_makeOfOne_168 : decode cX2_makeOfOne 168 = .ok (.if_icmp .ne 24, 3) := by decide +kernel
theorem dX2_makeOfOne_171 : decode cX2_makeOfOne 171 = .ok (.iload_n 2, 1) := by decide +kernel
theorem dX2_makeOfOne_172 : decode cX2_makeOfOne 172 = .ok (.ifCond .ne 20, 3) := by decide +kernel
theorem dX2_makeOfOne_175 : decode cX2_makeOfOne 175 = .ok (.iload_n 3, 1) := by decide +kernel
theorem dX2_makeOfOne_176 : decode cX2_makeOfOne 176 = .ok (.bipush 11, 2) := by decide +kernel
theorem dX2_makeOfOne_178 : decode cX2_makeOfOne 178 = .ok (.if_icmp .ne 14, 3) := by decide +kernel
theorem dX2_makeOfOne_181 : decode cX2_makeOfOne 181 = .ok (.aload_n 0, 1) := by decide +kernel
theorem dX2_makeOfOne_182 : decode cX2_makeOfOne 182 = .ok (.iload_n 1, 1) := by decide +kernel
theorem dX2_makeOfOne_183 : decode cX2_makeOfOne 183 = .ok (.iconst 5, 1) := by decide +kernel
theorem dX2_makeOfOne_184 : decode cX2_makeOfOne 184 = .ok (.bipush 10, 2) := by decide +kernel
theorem dX2_makeOfOne_186 : decode cX2_makeOfOne 186 = .ok (.invokevirtual 89, 3) := by decide +kernel
theorem dX2_makeOfOne_189 : decode cX2_makeOfOne 189 = .ok (.goto 30, 3) := by decide +kernel
theorem dX2_makeOfOne_192 : decode cX2_makeOfOne 192 = .ok (.aload_n 0, 1) := by decide +kernel
theorem dX2_makeOfOne_193 : decode cX2_makeOfOne 193 = .ok (.getfield 21, 3) := by decide +kernel
theorem dX2_makeOfOne_196 : decode cX2_makeOfOne 196 = .ok (.bipush 13, 2) := by decide +kernel
theorem dX2_makeOfOne_198 : decode cX2_makeOfOne 198 = .ok (.if_icmp .ne 21, 3) := by decide +kernel
theorem dX2_makeOfOne_201 : decode cX2_makeOfOne 201 = .ok (.iload_n 2, 1) := by decide +kernel
theorem dX2_makeOfOne_202 : decode cX2_makeOfOne 202 = .ok (.ifCond .ne 17, 3) := by decide +kernel
theorem dX2_makeOfOne_205 : decode cX2_makeOfOne 205 = .ok (.iload_n 3, 1) := by decide +kernel
theorem dX2_makeOfOne_206 : decode cX2_makeOfOne 206 = .ok (.bipush 9, 2) := by decide +kernel
theorem dX2_makeOfOne_208 : decode cX2_makeOfOne 208 = .ok (.if_icmp .ne 11, 3) := by decide +kernel
theorem dX2_makeOfOne_211 : decode cX2_makeOfOne 211 = .ok (.aload_n 0, 1) := by decide +kernel
theorem dX2_makeOfOne_212 : decode cX2_makeOfOne 212 = .ok (.iload_n 1, 1) := by decide +kernel
theorem dX2_makeOfOne_213 : decode cX2_makeOfOne 213 = .ok (.iconst 4, 1) := by decide +kernel
theorem dX2_makeOfOne_214 : decode cX2_makeOfOne 214 = .ok (.bipush 8, 2) := by decide +kernel
theorem dX2_makeOfOne_216 : decode cX2_makeOfOne 216 = .ok (.invokevirtual 89, 3) := by decide +kernel
theorem dX2_makeOfOne_219 : decode cX2_makeOfOne 219 = .ok (.return_, 1) := by decide +kernel
set_option maxRecDepth 20000 in
theorem ggX2_makeOfTwo_X2_make : GoodIn wsX2_makeOfTwo wsX2_make := goodIn_r _ [7, 8, 1, 9, 10, 11, 12, 13, 14, 15, 16, 17, 18, 19, 20, 21, 22, 23, 24, 25, 26, 27, 28, 29, 30, 31, 38, 39, 40, 41, 42, 43, 44, 45, 46, 47, 48, 49, 50, 51, 52, 53, 54, 55, 56, 57] (by decide +kernel) (by decide +kernel)
set_option maxRecDepth 20000 in
theorem gX2_makeOfTwo_X2_make : GoodIn wsX2_makeOfTwo (wsV RX2 89 RX2 yX2_make wsX2_make) := goodIn_app (goodIn_of _ (by decide +kernel)) ggX2_makeOfTwo_X2_make
set_option maxRecDepth 20000 in
theorem ggX2_makeOfTwo_X4_isLiteral : GoodIn wsX2_makeOfTwo wsX4_isLiteral := goodIn_r _ [36, 37, 58, 59] (by decide +kernel) (by decide +kernel)
set_option maxRecDepth 20000 in
theorem gX2_makeOfTwo_X4_isLiteral : GoodIn wsX2_makeOfTwo (wsV RX2 79 RX4 yX4_isLiteral wsX4_isLiteral) := goodIn_app (goodIn_of _ (by decide +kernel)) ggX2_makeOfTwo_X4_isLiteral
theorem dX2_makeOfTwo_0 : decode cX2_makeOfTwo 0 = .ok (.aload_n 0, 1) := by decide +kernel
theorem dX2_makeOfTwo_1 : decode cX2_makeOfTwo 1 = .ok (.getfield 21, 3) := by decide +kernel
theorem dX2_makeOfTwo_4 : decode cX2_makeOfTwo 4 = .ok (.iconst 2, 1) := by decide +kernel
theorem dX2_makeOfTwo_5 : decode cX2_makeOfTwo 5 = .ok (.if_icmp .ne 19, 3) := by decide +kernel
theorem dX2_makeOfTwo_8 : decode cX2_makeOfTwo 8 = .ok (.iload 4, 2) := by decide +kernel
theorem dX2_makeOfTwo_10 : decode cX2_makeOfTwo 10 = .ok (.iload_n 1, 1) := by decide +kernel
theorem dX2_makeOfTwo_11 : decode cX2_makeOfTwo 11 = .ok (.if_icmp .ne 13, 3) := by decide +kernel
theorem dX2_makeOfTwo_14 : decode cX2_makeOfTwo 14 = .ok (.aload_n 0, 1) := by decide +kernel
theorem dX2_makeOfTwo_15 : decode cX2_makeOfTwo 15 = .ok (.iload_n 3, 1) := by decide +kernel
theorem dX2_makeOfTwo_16 : decode cX2_makeOfTwo 16 = .ok (.iconst 0, 1) := by decide +kernel
theorem dX2_makeOfTwo_17 : decode cX2_makeOfTwo 17 = .ok (.iload_n 2, 1) := by decide +kernel
theorem dX2_makeOfTwo_18 : decode cX2_makeOfTwo 18 = .ok (.invokevirtual 89, 3) := by decide +kernel
theorem dX2_makeOfTwo_21 : decode cX2_makeOfTwo 21 = .ok (.goto 153, 3) := by decide +kernel
theorem dX2_makeOfTwo_24 : decode cX2_makeOfTwo 24 = .ok (.aload_n 0, 1) := by decide +kernel
theorem dX2_makeOfTwo_25 : decode cX2_makeOfTwo 25 = .ok (.getfield 21, 3) := by decide +kernel
theorem dX2_makeOfTwo_28 : decode cX2_makeOfTwo 28 = .ok (.iconst 3, 1) := by decide +kernel
theorem dX2_makeOfTwo_29 : decode cX2_makeOfTwo 29 = .ok (.if_icmp .ne 20, 3) := by decide +kernel
theorem dX2_makeOfTwo_32 : decode cX2_makeOfTwo 32 = .ok (.iload 4, 2) := by decide +kernel
theorem dX2_makeOfTwo_34 : decode cX2_makeOfTwo 34 = .ok (.iload_n 1, 1) := by decide +kernel
theorem dX2_makeOfTwo_35 : decode cX2_makeOfTwo 35 = .ok (.if_icmp .ne 14, 3) := by decide +kernel
theorem dX2_makeOfTwo_38 : decode cX2_makeOfTwo 38 = .ok (.aload_n 0, 1) := by decide +kernel
theorem dX2_makeOfTwo_39 : decode cX2_makeOfTwo 39 = .ok (.iload 5, 2) := by decide +kernel
theorem dX2_makeOfTwo_41 : decode cX2_makeOfTwo 41 = .ok (.iconst 0, 1) := by decide +kernel
theorem dX2_makeOfTwo_42 : decode cX2_makeOfTwo 42 = .ok (.iload_n 2, 1) := by decide +kernel
theorem dX2_makeOfTwo_43 : decode cX2_makeOfTwo 43 = .ok (.invokevirtual 89, 3) := by decide +kernel
theorem dX2_makeOfTwo_46 : decode cX2_makeOfTwo 46 = .ok (.goto 128, 3) := by decide +kernel
theorem dX2_makeOfTwo_49 : decode cX2_makeOfTwo 49 = .ok (.aload_n 0, 1) := by decide +kernel
theorem dX2_makeOfTwo_50 : decode cX2_makeOfTwo 50 = .ok (.getfield 21, 3) := by decide +kernel
theorem dX2_makeOfTwo_53 : decode cX2_makeOfTwo 53 = .ok (.iconst 5, 1) := by decide +kernel
theorem dX2_makeOfTwo_54 : decode cX2_makeOfTwo 54 = .ok (.if_icmp .ne 25, 3) := by decide +kernel
theorem dX2_makeOfTwo_57 : decode cX2_makeOfTwo 57 = .ok (.iload 4, 2) := by decide +kernel
theorem dX2_makeOfTwo_59 : decode cX2_makeOfTwo 59 = .ok (.iconst 5, 1) := by decide +kernel
theorem dX2_makeOfTwo_60 : decode cX2_makeOfTwo 60 = .ok (.if_icmp .ne 19, 3) := by decide +kernel
theorem dX2_makeOfTwo_63 : decode cX2_makeOfTwo 63 = .ok (.iload_n 3, 1) := by decide +kernel
theorem dX2_makeOfTwo_64 : decode cX2_makeOfTwo 64 = .ok (.iload_n 2, 1) := by decide +kernel
theorem dX2_makeOfTwo_65 : decode cX2_makeOfTwo 65 = .ok (.if_icmp .ne 14, 3) := by decide +kernel
theorem dX2_makeOfTwo_68 : decode cX2_makeOfTwo 68 = .ok (.aload_n 0, 1) := by decide +kernel
theorem dX2_makeOfTwo_69 : decode cX2_makeOfTwo 69 = .ok (.iload_n 1, 1) := by decide +kernel
theorem dX2_makeOfTwo_70 : decode cX2_makeOfTwo 70 = .ok (.iconst 5, 1) := by decide +kernel
theorem dX2_makeOfTwo_71 : decode cX2_makeOfTwo 71 = .ok (.iload 5, 2) := by decide +kernel
theorem dX2_makeOfTwo_73 : decode cX2_makeOfTwo 73 = .ok (.invokevirtual 89, 3) := by decide +kernel
theorem dX2_makeOfTwo_76 : decode cX2_makeOfTwo 76 = .ok (.goto 98, 3) := by decide +kernel
theorem dX2_makeOfTwo_79 : decode cX2_makeOfTwo 79 = .ok (.aload_n 0, 1) := by decide +kernel
theorem dX2_makeOfTwo_80 : decode cX2_makeOfTwo 80 = .ok (.getfield 21, 3) := by decide +kernel
theorem dX2_makeOfTwo_83 : decode cX2_makeOfTwo 83 = .ok (.bipush 7, 2) := by decide +kernel
theorem dX2_makeOfTwo_85 : decode cX2_makeOfTwo 85 = .ok (.if_icmp .ne 31, 3) := by decide +kernel
theorem dX2_makeOfTwo_88 : decode cX2_makeOfTwo 88 = .ok (.iload 4, 2) := by decide +kernel
theorem dX2_makeOfTwo_90 : decode cX2_makeOfTwo 90 = .ok (.iload_n 1, 1) := by decide +kernel
theorem dX2_makeOfTwo_91 : decode cX2_makeOfTwo 91 = .ok (.if_icmp .ne 25, 3) := by decide +kernel
theorem dX2_makeOfTwo_94 : decode cX2_makeOfTwo 94 = .ok (.aload_n 0, 1) := by decide +kernel
theorem dX2_makeOfTwo_95 : decode cX2_makeOfTwo 95 = .ok (.getfield 30, 3) := by decide +kernel
theorem dX2_makeOfTwo_98 : decode cX2_makeOfTwo 98 = .ok (.iload_n 2, 1) := by decide +kernel
theorem dX2_makeOfTwo_99 : decode cX2_makeOfTwo 99 = .ok (.invokevirtual 79, 3) := by decide +kernel
theorem dX2_makeOfTwo_102 : decode cX2_makeOfTwo 102 = .ok (.ifCond .ne 14, 3) := by decide +kernel
theorem dX2_makeOfTwo_105 : decode cX2_makeOfTwo 105 = .ok (.aload_n 0, 1) := by decide +kernel
theorem dX2_makeOfTwo_106 : decode cX2_makeOfTwo 106 = .ok (.iload_n 3, 1) := by decide +kernel
theorem dX2_makeOfTwo_107 : decode cX2_makeOfTwo 107 = .ok (.iload_n 2, 1) := by decide +kernel
theorem dX2_makeOfTwo_108 : decode cX2_makeOfTwo 108 = .ok (.iload 5, 2) := by decide +kernel
theorem dX2_makeOfTwo_110 : decode cX2_makeOfTwo 110 = .ok (.invokevirtual 89, 3) := by decide +kernel
theorem dX2_makeOfTwo_113 : decode cX2_makeOfTwo 113 = .ok (.goto 61, 3) := by decide +kernel
theorem dX2_makeOfTwo_116 : decode cX2_makeOfTwo 116 = .ok (.aload_n 0, 1) := by decide +kernel
theorem dX2_makeOfTwo_117 : decode cX2_makeOfTwo 117 = .ok (.getfield 21, 3) := by decide +kernel
theorem dX2_makeOfTwo_120 : decode cX2_makeOfTwo 120 = .ok (.bipush 9, 2) := by decide +kernel
theorem dX2_makeOfTwo_122 : decode cX2_makeOfTwo 122 = .ok (.if_icmp .ne 24, 3) := by decide +kernel
theorem dX2_makeOfTwo_125 : decode cX2_makeOfTwo 125 = .ok (.iload 4, 2) := by decide +kernel
theorem dX2_makeOfTwo_127 : decode cX2_makeOfTwo 127 = .ok (.ifCond .ne 19, 3) := by decide +kernel
theorem dX2_makeOfTwo_130 : decode cX2_makeOfTwo 130 = .ok (.iload 5, 2) := by decide +kernel
theorem dX2_makeOfTwo_132 : decode cX2_makeOfTwo 132 = .ok (.iload_n 1, 1) := by decide +kernel
theorem dX2_makeOfTwo_133 : decode cX2_makeOfTwo 133 = .ok (.if_icmp .ne 13, 3) := by decide +kernel
theorem dX2_makeOfTwo_136 : decode cX2_makeOfTwo 136 = .ok (.aload_n 0, 1) := by decide +kernel
theorem dX2_makeOfTwo_137 : decode cX2_makeOfTwo 137 = .ok (.iload_n 3, 1) := by decide +kernel
theorem dX2_makeOfTwo_138 : decode cX2_makeOfTwo 138 = .ok (.iconst 0, 1) := by decide +kernel
theorem dX2_makeOfTwo_139 : decode cX2_makeOfTwo 139 = .ok (.iload_n 2, 1) := by decide +kernel
theorem dX2_makeOfTwo_140 : decode cX2_makeOfTwo 140 = .ok (.invokevirtual 89, 3) := by decide +kernel
theorem dX2_makeOfTwo_143 : decode cX2_makeOfTwo 143 = .ok (.goto 31, 3) := by decide +kernel
theorem dX2_makeOfTwo_146 : decode cX2_makeOfTwo 146 = .ok (.aload_n 0, 1) := by decide +kernel
theorem dX2_makeOfTwo_147 : decode cX2_makeOfTwo 147 = .ok (.getfield 21, 3) := by decide +kernel
theorem dX2_makeOfTwo_150 : decode cX2_makeOfTwo 150 = .ok (.bipush 11, 2) := by decide +kernel
theorem dX2_makeOfTwo_152 : decode cX2_makeOfTwo 152 = .ok (.if_icmp .ne 22, 3) := by decide +kernel
theorem dX2_makeOfTwo_155 : decode cX2_makeOfTwo 155 = .ok (.iload 4, 2) := by decide +kernel
theorem dX2_makeOfTwo_157 : decode cX2_makeOfTwo 157 = .ok (.iconst 4, 1) := by decide +kernel
theorem dX2_makeOfTwo_158 : decode cX2_makeOfTwo 158 = .ok (.if_icmp .ne 16, 3) := by decide +kernel
theorem dX2_makeOfTwo_161 : decode cX2_makeOfTwo 161 = .ok (.iload_n 3, 1) := by decide +kernel
theorem dX2_makeOfTwo_162 : decode cX2_makeOfTwo 162 = .ok (.iload_n 2, 1) := by decide +kernel
theorem dX2_makeOfTwo_163 : decode cX2_makeOfTwo 163 = .ok (.if_icmp .ne 11, 3) := by decide +kernel
theorem dX2_makeOfTwo_166 : decode cX2_makeOfTwo 166 = .ok (.aload_n 0, 1) := by decide +kernel
theorem dX2_makeOfTwo_167 : decode cX2_makeOfTwo 167 = .ok (.iload_n 1, 1) := by decide +kernel
theorem dX2_makeOfTwo_168 : decode cX2_makeOfTwo 168 = .ok (.iconst 4, 1) := by decide +kernel
theorem dX2_makeOfTwo_169 : decode cX2_makeOfTwo 169 = .ok (.iload 5, 2) := by decide +kernel
theorem dX2_makeOfTwo_171 : decode cX2_makeOfTwo 171 = .ok (.invokevirtual 89, 3) := by decide +kernel
theorem dX2_makeOfTwo_174 : decode cX2_makeOfTwo 174 = .ok (.return_, 1) := by decide +kernel
set_option maxRecDepth 20000 in
theorem ggX2_make_X3_addNew : GoodIn wsX2_make wsX3_addNew := goodIn_r _ [10, 11, 12, 13, 14, 15, 16, 17, 18, 19, 20, 21, 22, 23, 9, 24, 25, 34, 35, 36, 37, 38, 39, 40, 41, 42, 43, 44, 45] (by decide +kernel) (by decide +kernel)
set_option maxRecDepth 20000 in
theorem gX2_make_X3_addNew : GoodIn wsX2_make (wsV RX2 92 RX3 yX3_addNew wsX3_addNew) := goodIn_app (goodIn_of _ (by decide +kernel)) ggX2_make_X3_addNew
theorem dX2_make_0 : decode cX2_make 0 = .ok (.aload_n 0, 1) := by decide +kernel
theorem dX2_make_1 : decode cX2_make 1 = .ok (.getfield 34, 3) := by decide +kernel
theorem dX2_make_4 : decode cX2_make 4 = .ok (.iload_n 1, 1) := by decide +kernel
theorem dX2_make_5 : decode cX2_make 5 = .ok (.iload_n 2, 1) := by decide +kernel
theorem dX2_make_6 : decode cX2_make 6 = .ok (.iload_n 3, 1) := by decide +kernel
theorem dX2_make_7 : decode cX2_make 7 = .ok (.aload_n 0, 1) := by decide +kernel
theorem dX2_make_8 : decode cX2_make 8 = .ok (.getfield 21, 3) := by decide +kernel
theorem dX2_make_11 : decode cX2_make 11 = .ok (.aload_n 0, 1) := by decide +kernel
theorem dX2_make_12 : decode cX2_make 12 = .ok (.getfield 24, 3) := by decide +kernel
theorem dX2_make_15 : decode cX2_make 15 = .ok (.aload_n 0, 1) := by decide +kernel
theorem dX2_make_16 : decode cX2_make 16 = .ok (.getfield 27, 3) := by decide +kernel
theorem dX2_make_19 : decode cX2_make 19 = .ok (.aload_n 0, 1) := by decide +kernel
theorem dX2_make_20 : decode cX2_make 20 = .ok (.getfield 18, 3) := by decide +kernel
theorem dX2_make_23 : decode cX2_make 23 = .ok (.invokevirtual 92, 3) := by decide +kernel
theorem dX2_make_26 : decode cX2_make 26 = .ok (.return_, 1) := by decide +kernel
set_option maxRecDepth 20000 in
theorem ggX3_init_J7_fill_53178 : GoodIn wsX3_init wsJ7_fill_53178 := goodIn_r _ [21] (by decide +kernel) (by decide +kernel)
set_option maxRecDepth 20000 in
theorem gX3_init_J7_fill_53178 : GoodIn wsX3_init (va_wsS RX3 51 yJ7_fill_53178 wsJ7_fill_53178) := goodIn_app (goodIn_of _ (by decide +kernel)) ggX3_init_J7_fill_53178
theorem dX3_init_0 : decode cX3_init 0 = .ok (.aload_n 0, 1) := by decide +kernel
theorem dX3_init_1 : decode cX3_init 1 = .ok (.invokespecial 3, 3) := by decide +kernel
theorem dX3_init_4 : decode cX3_init 4 = .ok (.aload_n 0, 1) := by decide +kernel
theorem dX3_init_5 : decode cX3_init 5 = .ok (.sipush 600, 3) := by decide +kernel
theorem dX3_init_8 : decode cX3_init 8 = .ok (.newarray .int, 2) := by decide +kernel
theorem dX3_init_10 : decode cX3_init 10 = .ok (.putfield 9, 3) := by decide +kernel
theorem dX3_init_13 : decode cX3_init 13 = .ok (.aload_n 0, 1) := by decide +kernel
theorem dX3_init_14 : decode cX3_init 14 = .ok (.sipush 600, 3) := by decide +kernel
theorem dX3_init_17 : decode cX3_init 17 = .ok (.newarray .int, 2) := by decide +kernel
theorem dX3_init_19 : decode cX3_init 19 = .ok (.putfield 15, 3) := by decide +kernel
theorem dX3_init_22 : decode cX3_init 22 = .ok (.aload_n 0, 1) := by decide +kernel
theorem dX3_init_23 : decode cX3_init 23 = .ok (.sipush 600, 3) := by decide +kernel
theorem dX3_init_26 : decode cX3_init 26 = .ok (.newarray .int, 2) := by decide +kernel
theorem dX3_init_28 : decode cX3_init 28 = .ok (.putfield 18, 3) := by decide +kernel
theorem dX3_init_31 : decode cX3_init 31 = .ok (.aload_n 0, 1) := by decide +kernel
theorem dX3_init_32 : decode cX3_init 32 = .ok (.sipush 600, 3) := by decide +kernel
theorem dX3_init_35 : decode cX3_init 35 = .ok (.newarray .int, 2) := by decide +kernel
theorem dX3_init_37 : decode cX3_init 37 = .ok (.putfield 21, 3) := by decide +kernel
theorem dX3_init_40 : decode cX3_init 40 = .ok (.aload_n 0, 1) := by decide +kernel
theorem dX3_init_41 : decode cX3_init 41 = .ok (.sipush 600, 3) := by decide +kernel
theorem dX3_init_44 : decode cX3_init 44 = .ok (.newarray .int, 2) := by decide +kernel
theorem dX3_init_46 : decode cX3_init 46 = .ok (.putfield 24, 3) := by decide +kernel
theorem dX3_init_49 : decode cX3_init 49 = .ok (.aload_n 0, 1) := by decide +kernel
theorem dX3_init_50 : decode cX3_init 50 = .ok (.sipush 600, 3) := by decide +kernel
theorem dX3_init_53 : decode cX3_init 53 = .ok (.newarray .int, 2) := by decide +kernel
theorem dX3_init_55 : decode cX3_init 55 = .ok (.putfield 27, 3) := by decide +kernel
theorem dX3_init_58 : decode cX3_init 58 = .ok (.aload_n 0, 1) := by decide +kernel
theorem dX3_init_59 : decode cX3_init 59 = .ok (.sipush 600, 3) := by decide +kernel
theorem dX3_init_62 : decode cX3_init 62 = .ok (.newarray .int, 2) := by decide +kernel
theorem dX3_init_64 : decode cX3_init 64 = .ok (.putfield 30, 3) := by decide +kernel
theorem dX3_init_67 : decode cX3_init 67 = .ok (.aload_n 0, 1) := by decide +kernel
theorem dX3_init_68 : decode cX3_init 68 = .ok (.sipush 1024, 3) := by decide +kernel
theorem dX3_init_71 : decode cX3_init 71 = .ok (.newarray .int, 2) := by decide +kernel
theorem dX3_init_73 : decode cX3_init 73 = .ok (.putfield 33, 3) := by decide +kernel
theorem dX3_init_76 : decode cX3_init 76 = .ok (.aload_n 0, 1) := by decide +kernel
theorem dX3_init_77 : decode cX3_init 77 = .ok (.sipush 600, 3) := by decide +kernel
theorem dX3_init_80 : decode cX3_init 80 = .ok (.newarray .boolean, 2) := by decide +kernel
theorem dX3_init_82 : decode cX3_init 82 = .ok (.putfield 36, 3) := by decide +kernel
theorem dX3_init_85 : decode cX3_init 85 = .ok (.aload_n 0, 1) := by decide +kernel
theorem dX3_init_86 : decode cX3_init 86 = .ok (.iconst 0, 1) := by decide +kernel
theorem dX3_init_87 : decode cX3_init 87 = .ok (.putfield 40, 3) := by decide +kernel
theorem dX3_init_90 : decode cX3_init 90 = .ok (.aload_n 0, 1) := by decide +kernel
theorem dX3_init_91 : decode cX3_init 91 = .ok (.iconst 0, 1) := by decide +kernel
theorem dX3_init_92 : decode cX3_init 92 = .ok (.putfield 44, 3) := by decide +kernel
theorem dX3_init_95 : decode cX3_init 95 = .ok (.aload_n 0, 1) := by decide +kernel
theorem dX3_init_96 : decode cX3_init 96 = .ok (.iconst 0, 1) := by decide +kernel
theorem dX3_init_97 : decode cX3_init 97 = .ok (.putfield 48, 3) := by decide +kernel
theorem dX3_init_100 : decode cX3_init 100 = .ok (.aload_n 0, 1) := by decide +kernel
theorem dX3_init_101 : decode cX3_init 101 = .ok (.getfield 33, 3) := by decide +kernel
theorem dX3_init_104 : decode cX3_init 104 = .ok (.iconst (-1), 1) := by decide +kernel
theorem dX3_init_105 : decode cX3_init 105 = .ok (.invokestatic 51, 3) := by decide +kernel
theorem dX3_init_108 : decode cX3_init 108 = .ok (.return_, 1) := by decide +kernel
set_option maxRecDepth 20000 in
theorem ggX3_restart_J7_fill_53178 : GoodIn wsX3_restart wsJ7_fill_53178 := goodIn_r _ [8] (by decide +kernel) (by decide +kernel)
set_option maxRecDepth 20000 in
theorem gX3_restart_J7_fill_53178 : GoodIn wsX3_restart (va_wsS RX3 51 yJ7_fill_53178 wsJ7_fill_53178) := goodIn_app (goodIn_of _ (by decide +kernel)) ggX3_restart_J7_fill_53178
theorem dX3_restart_0 : decode cX3_restart 0 = .ok (.aload_n 0, 1) := by decide +kernel
theorem dX3_restart_1 : decode cX3_restart 1 = .ok (.getfield 33, 3) := by decide +kernel
theorem dX3_restart_4 : decode cX3_restart 4 = .ok (.iconst (-1), 1) := by decide +kernel
theorem dX3_restart_5 : decode cX3_restart 5 = .ok (.invokestatic 51, 3) := by decide +kernel
theorem dX3_restart_8 : decode cX3_restart 8 = .ok (.aload_n 0, 1) := by decide +kernel
theorem dX3_restart_9 : decode cX3_restart 9 = .ok (.iconst 0, 1) := by decide +kernel
theorem dX3_restart_10 : decode cX3_restart 10 = .ok (.putfield 40, 3) := by decide +kernel
theorem dX3_restart_13 : decode cX3_restart 13 = .ok (.aload_n 0, 1) := by decide +kernel
theorem dX3_restart_14 : decode cX3_restart 14 = .ok (.iconst 0, 1) := by decide +kernel
theorem dX3_restart_15 : decode cX3_restart 15 = .ok (.putfield 44, 3) := by decide +kernel
theorem dX3_restart_18 : decode cX3_restart 18 = .ok (.aload_n 0, 1) := by decide +kernel
theorem dX3_restart_19 : decode cX3_restart 19 = .ok (.iload_n 1, 1) := by decide +kernel
theorem dX3_restart_20 : decode cX3_restart 20 = .ok (.putfield 48, 3) := by decide +kernel
theorem dX3_restart_23 : decode cX3_restart 23 = .ok (.return_, 1) := by decide +kernel
theorem dX3_size_0 : decode cX3_size 0 = .ok (.aload_n 0, 1) := by decide +kernel
theorem dX3_size_1 : decode cX3_size 1 = .ok (.getfield 40, 3) := by decide +kernel
theorem dX3_size_4 : decode cX3_size 4 = .ok (.ireturn, 1) := by decide +kernel
theorem dX3_isOverfull_0 : decode cX3_isOverfull 0 = .ok (.aload_n 0, 1) := by decide +kernel
theorem dX3_isOverfull_1 : decode cX3_isOverfull 1 = .ok (.getfield 44, 3) := by decide +kernel
theorem dX3_isOverfull_4 : decode cX3_isOverfull 4 = .ok (.ireturn, 1) := by decide +kernel
theorem dX3_isRow_0 : decode cX3_isRow 0 = .ok (.iload_n 1, 1) := by decide +kernel
theorem dX3_isRow_1 : decode cX3_isRow 1 = .ok (.ifCond .lt 15, 3) := by decide +kernel
theorem dX3_isRow_4 : decode cX3_isRow 4 = .ok (.iload_n 1, 1) := by decide +kernel
theorem dX3_isRow_5 : decode cX3_isRow 5 = .ok (.aload_n 0, 1) := by decide +kernel
theorem dX3_isRow_6 : decode cX3_isRow 6 = .ok (.getfield 40, 3) := by decide +kernel
theorem dX3_isRow_9 : decode cX3_isRow 9 = .ok (.if_icmp .ge 7, 3) := by decide +kernel
theorem dX3_isRow_12 : decode cX3_isRow 12 = .ok (.iconst 1, 1) := by decide +kernel
theorem dX3_isRow_13 : decode cX3_isRow 13 = .ok (.goto 4, 3) := by decide +kernel
theorem dX3_isRow_16 : decode cX3_isRow 16 = .ok (.iconst 0, 1) := by decide +kernel
theorem dX3_isRow_17 : decode cX3_isRow 17 = .ok (.ireturn, 1) := by decide +kernel
set_option maxRecDepth 20000 in
theorem ggX3_rowOf_X3_slotOf : GoodIn wsX3_rowOf wsX3_slotOf := goodIn_r _ [6, 7, 1, 8, 9, 10, 11, 12, 13, 14, 15, 16, 17, 18, 19, 20, 21, 22] (by decide +kernel) (by decide +kernel)
set_option maxRecDepth 20000 in
theorem gX3_rowOf_X3_slotOf : GoodIn wsX3_rowOf (wsV RX3 57 RX3 yX3_slotOf wsX3_slotOf) := goodIn_app (goodIn_of _ (by decide +kernel)) ggX3_rowOf_X3_slotOf
theorem dX3_rowOf_0 : decode cX3_rowOf 0 = .ok (.aload_n 0, 1) := by decide +kernel
theorem dX3_rowOf_1 : decode cX3_rowOf 1 = .ok (.getfield 33, 3) := by decide +kernel
theorem dX3_rowOf_4 : decode cX3_rowOf 4 = .ok (.aload_n 0, 1) := by decide +kernel
theorem dX3_rowOf_5 : decode cX3_rowOf 5 = .ok (.iload_n 1, 1) := by decide +kernel
theorem dX3_rowOf_6 : decode cX3_rowOf 6 = .ok (.iload_n 2, 1) := by decide +kernel
theorem dX3_rowOf_7 : decode cX3_rowOf 7 = .ok (.iload_n 3, 1) := by decide +kernel
theorem dX3_rowOf_8 : decode cX3_rowOf 8 = .ok (.invokevirtual 57, 3) := by decide +kernel
theorem dX3_rowOf_11 : decode cX3_rowOf 11 = .ok (.iaload, 1) := by decide +kernel
theorem dX3_rowOf_12 : decode cX3_rowOf 12 = .ok (.ireturn, 1) := by decide +kernel
set_option maxRecDepth 20000 in
theorem ggX3_addNew_X3_slotOf : GoodIn wsX3_addNew wsX3_slotOf := goodIn_r _ [15, 16, 1, 4, 5, 6, 17, 18, 19, 20, 21, 22, 23, 24, 25, 26, 27, 28] (by decide +kernel) (by decide +kernel)
set_option maxRecDepth 20000 in
theorem gX3_addNew_X3_slotOf : GoodIn wsX3_addNew (wsV RX3 57 RX3 yX3_slotOf wsX3_slotOf) := goodIn_app (goodIn_of _ (by decide +kernel)) ggX3_addNew_X3_slotOf
theorem dX3_addNew_0 : decode cX3_addNew 0 = .ok (.aload_n 0, 1) := by decide +kernel
theorem dX3_addNew_1 : decode cX3_addNew 1 = .ok (.iload_n 1, 1) := by decide +kernel
theorem dX3_addNew_2 : decode cX3_addNew 2 = .ok (.iload_n 2, 1) := by decide +kernel
theorem dX3_addNew_3 : decode cX3_addNew 3 = .ok (.iload_n 3, 1) := by decide +kernel
theorem dX3_addNew_4 : decode cX3_addNew 4 = .ok (.invokevirtual 57, 3) := by decide +kernel
theorem dX3_addNew_7 : decode cX3_addNew 7 = .ok (.istore 8, 2) := by decide +kernel
theorem dX3_addNew_9 : decode cX3_addNew 9 = .ok (.aload_n 0, 1) := by decide +kernel
theorem dX3_addNew_10 : decode cX3_addNew 10 = .ok (.getfield 33, 3) := by decide +kernel
theorem dX3_addNew_13 : decode cX3_addNew 13 = .ok (.iload 8, 2) := by decide +kernel
theorem dX3_addNew_15 : decode cX3_addNew 15 = .ok (.iaload, 1) := by decide +kernel
theorem dX3_addNew_16 : decode cX3_addNew 16 = .ok (.iconst (-1), 1) := by decide +kernel
theorem dX3_addNew_17 : decode cX3_addNew 17 = .ok (.if_icmp .eq 4, 3) := by decide +kernel
theorem dX3_addNew_20 : decode cX3_addNew 20 = .ok (.return_, 1) := by decide +kernel
theorem dX3_addNew_21 : decode cX3_addNew 21 = .ok (.aload_n 0, 1) := by decide +kernel
theorem dX3_addNew_22 : decode cX3_addNew 22 = .ok (.getfield 40, 3) := by decide +kernel
theorem dX3_addNew_25 : decode cX3_addNew 25 = .ok (.sipush 600, 3) := by decide +kernel
theorem dX3_addNew_28 : decode cX3_addNew 28 = .ok (.if_icmp .lt 9, 3) := by decide +kernel
theorem dX3_addNew_31 : decode cX3_addNew 31 = .ok (.aload_n 0, 1) := by decide +kernel
theorem dX3_addNew_32 : decode cX3_addNew 32 = .ok (.iconst 1, 1) := by decide +kernel
theorem dX3_addNew_33 : decode cX3_addNew 33 = .ok (.putfield 44, 3) := by decide +kernel
theorem dX3_addNew_36 : decode cX3_addNew 36 = .ok (.return_, 1) := by decide +kernel
theorem dX3_addNew_37 : decode cX3_addNew 37 = .ok (.aload_n 0, 1) := by decide +kernel
theorem dX3_addNew_38 : decode cX3_addNew 38 = .ok (.getfield 33, 3) := by decide +kernel
theorem dX3_addNew_41 : decode cX3_addNew 41 = .ok (.iload 8, 2) := by decide +kernel
theorem dX3_addNew_43 : decode cX3_addNew 43 = .ok (.aload_n 0, 1) := by decide +kernel
theorem dX3_addNew_44 : decode cX3_addNew 44 = .ok (.getfield 40, 3) := by decide +kernel
theorem dX3_addNew_47 : decode cX3_addNew 47 = .ok (.iastore, 1) := by decide +kernel
theorem dX3_addNew_48 : decode cX3_addNew 48 = .ok (.aload_n 0, 1) := by decide +kernel
theorem dX3_addNew_49 : decode cX3_addNew 49 = .ok (.getfield 9, 3) := by decide +kernel
theorem dX3_addNew_52 : decode cX3_addNew 52 = .ok (.aload_n 0, 1) := by decide +kernel
theorem dX3_addNew_53 : decode cX3_addNew 53 = .ok (.getfield 40, 3) := by decide +kernel
theorem dX3_addNew_56 : decode cX3_addNew 56 = .ok (.iload_n 1, 1) := by decide +kernel
theorem dX3_addNew_57 : decode cX3_addNew 57 = .ok (.iastore, 1) := by decide +kernel
theorem dX3_addNew_58 : decode cX3_addNew 58 = .ok (.aload_n 0, 1) := by decide +kernel
theorem dX3_addNew_59 : decode cX3_addNew 59 = .ok (.getfield 15, 3) := by decide +kernel
theorem dX3_addNew_62 : decode cX3_addNew 62 = .ok (.aload_n 0, 1) := by decide +kernel
theorem dX3_addNew_63 : decode cX3_addNew 63 = .ok (.getfield 40, 3) := by decide +kernel
theorem dX3_addNew_66 : decode cX3_addNew 66 = .ok (.iload_n 2, 1) := by decide +kernel
theorem dX3_addNew_67 : decode cX3_addNew 67 = .ok (.iastore, 1) := by decide +kernel
theorem dX3_addNew_68 : decode cX3_addNew 68 = .ok (.aload_n 0, 1) := by decide +kernel
theorem dX3_addNew_69 : decode cX3_addNew 69 = .ok (.getfield 18, 3) := by decide +kernel
theorem dX3_addNew_72 : decode cX3_addNew 72 = .ok (.aload_n 0, 1) := by decide +kernel
theorem dX3_addNew_73 : decode cX3_addNew 73 = .ok (.getfield 40, 3) := by decide +kernel
theorem dX3_addNew_76 : decode cX3_addNew 76 = .ok (.iload_n 3, 1) := by decide +kernel
theorem dX3_addNew_77 : decode cX3_addNew 77 = .ok (.iastore, 1) := by decide +kernel
theorem dX3_addNew_78 : decode cX3_addNew 78 = .ok (.aload_n 0, 1) := by decide +kernel
theorem dX3_addNew_79 : decode cX3_addNew 79 = .ok (.getfield 21, 3) := by decide +kernel
theorem dX3_addNew_82 : decode cX3_addNew 82 = .ok (.aload_n 0, 1) := by decide +kernel
theorem dX3_addNew_83 : decode cX3_addNew 83 = .ok (.getfield 40, 3) := by decide +kernel
theorem dX3_addNew_86 : decode cX3_addNew 86 = .ok (.iload 4, 2) := by decide +kernel
theorem dX3_addNew_88 : decode cX3_addNew 88 = .ok (.iastore, 1) := by decide +kernel
theorem dX3_addNew_89 : decode cX3_addNew 89 = .ok (.aload_n 0, 1) := by decide +kernel
theorem dX3_addNew_90 : decode cX3_addNew 90 = .ok (.getfield 24, 3) := by decide +kernel
theorem dX3_addNew_93 : decode cX3_addNew 93 = .ok (.aload_n 0, 1) := by decide +kernel
theorem dX3_addNew_94 : decode cX3_addNew 94 = .ok (.getfield 40, 3) := by decide +kernel
theorem dX3_addNew_97 : decode cX3_addNew 97 = .ok (.iload 5, 2) := by decide +kernel
theorem dX3_addNew_99 : decode cX3_addNew 99 = .ok (.iastore, 1) := by decide +kernel
theorem dX3_addNew_100 : decode cX3_addNew 100 = .ok (.aload_n 0, 1) := by decide +kernel
theorem dX3_addNew_101 : decode cX3_addNew 101 = .ok (.getfield 27, 3) := by decide +kernel
theorem dX3_addNew_104 : decode cX3_addNew 104 = .ok (.aload_n 0, 1) := by decide +kernel
theorem dX3_addNew_105 : decode cX3_addNew 105 = .ok (.getfield 40, 3) := by decide +kernel
theorem dX3_addNew_108 : decode cX3_addNew 108 = .ok (.iload 6, 2) := by decide +kernel
theorem dX3_addNew_110 : decode cX3_addNew 110 = .ok (.iastore, 1) := by decide +kernel
theorem dX3_addNew_111 : decode cX3_addNew 111 = .ok (.aload_n 0, 1) := by decide +kernel
theorem dX3_addNew_112 : decode cX3_addNew 112 = .ok (.getfield 30, 3) := by decide +kernel
theorem dX3_addNew_115 : decode cX3_addNew 115 = .ok (.aload_n 0, 1) := by decide +kernel
theorem dX3_addNew_116 : decode cX3_addNew 116 = .ok (.getfield 40, 3) := by decide +kernel
theorem dX3_addNew_119 : decode cX3_addNew 119 = .ok (.iload 7, 2) := by decide +kernel
theorem dX3_addNew_121 : decode cX3_addNew 121 = .ok (.iastore, 1) := by decide +kernel
theorem dX3_addNew_122 : decode cX3_addNew 122 = .ok (.aload_n 0, 1) := by decide +kernel
theorem dX3_addNew_123 : decode cX3_addNew 123 = .ok (.dup, 1) := by decide +kernel
theorem dX3_addNew_124 : decode cX3_addNew 124 = .ok (.getfield 40, 3) := by decide +kernel
theorem dX3_addNew_127 : decode cX3_addNew 127 = .ok (.iconst 1, 1) := by decide +kernel
theorem dX3_addNew_128 : decode cX3_addNew 128 = .ok (.iadd, 1) := by decide +kernel
theorem dX3_addNew_129 : decode cX3_addNew 129 = .ok (.putfield 40, 3) := by decide +kernel
theorem dX3_addNew_132 : decode cX3_addNew 132 = .ok (.return_, 1) := by decide +kernel
theorem dX3_slotOf_0 : decode cX3_slotOf 0 = .ok (.iload_n 1, 1) := by decide +kernel
theorem dX3_slotOf_1 : decode cX3_slotOf 1 = .ok (.sipush 613, 3) := by decide +kernel
theorem dX3_slotOf_4 : decode cX3_slotOf 4 = .ok (.imul, 1) := by decide +kernel
theorem dX3_slotOf_5 : decode cX3_slotOf 5 = .ok (.iload_n 2, 1) := by decide +kernel
theorem dX3_slotOf_6 : decode cX3_slotOf 6 = .ok (.iadd, 1) := by decide +kernel
theorem dX3_slotOf_7 : decode cX3_slotOf 7 = .ok (.sipush 601, 3) := by decide +kernel
theorem dX3_slotOf_10 : decode cX3_slotOf 10 = .ok (.imul, 1) := by decide +kernel
theorem dX3_slotOf_11 : decode cX3_slotOf 11 = .ok (.iload_n 3, 1) := by decide +kernel
theorem dX3_slotOf_12 : decode cX3_slotOf 12 = .ok (.iadd, 1) := by decide +kernel
theorem dX3_slotOf_13 : decode cX3_slotOf 13 = .ok (.ldc 61, 2) := by decide +kernel
theorem dX3_slotOf_15 : decode cX3_slotOf 15 = .ok (.imul, 1) := by decide +kernel
theorem dX3_slotOf_16 : decode cX3_slotOf 16 = .ok (.bipush 22, 2) := by decide +kernel
theorem dX3_slotOf_18 : decode cX3_slotOf 18 = .ok (.iushr, 1) := by decide +kernel
theorem dX3_slotOf_19 : decode cX3_slotOf 19 = .ok (.istore 4, 2) := by decide +kernel
theorem dX3_slotOf_21 : decode cX3_slotOf 21 = .ok (.iconst 0, 1) := by decide +kernel
theorem dX3_slotOf_22 : decode cX3_slotOf 22 = .ok (.istore 5, 2) := by decide +kernel
theorem dX3_slotOf_24 : decode cX3_slotOf 24 = .ok (.iload 5, 2) := by decide +kernel
theorem dX3_slotOf_26 : decode cX3_slotOf 26 = .ok (.sipush 1024, 3) := by decide +kernel
theorem dX3_slotOf_29 : decode cX3_slotOf 29 = .ok (.if_icmp .ge 70, 3) := by decide +kernel
theorem dX3_slotOf_32 : decode cX3_slotOf 32 = .ok (.aload_n 0, 1) := by decide +kernel
theorem dX3_slotOf_33 : decode cX3_slotOf 33 = .ok (.getfield 33, 3) := by decide +kernel
theorem dX3_slotOf_36 : decode cX3_slotOf 36 = .ok (.iload 4, 2) := by decide +kernel
theorem dX3_slotOf_38 : decode cX3_slotOf 38 = .ok (.iaload, 1) := by decide +kernel
theorem dX3_slotOf_39 : decode cX3_slotOf 39 = .ok (.istore 6, 2) := by decide +kernel
theorem dX3_slotOf_41 : decode cX3_slotOf 41 = .ok (.iload 6, 2) := by decide +kernel
theorem dX3_slotOf_43 : decode cX3_slotOf 43 = .ok (.iconst (-1), 1) := by decide +kernel
theorem dX3_slotOf_44 : decode cX3_slotOf 44 = .ok (.if_icmp .eq 36, 3) := by decide +kernel
theorem dX3_slotOf_47 : decode cX3_slotOf 47 = .ok (.aload_n 0, 1) := by decide +kernel
theorem dX3_slotOf_48 : decode cX3_slotOf 48 = .ok (.getfield 9, 3) := by decide +kernel
theorem dX3_slotOf_51 : decode cX3_slotOf 51 = .ok (.iload 6, 2) := by decide +kernel
theorem dX3_slotOf_53 : decode cX3_slotOf 53 = .ok (.iaload, 1) := by decide +kernel
theorem dX3_slotOf_54 : decode cX3_slotOf 54 = .ok (.iload_n 1, 1) := by decide +kernel
theorem dX3_slotOf_55 : decode cX3_slotOf 55 = .ok (.if_icmp .ne 28, 3) := by decide +kernel
theorem dX3_slotOf_58 : decode cX3_slotOf 58 = .ok (.aload_n 0, 1) := by decide +kernel
theorem dX3_slotOf_59 : decode cX3_slotOf 59 = .ok (.getfield 15, 3) := by decide +kernel
theorem dX3_slotOf_62 : decode cX3_slotOf 62 = .ok (.iload 6, 2) := by decide +kernel
theorem dX3_slotOf_64 : decode cX3_slotOf 64 = .ok (.iaload, 1) := by decide +kernel
theorem dX3_slotOf_65 : decode cX3_slotOf 65 = .ok (.iload_n 2, 1) := by decide +kernel
theorem dX3_slotOf_66 : decode cX3_slotOf 66 = .ok (.if_icmp .ne 17, 3) := by decide +kernel
theorem dX3_slotOf_69 : decode cX3_slotOf 69 = .ok (.aload_n 0, 1) := by decide +kernel
theorem dX3_slotOf_70 : decode cX3_slotOf 70 = .ok (.getfield 18, 3) := by decide +kernel
theorem dX3_slotOf_73 : decode cX3_slotOf 73 = .ok (.iload 6, 2) := by decide +kernel
theorem dX3_slotOf_75 : decode cX3_slotOf 75 = .ok (.iaload, 1) := by decide +kernel
theorem dX3_slotOf_76 : decode cX3_slotOf 76 = .ok (.iload_n 3, 1) := by decide +kernel
theorem dX3_slotOf_77 : decode cX3_slotOf 77 = .ok (.if_icmp .ne 6, 3) := by decide +kernel
theorem dX3_slotOf_80 : decode cX3_slotOf 80 = .ok (.iload 4, 2) := by decide +kernel
theorem dX3_slotOf_82 : decode cX3_slotOf 82 = .ok (.ireturn, 1) := by decide +kernel
theorem dX3_slotOf_83 : decode cX3_slotOf 83 = .ok (.iload 4, 2) := by decide +kernel
theorem dX3_slotOf_85 : decode cX3_slotOf 85 = .ok (.iconst 1, 1) := by decide +kernel
theorem dX3_slotOf_86 : decode cX3_slotOf 86 = .ok (.iadd, 1) := by decide +kernel
theorem dX3_slotOf_87 : decode cX3_slotOf 87 = .ok (.sipush 1023, 3) := by decide +kernel
theorem dX3_slotOf_90 : decode cX3_slotOf 90 = .ok (.iand, 1) := by decide +kernel
theorem dX3_slotOf_91 : decode cX3_slotOf 91 = .ok (.istore 4, 2) := by decide +kernel
theorem dX3_slotOf_93 : decode cX3_slotOf 93 = .ok (.iinc 5 1, 3) := by decide +kernel
theorem dX3_slotOf_96 : decode cX3_slotOf 96 = .ok (.goto (-72), 3) := by decide +kernel
theorem dX3_slotOf_99 : decode cX3_slotOf 99 = .ok (.iload 4, 2) := by decide +kernel
theorem dX3_slotOf_101 : decode cX3_slotOf 101 = .ok (.ireturn, 1) := by decide +kernel
theorem dX3_part_0 : decode cX3_part 0 = .ok (.iload_n 2, 1) := by decide +kernel
theorem dX3_part_1 : decode cX3_part 1 = .ok (.tableswitch 81 0 5 #[39, 46, 53, 60, 67, 74], 39) := by decide +kernel
theorem dX3_part_40 : decode cX3_part 40 = .ok (.aload_n 0, 1) := by decide +kernel
theorem dX3_part_41 : decode cX3_part 41 = .ok (.getfield 9, 3) := by decide +kernel
theorem dX3_part_44 : decode cX3_part 44 = .ok (.iload_n 1, 1) := by decide +kernel
theorem dX3_part_45 : decode cX3_part 45 = .ok (.iaload, 1) := by decide +kernel
theorem dX3_part_46 : decode cX3_part 46 = .ok (.ireturn, 1) := by decide +kernel
theorem dX3_part_47 : decode cX3_part 47 = .ok (.aload_n 0, 1) := by decide +kernel
theorem dX3_part_48 : decode cX3_part 48 = .ok (.getfield 15, 3) := by decide +kernel
theorem dX3_part_51 : decode cX3_part 51 = .ok (.iload_n 1, 1) := by decide +kernel
theorem dX3_part_52 : decode cX3_part 52 = .ok (.iaload, 1) := by decide +kernel
theorem dX3_part_53 : decode cX3_part 53 = .ok (.ireturn, 1) := by decide +kernel
theorem dX3_part_54 : decode cX3_part 54 = .ok (.aload_n 0, 1) := by decide +kernel
theorem dX3_part_55 : decode cX3_part 55 = .ok (.getfield 18, 3) := by decide +kernel
theorem dX3_part_58 : decode cX3_part 58 = .ok (.iload_n 1, 1) := by decide +kernel
theorem dX3_part_59 : decode cX3_part 59 = .ok (.iaload, 1) := by decide +kernel
theorem dX3_part_60 : decode cX3_part 60 = .ok (.ireturn, 1) := by decide +kernel
theorem dX3_part_61 : decode cX3_part 61 = .ok (.aload_n 0, 1) := by decide +kernel
theorem dX3_part_62 : decode cX3_part 62 = .ok (.getfield 21, 3) := by decide +kernel
theorem dX3_part_65 : decode cX3_part 65 = .ok (.iload_n 1, 1) := by decide +kernel
theorem dX3_part_66 : decode cX3_part 66 = .ok (.iaload, 1) := by decide +kernel
theorem dX3_part_67 : decode cX3_part 67 = .ok (.ireturn, 1) := by decide +kernel
theorem dX3_part_68 : decode cX3_part 68 = .ok (.aload_n 0, 1) := by decide +kernel
theorem dX3_part_69 : decode cX3_part 69 = .ok (.getfield 24, 3) := by decide +kernel
theorem dX3_part_72 : decode cX3_part 72 = .ok (.iload_n 1, 1) := by decide +kernel
theorem dX3_part_73 : decode cX3_part 73 = .ok (.iaload, 1) := by decide +kernel
theorem dX3_part_74 : decode cX3_part 74 = .ok (.ireturn, 1) := by decide +kernel
theorem dX3_part_75 : decode cX3_part 75 = .ok (.aload_n 0, 1) := by decide +kernel
theorem dX3_part_76 : decode cX3_part 76 = .ok (.getfield 27, 3) := by decide +kernel
theorem dX3_part_79 : decode cX3_part 79 = .ok (.iload_n 1, 1) := by decide +kernel
theorem dX3_part_80 : decode cX3_part 80 = .ok (.iaload, 1) := by decide +kernel
theorem dX3_part_81 : decode cX3_part 81 = .ok (.ireturn, 1) := by decide +kernel
theorem dX3_part_82 : decode cX3_part 82 = .ok (.aload_n 0, 1) := by decide +kernel
theorem dX3_part_83 : decode cX3_part 83 = .ok (.getfield 30, 3) := by decide +kernel
theorem dX3_part_86 : decode cX3_part 86 = .ok (.iload_n 1, 1) := by decide +kernel
theorem dX3_part_87 : decode cX3_part 87 = .ok (.iaload, 1) := by decide +kernel
theorem dX3_part_88 : decode cX3_part 88 = .ok (.ireturn, 1) := by decide +kernel
set_option maxRecDepth 20000 in
theorem ggX3_restSize_X3_markRest : GoodIn wsX3_restSize wsX3_markRest := goodIn_r _ [6, 1, 7, 8, 9, 10, 11, 5, 12, 13, 14, 15, 16, 17, 18, 19, 20, 21, 22, 23, 24] (by decide +kernel) (by decide +kernel)
set_option maxRecDepth 20000 in
theorem gX3_restSize_X3_markRest : GoodIn wsX3_restSize (wsV RX3 62 RX3 yX3_markRest wsX3_markRest) := goodIn_app (goodIn_of _ (by decide +kernel)) ggX3_restSize_X3_markRest
theorem dX3_restSize_0 : decode cX3_restSize 0 = .ok (.aload_n 0, 1) := by decide +kernel
theorem dX3_restSize_1 : decode cX3_restSize 1 = .ok (.iload_n 1, 1) := by decide +kernel
theorem dX3_restSize_2 : decode cX3_restSize 2 = .ok (.invokevirtual 62, 3) := by decide +kernel
theorem dX3_restSize_5 : decode cX3_restSize 5 = .ok (.iconst 0, 1) := by decide +kernel
theorem dX3_restSize_6 : decode cX3_restSize 6 = .ok (.istore_n 2, 1) := by decide +kernel
theorem dX3_restSize_7 : decode cX3_restSize 7 = .ok (.iconst 0, 1) := by decide +kernel
theorem dX3_restSize_8 : decode cX3_restSize 8 = .ok (.istore_n 3, 1) := by decide +kernel
theorem dX3_restSize_9 : decode cX3_restSize 9 = .ok (.iload_n 3, 1) := by decide +kernel
theorem dX3_restSize_10 : decode cX3_restSize 10 = .ok (.iload_n 1, 1) := by decide +kernel
theorem dX3_restSize_11 : decode cX3_restSize 11 = .ok (.if_icmp .gt 21, 3) := by decide +kernel
theorem dX3_restSize_14 : decode cX3_restSize 14 = .ok (.aload_n 0, 1) := by decide +kernel
theorem dX3_restSize_15 : decode cX3_restSize 15 = .ok (.getfield 36, 3) := by decide +kernel
theorem dX3_restSize_18 : decode cX3_restSize 18 = .ok (.iload_n 3, 1) := by decide +kernel
theorem dX3_restSize_19 : decode cX3_restSize 19 = .ok (.baload, 1) := by decide +kernel
theorem dX3_restSize_20 : decode cX3_restSize 20 = .ok (.ifCond .eq 6, 3) := by decide +kernel
theorem dX3_restSize_23 : decode cX3_restSize 23 = .ok (.iinc 2 1, 3) := by decide +kernel
theorem dX3_restSize_26 : decode cX3_restSize 26 = .ok (.iinc 3 1, 3) := by decide +kernel
theorem dX3_restSize_29 : decode cX3_restSize 29 = .ok (.goto (-20), 3) := by decide +kernel
theorem dX3_restSize_32 : decode cX3_restSize 32 = .ok (.iload_n 2, 1) := by decide +kernel
theorem dX3_restSize_33 : decode cX3_restSize 33 = .ok (.ireturn, 1) := by decide +kernel
set_option maxRecDepth 20000 in
theorem ggX3_restMember_X3_markRest : GoodIn wsX3_restMember wsX3_markRest := goodIn_r _ [6, 1, 7, 8, 9, 10, 11, 5, 12, 13, 14, 15, 16, 17, 18, 19, 20, 21, 22, 23, 24] (by decide +kernel) (by decide +kernel)
set_option maxRecDepth 20000 in
theorem gX3_restMember_X3_markRest : GoodIn wsX3_restMember (wsV RX3 62 RX3 yX3_markRest wsX3_markRest) := goodIn_app (goodIn_of _ (by decide +kernel)) ggX3_restMember_X3_markRest
theorem dX3_restMember_0 : decode cX3_restMember 0 = .ok (.aload_n 0, 1) := by decide +kernel
theorem dX3_restMember_1 : decode cX3_restMember 1 = .ok (.iload_n 1, 1) := by decide +kernel
theorem dX3_restMember_2 : decode cX3_restMember 2 = .ok (.invokevirtual 62, 3) := by decide +kernel
theorem dX3_restMember_5 : decode cX3_restMember 5 = .ok (.iconst 0, 1) := by decide +kernel
theorem dX3_restMember_6 : decode cX3_restMember 6 = .ok (.istore_n 3, 1) := by decide +kernel
theorem dX3_restMember_7 : decode cX3_restMember 7 = .ok (.iconst 0, 1) := by decide +kernel
theorem dX3_restMember_8 : decode cX3_restMember 8 = .ok (.istore 4, 2) := by decide +kernel
theorem dX3_restMember_10 : decode cX3_restMember 10 = .ok (.iload 4, 2) := by decide +kernel
theorem dX3_restMember_12 : decode cX3_restMember 12 = .ok (.iload_n 1, 1) := by decide +kernel
theorem dX3_restMember_13 : decode cX3_restMember 13 = .ok (.if_icmp .gt 30, 3) := by decide +kernel
theorem dX3_restMember_16 : decode cX3_restMember 16 = .ok (.aload_n 0, 1) := by decide +kernel
theorem dX3_restMember_17 : decode cX3_restMember 17 = .ok (.getfield 36, 3) := by decide +kernel
theorem dX3_restMember_20 : decode cX3_restMember 20 = .ok (.iload 4, 2) := by decide +kernel
theorem dX3_restMember_22 : decode cX3_restMember 22 = .ok (.baload, 1) := by decide +kernel
theorem dX3_restMember_23 : decode cX3_restMember 23 = .ok (.ifCond .eq 14, 3) := by decide +kernel
theorem dX3_restMember_26 : decode cX3_restMember 26 = .ok (.iload_n 3, 1) := by decide +kernel
theorem dX3_restMember_27 : decode cX3_restMember 27 = .ok (.iload_n 2, 1) := by decide +kernel
theorem dX3_restMember_28 : decode cX3_restMember 28 = .ok (.if_icmp .ne 6, 3) := by decide +kernel
theorem dX3_restMember_31 : decode cX3_restMember 31 = .ok (.iload 4, 2) := by decide +kernel
theorem dX3_restMember_33 : decode cX3_restMember 33 = .ok (.ireturn, 1) := by decide +kernel
theorem dX3_restMember_34 : decode cX3_restMember 34 = .ok (.iinc 3 1, 3) := by decide +kernel
theorem dX3_restMember_37 : decode cX3_restMember 37 = .ok (.iinc 4 1, 3) := by decide +kernel
theorem dX3_restMember_40 : decode cX3_restMember 40 = .ok (.goto (-30), 3) := by decide +kernel
theorem dX3_restMember_43 : decode cX3_restMember 43 = .ok (.iconst (-1), 1) := by decide +kernel
theorem dX3_restMember_44 : decode cX3_restMember 44 = .ok (.ireturn, 1) := by decide +kernel
set_option maxRecDepth 20000 in
theorem ggX3_markRest_X3_markIfRow : GoodIn wsX3_markRest wsX3_markIfRow := goodIn_r _ [8, 1, 9, 10, 11, 12, 13, 14, 15, 16, 17, 18, 19, 20] (by decide +kernel) (by decide +kernel)
set_option maxRecDepth 20000 in
theorem gX3_markRest_X3_markIfRow : GoodIn wsX3_markRest (wsV RX3 66 RX3 yX3_markIfRow wsX3_markIfRow) := goodIn_app (goodIn_of _ (by decide +kernel)) ggX3_markRest_X3_markIfRow
theorem dX3_markRest_0 : decode cX3_markRest 0 = .ok (.iconst 0, 1) := by decide +kernel
theorem dX3_markRest_1 : decode cX3_markRest 1 = .ok (.istore_n 2, 1) := by decide +kernel
theorem dX3_markRest_2 : decode cX3_markRest 2 = .ok (.iload_n 2, 1) := by decide +kernel
theorem dX3_markRest_3 : decode cX3_markRest 3 = .ok (.iload_n 1, 1) := by decide +kernel
theorem dX3_markRest_4 : decode cX3_markRest 4 = .ok (.if_icmp .gt 25, 3) := by decide +kernel
theorem dX3_markRest_7 : decode cX3_markRest 7 = .ok (.aload_n 0, 1) := by decide +kernel
theorem dX3_markRest_8 : decode cX3_markRest 8 = .ok (.getfield 36, 3) := by decide +kernel
theorem dX3_markRest_11 : decode cX3_markRest 11 = .ok (.iload_n 2, 1) := by decide +kernel
theorem dX3_markRest_12 : decode cX3_markRest 12 = .ok (.iload_n 2, 1) := by decide +kernel
theorem dX3_markRest_13 : decode cX3_markRest 13 = .ok (.iload_n 1, 1) := by decide +kernel
theorem dX3_markRest_14 : decode cX3_markRest 14 = .ok (.if_icmp .ne 7, 3) := by decide +kernel
theorem dX3_markRest_17 : decode cX3_markRest 17 = .ok (.iconst 1, 1) := by decide +kernel
theorem dX3_markRest_18 : decode cX3_markRest 18 = .ok (.goto 4, 3) := by decide +kernel
theorem dX3_markRest_21 : decode cX3_markRest 21 = .ok (.iconst 0, 1) := by decide +kernel
theorem dX3_markRest_22 : decode cX3_markRest 22 = .ok (.bastore, 1) := by decide +kernel
theorem dX3_markRest_23 : decode cX3_markRest 23 = .ok (.iinc 2 1, 3) := by decide +kernel
theorem dX3_markRest_26 : decode cX3_markRest 26 = .ok (.goto (-24), 3) := by decide +kernel
theorem dX3_markRest_29 : decode cX3_markRest 29 = .ok (.iload_n 1, 1) := by decide +kernel
theorem dX3_markRest_30 : decode cX3_markRest 30 = .ok (.istore_n 2, 1) := by decide +kernel
theorem dX3_markRest_31 : decode cX3_markRest 31 = .ok (.iload_n 2, 1) := by decide +kernel
theorem dX3_markRest_32 : decode cX3_markRest 32 = .ok (.ifCond .lt 38, 3) := by decide +kernel
theorem dX3_markRest_35 : decode cX3_markRest 35 = .ok (.aload_n 0, 1) := by decide +kernel
theorem dX3_markRest_36 : decode cX3_markRest 36 = .ok (.getfield 36, 3) := by decide +kernel
theorem dX3_markRest_39 : decode cX3_markRest 39 = .ok (.iload_n 2, 1) := by decide +kernel
theorem dX3_markRest_40 : decode cX3_markRest 40 = .ok (.baload, 1) := by decide +kernel
theorem dX3_markRest_41 : decode cX3_markRest 41 = .ok (.ifCond .eq 23, 3) := by decide +kernel
theorem dX3_markRest_44 : decode cX3_markRest 44 = .ok (.aload_n 0, 1) := by decide +kernel
theorem dX3_markRest_45 : decode cX3_markRest 45 = .ok (.aload_n 0, 1) := by decide +kernel
theorem dX3_markRest_46 : decode cX3_markRest 46 = .ok (.getfield 24, 3) := by decide +kernel
theorem dX3_markRest_49 : decode cX3_markRest 49 = .ok (.iload_n 2, 1) := by decide +kernel
theorem dX3_markRest_50 : decode cX3_markRest 50 = .ok (.iaload, 1) := by decide +kernel
theorem dX3_markRest_51 : decode cX3_markRest 51 = .ok (.invokevirtual 66, 3) := by decide +kernel
theorem dX3_markRest_54 : decode cX3_markRest 54 = .ok (.aload_n 0, 1) := by decide +kernel
theorem dX3_markRest_55 : decode cX3_markRest 55 = .ok (.aload_n 0, 1) := by decide +kernel
theorem dX3_markRest_56 : decode cX3_markRest 56 = .ok (.getfield 27, 3) := by decide +kernel
theorem dX3_markRest_59 : decode cX3_markRest 59 = .ok (.iload_n 2, 1) := by decide +kernel
theorem dX3_markRest_60 : decode cX3_markRest 60 = .ok (.iaload, 1) := by decide +kernel
theorem dX3_markRest_61 : decode cX3_markRest 61 = .ok (.invokevirtual 66, 3) := by decide +kernel
theorem dX3_markRest_64 : decode cX3_markRest 64 = .ok (.iinc 2 (-1), 3) := by decide +kernel
theorem dX3_markRest_67 : decode cX3_markRest 67 = .ok (.goto (-36), 3) := by decide +kernel
theorem dX3_markRest_70 : decode cX3_markRest 70 = .ok (.return_, 1) := by decide +kernel
theorem dX3_markIfRow_0 : decode cX3_markIfRow 0 = .ok (.iload_n 1, 1) := by decide +kernel
theorem dX3_markIfRow_1 : decode cX3_markIfRow 1 = .ok (.iconst (-1), 1) := by decide +kernel
theorem dX3_markIfRow_2 : decode cX3_markIfRow 2 = .ok (.if_icmp .eq 10, 3) := by decide +kernel
theorem dX3_markIfRow_5 : decode cX3_markIfRow 5 = .ok (.aload_n 0, 1) := by decide +kernel
theorem dX3_markIfRow_6 : decode cX3_markIfRow 6 = .ok (.getfield 36, 3) := by decide +kernel
theorem dX3_markIfRow_9 : decode cX3_markIfRow 9 = .ok (.iload_n 1, 1) := by decide +kernel
theorem dX3_markIfRow_10 : decode cX3_markIfRow 10 = .ok (.iconst 1, 1) := by decide +kernel
theorem dX3_markIfRow_11 : decode cX3_markIfRow 11 = .ok (.bastore, 1) := by decide +kernel
theorem dX3_markIfRow_12 : decode cX3_markIfRow 12 = .ok (.return_, 1) := by decide +kernel
theorem dX3_madeBy_0 : decode cX3_madeBy 0 = .ok (.iconst 0, 1) := by decide +kernel
theorem dX3_madeBy_1 : decode cX3_madeBy 1 = .ok (.istore_n 2, 1) := by decide +kernel
theorem dX3_madeBy_2 : decode cX3_madeBy 2 = .ok (.iconst 0, 1) := by decide +kernel
theorem dX3_madeBy_3 : decode cX3_madeBy 3 = .ok (.istore_n 3, 1) := by decide +kernel
theorem dX3_madeBy_4 : decode cX3_madeBy 4 = .ok (.iload_n 3, 1) := by decide +kernel
theorem dX3_madeBy_5 : decode cX3_madeBy 5 = .ok (.aload_n 0, 1) := by decide +kernel
theorem dX3_madeBy_6 : decode cX3_madeBy 6 = .ok (.getfield 40, 3) := by decide +kernel
theorem dX3_madeBy_9 : decode cX3_madeBy 9 = .ok (.if_icmp .ge 22, 3) := by decide +kernel
theorem dX3_madeBy_12 : decode cX3_madeBy 12 = .ok (.aload_n 0, 1) := by decide +kernel
theorem dX3_madeBy_13 : decode cX3_madeBy 13 = .ok (.getfield 21, 3) := by decide +kernel
theorem dX3_madeBy_16 : decode cX3_madeBy 16 = .ok (.iload_n 3, 1) := by decide +kernel
theorem dX3_madeBy_17 : decode cX3_madeBy 17 = .ok (.iaload, 1) := by decide +kernel
theorem dX3_madeBy_18 : decode cX3_madeBy 18 = .ok (.iload_n 1, 1) := by decide +kernel
theorem dX3_madeBy_19 : decode cX3_madeBy 19 = .ok (.if_icmp .ne 6, 3) := by decide +kernel
theorem dX3_madeBy_22 : decode cX3_madeBy 22 = .ok (.iinc 2 1, 3) := by decide +kernel
theorem dX3_madeBy_25 : decode cX3_madeBy 25 = .ok (.iinc 3 1, 3) := by decide +kernel
theorem dX3_madeBy_28 : decode cX3_madeBy 28 = .ok (.goto (-24), 3) := by decide +kernel
theorem dX3_madeBy_31 : decode cX3_madeBy 31 = .ok (.iload_n 2, 1) := by decide +kernel
theorem dX3_madeBy_32 : decode cX3_madeBy 32 = .ok (.ireturn, 1) := by decide +kernel
theorem dX3_literalSubjects_0 : decode cX3_literalSubjects 0 = .ok (.iconst 0, 1) := by decide +kernel
theorem dX3_literalSubjects_1 : decode cX3_literalSubjects 1 = .ok (.istore_n 1, 1) := by decide +kernel
theorem dX3_literalSubjects_2 : decode cX3_literalSubjects 2 = .ok (.iconst 0, 1) := by decide +kernel
theorem dX3_literalSubjects_3 : decode cX3_literalSubjects 3 = .ok (.istore_n 2, 1) := by decide +kernel
theorem dX3_literalSubjects_4 : decode cX3_literalSubjects 4 = .ok (.iload_n 2, 1) := by decide +kernel
theorem dX3_literalSubjects_5 : decode cX3_literalSubjects 5 = .ok (.aload_n 0, 1) := by decide +kernel
theorem dX3_literalSubjects_6 : decode cX3_literalSubjects 6 = .ok (.getfield 40, 3) := by decide +kernel
theorem dX3_literalSubjects_9 : decode cX3_literalSubjects 9 = .ok (.if_icmp .ge 24, 3) := by decide +kernel
theorem dX3_literalSubjects_12 : decode cX3_literalSubjects 12 = .ok (.aload_n 0, 1) := by decide +kernel
theorem dX3_literalSubjects_13 : decode cX3_literalSubjects 13 = .ok (.getfield 9, 3) := by decide +kernel
theorem dX3_literalSubjects_16 : decode cX3_literalSubjects 16 = .ok (.iload_n 2, 1) := by decide +kernel
theorem dX3_literalSubjects_17 : decode cX3_literalSubjects 17 = .ok (.iaload, 1) := by decide +kernel
theorem dX3_literalSubjects_18 : decode cX3_literalSubjects 18 = .ok (.sipush 300, 3) := by decide +kernel
theorem dX3_literalSubjects_21 : decode cX3_literalSubjects 21 = .ok (.if_icmp .lt 6, 3) := by decide +kernel
theorem dX3_literalSubjects_24 : decode cX3_literalSubjects 24 = .ok (.iinc 1 1, 3) := by decide +kernel
theorem dX3_literalSubjects_27 : decode cX3_literalSubjects 27 = .ok (.iinc 2 1, 3) := by decide +kernel
theorem dX3_literalSubjects_30 : decode cX3_literalSubjects 30 = .ok (.goto (-26), 3) := by decide +kernel
theorem dX3_literalSubjects_33 : decode cX3_literalSubjects 33 = .ok (.iload_n 1, 1) := by decide +kernel
theorem dX3_literalSubjects_34 : decode cX3_literalSubjects 34 = .ok (.ireturn, 1) := by decide +kernel
theorem dX3_membershipsBeyondAxioms_0 : decode cX3_membershipsBeyondAxioms 0 = .ok (.iconst 0, 1) := by decide +kernel
theorem dX3_membershipsBeyondAxioms_1 : decode cX3_membershipsBeyondAxioms 1 = .ok (.istore_n 1, 1) := by decide +kernel
theorem dX3_membershipsBeyondAxioms_2 : decode cX3_membershipsBeyondAxioms 2 = .ok (.iconst 0, 1) := by decide +kernel
theorem dX3_membershipsBeyondAxioms_3 : decode cX3_membershipsBeyondAxioms 3 = .ok (.istore_n 2, 1) := by decide +kernel
theorem dX3_membershipsBeyondAxioms_4 : decode cX3_membershipsBeyondAxioms 4 = .ok (.iload_n 2, 1) := by decide +kernel
theorem dX3_membershipsBeyondAxioms_5 : decode cX3_membershipsBeyondAxioms 5 = .ok (.aload_n 0, 1) := by decide +kernel
theorem dX3_membershipsBeyondAxioms_6 : decode cX3_membershipsBeyondAxioms 6 = .ok (.getfield 40, 3) := by decide +kernel
theorem dX3_membershipsBeyondAxioms_9 : decode cX3_membershipsBeyondAxioms 9 = .ok (.if_icmp .ge 39, 3) := by decide +kernel
theorem dX3_membershipsBeyondAxioms_12 : decode cX3_membershipsBeyondAxioms 12 = .ok (.aload_n 0, 1) := by decide +kernel
theorem dX3_membershipsBeyondAxioms_13 : decode cX3_membershipsBeyondAxioms 13 = .ok (.getfield 15, 3) := by decide +kernel
theorem dX3_membershipsBeyondAxioms_16 : decode cX3_membershipsBeyondAxioms 16 = .ok (.iload_n 2, 1) := by decide +kernel
theorem dX3_membershipsBeyondAxioms_17 : decode cX3_membershipsBeyondAxioms 17 = .ok (.iaload, 1) := by decide +kernel
theorem dX3_membershipsBeyondAxioms_18 : decode cX3_membershipsBeyondAxioms 18 = .ok (.bipush 20, 2) := by decide +kernel
theorem dX3_membershipsBeyondAxioms_20 : decode cX3_membershipsBeyondAxioms 20 = .ok (.aload_n 0, 1) := by decide +kernel
theorem dX3_membershipsBeyondAxioms_21 : decode cX3_membershipsBeyondAxioms 21 = .ok (.getfield 48, 3) := by decide +kernel
theorem dX3_membershipsBeyondAxioms_24 : decode cX3_membershipsBeyondAxioms 24 = .ok (.iadd, 1) := by decide +kernel
theorem dX3_membershipsBeyondAxioms_25 : decode cX3_membershipsBeyondAxioms 25 = .ok (.if_icmp .lt 17, 3) := by decide +kernel
theorem dX3_membershipsBeyondAxioms_28 : decode cX3_membershipsBeyondAxioms 28 = .ok (.aload_n 0, 1) := by decide +kernel
theorem dX3_membershipsBeyondAxioms_29 : decode cX3_membershipsBeyondAxioms 29 = .ok (.getfield 15, 3) := by decide +kernel
theorem dX3_membershipsBeyondAxioms_32 : decode cX3_membershipsBeyondAxioms 32 = .ok (.iload_n 2, 1) := by decide +kernel
theorem dX3_membershipsBeyondAxioms_33 : decode cX3_membershipsBeyondAxioms 33 = .ok (.iaload, 1) := by decide +kernel
theorem dX3_membershipsBeyondAxioms_34 : decode cX3_membershipsBeyondAxioms 34 = .ok (.bipush 29, 2) := by decide +kernel
theorem dX3_membershipsBeyondAxioms_36 : decode cX3_membershipsBeyondAxioms 36 = .ok (.if_icmp .ge 6, 3) := by decide +kernel
theorem dX3_membershipsBeyondAxioms_39 : decode cX3_membershipsBeyondAxioms 39 = .ok (.iinc 1 1, 3) := by decide +kernel
theorem dX3_membershipsBeyondAxioms_42 : decode cX3_membershipsBeyondAxioms 42 = .ok (.iinc 2 1, 3) := by decide +kernel
theorem dX3_membershipsBeyondAxioms_45 : decode cX3_membershipsBeyondAxioms 45 = .ok (.goto (-41), 3) := by decide +kernel
theorem dX3_membershipsBeyondAxioms_48 : decode cX3_membershipsBeyondAxioms 48 = .ok (.iload_n 1, 1) := by decide +kernel
theorem dX3_membershipsBeyondAxioms_49 : decode cX3_membershipsBeyondAxioms 49 = .ok (.ireturn, 1) := by decide +kernel
theorem dX4_init_0 : decode cX4_init 0 = .ok (.aload_n 0, 1) := by decide +kernel
theorem dX4_init_1 : decode cX4_init 1 = .ok (.invokespecial 3, 3) := by decide +kernel
theorem dX4_init_4 : decode cX4_init 4 = .ok (.aload_n 0, 1) := by decide +kernel
theorem dX4_init_5 : decode cX4_init 5 = .ok (.bipush 40, 2) := by decide +kernel
theorem dX4_init_7 : decode cX4_init 7 = .ok (.newarray .int, 2) := by decide +kernel
theorem dX4_init_9 : decode cX4_init 9 = .ok (.putfield 9, 3) := by decide +kernel
theorem dX4_init_12 : decode cX4_init 12 = .ok (.aload_n 0, 1) := by decide +kernel
theorem dX4_init_13 : decode cX4_init 13 = .ok (.iconst 0, 1) := by decide +kernel
theorem dX4_init_14 : decode cX4_init 14 = .ok (.putfield 15, 3) := by decide +kernel
theorem dX4_init_17 : decode cX4_init 17 = .ok (.return_, 1) := by decide +kernel
theorem dX4_literals_0 : decode cX4_literals 0 = .ok (.aload_n 0, 1) := by decide +kernel
theorem dX4_literals_1 : decode cX4_literals 1 = .ok (.getfield 15, 3) := by decide +kernel
theorem dX4_literals_4 : decode cX4_literals 4 = .ok (.ireturn, 1) := by decide +kernel
theorem dX4_isNonLiteral_0 : decode cX4_isNonLiteral 0 = .ok (.iload_n 1, 1) := by decide +kernel
theorem dX4_isNonLiteral_1 : decode cX4_isNonLiteral 1 = .ok (.ifCond .lt 9, 3) := by decide +kernel
theorem dX4_isNonLiteral_4 : decode cX4_isNonLiteral 4 = .ok (.iload_n 1, 1) := by decide +kernel
theorem dX4_isNonLiteral_5 : decode cX4_isNonLiteral 5 = .ok (.bipush 11, 2) := by decide +kernel
theorem dX4_isNonLiteral_7 : decode cX4_isNonLiteral 7 = .ok (.if_icmp .le 28, 3) := by decide +kernel
theorem dX4_isNonLiteral_10 : decode cX4_isNonLiteral 10 = .ok (.iload_n 1, 1) := by decide +kernel
theorem dX4_isNonLiteral_11 : decode cX4_isNonLiteral 11 = .ok (.bipush 20, 2) := by decide +kernel
theorem dX4_isNonLiteral_13 : decode cX4_isNonLiteral 13 = .ok (.if_icmp .lt 9, 3) := by decide +kernel
theorem dX4_isNonLiteral_16 : decode cX4_isNonLiteral 16 = .ok (.iload_n 1, 1) := by decide +kernel
theorem dX4_isNonLiteral_17 : decode cX4_isNonLiteral 17 = .ok (.bipush 29, 2) := by decide +kernel
theorem dX4_isNonLiteral_19 : decode cX4_isNonLiteral 19 = .ok (.if_icmp .lt 16, 3) := by decide +kernel
theorem dX4_isNonLiteral_22 : decode cX4_isNonLiteral 22 = .ok (.iload_n 1, 1) := by decide +kernel
theorem dX4_isNonLiteral_23 : decode cX4_isNonLiteral 23 = .ok (.bipush 100, 2) := by decide +kernel
theorem dX4_isNonLiteral_25 : decode cX4_isNonLiteral 25 = .ok (.if_icmp .lt 14, 3) := by decide +kernel
theorem dX4_isNonLiteral_28 : decode cX4_isNonLiteral 28 = .ok (.iload_n 1, 1) := by decide +kernel
theorem dX4_isNonLiteral_29 : decode cX4_isNonLiteral 29 = .ok (.sipush 199, 3) := by decide +kernel
theorem dX4_isNonLiteral_32 : decode cX4_isNonLiteral 32 = .ok (.if_icmp .gt 7, 3) := by decide +kernel
theorem dX4_isNonLiteral_35 : decode cX4_isNonLiteral 35 = .ok (.iconst 1, 1) := by decide +kernel
theorem dX4_isNonLiteral_36 : decode cX4_isNonLiteral 36 = .ok (.goto 4, 3) := by decide +kernel
theorem dX4_isNonLiteral_39 : decode cX4_isNonLiteral 39 = .ok (.iconst 0, 1) := by decide +kernel
theorem dX4_isNonLiteral_40 : decode cX4_isNonLiteral 40 = .ok (.ireturn, 1) := by decide +kernel
theorem dX4_isLiteral_0 : decode cX4_isLiteral 0 = .ok (.iload_n 1, 1) := by decide +kernel
theorem dX4_isLiteral_1 : decode cX4_isLiteral 1 = .ok (.sipush 300, 3) := by decide +kernel
theorem dX4_isLiteral_4 : decode cX4_isLiteral 4 = .ok (.if_icmp .lt 19, 3) := by decide +kernel
theorem dX4_isLiteral_7 : decode cX4_isLiteral 7 = .ok (.iload_n 1, 1) := by decide +kernel
theorem dX4_isLiteral_8 : decode cX4_isLiteral 8 = .ok (.sipush 300, 3) := by decide +kernel
theorem dX4_isLiteral_11 : decode cX4_isLiteral 11 = .ok (.aload_n 0, 1) := by decide +kernel
theorem dX4_isLiteral_12 : decode cX4_isLiteral 12 = .ok (.getfield 15, 3) := by decide +kernel
theorem dX4_isLiteral_15 : decode cX4_isLiteral 15 = .ok (.iadd, 1) := by decide +kernel
theorem dX4_isLiteral_16 : decode cX4_isLiteral 16 = .ok (.if_icmp .ge 7, 3) := by decide +kernel
theorem dX4_isLiteral_19 : decode cX4_isLiteral 19 = .ok (.iconst 1, 1) := by decide +kernel
theorem dX4_isLiteral_20 : decode cX4_isLiteral 20 = .ok (.goto 4, 3) := by decide +kernel
theorem dX4_isLiteral_23 : decode cX4_isLiteral 23 = .ok (.iconst 0, 1) := by decide +kernel
theorem dX4_isLiteral_24 : decode cX4_isLiteral 24 = .ok (.ireturn, 1) := by decide +kernel
set_option maxRecDepth 20000 in
theorem ggX4_isTerm_X4_isNonLiteral : GoodIn wsX4_isTerm wsX4_isNonLiteral := goodIn_r _ [5] (by decide +kernel) (by decide +kernel)
set_option maxRecDepth 20000 in
theorem gX4_isTerm_X4_isNonLiteral : GoodIn wsX4_isTerm (wsV RX4 19 RX4 yX4_isNonLiteral wsX4_isNonLiteral) := goodIn_app (goodIn_of _ (by decide +kernel)) ggX4_isTerm_X4_isNonLiteral
set_option maxRecDepth 20000 in
theorem ggX4_isTerm_X4_isLiteral : GoodIn wsX4_isTerm wsX4_isLiteral := goodIn_r _ [9, 10, 11, 12] (by decide +kernel) (by decide +kernel)
set_option maxRecDepth 20000 in
theorem gX4_isTerm_X4_isLiteral : GoodIn wsX4_isTerm (wsV RX4 23 RX4 yX4_isLiteral wsX4_isLiteral) := goodIn_app (goodIn_of _ (by decide +kernel)) ggX4_isTerm_X4_isLiteral
theorem dX4_isTerm_0 : decode cX4_isTerm 0 = .ok (.aload_n 0, 1) := by decide +kernel
theorem dX4_isTerm_1 : decode cX4_isTerm 1 = .ok (.iload_n 1, 1) := by decide +kernel
theorem dX4_isTerm_2 : decode cX4_isTerm 2 = .ok (.invokevirtual 19, 3) := by decide +kernel
theorem dX4_isTerm_5 : decode cX4_isTerm 5 = .ok (.ifCond .ne 11, 3) := by decide +kernel
theorem dX4_isTerm_8 : decode cX4_isTerm 8 = .ok (.aload_n 0, 1) := by decide +kernel
theorem dX4_isTerm_9 : decode cX4_isTerm 9 = .ok (.iload_n 1, 1) := by decide +kernel
theorem dX4_isTerm_10 : decode cX4_isTerm 10 = .ok (.invokevirtual 23, 3) := by decide +kernel
theorem dX4_isTerm_13 : decode cX4_isTerm 13 = .ok (.ifCond .eq 7, 3) := by decide +kernel
theorem dX4_isTerm_16 : decode cX4_isTerm 16 = .ok (.iconst 1, 1) := by decide +kernel
theorem dX4_isTerm_17 : decode cX4_isTerm 17 = .ok (.goto 4, 3) := by decide +kernel
theorem dX4_isTerm_20 : decode cX4_isTerm 20 = .ok (.iconst 0, 1) := by decide +kernel
theorem dX4_isTerm_21 : decode cX4_isTerm 21 = .ok (.ireturn, 1) := by decide +kernel
set_option maxRecDepth 20000 in
theorem ggX4_typeOf_X4_isLiteral : GoodIn wsX4_typeOf wsX4_isLiteral := goodIn_r _ [6, 7, 8, 9] (by decide +kernel) (by decide +kernel)
set_option maxRecDepth 20000 in
theorem gX4_typeOf_X4_isLiteral : GoodIn wsX4_typeOf (wsV RX4 23 RX4 yX4_isLiteral wsX4_isLiteral) := goodIn_app (goodIn_of _ (by decide +kernel)) ggX4_typeOf_X4_isLiteral
theorem dX4_typeOf_0 : decode cX4_typeOf 0 = .ok (.aload_n 0, 1) := by decide +kernel
theorem dX4_typeOf_1 : decode cX4_typeOf 1 = .ok (.iload_n 1, 1) := by decide +kernel
theorem dX4_typeOf_2 : decode cX4_typeOf 2 = .ok (.invokevirtual 23, 3) := by decide +kernel
theorem dX4_typeOf_5 : decode cX4_typeOf 5 = .ok (.ifCond .eq 16, 3) := by decide +kernel
theorem dX4_typeOf_8 : decode cX4_typeOf 8 = .ok (.aload_n 0, 1) := by decide +kernel
theorem dX4_typeOf_9 : decode cX4_typeOf 9 = .ok (.getfield 9, 3) := by decide +kernel
theorem dX4_typeOf_12 : decode cX4_typeOf 12 = .ok (.iload_n 1, 1) := by decide +kernel
theorem dX4_typeOf_13 : decode cX4_typeOf 13 = .ok (.sipush 300, 3) := by decide +kernel
theorem dX4_typeOf_16 : decode cX4_typeOf 16 = .ok (.isub, 1) := by decide +kernel
theorem dX4_typeOf_17 : decode cX4_typeOf 17 = .ok (.iaload, 1) := by decide +kernel
theorem dX4_typeOf_18 : decode cX4_typeOf 18 = .ok (.goto 4, 3) := by decide +kernel
theorem dX4_typeOf_21 : decode cX4_typeOf 21 = .ok (.iconst (-1), 1) := by decide +kernel
theorem dX4_typeOf_22 : decode cX4_typeOf 22 = .ok (.ireturn, 1) := by decide +kernel
theorem dX4_addLiteral_0 : decode cX4_addLiteral 0 = .ok (.aload_n 0, 1) := by decide +kernel
theorem dX4_addLiteral_1 : decode cX4_addLiteral 1 = .ok (.getfield 9, 3) := by decide +kernel
theorem dX4_addLiteral_4 : decode cX4_addLiteral 4 = .ok (.aload_n 0, 1) := by decide +kernel
theorem dX4_addLiteral_5 : decode cX4_addLiteral 5 = .ok (.getfield 15, 3) := by decide +kernel
theorem dX4_addLiteral_8 : decode cX4_addLiteral 8 = .ok (.iload_n 1, 1) := by decide +kernel
theorem dX4_addLiteral_9 : decode cX4_addLiteral 9 = .ok (.iastore, 1) := by decide +kernel
theorem dX4_addLiteral_10 : decode cX4_addLiteral 10 = .ok (.aload_n 0, 1) := by decide +kernel
theorem dX4_addLiteral_11 : decode cX4_addLiteral 11 = .ok (.dup, 1) := by decide +kernel
theorem dX4_addLiteral_12 : decode cX4_addLiteral 12 = .ok (.getfield 15, 3) := by decide +kernel
theorem dX4_addLiteral_15 : decode cX4_addLiteral 15 = .ok (.iconst 1, 1) := by decide +kernel
theorem dX4_addLiteral_16 : decode cX4_addLiteral 16 = .ok (.iadd, 1) := by decide +kernel
theorem dX4_addLiteral_17 : decode cX4_addLiteral 17 = .ok (.putfield 15, 3) := by decide +kernel
theorem dX4_addLiteral_20 : decode cX4_addLiteral 20 = .ok (.sipush 300, 3) := by decide +kernel
theorem dX4_addLiteral_23 : decode cX4_addLiteral 23 = .ok (.aload_n 0, 1) := by decide +kernel
theorem dX4_addLiteral_24 : decode cX4_addLiteral 24 = .ok (.getfield 15, 3) := by decide +kernel
theorem dX4_addLiteral_27 : decode cX4_addLiteral 27 = .ok (.iadd, 1) := by decide +kernel
theorem dX4_addLiteral_28 : decode cX4_addLiteral 28 = .ok (.iconst 1, 1) := by decide +kernel
theorem dX4_addLiteral_29 : decode cX4_addLiteral 29 = .ok (.isub, 1) := by decide +kernel
theorem dX4_addLiteral_30 : decode cX4_addLiteral 30 = .ok (.ireturn, 1) := by decide +kernel
