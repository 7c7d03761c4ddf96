theorem dX0_init_0 : decode cX0_init 0 = .ok (.aload_n 0, 1) := by decide +kernel
theorem dX0_init_1 : decode cX0_init 1 = .ok (.invokespecial 3, 3) := by decide +kernel
theorem dX0_init_4 : decode cX0_init 4 = .ok (.aload_n 0, 1) := by decide +kernel
theorem dX0_init_5 : decode cX0_init 5 = .ok (.iconst 0, 1) := by decide +kernel
theorem dX0_init_6 : decode cX0_init 6 = .ok (.putfield 9, 3) := by decide +kernel
theorem dX0_init_9 : decode cX0_init 9 = .ok (.aload_n 0, 1) := by decide +kernel
theorem dX0_init_10 : decode cX0_init 10 = .ok (.iconst 0, 1) := by decide +kernel
theorem dX0_init_11 : decode cX0_init 11 = .ok (.putfield 15, 3) := by decide +kernel
theorem dX0_init_14 : decode cX0_init 14 = .ok (.aload_n 0, 1) := by decide +kernel
theorem dX0_init_15 : decode cX0_init 15 = .ok (.iconst 0, 1) := by decide +kernel
theorem dX0_init_16 : decode cX0_init 16 = .ok (.putfield 18, 3) := by decide +kernel
theorem dX0_init_19 : decode cX0_init 19 = .ok (.aload_n 0, 1) := by decide +kernel
theorem dX0_init_20 : decode cX0_init 20 = .ok (.lconst 0, 1) := by decide +kernel
theorem dX0_init_21 : decode cX0_init 21 = .ok (.putfield 21, 3) := by decide +kernel
theorem dX0_init_24 : decode cX0_init 24 = .ok (.return_, 1) := by decide +kernel
theorem dX0_become_0 : decode cX0_become 0 = .ok (.aload_n 0, 1) := by decide +kernel
theorem dX0_become_1 : decode cX0_become 1 = .ok (.iload_n 1, 1) := by decide +kernel
theorem dX0_become_2 : decode cX0_become 2 = .ok (.putfield 9, 3) := by decide +kernel
theorem dX0_become_5 : decode cX0_become 5 = .ok (.aload_n 0, 1) := by decide +kernel
theorem dX0_become_6 : decode cX0_become 6 = .ok (.iload_n 2, 1) := by decide +kernel
theorem dX0_become_7 : decode cX0_become 7 = .ok (.putfield 15, 3) := by decide +kernel
theorem dX0_become_10 : decode cX0_become 10 = .ok (.aload_n 0, 1) := by decide +kernel
theorem dX0_become_11 : decode cX0_become 11 = .ok (.iload_n 3, 1) := by decide +kernel
theorem dX0_become_12 : decode cX0_become 12 = .ok (.putfield 18, 3) := by decide +kernel
theorem dX0_become_15 : decode cX0_become 15 = .ok (.aload_n 0, 1) := by decide +kernel
theorem dX0_become_16 : decode cX0_become 16 = .ok (.lload 4, 2) := by decide +kernel
theorem dX0_become_18 : decode cX0_become 18 = .ok (.putfield 21, 3) := by decide +kernel
theorem dX0_become_21 : decode cX0_become 21 = .ok (.return_, 1) := by decide +kernel
theorem dX0_isHelp_0 : decode cX0_isHelp 0 = .ok (.aload_n 0, 1) := by decide +kernel
theorem dX0_isHelp_1 : decode cX0_isHelp 1 = .ok (.getfield 9, 3) := by decide +kernel
theorem dX0_isHelp_4 : decode cX0_isHelp 4 = .ok (.iconst 3, 1) := by decide +kernel
theorem dX0_isHelp_5 : decode cX0_isHelp 5 = .ok (.if_icmp .eq 11, 3) := by decide +kernel
theorem dX0_isHelp_8 : decode cX0_isHelp 8 = .ok (.aload_n 0, 1) := by decide +kernel
theorem dX0_isHelp_9 : decode cX0_isHelp 9 = .ok (.getfield 9, 3) := by decide +kernel
theorem dX0_isHelp_12 : decode cX0_isHelp 12 = .ok (.iconst 4, 1) := by decide +kernel
theorem dX0_isHelp_13 : decode cX0_isHelp 13 = .ok (.if_icmp .ne 7, 3) := by decide +kernel
theorem dX0_isHelp_16 : decode cX0_isHelp 16 = .ok (.iconst 1, 1) := by decide +kernel
theorem dX0_isHelp_17 : decode cX0_isHelp 17 = .ok (.goto 4, 3) := by decide +kernel
theorem dX0_isHelp_20 : decode cX0_isHelp 20 = .ok (.iconst 0, 1) := by decide +kernel
theorem dX0_isHelp_21 : decode cX0_isHelp 21 = .ok (.ireturn, 1) := by decide +kernel
set_option maxRecDepth 20000 in
theorem ggX0_amount_X1_strength : GoodIn wsX0_amount wsX1_strength := goodIn_r _ [7, 8, 9, 10, 11, 12, 6, 13, 14, 19, 20, 21] (by decide +kernel) (by decide +kernel)
set_option maxRecDepth 20000 in
theorem gX0_amount_X1_strength : GoodIn wsX0_amount (wsV RX0 25 RX1 yX1_strength wsX1_strength) := goodIn_app (goodIn_of _ (by decide +kernel)) ggX0_amount_X1_strength
theorem dX0_amount_0 : decode cX0_amount 0 = .ok (.aload_n 0, 1) := by decide +kernel
theorem dX0_amount_1 : decode cX0_amount 1 = .ok (.getfield 9, 3) := by decide +kernel
theorem dX0_amount_4 : decode cX0_amount 4 = .ok (.lookupswitch 49 #[(3, 28), (4, 38)], 28) := by decide +kernel
theorem dX0_amount_32 : decode cX0_amount 32 = .ok (.aload_n 1, 1) := by decide +kernel
theorem dX0_amount_33 : decode cX0_amount 33 = .ok (.aload_n 0, 1) := by decide +kernel
theorem dX0_amount_34 : decode cX0_amount 34 = .ok (.getfield 21, 3) := by decide +kernel
theorem dX0_amount_37 : decode cX0_amount 37 = .ok (.invokevirtual 25, 3) := by decide +kernel
theorem dX0_amount_40 : decode cX0_amount 40 = .ok (.i2l, 1) := by decide +kernel
theorem dX0_amount_41 : decode cX0_amount 41 = .ok (.lreturn, 1) := by decide +kernel
theorem dX0_amount_42 : decode cX0_amount 42 = .ok (.aload_n 1, 1) := by decide +kernel
theorem dX0_amount_43 : decode cX0_amount 43 = .ok (.aload_n 0, 1) := by decide +kernel
theorem dX0_amount_44 : decode cX0_amount 44 = .ok (.getfield 21, 3) := by decide +kernel
theorem dX0_amount_47 : decode cX0_amount 47 = .ok (.invokevirtual 25, 3) := by decide +kernel
theorem dX0_amount_50 : decode cX0_amount 50 = .ok (.ineg, 1) := by decide +kernel
theorem dX0_amount_51 : decode cX0_amount 51 = .ok (.i2l, 1) := by decide +kernel
theorem dX0_amount_52 : decode cX0_amount 52 = .ok (.lreturn, 1) := by decide +kernel
theorem dX0_amount_53 : decode cX0_amount 53 = .ok (.aload_n 0, 1) := by decide +kernel
theorem dX0_amount_54 : decode cX0_amount 54 = .ok (.getfield 21, 3) := by decide +kernel
theorem dX0_amount_57 : decode cX0_amount 57 = .ok (.lreturn, 1) := by decide +kernel
theorem dX1_init_0 : decode cX1_init 0 = .ok (.aload_n 0, 1) := by decide +kernel
theorem dX1_init_1 : decode cX1_init 1 = .ok (.invokespecial 3, 3) := by decide +kernel
theorem dX1_init_4 : decode cX1_init 4 = .ok (.aload_n 0, 1) := by decide +kernel
theorem dX1_init_5 : decode cX1_init 5 = .ok (.iconst 0, 1) := by decide +kernel
theorem dX1_init_6 : decode cX1_init 6 = .ok (.putfield 9, 3) := by decide +kernel
theorem dX1_init_9 : decode cX1_init 9 = .ok (.aload_n 0, 1) := by decide +kernel
theorem dX1_init_10 : decode cX1_init 10 = .ok (.iconst 3, 1) := by decide +kernel
theorem dX1_init_11 : decode cX1_init 11 = .ok (.newarray .int, 2) := by decide +kernel
theorem dX1_init_13 : decode cX1_init 13 = .ok (.putfield 15, 3) := by decide +kernel
theorem dX1_init_16 : decode cX1_init 16 = .ok (.aload_n 0, 1) := by decide +kernel
theorem dX1_init_17 : decode cX1_init 17 = .ok (.iconst 3, 1) := by decide +kernel
theorem dX1_init_18 : decode cX1_init 18 = .ok (.newarray .int, 2) := by decide +kernel
theorem dX1_init_20 : decode cX1_init 20 = .ok (.putfield 19, 3) := by decide +kernel
theorem dX1_init_23 : decode cX1_init 23 = .ok (.return_, 1) := by decide +kernel
theorem dX1_has_0 : decode cX1_has 0 = .ok (.lload_n 1, 1) := by decide +kernel
theorem dX1_has_1 : decode cX1_has 1 = .ok (.lconst 0, 1) := by decide +kernel
theorem dX1_has_2 : decode cX1_has 2 = .ok (.lcmp, 1) := by decide +kernel
theorem dX1_has_3 : decode cX1_has 3 = .ok (.ifCond .lt 17, 3) := by decide +kernel
theorem dX1_has_6 : decode cX1_has 6 = .ok (.lload_n 1, 1) := by decide +kernel
theorem dX1_has_7 : decode cX1_has 7 = .ok (.aload_n 0, 1) := by decide +kernel
theorem dX1_has_8 : decode cX1_has 8 = .ok (.getfield 9, 3) := by decide +kernel
theorem dX1_has_11 : decode cX1_has 11 = .ok (.i2l, 1) := by decide +kernel
theorem dX1_has_12 : decode cX1_has 12 = .ok (.lcmp, 1) := by decide +kernel
theorem dX1_has_13 : decode cX1_has 13 = .ok (.ifCond .ge 7, 3) := by decide +kernel
theorem dX1_has_16 : decode cX1_has 16 = .ok (.iconst 1, 1) := by decide +kernel
theorem dX1_has_17 : decode cX1_has 17 = .ok (.goto 4, 3) := by decide +kernel
theorem dX1_has_20 : decode cX1_has 20 = .ok (.iconst 0, 1) := by decide +kernel
theorem dX1_has_21 : decode cX1_has 21 = .ok (.ireturn, 1) := by decide +kernel
theorem dX1_join_0 : decode cX1_join 0 = .ok (.aload_n 0, 1) := by decide +kernel
theorem dX1_join_1 : decode cX1_join 1 = .ok (.getfield 9, 3) := by decide +kernel
theorem dX1_join_4 : decode cX1_join 4 = .ok (.iconst 3, 1) := by decide +kernel
theorem dX1_join_5 : decode cX1_join 5 = .ok (.if_icmp .ge 33, 3) := by decide +kernel
theorem dX1_join_8 : decode cX1_join 8 = .ok (.aload_n 0, 1) := by decide +kernel
theorem dX1_join_9 : decode cX1_join 9 = .ok (.getfield 15, 3) := by decide +kernel
theorem dX1_join_12 : decode cX1_join 12 = .ok (.aload_n 0, 1) := by decide +kernel
theorem dX1_join_13 : decode cX1_join 13 = .ok (.getfield 9, 3) := by decide +kernel
theorem dX1_join_16 : decode cX1_join 16 = .ok (.iload_n 1, 1) := by decide +kernel
theorem dX1_join_17 : decode cX1_join 17 = .ok (.iastore, 1) := by decide +kernel
theorem dX1_join_18 : decode cX1_join 18 = .ok (.aload_n 0, 1) := by decide +kernel
theorem dX1_join_19 : decode cX1_join 19 = .ok (.getfield 19, 3) := by decide +kernel
theorem dX1_join_22 : decode cX1_join 22 = .ok (.aload_n 0, 1) := by decide +kernel
theorem dX1_join_23 : decode cX1_join 23 = .ok (.getfield 9, 3) := by decide +kernel
theorem dX1_join_26 : decode cX1_join 26 = .ok (.iload_n 2, 1) := by decide +kernel
theorem dX1_join_27 : decode cX1_join 27 = .ok (.iastore, 1) := by decide +kernel
theorem dX1_join_28 : decode cX1_join 28 = .ok (.aload_n 0, 1) := by decide +kernel
theorem dX1_join_29 : decode cX1_join 29 = .ok (.dup, 1) := by decide +kernel
theorem dX1_join_30 : decode cX1_join 30 = .ok (.getfield 9, 3) := by decide +kernel
theorem dX1_join_33 : decode cX1_join 33 = .ok (.iconst 1, 1) := by decide +kernel
theorem dX1_join_34 : decode cX1_join 34 = .ok (.iadd, 1) := by decide +kernel
theorem dX1_join_35 : decode cX1_join 35 = .ok (.putfield 9, 3) := by decide +kernel
theorem dX1_join_38 : decode cX1_join 38 = .ok (.return_, 1) := by decide +kernel
theorem dX1_becomeLike_0 : decode cX1_becomeLike 0 = .ok (.aload_n 0, 1) := by decide +kernel
theorem dX1_becomeLike_1 : decode cX1_becomeLike 1 = .ok (.aload_n 1, 1) := by decide +kernel
theorem dX1_becomeLike_2 : decode cX1_becomeLike 2 = .ok (.getfield 9, 3) := by decide +kernel
theorem dX1_becomeLike_5 : decode cX1_becomeLike 5 = .ok (.putfield 9, 3) := by decide +kernel
theorem dX1_becomeLike_8 : decode cX1_becomeLike 8 = .ok (.aload_n 1, 1) := by decide +kernel
theorem dX1_becomeLike_9 : decode cX1_becomeLike 9 = .ok (.getfield 15, 3) := by decide +kernel
theorem dX1_becomeLike_12 : decode cX1_becomeLike 12 = .ok (.iconst 0, 1) := by decide +kernel
theorem dX1_becomeLike_13 : decode cX1_becomeLike 13 = .ok (.aload_n 0, 1) := by decide +kernel
theorem dX1_becomeLike_14 : decode cX1_becomeLike 14 = .ok (.getfield 15, 3) := by decide +kernel
theorem dX1_becomeLike_17 : decode cX1_becomeLike 17 = .ok (.iconst 0, 1) := by decide +kernel
theorem dX1_becomeLike_18 : decode cX1_becomeLike 18 = .ok (.iconst 3, 1) := by decide +kernel
theorem dX1_becomeLike_19 : decode cX1_becomeLike 19 = .ok (.invokestatic 22, 3) := by decide +kernel
theorem dX1_becomeLike_22 : decode cX1_becomeLike 22 = .ok (.aload_n 1, 1) := by decide +kernel
theorem dX1_becomeLike_23 : decode cX1_becomeLike 23 = .ok (.getfield 19, 3) := by decide +kernel
theorem dX1_becomeLike_26 : decode cX1_becomeLike 26 = .ok (.iconst 0, 1) := by decide +kernel
theorem dX1_becomeLike_27 : decode cX1_becomeLike 27 = .ok (.aload_n 0, 1) := by decide +kernel
theorem dX1_becomeLike_28 : decode cX1_becomeLike 28 = .ok (.getfield 19, 3) := by decide +kernel
theorem dX1_becomeLike_31 : decode cX1_becomeLike 31 = .ok (.iconst 0, 1) := by decide +kernel
theorem dX1_becomeLike_32 : decode cX1_becomeLike 32 = .ok (.iconst 3, 1) := by decide +kernel
theorem dX1_becomeLike_33 : decode cX1_becomeLike 33 = .ok (.invokestatic 22, 3) := by decide +kernel
theorem dX1_becomeLike_36 : decode cX1_becomeLike 36 = .ok (.return_, 1) := by decide +kernel
set_option maxRecDepth 20000 in
theorem ggX1_strength_X1_has : GoodIn wsX1_strength wsX1_has := goodIn_r _ [7, 8, 9, 10, 11] (by decide +kernel) (by decide +kernel)
set_option maxRecDepth 20000 in
theorem gX1_strength_X1_has : GoodIn wsX1_strength (wsV RX1 28 RX1 yX1_has wsX1_has) := goodIn_app (goodIn_of _ (by decide +kernel)) ggX1_strength_X1_has
theorem dX1_strength_0 : decode cX1_strength 0 = .ok (.aload_n 0, 1) := by decide +kernel
theorem dX1_strength_1 : decode cX1_strength 1 = .ok (.lload_n 1, 1) := by decide +kernel
theorem dX1_strength_2 : decode cX1_strength 2 = .ok (.invokevirtual 28, 3) := by decide +kernel
theorem dX1_strength_5 : decode cX1_strength 5 = .ok (.ifCond .ne 5, 3) := by decide +kernel
theorem dX1_strength_8 : decode cX1_strength 8 = .ok (.iconst 0, 1) := by decide +kernel
theorem dX1_strength_9 : decode cX1_strength 9 = .ok (.ireturn, 1) := by decide +kernel
theorem dX1_strength_10 : decode cX1_strength 10 = .ok (.aload_n 0, 1) := by decide +kernel
theorem dX1_strength_11 : decode cX1_strength 11 = .ok (.getfield 19, 3) := by decide +kernel
theorem dX1_strength_14 : decode cX1_strength 14 = .ok (.lload_n 1, 1) := by decide +kernel
theorem dX1_strength_15 : decode cX1_strength 15 = .ok (.l2i, 1) := by decide +kernel
theorem dX1_strength_16 : decode cX1_strength 16 = .ok (.iaload, 1) := by decide +kernel
theorem dX1_strength_17 : decode cX1_strength 17 = .ok (.istore_n 3, 1) := by decide +kernel
theorem dX1_strength_18 : decode cX1_strength 18 = .ok (.aload_n 0, 1) := by decide +kernel
theorem dX1_strength_19 : decode cX1_strength 19 = .ok (.getfield 15, 3) := by decide +kernel
theorem dX1_strength_22 : decode cX1_strength 22 = .ok (.lload_n 1, 1) := by decide +kernel
theorem dX1_strength_23 : decode cX1_strength 23 = .ok (.l2i, 1) := by decide +kernel
theorem dX1_strength_24 : decode cX1_strength 24 = .ok (.iaload, 1) := by decide +kernel
theorem dX1_strength_25 : decode cX1_strength 25 = .ok (.lookupswitch 35 #[(1, 27), (2, 31)], 27) := by decide +kernel
theorem dX1_strength_52 : decode cX1_strength 52 = .ok (.iload_n 3, 1) := by decide +kernel
theorem dX1_strength_53 : decode cX1_strength 53 = .ok (.iconst 1, 1) := by decide +kernel
theorem dX1_strength_54 : decode cX1_strength 54 = .ok (.iadd, 1) := by decide +kernel
theorem dX1_strength_55 : decode cX1_strength 55 = .ok (.ireturn, 1) := by decide +kernel
theorem dX1_strength_56 : decode cX1_strength 56 = .ok (.iconst 2, 1) := by decide +kernel
theorem dX1_strength_57 : decode cX1_strength 57 = .ok (.iload_n 3, 1) := by decide +kernel
theorem dX1_strength_58 : decode cX1_strength 58 = .ok (.imul, 1) := by decide +kernel
theorem dX1_strength_59 : decode cX1_strength 59 = .ok (.ireturn, 1) := by decide +kernel
theorem dX1_strength_60 : decode cX1_strength 60 = .ok (.iload_n 3, 1) := by decide +kernel
theorem dX1_strength_61 : decode cX1_strength 61 = .ok (.ireturn, 1) := by decide +kernel
set_option maxRecDepth 20000 in
theorem ggX2_init_X0_init : GoodIn wsX2_init wsX0_init := goodIn_r _ [10, 11, 2, 3, 12, 13, 14, 15, 18, 19, 20, 21] (by decide +kernel) (by decide +kernel)
set_option maxRecDepth 20000 in
theorem gX2_init_X0_init_n21 : GoodIn wsX2_init (wsX0_init) := ggX2_init_X0_init
theorem dX2_init_0 : decode cX2_init 0 = .ok (.aload_n 0, 1) := by decide +kernel
theorem dX2_init_1 : decode cX2_init 1 = .ok (.invokespecial 3, 3) := by decide +kernel
theorem dX2_init_4 : decode cX2_init 4 = .ok (.aload_n 0, 1) := by decide +kernel
theorem dX2_init_5 : decode cX2_init 5 = .ok (.iconst 0, 1) := by decide +kernel
theorem dX2_init_6 : decode cX2_init 6 = .ok (.putfield 9, 3) := by decide +kernel
theorem dX2_init_9 : decode cX2_init 9 = .ok (.aload_n 0, 1) := by decide +kernel
theorem dX2_init_10 : decode cX2_init 10 = .ok (.bipush 24, 2) := by decide +kernel
theorem dX2_init_12 : decode cX2_init 12 = .ok (.anewarray 15, 3) := by decide +kernel
theorem dX2_init_15 : decode cX2_init 15 = .ok (.putfield 17, 3) := by decide +kernel
theorem dX2_init_18 : decode cX2_init 18 = .ok (.iconst 0, 1) := by decide +kernel
theorem dX2_init_19 : decode cX2_init 19 = .ok (.istore_n 1, 1) := by decide +kernel
theorem dX2_init_20 : decode cX2_init 20 = .ok (.iload_n 1, 1) := by decide +kernel
theorem dX2_init_21 : decode cX2_init 21 = .ok (.bipush 24, 2) := by decide +kernel
theorem dX2_init_23 : decode cX2_init 23 = .ok (.if_icmp .ge 22, 3) := by decide +kernel
theorem dX2_init_26 : decode cX2_init 26 = .ok (.aload_n 0, 1) := by decide +kernel
theorem dX2_init_27 : decode cX2_init 27 = .ok (.getfield 17, 3) := by decide +kernel
theorem dX2_init_30 : decode cX2_init 30 = .ok (.iload_n 1, 1) := by decide +kernel
theorem dX2_init_31 : decode cX2_init 31 = .ok (.new 15, 3) := by decide +kernel
theorem dX2_init_34 : decode cX2_init 34 = .ok (.dup, 1) := by decide +kernel
theorem dX2_init_35 : decode cX2_init 35 = .ok (.invokespecial 21, 3) := by decide +kernel
theorem dX2_init_38 : decode cX2_init 38 = .ok (.aastore, 1) := by decide +kernel
theorem dX2_init_39 : decode cX2_init 39 = .ok (.iinc 1 1, 3) := by decide +kernel
theorem dX2_init_42 : decode cX2_init 42 = .ok (.goto (-22), 3) := by decide +kernel
theorem dX2_init_45 : decode cX2_init 45 = .ok (.return_, 1) := by decide +kernel
theorem dX2_next_0 : decode cX2_next 0 = .ok (.aload_n 0, 1) := by decide +kernel
theorem dX2_next_1 : decode cX2_next 1 = .ok (.getfield 9, 3) := by decide +kernel
theorem dX2_next_4 : decode cX2_next 4 = .ok (.bipush 24, 2) := by decide +kernel
theorem dX2_next_6 : decode cX2_next 6 = .ok (.if_icmp .lt 5, 3) := by decide +kernel
theorem dX2_next_9 : decode cX2_next 9 = .ok (.aconst_null, 1) := by decide +kernel
theorem dX2_next_10 : decode cX2_next 10 = .ok (.areturn, 1) := by decide +kernel
theorem dX2_next_11 : decode cX2_next 11 = .ok (.aload_n 0, 1) := by decide +kernel
theorem dX2_next_12 : decode cX2_next 12 = .ok (.dup, 1) := by decide +kernel
theorem dX2_next_13 : decode cX2_next 13 = .ok (.getfield 9, 3) := by decide +kernel
theorem dX2_next_16 : decode cX2_next 16 = .ok (.iconst 1, 1) := by decide +kernel
theorem dX2_next_17 : decode cX2_next 17 = .ok (.iadd, 1) := by decide +kernel
theorem dX2_next_18 : decode cX2_next 18 = .ok (.putfield 9, 3) := by decide +kernel
theorem dX2_next_21 : decode cX2_next 21 = .ok (.aload_n 0, 1) := by decide +kernel
theorem dX2_next_22 : decode cX2_next 22 = .ok (.getfield 17, 3) := by decide +kernel
theorem dX2_next_25 : decode cX2_next 25 = .ok (.aload_n 0, 1) := by decide +kernel
theorem dX2_next_26 : decode cX2_next 26 = .ok (.getfield 9, 3) := by decide +kernel
theorem dX2_next_29 : decode cX2_next 29 = .ok (.iconst 1, 1) := by decide +kernel
theorem dX2_next_30 : decode cX2_next 30 = .ok (.isub, 1) := by decide +kernel
theorem dX2_next_31 : decode cX2_next 31 = .ok (.aaload, 1) := by decide +kernel
theorem dX2_next_32 : decode cX2_next 32 = .ok (.areturn, 1) := by decide +kernel
set_option maxRecDepth 20000 in
theorem ggX2_actsOf_X0_isHelp : GoodIn wsX2_actsOf wsX0_isHelp := goodIn_r _ [8, 9, 12, 13, 14, 15] (by decide +kernel) (by decide +kernel)
set_option maxRecDepth 20000 in
theorem gX2_actsOf_X0_isHelp : GoodIn wsX2_actsOf (wsV RX2 22 RX0 yX0_isHelp wsX0_isHelp) := goodIn_app (goodIn_of _ (by decide +kernel)) ggX2_actsOf_X0_isHelp
theorem dX2_actsOf_0 : decode cX2_actsOf 0 = .ok (.iconst 0, 1) := by decide +kernel
theorem dX2_actsOf_1 : decode cX2_actsOf 1 = .ok (.istore_n 2, 1) := by decide +kernel
theorem dX2_actsOf_2 : decode cX2_actsOf 2 = .ok (.iconst 0, 1) := by decide +kernel
theorem dX2_actsOf_3 : decode cX2_actsOf 3 = .ok (.istore_n 3, 1) := by decide +kernel
theorem dX2_actsOf_4 : decode cX2_actsOf 4 = .ok (.iload_n 3, 1) := by decide +kernel
theorem dX2_actsOf_5 : decode cX2_actsOf 5 = .ok (.aload_n 0, 1) := by decide +kernel
theorem dX2_actsOf_6 : decode cX2_actsOf 6 = .ok (.getfield 9, 3) := by decide +kernel
theorem dX2_actsOf_9 : decode cX2_actsOf 9 = .ok (.if_icmp .ge 39, 3) := by decide +kernel
theorem dX2_actsOf_12 : decode cX2_actsOf 12 = .ok (.aload_n 0, 1) := by decide +kernel
theorem dX2_actsOf_13 : decode cX2_actsOf 13 = .ok (.getfield 17, 3) := by decide +kernel
theorem dX2_actsOf_16 : decode cX2_actsOf 16 = .ok (.iload_n 3, 1) := by decide +kernel
theorem dX2_actsOf_17 : decode cX2_actsOf 17 = .ok (.aaload, 1) := by decide +kernel
theorem dX2_actsOf_18 : decode cX2_actsOf 18 = .ok (.invokevirtual 22, 3) := by decide +kernel
theorem dX2_actsOf_21 : decode cX2_actsOf 21 = .ok (.ifCond .eq 21, 3) := by decide +kernel
theorem dX2_actsOf_24 : decode cX2_actsOf 24 = .ok (.aload_n 0, 1) := by decide +kernel
theorem dX2_actsOf_25 : decode cX2_actsOf 25 = .ok (.getfield 17, 3) := by decide +kernel
theorem dX2_actsOf_28 : decode cX2_actsOf 28 = .ok (.iload_n 3, 1) := by decide +kernel
theorem dX2_actsOf_29 : decode cX2_actsOf 29 = .ok (.aaload, 1) := by decide +kernel
theorem dX2_actsOf_30 : decode cX2_actsOf 30 = .ok (.getfield 26, 3) := by decide +kernel
theorem dX2_actsOf_33 : decode cX2_actsOf 33 = .ok (.iload_n 1, 1) := by decide +kernel
theorem dX2_actsOf_34 : decode cX2_actsOf 34 = .ok (.i2l, 1) := by decide +kernel
theorem dX2_actsOf_35 : decode cX2_actsOf 35 = .ok (.lcmp, 1) := by decide +kernel
theorem dX2_actsOf_36 : decode cX2_actsOf 36 = .ok (.ifCond .ne 6, 3) := by decide +kernel
theorem dX2_actsOf_39 : decode cX2_actsOf 39 = .ok (.iinc 2 1, 3) := by decide +kernel
theorem dX2_actsOf_42 : decode cX2_actsOf 42 = .ok (.iinc 3 1, 3) := by decide +kernel
theorem dX2_actsOf_45 : decode cX2_actsOf 45 = .ok (.goto (-41), 3) := by decide +kernel
theorem dX2_actsOf_48 : decode cX2_actsOf 48 = .ok (.iload_n 2, 1) := by decide +kernel
theorem dX2_actsOf_49 : decode cX2_actsOf 49 = .ok (.ireturn, 1) := by decide +kernel
theorem dX3_init_0 : decode cX3_init 0 = .ok (.aload_n 0, 1) := by decide +kernel
theorem dX3_init_1 : decode cX3_init 1 = .ok (.invokespecial 3, 3) := by decide +kernel
theorem dX3_init_4 : decode cX3_init 4 = .ok (.aload_n 0, 1) := by decide +kernel
theorem dX3_init_5 : decode cX3_init 5 = .ok (.iconst 0, 1) := by decide +kernel
theorem dX3_init_6 : decode cX3_init 6 = .ok (.putfield 9, 3) := by decide +kernel
theorem dX3_init_9 : decode cX3_init 9 = .ok (.aload_n 0, 1) := by decide +kernel
theorem dX3_init_10 : decode cX3_init 10 = .ok (.bipush 16, 2) := by decide +kernel
theorem dX3_init_12 : decode cX3_init 12 = .ok (.newarray .long, 2) := by decide +kernel
theorem dX3_init_14 : decode cX3_init 14 = .ok (.putfield 15, 3) := by decide +kernel
theorem dX3_init_17 : decode cX3_init 17 = .ok (.aload_n 0, 1) := by decide +kernel
theorem dX3_init_18 : decode cX3_init 18 = .ok (.bipush 16, 2) := by decide +kernel
theorem dX3_init_20 : decode cX3_init 20 = .ok (.newarray .long, 2) := by decide +kernel
theorem dX3_init_22 : decode cX3_init 22 = .ok (.putfield 19, 3) := by decide +kernel
theorem dX3_init_25 : decode cX3_init 25 = .ok (.return_, 1) := by decide +kernel
theorem dX3_areThere_0 : decode cX3_areThere 0 = .ok (.aload_n 0, 1) := by decide +kernel
theorem dX3_areThere_1 : decode cX3_areThere 1 = .ok (.getfield 9, 3) := by decide +kernel
theorem dX3_areThere_4 : decode cX3_areThere 4 = .ok (.ifCond .le 7, 3) := by decide +kernel
theorem dX3_areThere_7 : decode cX3_areThere 7 = .ok (.iconst 1, 1) := by decide +kernel
theorem dX3_areThere_8 : decode cX3_areThere 8 = .ok (.goto 4, 3) := by decide +kernel
theorem dX3_areThere_11 : decode cX3_areThere 11 = .ok (.iconst 0, 1) := by decide +kernel
theorem dX3_areThere_12 : decode cX3_areThere 12 = .ok (.ireturn, 1) := by decide +kernel
theorem dX3_has_0 : decode cX3_has 0 = .ok (.iload_n 1, 1) := by decide +kernel
theorem dX3_has_1 : decode cX3_has 1 = .ok (.ifCond .lt 15, 3) := by decide +kernel
theorem dX3_has_4 : decode cX3_has 4 = .ok (.iload_n 1, 1) := by decide +kernel
theorem dX3_has_5 : decode cX3_has 5 = .ok (.aload_n 0, 1) := by decide +kernel
theorem dX3_has_6 : decode cX3_has 6 = .ok (.getfield 9, 3) := by decide +kernel
theorem dX3_has_9 : decode cX3_has 9 = .ok (.if_icmp .ge 7, 3) := by decide +kernel
theorem dX3_has_12 : decode cX3_has 12 = .ok (.iconst 1, 1) := by decide +kernel
theorem dX3_has_13 : decode cX3_has 13 = .ok (.goto 4, 3) := by decide +kernel
theorem dX3_has_16 : decode cX3_has 16 = .ok (.iconst 0, 1) := by decide +kernel
theorem dX3_has_17 : decode cX3_has 17 = .ok (.ireturn, 1) := by decide +kernel
theorem dX3_forgetWhatWas_0 : decode cX3_forgetWhatWas 0 = .ok (.aload_n 0, 1) := by decide +kernel
theorem dX3_forgetWhatWas_1 : decode cX3_forgetWhatWas 1 = .ok (.getfield 15, 3) := by decide +kernel
theorem dX3_forgetWhatWas_4 : decode cX3_forgetWhatWas 4 = .ok (.iconst 0, 1) := by decide +kernel
theorem dX3_forgetWhatWas_5 : decode cX3_forgetWhatWas 5 = .ok (.aload_n 0, 1) := by decide +kernel
theorem dX3_forgetWhatWas_6 : decode cX3_forgetWhatWas 6 = .ok (.getfield 19, 3) := by decide +kernel
theorem dX3_forgetWhatWas_9 : decode cX3_forgetWhatWas 9 = .ok (.iconst 0, 1) := by decide +kernel
theorem dX3_forgetWhatWas_10 : decode cX3_forgetWhatWas 10 = .ok (.bipush 16, 2) := by decide +kernel
theorem dX3_forgetWhatWas_12 : decode cX3_forgetWhatWas 12 = .ok (.invokestatic 22, 3) := by decide +kernel
theorem dX3_forgetWhatWas_15 : decode cX3_forgetWhatWas 15 = .ok (.return_, 1) := by decide +kernel
set_option maxRecDepth 20000 in
theorem ggX3_becomeLike_X3_forgetWhatWas : GoodIn wsX3_becomeLike wsX3_forgetWhatWas := goodIn_r _ [11, 2, 12, 3, 4, 5, 6, 13, 14, 15] (by decide +kernel) (by decide +kernel)
set_option maxRecDepth 20000 in
theorem gX3_becomeLike_X3_forgetWhatWas : GoodIn wsX3_becomeLike (wsV RX3 28 RX3 yX3_forgetWhatWas wsX3_forgetWhatWas) := goodIn_app (goodIn_of _ (by decide +kernel)) ggX3_becomeLike_X3_forgetWhatWas
theorem dX3_becomeLike_0 : decode cX3_becomeLike 0 = .ok (.aload_n 0, 1) := by decide +kernel
theorem dX3_becomeLike_1 : decode cX3_becomeLike 1 = .ok (.aload_n 1, 1) := by decide +kernel
theorem dX3_becomeLike_2 : decode cX3_becomeLike 2 = .ok (.getfield 9, 3) := by decide +kernel
theorem dX3_becomeLike_5 : decode cX3_becomeLike 5 = .ok (.putfield 9, 3) := by decide +kernel
theorem dX3_becomeLike_8 : decode cX3_becomeLike 8 = .ok (.aload_n 1, 1) := by decide +kernel
theorem dX3_becomeLike_9 : decode cX3_becomeLike 9 = .ok (.getfield 15, 3) := by decide +kernel
theorem dX3_becomeLike_12 : decode cX3_becomeLike 12 = .ok (.iconst 0, 1) := by decide +kernel
theorem dX3_becomeLike_13 : decode cX3_becomeLike 13 = .ok (.aload_n 0, 1) := by decide +kernel
theorem dX3_becomeLike_14 : decode cX3_becomeLike 14 = .ok (.getfield 15, 3) := by decide +kernel
theorem dX3_becomeLike_17 : decode cX3_becomeLike 17 = .ok (.iconst 0, 1) := by decide +kernel
theorem dX3_becomeLike_18 : decode cX3_becomeLike 18 = .ok (.bipush 16, 2) := by decide +kernel
theorem dX3_becomeLike_20 : decode cX3_becomeLike 20 = .ok (.invokestatic 22, 3) := by decide +kernel
theorem dX3_becomeLike_23 : decode cX3_becomeLike 23 = .ok (.aload_n 0, 1) := by decide +kernel
theorem dX3_becomeLike_24 : decode cX3_becomeLike 24 = .ok (.invokevirtual 28, 3) := by decide +kernel
theorem dX3_becomeLike_27 : decode cX3_becomeLike 27 = .ok (.return_, 1) := by decide +kernel
set_option maxRecDepth 20000 in
theorem ggX3_suffer_X3_has : GoodIn wsX3_suffer wsX3_has := goodIn_r _ [14, 15, 45, 46, 47] (by decide +kernel) (by decide +kernel)
set_option maxRecDepth 20000 in
theorem gX3_suffer_X3_has : GoodIn wsX3_suffer (wsV RX3 36 RX3 yX3_has wsX3_has) := goodIn_app (goodIn_of _ (by decide +kernel)) ggX3_suffer_X3_has
set_option maxRecDepth 20000 in
theorem ggX3_suffer_X0_amount : GoodIn wsX3_suffer wsX0_amount := goodIn_r _ [20, 21, 22, 23, 24, 25, 26, 27, 28, 29, 30, 31, 32, 33, 34, 41, 42, 43, 44, 48, 49, 50] (by decide +kernel) (by decide +kernel)
set_option maxRecDepth 20000 in
theorem gX3_suffer_X0_amount : GoodIn wsX3_suffer (wsV RX3 43 RX0 yX0_amount wsX0_amount) := goodIn_app (goodIn_of _ (by decide +kernel)) ggX3_suffer_X0_amount
set_option maxRecDepth 20000 in
theorem ggX3_suffer_X3_changed : GoodIn wsX3_suffer wsX3_changed := goodIn_r _ [37, 38, 39, 8, 40, 6, 7, 9] (by decide +kernel) (by decide +kernel)
set_option maxRecDepth 20000 in
theorem gX3_suffer_X3_changed : GoodIn wsX3_suffer (va_wsS RX3 50 yX3_changed wsX3_changed) := goodIn_app (goodIn_of _ (by decide +kernel)) ggX3_suffer_X3_changed
theorem dX3_suffer_0 : decode cX3_suffer 0 = .ok (.aload_n 0, 1) := by decide +kernel
theorem dX3_suffer_1 : decode cX3_suffer 1 = .ok (.aload_n 1, 1) := by decide +kernel
theorem dX3_suffer_2 : decode cX3_suffer 2 = .ok (.getfield 31, 3) := by decide +kernel
theorem dX3_suffer_5 : decode cX3_suffer 5 = .ok (.invokevirtual 36, 3) := by decide +kernel
theorem dX3_suffer_8 : decode cX3_suffer 8 = .ok (.ifCond .eq 14, 3) := by decide +kernel
theorem dX3_suffer_11 : decode cX3_suffer 11 = .ok (.aload_n 0, 1) := by decide +kernel
theorem dX3_suffer_12 : decode cX3_suffer 12 = .ok (.aload_n 1, 1) := by decide +kernel
theorem dX3_suffer_13 : decode cX3_suffer 13 = .ok (.getfield 40, 3) := by decide +kernel
theorem dX3_suffer_16 : decode cX3_suffer 16 = .ok (.invokevirtual 36, 3) := by decide +kernel
theorem dX3_suffer_19 : decode cX3_suffer 19 = .ok (.ifCond .ne 5, 3) := by decide +kernel
theorem dX3_suffer_22 : decode cX3_suffer 22 = .ok (.iconst 0, 1) := by decide +kernel
theorem dX3_suffer_23 : decode cX3_suffer 23 = .ok (.ireturn, 1) := by decide +kernel
theorem dX3_suffer_24 : decode cX3_suffer 24 = .ok (.aload_n 1, 1) := by decide +kernel
theorem dX3_suffer_25 : decode cX3_suffer 25 = .ok (.aload_n 2, 1) := by decide +kernel
theorem dX3_suffer_26 : decode cX3_suffer 26 = .ok (.invokevirtual 43, 3) := by decide +kernel
theorem dX3_suffer_29 : decode cX3_suffer 29 = .ok (.lstore_n 3, 1) := by decide +kernel
theorem dX3_suffer_30 : decode cX3_suffer 30 = .ok (.iconst 0, 1) := by decide +kernel
theorem dX3_suffer_31 : decode cX3_suffer 31 = .ok (.istore 5, 2) := by decide +kernel
theorem dX3_suffer_33 : decode cX3_suffer 33 = .ok (.aload_n 1, 1) := by decide +kernel
theorem dX3_suffer_34 : decode cX3_suffer 34 = .ok (.getfield 31, 3) := by decide +kernel
theorem dX3_suffer_37 : decode cX3_suffer 37 = .ok (.istore 6, 2) := by decide +kernel
theorem dX3_suffer_39 : decode cX3_suffer 39 = .ok (.iload 6, 2) := by decide +kernel
theorem dX3_suffer_41 : decode cX3_suffer 41 = .ok (.aload_n 1, 1) := by decide +kernel
theorem dX3_suffer_42 : decode cX3_suffer 42 = .ok (.getfield 40, 3) := by decide +kernel
theorem dX3_suffer_45 : decode cX3_suffer 45 = .ok (.if_icmp .gt 70, 3) := by decide +kernel
theorem dX3_suffer_48 : decode cX3_suffer 48 = .ok (.aload_n 0, 1) := by decide +kernel
theorem dX3_suffer_49 : decode cX3_suffer 49 = .ok (.getfield 15, 3) := by decide +kernel
theorem dX3_suffer_52 : decode cX3_suffer 52 = .ok (.iload 6, 2) := by decide +kernel
theorem dX3_suffer_54 : decode cX3_suffer 54 = .ok (.laload, 1) := by decide +kernel
theorem dX3_suffer_55 : decode cX3_suffer 55 = .ok (.aload_n 1, 1) := by decide +kernel
theorem dX3_suffer_56 : decode cX3_suffer 56 = .ok (.getfield 47, 3) := by decide +kernel
theorem dX3_suffer_59 : decode cX3_suffer 59 = .ok (.lload_n 3, 1) := by decide +kernel
theorem dX3_suffer_60 : decode cX3_suffer 60 = .ok (.invokestatic 50, 3) := by decide +kernel
theorem dX3_suffer_63 : decode cX3_suffer 63 = .ok (.lstore 7, 2) := by decide +kernel
theorem dX3_suffer_65 : decode cX3_suffer 65 = .ok (.lload 7, 2) := by decide +kernel
theorem dX3_suffer_67 : decode cX3_suffer 67 = .ok (.aload_n 0, 1) := by decide +kernel
theorem dX3_suffer_68 : decode cX3_suffer 68 = .ok (.getfield 15, 3) := by decide +kernel
theorem dX3_suffer_71 : decode cX3_suffer 71 = .ok (.iload 6, 2) := by decide +kernel
theorem dX3_suffer_73 : decode cX3_suffer 73 = .ok (.laload, 1) := by decide +kernel
theorem dX3_suffer_74 : decode cX3_suffer 74 = .ok (.lcmp, 1) := by decide +kernel
theorem dX3_suffer_75 : decode cX3_suffer 75 = .ok (.ifCond .eq 6, 3) := by decide +kernel
theorem dX3_suffer_78 : decode cX3_suffer 78 = .ok (.iinc 5 1, 3) := by decide +kernel
theorem dX3_suffer_81 : decode cX3_suffer 81 = .ok (.aload_n 0, 1) := by decide +kernel
theorem dX3_suffer_82 : decode cX3_suffer 82 = .ok (.getfield 15, 3) := by decide +kernel
theorem dX3_suffer_85 : decode cX3_suffer 85 = .ok (.iload 6, 2) := by decide +kernel
theorem dX3_suffer_87 : decode cX3_suffer 87 = .ok (.lload 7, 2) := by decide +kernel
theorem dX3_suffer_89 : decode cX3_suffer 89 = .ok (.lastore, 1) := by decide +kernel
theorem dX3_suffer_90 : decode cX3_suffer 90 = .ok (.aload_n 0, 1) := by decide +kernel
theorem dX3_suffer_91 : decode cX3_suffer 91 = .ok (.getfield 19, 3) := by decide +kernel
theorem dX3_suffer_94 : decode cX3_suffer 94 = .ok (.iload 6, 2) := by decide +kernel
theorem dX3_suffer_96 : decode cX3_suffer 96 = .ok (.aload_n 0, 1) := by decide +kernel
theorem dX3_suffer_97 : decode cX3_suffer 97 = .ok (.getfield 19, 3) := by decide +kernel
theorem dX3_suffer_100 : decode cX3_suffer 100 = .ok (.iload 6, 2) := by decide +kernel
theorem dX3_suffer_102 : decode cX3_suffer 102 = .ok (.laload, 1) := by decide +kernel
theorem dX3_suffer_103 : decode cX3_suffer 103 = .ok (.lload 7, 2) := by decide +kernel
theorem dX3_suffer_105 : decode cX3_suffer 105 = .ok (.invokestatic 54, 3) := by decide +kernel
theorem dX3_suffer_108 : decode cX3_suffer 108 = .ok (.lastore, 1) := by decide +kernel
theorem dX3_suffer_109 : decode cX3_suffer 109 = .ok (.iinc 6 1, 3) := by decide +kernel
theorem dX3_suffer_112 : decode cX3_suffer 112 = .ok (.goto (-73), 3) := by decide +kernel
theorem dX3_suffer_115 : decode cX3_suffer 115 = .ok (.iload 5, 2) := by decide +kernel
theorem dX3_suffer_117 : decode cX3_suffer 117 = .ok (.ireturn, 1) := by decide +kernel
theorem dX3_changed_0 : decode cX3_changed 0 = .ok (.iload_n 2, 1) := by decide +kernel
theorem dX3_changed_1 : decode cX3_changed 1 = .ok (.lookupswitch 39 #[(1, 27), (2, 33)], 27) := by decide +kernel
theorem dX3_changed_28 : decode cX3_changed 28 = .ok (.lload_n 0, 1) := by decide +kernel
theorem dX3_changed_29 : decode cX3_changed 29 = .ok (.lload_n 3, 1) := by decide +kernel
theorem dX3_changed_30 : decode cX3_changed 30 = .ok (.invokestatic 60, 3) := by decide +kernel
theorem dX3_changed_33 : decode cX3_changed 33 = .ok (.lreturn, 1) := by decide +kernel
theorem dX3_changed_34 : decode cX3_changed 34 = .ok (.lload_n 0, 1) := by decide +kernel
theorem dX3_changed_35 : decode cX3_changed 35 = .ok (.lload_n 3, 1) := by decide +kernel
theorem dX3_changed_36 : decode cX3_changed 36 = .ok (.invokestatic 54, 3) := by decide +kernel
theorem dX3_changed_39 : decode cX3_changed 39 = .ok (.lreturn, 1) := by decide +kernel
theorem dX3_changed_40 : decode cX3_changed 40 = .ok (.lload_n 0, 1) := by decide +kernel
theorem dX3_changed_41 : decode cX3_changed 41 = .ok (.lload_n 3, 1) := by decide +kernel
theorem dX3_changed_42 : decode cX3_changed 42 = .ok (.ladd, 1) := by decide +kernel
theorem dX3_changed_43 : decode cX3_changed 43 = .ok (.lreturn, 1) := by decide +kernel
theorem dX4_init_0 : decode cX4_init 0 = .ok (.aload_n 0, 1) := by decide +kernel
theorem dX4_init_1 : decode cX4_init 1 = .ok (.invokespecial 3, 3) := by decide +kernel
theorem dX4_init_4 : decode cX4_init 4 = .ok (.aload_n 0, 1) := by decide +kernel
theorem dX4_init_5 : decode cX4_init 5 = .ok (.iconst 0, 1) := by decide +kernel
theorem dX4_init_6 : decode cX4_init 6 = .ok (.putfield 9, 3) := by decide +kernel
theorem dX4_init_9 : decode cX4_init 9 = .ok (.aload_n 0, 1) := by decide +kernel
theorem dX4_init_10 : decode cX4_init 10 = .ok (.bipush 8, 2) := by decide +kernel
theorem dX4_init_12 : decode cX4_init 12 = .ok (.newarray .int, 2) := by decide +kernel
theorem dX4_init_14 : decode cX4_init 14 = .ok (.putfield 15, 3) := by decide +kernel
theorem dX4_init_17 : decode cX4_init 17 = .ok (.aload_n 0, 1) := by decide +kernel
theorem dX4_init_18 : decode cX4_init 18 = .ok (.bipush 8, 2) := by decide +kernel
theorem dX4_init_20 : decode cX4_init 20 = .ok (.newarray .long, 2) := by decide +kernel
theorem dX4_init_22 : decode cX4_init 22 = .ok (.putfield 19, 3) := by decide +kernel
theorem dX4_init_25 : decode cX4_init 25 = .ok (.return_, 1) := by decide +kernel
theorem dX4_keep_0 : decode cX4_keep 0 = .ok (.aload_n 0, 1) := by decide +kernel
theorem dX4_keep_1 : decode cX4_keep 1 = .ok (.getfield 9, 3) := by decide +kernel
theorem dX4_keep_4 : decode cX4_keep 4 = .ok (.bipush 8, 2) := by decide +kernel
theorem dX4_keep_6 : decode cX4_keep 6 = .ok (.if_icmp .lt 6, 3) := by decide +kernel
theorem dX4_keep_9 : decode cX4_keep 9 = .ok (.bipush (-4), 2) := by decide +kernel
theorem dX4_keep_11 : decode cX4_keep 11 = .ok (.ireturn, 1) := by decide +kernel
theorem dX4_keep_12 : decode cX4_keep 12 = .ok (.aload_n 0, 1) := by decide +kernel
theorem dX4_keep_13 : decode cX4_keep 13 = .ok (.getfield 15, 3) := by decide +kernel
theorem dX4_keep_16 : decode cX4_keep 16 = .ok (.aload_n 0, 1) := by decide +kernel
theorem dX4_keep_17 : decode cX4_keep 17 = .ok (.getfield 9, 3) := by decide +kernel
theorem dX4_keep_20 : decode cX4_keep 20 = .ok (.iload_n 1, 1) := by decide +kernel
theorem dX4_keep_21 : decode cX4_keep 21 = .ok (.iastore, 1) := by decide +kernel
theorem dX4_keep_22 : decode cX4_keep 22 = .ok (.aload_n 0, 1) := by decide +kernel
theorem dX4_keep_23 : decode cX4_keep 23 = .ok (.getfield 19, 3) := by decide +kernel
theorem dX4_keep_26 : decode cX4_keep 26 = .ok (.aload_n 0, 1) := by decide +kernel
theorem dX4_keep_27 : decode cX4_keep 27 = .ok (.getfield 9, 3) := by decide +kernel
theorem dX4_keep_30 : decode cX4_keep 30 = .ok (.lload_n 2, 1) := by decide +kernel
theorem dX4_keep_31 : decode cX4_keep 31 = .ok (.lastore, 1) := by decide +kernel
theorem dX4_keep_32 : decode cX4_keep 32 = .ok (.aload_n 0, 1) := by decide +kernel
theorem dX4_keep_33 : decode cX4_keep 33 = .ok (.dup, 1) := by decide +kernel
theorem dX4_keep_34 : decode cX4_keep 34 = .ok (.getfield 9, 3) := by decide +kernel
theorem dX4_keep_37 : decode cX4_keep 37 = .ok (.iconst 1, 1) := by decide +kernel
theorem dX4_keep_38 : decode cX4_keep 38 = .ok (.iadd, 1) := by decide +kernel
theorem dX4_keep_39 : decode cX4_keep 39 = .ok (.putfield 9, 3) := by decide +kernel
theorem dX4_keep_42 : decode cX4_keep 42 = .ok (.aload_n 0, 1) := by decide +kernel
theorem dX4_keep_43 : decode cX4_keep 43 = .ok (.getfield 9, 3) := by decide +kernel
theorem dX4_keep_46 : decode cX4_keep 46 = .ok (.iconst 1, 1) := by decide +kernel
theorem dX4_keep_47 : decode cX4_keep 47 = .ok (.isub, 1) := by decide +kernel
theorem dX4_keep_48 : decode cX4_keep 48 = .ok (.ireturn, 1) := by decide +kernel
set_option maxRecDepth 20000 in
theorem ggX4_areSoBy_X3_has : GoodIn wsX4_areSoBy wsX3_has := goodIn_r _ [9, 10, 14, 15, 16] (by decide +kernel) (by decide +kernel)
set_option maxRecDepth 20000 in
theorem gX4_areSoBy_X3_has : GoodIn wsX4_areSoBy (wsV RX4 23 RX3 yX3_has wsX3_has) := goodIn_app (goodIn_of _ (by decide +kernel)) ggX4_areSoBy_X3_has
theorem dX4_areSoBy_0 : decode cX4_areSoBy 0 = .ok (.iconst 0, 1) := by decide +kernel
theorem dX4_areSoBy_1 : decode cX4_areSoBy 1 = .ok (.istore_n 2, 1) := by decide +kernel
theorem dX4_areSoBy_2 : decode cX4_areSoBy 2 = .ok (.iload_n 2, 1) := by decide +kernel
theorem dX4_areSoBy_3 : decode cX4_areSoBy 3 = .ok (.aload_n 0, 1) := by decide +kernel
theorem dX4_areSoBy_4 : decode cX4_areSoBy 4 = .ok (.getfield 9, 3) := by decide +kernel
theorem dX4_areSoBy_7 : decode cX4_areSoBy 7 = .ok (.if_icmp .ge 45, 3) := by decide +kernel
theorem dX4_areSoBy_10 : decode cX4_areSoBy 10 = .ok (.aload_n 1, 1) := by decide +kernel
theorem dX4_areSoBy_11 : decode cX4_areSoBy 11 = .ok (.aload_n 0, 1) := by decide +kernel
theorem dX4_areSoBy_12 : decode cX4_areSoBy 12 = .ok (.getfield 15, 3) := by decide +kernel
theorem dX4_areSoBy_15 : decode cX4_areSoBy 15 = .ok (.iload_n 2, 1) := by decide +kernel
theorem dX4_areSoBy_16 : decode cX4_areSoBy 16 = .ok (.iaload, 1) := by decide +kernel
theorem dX4_areSoBy_17 : decode cX4_areSoBy 17 = .ok (.invokevirtual 23, 3) := by decide +kernel
theorem dX4_areSoBy_20 : decode cX4_areSoBy 20 = .ok (.ifCond .eq 24, 3) := by decide +kernel
theorem dX4_areSoBy_23 : decode cX4_areSoBy 23 = .ok (.aload_n 1, 1) := by decide +kernel
theorem dX4_areSoBy_24 : decode cX4_areSoBy 24 = .ok (.getfield 29, 3) := by decide +kernel
theorem dX4_areSoBy_27 : decode cX4_areSoBy 27 = .ok (.aload_n 0, 1) := by decide +kernel
theorem dX4_areSoBy_28 : decode cX4_areSoBy 28 = .ok (.getfield 15, 3) := by decide +kernel
theorem dX4_areSoBy_31 : decode cX4_areSoBy 31 = .ok (.iload_n 2, 1) := by decide +kernel
theorem dX4_areSoBy_32 : decode cX4_areSoBy 32 = .ok (.iaload, 1) := by decide +kernel
theorem dX4_areSoBy_33 : decode cX4_areSoBy 33 = .ok (.laload, 1) := by decide +kernel
theorem dX4_areSoBy_34 : decode cX4_areSoBy 34 = .ok (.aload_n 0, 1) := by decide +kernel
theorem dX4_areSoBy_35 : decode cX4_areSoBy 35 = .ok (.getfield 19, 3) := by decide +kernel
theorem dX4_areSoBy_38 : decode cX4_areSoBy 38 = .ok (.iload_n 2, 1) := by decide +kernel
theorem dX4_areSoBy_39 : decode cX4_areSoBy 39 = .ok (.laload, 1) := by decide +kernel
theorem dX4_areSoBy_40 : decode cX4_areSoBy 40 = .ok (.lcmp, 1) := by decide +kernel
theorem dX4_areSoBy_41 : decode cX4_areSoBy 41 = .ok (.ifCond .eq 5, 3) := by decide +kernel
theorem dX4_areSoBy_44 : decode cX4_areSoBy 44 = .ok (.iconst 0, 1) := by decide +kernel
theorem dX4_areSoBy_45 : decode cX4_areSoBy 45 = .ok (.ireturn, 1) := by decide +kernel
theorem dX4_areSoBy_46 : decode cX4_areSoBy 46 = .ok (.iinc 2 1, 3) := by decide +kernel
theorem dX4_areSoBy_49 : decode cX4_areSoBy 49 = .ok (.goto (-47), 3) := by decide +kernel
theorem dX4_areSoBy_52 : decode cX4_areSoBy 52 = .ok (.iconst 1, 1) := by decide +kernel
theorem dX4_areSoBy_53 : decode cX4_areSoBy 53 = .ok (.ireturn, 1) := by decide +kernel
theorem dX5_init_0 : decode cX5_init 0 = .ok (.aload_n 0, 1) := by decide +kernel
theorem dX5_init_1 : decode cX5_init 1 = .ok (.invokespecial 3, 3) := by decide +kernel
theorem dX5_init_4 : decode cX5_init 4 = .ok (.aload_n 0, 1) := by decide +kernel
theorem dX5_init_5 : decode cX5_init 5 = .ok (.iconst 0, 1) := by decide +kernel
theorem dX5_init_6 : decode cX5_init 6 = .ok (.putfield 9, 3) := by decide +kernel
theorem dX5_init_9 : decode cX5_init 9 = .ok (.aload_n 0, 1) := by decide +kernel
theorem dX5_init_10 : decode cX5_init 10 = .ok (.iconst 0, 1) := by decide +kernel
theorem dX5_init_11 : decode cX5_init 11 = .ok (.putfield 15, 3) := by decide +kernel
theorem dX5_init_14 : decode cX5_init 14 = .ok (.aload_n 0, 1) := by decide +kernel
theorem dX5_init_15 : decode cX5_init 15 = .ok (.iconst 0, 1) := by decide +kernel
theorem dX5_init_16 : decode cX5_init 16 = .ok (.putfield 19, 3) := by decide +kernel
theorem dX5_init_19 : decode cX5_init 19 = .ok (.aload_n 0, 1) := by decide +kernel
theorem dX5_init_20 : decode cX5_init 20 = .ok (.bipush 60, 2) := by decide +kernel
theorem dX5_init_22 : decode cX5_init 22 = .ok (.newarray .int, 2) := by decide +kernel
theorem dX5_init_24 : decode cX5_init 24 = .ok (.putfield 22, 3) := by decide +kernel
theorem dX5_init_27 : decode cX5_init 27 = .ok (.return_, 1) := by decide +kernel
set_option maxRecDepth 20000 in
theorem ggX5_getRow_J7_fill_53178 : GoodIn wsX5_getRow wsJ7_fill_53178 := goodIn_r _ [8] (by decide +kernel) (by decide +kernel)
set_option maxRecDepth 20000 in
theorem gX5_getRow_J7_fill_53178 : GoodIn wsX5_getRow (va_wsS RX5 26 yJ7_fill_53178 wsJ7_fill_53178) := goodIn_app (goodIn_of _ (by decide +kernel)) ggX5_getRow_J7_fill_53178
theorem dX5_getRow_0 : decode cX5_getRow 0 = .ok (.aload_n 0, 1) := by decide +kernel
theorem dX5_getRow_1 : decode cX5_getRow 1 = .ok (.iconst 1, 1) := by decide +kernel
theorem dX5_getRow_2 : decode cX5_getRow 2 = .ok (.putfield 9, 3) := by decide +kernel
theorem dX5_getRow_5 : decode cX5_getRow 5 = .ok (.aload_n 0, 1) := by decide +kernel
theorem dX5_getRow_6 : decode cX5_getRow 6 = .ok (.iload_n 1, 1) := by decide +kernel
theorem dX5_getRow_7 : decode cX5_getRow 7 = .ok (.putfield 15, 3) := by decide +kernel
theorem dX5_getRow_10 : decode cX5_getRow 10 = .ok (.aload_n 0, 1) := by decide +kernel
theorem dX5_getRow_11 : decode cX5_getRow 11 = .ok (.iload_n 2, 1) := by decide +kernel
theorem dX5_getRow_12 : decode cX5_getRow 12 = .ok (.putfield 19, 3) := by decide +kernel
theorem dX5_getRow_15 : decode cX5_getRow 15 = .ok (.aload_n 0, 1) := by decide +kernel
theorem dX5_getRow_16 : decode cX5_getRow 16 = .ok (.getfield 22, 3) := by decide +kernel
theorem dX5_getRow_19 : decode cX5_getRow 19 = .ok (.iconst 0, 1) := by decide +kernel
theorem dX5_getRow_20 : decode cX5_getRow 20 = .ok (.invokestatic 26, 3) := by decide +kernel
theorem dX5_getRow_23 : decode cX5_getRow 23 = .ok (.return_, 1) := by decide +kernel
theorem dX5_loseRow_0 : decode cX5_loseRow 0 = .ok (.aload_n 0, 1) := by decide +kernel
theorem dX5_loseRow_1 : decode cX5_loseRow 1 = .ok (.getfield 9, 3) := by decide +kernel
theorem dX5_loseRow_4 : decode cX5_loseRow 4 = .ok (.istore_n 1, 1) := by decide +kernel
theorem dX5_loseRow_5 : decode cX5_loseRow 5 = .ok (.aload_n 0, 1) := by decide +kernel
theorem dX5_loseRow_6 : decode cX5_loseRow 6 = .ok (.iconst 0, 1) := by decide +kernel
theorem dX5_loseRow_7 : decode cX5_loseRow 7 = .ok (.putfield 9, 3) := by decide +kernel
theorem dX5_loseRow_10 : decode cX5_loseRow 10 = .ok (.aload_n 0, 1) := by decide +kernel
theorem dX5_loseRow_11 : decode cX5_loseRow 11 = .ok (.iconst 0, 1) := by decide +kernel
theorem dX5_loseRow_12 : decode cX5_loseRow 12 = .ok (.putfield 19, 3) := by decide +kernel
theorem dX5_loseRow_15 : decode cX5_loseRow 15 = .ok (.iload_n 1, 1) := by decide +kernel
theorem dX5_loseRow_16 : decode cX5_loseRow 16 = .ok (.ireturn, 1) := by decide +kernel
theorem dX5_faultTakenAs_0 : decode cX5_faultTakenAs 0 = .ok (.aload_n 0, 1) := by decide +kernel
theorem dX5_faultTakenAs_1 : decode cX5_faultTakenAs 1 = .ok (.getfield 9, 3) := by decide +kernel
theorem dX5_faultTakenAs_4 : decode cX5_faultTakenAs 4 = .ok (.ifCond .ne 5, 3) := by decide +kernel
theorem dX5_faultTakenAs_7 : decode cX5_faultTakenAs 7 = .ok (.iconst 1, 1) := by decide +kernel
theorem dX5_faultTakenAs_8 : decode cX5_faultTakenAs 8 = .ok (.ireturn, 1) := by decide +kernel
theorem dX5_faultTakenAs_9 : decode cX5_faultTakenAs 9 = .ok (.aload_n 0, 1) := by decide +kernel
theorem dX5_faultTakenAs_10 : decode cX5_faultTakenAs 10 = .ok (.getfield 15, 3) := by decide +kernel
theorem dX5_faultTakenAs_13 : decode cX5_faultTakenAs 13 = .ok (.iload_n 1, 1) := by decide +kernel
theorem dX5_faultTakenAs_14 : decode cX5_faultTakenAs 14 = .ok (.if_icmp .eq 7, 3) := by decide +kernel
theorem dX5_faultTakenAs_17 : decode cX5_faultTakenAs 17 = .ok (.iconst 2, 1) := by decide +kernel
theorem dX5_faultTakenAs_18 : decode cX5_faultTakenAs 18 = .ok (.goto 4, 3) := by decide +kernel
theorem dX5_faultTakenAs_21 : decode cX5_faultTakenAs 21 = .ok (.iconst 0, 1) := by decide +kernel
theorem dX5_faultTakenAs_22 : decode cX5_faultTakenAs 22 = .ok (.ireturn, 1) := by decide +kernel
theorem dX5_hasCells_0 : decode cX5_hasCells 0 = .ok (.iload_n 1, 1) := by decide +kernel
theorem dX5_hasCells_1 : decode cX5_hasCells 1 = .ok (.ifCond .lt 29, 3) := by decide +kernel
theorem dX5_hasCells_4 : decode cX5_hasCells 4 = .ok (.iload_n 1, 1) := by decide +kernel
theorem dX5_hasCells_5 : decode cX5_hasCells 5 = .ok (.aload_n 0, 1) := by decide +kernel
theorem dX5_hasCells_6 : decode cX5_hasCells 6 = .ok (.getfield 19, 3) := by decide +kernel
theorem dX5_hasCells_9 : decode cX5_hasCells 9 = .ok (.if_icmp .gt 21, 3) := by decide +kernel
theorem dX5_hasCells_12 : decode cX5_hasCells 12 = .ok (.iload_n 2, 1) := by decide +kernel
theorem dX5_hasCells_13 : decode cX5_hasCells 13 = .ok (.ifCond .lt 17, 3) := by decide +kernel
theorem dX5_hasCells_16 : decode cX5_hasCells 16 = .ok (.iload_n 2, 1) := by decide +kernel
theorem dX5_hasCells_17 : decode cX5_hasCells 17 = .ok (.aload_n 0, 1) := by decide +kernel
theorem dX5_hasCells_18 : decode cX5_hasCells 18 = .ok (.getfield 19, 3) := by decide +kernel
theorem dX5_hasCells_21 : decode cX5_hasCells 21 = .ok (.iload_n 1, 1) := by decide +kernel
theorem dX5_hasCells_22 : decode cX5_hasCells 22 = .ok (.isub, 1) := by decide +kernel
theorem dX5_hasCells_23 : decode cX5_hasCells 23 = .ok (.if_icmp .gt 7, 3) := by decide +kernel
theorem dX5_hasCells_26 : decode cX5_hasCells 26 = .ok (.iconst 1, 1) := by decide +kernel
theorem dX5_hasCells_27 : decode cX5_hasCells 27 = .ok (.goto 4, 3) := by decide +kernel
theorem dX5_hasCells_30 : decode cX5_hasCells 30 = .ok (.iconst 0, 1) := by decide +kernel
theorem dX5_hasCells_31 : decode cX5_hasCells 31 = .ok (.ireturn, 1) := by decide +kernel
theorem dX5_code_0 : decode cX5_code 0 = .ok (.iload_n 1, 1) := by decide +kernel
theorem dX5_code_1 : decode cX5_code 1 = .ok (.ifCond .lt 20, 3) := by decide +kernel
theorem dX5_code_4 : decode cX5_code 4 = .ok (.iload_n 1, 1) := by decide +kernel
theorem dX5_code_5 : decode cX5_code 5 = .ok (.aload_n 0, 1) := by decide +kernel
theorem dX5_code_6 : decode cX5_code 6 = .ok (.getfield 19, 3) := by decide +kernel
theorem dX5_code_9 : decode cX5_code 9 = .ok (.if_icmp .ge 12, 3) := by decide +kernel
theorem dX5_code_12 : decode cX5_code 12 = .ok (.aload_n 0, 1) := by decide +kernel
theorem dX5_code_13 : decode cX5_code 13 = .ok (.getfield 22, 3) := by decide +kernel
theorem dX5_code_16 : decode cX5_code 16 = .ok (.iload_n 1, 1) := by decide +kernel
theorem dX5_code_17 : decode cX5_code 17 = .ok (.iaload, 1) := by decide +kernel
theorem dX5_code_18 : decode cX5_code 18 = .ok (.goto 5, 3) := by decide +kernel
theorem dX5_code_21 : decode cX5_code 21 = .ok (.bipush (-9), 2) := by decide +kernel
theorem dX5_code_23 : decode cX5_code 23 = .ok (.ireturn, 1) := by decide +kernel
theorem dX5_cut_0 : decode cX5_cut 0 = .ok (.aload_n 0, 1) := by decide +kernel
theorem dX5_cut_1 : decode cX5_cut 1 = .ok (.getfield 15, 3) := by decide +kernel
theorem dX5_cut_4 : decode cX5_cut 4 = .ok (.lookupswitch 34 #[(0, 28), (1, 31)], 28) := by decide +kernel
theorem dX5_cut_32 : decode cX5_cut 32 = .ok (.iload_n 1, 1) := by decide +kernel
theorem dX5_cut_33 : decode cX5_cut 33 = .ok (.i2b, 1) := by decide +kernel
theorem dX5_cut_34 : decode cX5_cut 34 = .ok (.ireturn, 1) := by decide +kernel
theorem dX5_cut_35 : decode cX5_cut 35 = .ok (.iload_n 1, 1) := by decide +kernel
theorem dX5_cut_36 : decode cX5_cut 36 = .ok (.i2s, 1) := by decide +kernel
theorem dX5_cut_37 : decode cX5_cut 37 = .ok (.ireturn, 1) := by decide +kernel
theorem dX5_cut_38 : decode cX5_cut 38 = .ok (.iload_n 1, 1) := by decide +kernel
theorem dX5_cut_39 : decode cX5_cut 39 = .ok (.ireturn, 1) := by decide +kernel
set_option maxRecDepth 20000 in
theorem ggX6_init_J7_fill_53178 : GoodIn wsX6_init wsJ7_fill_53178 := goodIn_r _ [10] (by decide +kernel) (by decide +kernel)
set_option maxRecDepth 20000 in
theorem gX6_init_J7_fill_53178 : GoodIn wsX6_init (va_wsS RX6 18 yJ7_fill_53178 wsJ7_fill_53178) := goodIn_app (goodIn_of _ (by decide +kernel)) ggX6_init_J7_fill_53178
theorem dX6_init_0 : decode cX6_init 0 = .ok (.aload_n 0, 1) := by decide +kernel
theorem dX6_init_1 : decode cX6_init 1 = .ok (.invokespecial 3, 3) := by decide +kernel
theorem dX6_init_4 : decode cX6_init 4 = .ok (.aload_n 0, 1) := by decide +kernel
theorem dX6_init_5 : decode cX6_init 5 = .ok (.bipush 32, 2) := by decide +kernel
theorem dX6_init_7 : decode cX6_init 7 = .ok (.newarray .int, 2) := by decide +kernel
theorem dX6_init_9 : decode cX6_init 9 = .ok (.putfield 9, 3) := by decide +kernel
theorem dX6_init_12 : decode cX6_init 12 = .ok (.aload_n 0, 1) := by decide +kernel
theorem dX6_init_13 : decode cX6_init 13 = .ok (.bipush 32, 2) := by decide +kernel
theorem dX6_init_15 : decode cX6_init 15 = .ok (.newarray .int, 2) := by decide +kernel
theorem dX6_init_17 : decode cX6_init 17 = .ok (.putfield 15, 3) := by decide +kernel
theorem dX6_init_20 : decode cX6_init 20 = .ok (.aload_n 0, 1) := by decide +kernel
theorem dX6_init_21 : decode cX6_init 21 = .ok (.getfield 15, 3) := by decide +kernel
theorem dX6_init_24 : decode cX6_init 24 = .ok (.iconst (-1), 1) := by decide +kernel
theorem dX6_init_25 : decode cX6_init 25 = .ok (.invokestatic 18, 3) := by decide +kernel
theorem dX6_init_28 : decode cX6_init 28 = .ok (.return_, 1) := by decide +kernel
theorem dX6_has_0 : decode cX6_has 0 = .ok (.iload_n 1, 1) := by decide +kernel
theorem dX6_has_1 : decode cX6_has 1 = .ok (.iconst 1, 1) := by decide +kernel
theorem dX6_has_2 : decode cX6_has 2 = .ok (.if_icmp .lt 28, 3) := by decide +kernel
theorem dX6_has_5 : decode cX6_has 5 = .ok (.iload_n 1, 1) := by decide +kernel
theorem dX6_has_6 : decode cX6_has 6 = .ok (.bipush 32, 2) := by decide +kernel
theorem dX6_has_8 : decode cX6_has 8 = .ok (.if_icmp .ge 22, 3) := by decide +kernel
theorem dX6_has_11 : decode cX6_has 11 = .ok (.aload_n 0, 1) := by decide +kernel
theorem dX6_has_12 : decode cX6_has 12 = .ok (.getfield 9, 3) := by decide +kernel
theorem dX6_has_15 : decode cX6_has 15 = .ok (.iload_n 1, 1) := by decide +kernel
theorem dX6_has_16 : decode cX6_has 16 = .ok (.iaload, 1) := by decide +kernel
theorem dX6_has_17 : decode cX6_has 17 = .ok (.aload_n 0, 1) := by decide +kernel
theorem dX6_has_18 : decode cX6_has 18 = .ok (.getfield 15, 3) := by decide +kernel
theorem dX6_has_21 : decode cX6_has 21 = .ok (.iload_n 1, 1) := by decide +kernel
theorem dX6_has_22 : decode cX6_has 22 = .ok (.iaload, 1) := by decide +kernel
theorem dX6_has_23 : decode cX6_has 23 = .ok (.if_icmp .gt 7, 3) := by decide +kernel
theorem dX6_has_26 : decode cX6_has 26 = .ok (.iconst 1, 1) := by decide +kernel
theorem dX6_has_27 : decode cX6_has 27 = .ok (.goto 4, 3) := by decide +kernel
theorem dX6_has_30 : decode cX6_has 30 = .ok (.iconst 0, 1) := by decide +kernel
theorem dX6_has_31 : decode cX6_has 31 = .ok (.ireturn, 1) := by decide +kernel
theorem dX6_halve_0 : decode cX6_halve 0 = .ok (.aload_n 0, 1) := by decide +kernel
theorem dX6_halve_1 : decode cX6_halve 1 = .ok (.getfield 15, 3) := by decide +kernel
theorem dX6_halve_4 : decode cX6_halve 4 = .ok (.iconst 1, 1) := by decide +kernel
theorem dX6_halve_5 : decode cX6_halve 5 = .ok (.iload_n 1, 1) := by decide +kernel
theorem dX6_halve_6 : decode cX6_halve 6 = .ok (.iconst 1, 1) := by decide +kernel
theorem dX6_halve_7 : decode cX6_halve 7 = .ok (.isub, 1) := by decide +kernel
theorem dX6_halve_8 : decode cX6_halve 8 = .ok (.iastore, 1) := by decide +kernel
theorem dX6_halve_9 : decode cX6_halve 9 = .ok (.iconst 2, 1) := by decide +kernel
theorem dX6_halve_10 : decode cX6_halve 10 = .ok (.istore_n 2, 1) := by decide +kernel
theorem dX6_halve_11 : decode cX6_halve 11 = .ok (.iload_n 2, 1) := by decide +kernel
theorem dX6_halve_12 : decode cX6_halve 12 = .ok (.bipush 32, 2) := by decide +kernel
theorem dX6_halve_14 : decode cX6_halve 14 = .ok (.if_icmp .ge 121, 3) := by decide +kernel
theorem dX6_halve_17 : decode cX6_halve 17 = .ok (.iload_n 2, 1) := by decide +kernel
theorem dX6_halve_18 : decode cX6_halve 18 = .ok (.iconst 2, 1) := by decide +kernel
theorem dX6_halve_19 : decode cX6_halve 19 = .ok (.idiv, 1) := by decide +kernel
theorem dX6_halve_20 : decode cX6_halve 20 = .ok (.istore_n 3, 1) := by decide +kernel
theorem dX6_halve_21 : decode cX6_halve 21 = .ok (.aload_n 0, 1) := by decide +kernel
theorem dX6_halve_22 : decode cX6_halve 22 = .ok (.getfield 9, 3) := by decide +kernel
theorem dX6_halve_25 : decode cX6_halve 25 = .ok (.iload_n 3, 1) := by decide +kernel
theorem dX6_halve_26 : decode cX6_halve 26 = .ok (.iaload, 1) := by decide +kernel
theorem dX6_halve_27 : decode cX6_halve 27 = .ok (.aload_n 0, 1) := by decide +kernel
theorem dX6_halve_28 : decode cX6_halve 28 = .ok (.getfield 15, 3) := by decide +kernel
theorem dX6_halve_31 : decode cX6_halve 31 = .ok (.iload_n 3, 1) := by decide +kernel
theorem dX6_halve_32 : decode cX6_halve 32 = .ok (.iaload, 1) := by decide +kernel
theorem dX6_halve_33 : decode cX6_halve 33 = .ok (.if_icmp .lt 20, 3) := by decide +kernel
theorem dX6_halve_36 : decode cX6_halve 36 = .ok (.aload_n 0, 1) := by decide +kernel
theorem dX6_halve_37 : decode cX6_halve 37 = .ok (.getfield 9, 3) := by decide +kernel
theorem dX6_halve_40 : decode cX6_halve 40 = .ok (.iload_n 2, 1) := by decide +kernel
theorem dX6_halve_41 : decode cX6_halve 41 = .ok (.iconst 0, 1) := by decide +kernel
theorem dX6_halve_42 : decode cX6_halve 42 = .ok (.iastore, 1) := by decide +kernel
theorem dX6_halve_43 : decode cX6_halve 43 = .ok (.aload_n 0, 1) := by decide +kernel
theorem dX6_halve_44 : decode cX6_halve 44 = .ok (.getfield 15, 3) := by decide +kernel
theorem dX6_halve_47 : decode cX6_halve 47 = .ok (.iload_n 2, 1) := by decide +kernel
theorem dX6_halve_48 : decode cX6_halve 48 = .ok (.iconst (-1), 1) := by decide +kernel
theorem dX6_halve_49 : decode cX6_halve 49 = .ok (.iastore, 1) := by decide +kernel
theorem dX6_halve_50 : decode cX6_halve 50 = .ok (.goto 79, 3) := by decide +kernel
theorem dX6_halve_53 : decode cX6_halve 53 = .ok (.aload_n 0, 1) := by decide +kernel
theorem dX6_halve_54 : decode cX6_halve 54 = .ok (.getfield 9, 3) := by decide +kernel
theorem dX6_halve_57 : decode cX6_halve 57 = .ok (.iload_n 3, 1) := by decide +kernel
theorem dX6_halve_58 : decode cX6_halve 58 = .ok (.iaload, 1) := by decide +kernel
theorem dX6_halve_59 : decode cX6_halve 59 = .ok (.aload_n 0, 1) := by decide +kernel
theorem dX6_halve_60 : decode cX6_halve 60 = .ok (.getfield 15, 3) := by decide +kernel
theorem dX6_halve_63 : decode cX6_halve 63 = .ok (.iload_n 3, 1) := by decide +kernel
theorem dX6_halve_64 : decode cX6_halve 64 = .ok (.iaload, 1) := by decide +kernel
theorem dX6_halve_65 : decode cX6_halve 65 = .ok (.iadd, 1) := by decide +kernel
theorem dX6_halve_66 : decode cX6_halve 66 = .ok (.iconst 2, 1) := by decide +kernel
theorem dX6_halve_67 : decode cX6_halve 67 = .ok (.idiv, 1) := by decide +kernel
theorem dX6_halve_68 : decode cX6_halve 68 = .ok (.istore 4, 2) := by decide +kernel
theorem dX6_halve_70 : decode cX6_halve 70 = .ok (.iload_n 2, 1) := by decide +kernel
theorem dX6_halve_71 : decode cX6_halve 71 = .ok (.iconst 2, 1) := by decide +kernel
theorem dX6_halve_72 : decode cX6_halve 72 = .ok (.irem, 1) := by decide +kernel
theorem dX6_halve_73 : decode cX6_halve 73 = .ok (.ifCond .ne 7, 3) := by decide +kernel
theorem dX6_halve_76 : decode cX6_halve 76 = .ok (.iconst 1, 1) := by decide +kernel
theorem dX6_halve_77 : decode cX6_halve 77 = .ok (.goto 4, 3) := by decide +kernel
theorem dX6_halve_80 : decode cX6_halve 80 = .ok (.iconst 0, 1) := by decide +kernel
theorem dX6_halve_81 : decode cX6_halve 81 = .ok (.istore 5, 2) := by decide +kernel
theorem dX6_halve_83 : decode cX6_halve 83 = .ok (.aload_n 0, 1) := by decide +kernel
theorem dX6_halve_84 : decode cX6_halve 84 = .ok (.getfield 9, 3) := by decide +kernel
theorem dX6_halve_87 : decode cX6_halve 87 = .ok (.iload_n 2, 1) := by decide +kernel
theorem dX6_halve_88 : decode cX6_halve 88 = .ok (.iload 5, 2) := by decide +kernel
theorem dX6_halve_90 : decode cX6_halve 90 = .ok (.ifCond .eq 12, 3) := by decide +kernel
theorem dX6_halve_93 : decode cX6_halve 93 = .ok (.aload_n 0, 1) := by decide +kernel
theorem dX6_halve_94 : decode cX6_halve 94 = .ok (.getfield 9, 3) := by decide +kernel
theorem dX6_halve_97 : decode cX6_halve 97 = .ok (.iload_n 3, 1) := by decide +kernel
theorem dX6_halve_98 : decode cX6_halve 98 = .ok (.iaload, 1) := by decide +kernel
theorem dX6_halve_99 : decode cX6_halve 99 = .ok (.goto 7, 3) := by decide +kernel
theorem dX6_halve_102 : decode cX6_halve 102 = .ok (.iload 4, 2) := by decide +kernel
theorem dX6_halve_104 : decode cX6_halve 104 = .ok (.iconst 1, 1) := by decide +kernel
theorem dX6_halve_105 : decode cX6_halve 105 = .ok (.iadd, 1) := by decide +kernel
theorem dX6_halve_106 : decode cX6_halve 106 = .ok (.iastore, 1) := by decide +kernel
theorem dX6_halve_107 : decode cX6_halve 107 = .ok (.aload_n 0, 1) := by decide +kernel
theorem dX6_halve_108 : decode cX6_halve 108 = .ok (.getfield 15, 3) := by decide +kernel
theorem dX6_halve_111 : decode cX6_halve 111 = .ok (.iload_n 2, 1) := by decide +kernel
theorem dX6_halve_112 : decode cX6_halve 112 = .ok (.iload 5, 2) := by decide +kernel
theorem dX6_halve_114 : decode cX6_halve 114 = .ok (.ifCond .eq 8, 3) := by decide +kernel
theorem dX6_halve_117 : decode cX6_halve 117 = .ok (.iload 4, 2) := by decide +kernel
theorem dX6_halve_119 : decode cX6_halve 119 = .ok (.goto 9, 3) := by decide +kernel
theorem dX6_halve_122 : decode cX6_halve 122 = .ok (.aload_n 0, 1) := by decide +kernel
theorem dX6_halve_123 : decode cX6_halve 123 = .ok (.getfield 15, 3) := by decide +kernel
theorem dX6_halve_126 : decode cX6_halve 126 = .ok (.iload_n 3, 1) := by decide +kernel
theorem dX6_halve_127 : decode cX6_halve 127 = .ok (.iaload, 1) := by decide +kernel
theorem dX6_halve_128 : decode cX6_halve 128 = .ok (.iastore, 1) := by decide +kernel
theorem dX6_halve_129 : decode cX6_halve 129 = .ok (.iinc 2 1, 3) := by decide +kernel
theorem dX6_halve_132 : decode cX6_halve 132 = .ok (.goto (-121), 3) := by decide +kernel
theorem dX6_halve_135 : decode cX6_halve 135 = .ok (.return_, 1) := by decide +kernel
set_option maxRecDepth 20000 in
theorem ggX6_count_X6_has : GoodIn wsX6_count wsX6_has := goodIn_r _ [5, 6, 7, 8, 9] (by decide +kernel) (by decide +kernel)
set_option maxRecDepth 20000 in
theorem gX6_count_X6_has : GoodIn wsX6_count (wsV RX6 24 RX6 yX6_has wsX6_has) := goodIn_app (goodIn_of _ (by decide +kernel)) ggX6_count_X6_has
theorem dX6_count_0 : decode cX6_count 0 = .ok (.iconst 0, 1) := by decide +kernel
theorem dX6_count_1 : decode cX6_count 1 = .ok (.istore_n 1, 1) := by decide +kernel
theorem dX6_count_2 : decode cX6_count 2 = .ok (.iconst 1, 1) := by decide +kernel
theorem dX6_count_3 : decode cX6_count 3 = .ok (.istore_n 2, 1) := by decide +kernel
theorem dX6_count_4 : decode cX6_count 4 = .ok (.iload_n 2, 1) := by decide +kernel
theorem dX6_count_5 : decode cX6_count 5 = .ok (.bipush 32, 2) := by decide +kernel
theorem dX6_count_7 : decode cX6_count 7 = .ok (.if_icmp .ge 20, 3) := by decide +kernel
theorem dX6_count_10 : decode cX6_count 10 = .ok (.aload_n 0, 1) := by decide +kernel
theorem dX6_count_11 : decode cX6_count 11 = .ok (.iload_n 2, 1) := by decide +kernel
theorem dX6_count_12 : decode cX6_count 12 = .ok (.invokevirtual 24, 3) := by decide +kernel
theorem dX6_count_15 : decode cX6_count 15 = .ok (.ifCond .eq 6, 3) := by decide +kernel
theorem dX6_count_18 : decode cX6_count 18 = .ok (.iinc 1 1, 3) := by decide +kernel
theorem dX6_count_21 : decode cX6_count 21 = .ok (.iinc 2 1, 3) := by decide +kernel
theorem dX6_count_24 : decode cX6_count 24 = .ok (.goto (-20), 3) := by decide +kernel
theorem dX6_count_27 : decode cX6_count 27 = .ok (.iload_n 1, 1) := by decide +kernel
theorem dX6_count_28 : decode cX6_count 28 = .ok (.ireturn, 1) := by decide +kernel
set_option maxRecDepth 20000 in
theorem ggX7_init_X1_init : GoodIn wsX7_init wsX1_init := goodIn_r _ [12, 13, 2, 3, 14, 5, 15, 16, 20, 21, 22] (by decide +kernel) (by decide +kernel)
set_option maxRecDepth 20000 in
theorem gX7_init_X1_init_n21 : GoodIn wsX7_init (wsX1_init) := ggX7_init_X1_init
theorem dX7_init_0 : decode cX7_init 0 = .ok (.aload_n 0, 1) := by decide +kernel
theorem dX7_init_1 : decode cX7_init 1 = .ok (.invokespecial 3, 3) := by decide +kernel
theorem dX7_init_4 : decode cX7_init 4 = .ok (.aload_n 0, 1) := by decide +kernel
theorem dX7_init_5 : decode cX7_init 5 = .ok (.iconst 0, 1) := by decide +kernel
theorem dX7_init_6 : decode cX7_init 6 = .ok (.putfield 9, 3) := by decide +kernel
theorem dX7_init_9 : decode cX7_init 9 = .ok (.aload_n 0, 1) := by decide +kernel
theorem dX7_init_10 : decode cX7_init 10 = .ok (.bipush 16, 2) := by decide +kernel
theorem dX7_init_12 : decode cX7_init 12 = .ok (.newarray .int, 2) := by decide +kernel
theorem dX7_init_14 : decode cX7_init 14 = .ok (.putfield 15, 3) := by decide +kernel
theorem dX7_init_17 : decode cX7_init 17 = .ok (.aload_n 0, 1) := by decide +kernel
theorem dX7_init_18 : decode cX7_init 18 = .ok (.new 19, 3) := by decide +kernel
theorem dX7_init_21 : decode cX7_init 21 = .ok (.dup, 1) := by decide +kernel
theorem dX7_init_22 : decode cX7_init 22 = .ok (.invokespecial 21, 3) := by decide +kernel
theorem dX7_init_25 : decode cX7_init 25 = .ok (.putfield 22, 3) := by decide +kernel
theorem dX7_init_28 : decode cX7_init 28 = .ok (.return_, 1) := by decide +kernel
set_option maxRecDepth 20000 in
theorem ggX7_firstFault_X7_codeOf : GoodIn wsX7_firstFault wsX7_codeOf := goodIn_r _ [7, 8, 9, 10, 11, 12, 13, 14, 44, 45, 46, 47] (by decide +kernel) (by decide +kernel)
set_option maxRecDepth 20000 in
theorem gX7_firstFault_X7_codeOf : GoodIn wsX7_firstFault (va_wsS RX7 29 yX7_codeOf wsX7_codeOf) := goodIn_app (goodIn_of _ (by decide +kernel)) ggX7_firstFault_X7_codeOf
set_option maxRecDepth 20000 in
theorem ggX7_firstFault_X7_readDigits : GoodIn wsX7_firstFault wsX7_readDigits := goodIn_r _ [18, 19, 1, 4, 5, 6, 7, 8, 9, 10, 11, 12, 13, 14, 20, 21, 22, 38, 39, 40, 44, 45, 46, 47] (by decide +kernel) (by decide +kernel)
set_option maxRecDepth 20000 in
theorem gX7_firstFault_X7_readDigits : GoodIn wsX7_firstFault (wsV RX7 33 RX7 yX7_readDigits wsX7_readDigits) := goodIn_app (goodIn_of _ (by decide +kernel)) ggX7_firstFault_X7_readDigits
set_option maxRecDepth 20000 in
theorem ggX7_firstFault_X7_firstFaultOfHelpers : GoodIn wsX7_firstFault wsX7_firstFaultOfHelpers := goodIn_r _ [26, 1, 2, 4, 5, 6, 7, 8, 9, 10, 11, 12, 13, 14, 27, 28, 29, 20, 21, 22, 30, 31, 32, 33, 34, 35, 36, 37, 38, 39, 40, 44, 45, 46, 47, 41, 42, 43] (by decide +kernel) (by decide +kernel)
set_option maxRecDepth 20000 in
theorem gX7_firstFault_X7_firstFaultOfHelpers : GoodIn wsX7_firstFault (wsV RX7 37 RX7 yX7_firstFaultOfHelpers wsX7_firstFaultOfHelpers) := goodIn_app (goodIn_of _ (by decide +kernel)) ggX7_firstFault_X7_firstFaultOfHelpers
theorem dX7_firstFault_0 : decode cX7_firstFault 0 = .ok (.aload_n 0, 1) := by decide +kernel
theorem dX7_firstFault_1 : decode cX7_firstFault 1 = .ok (.iconst 0, 1) := by decide +kernel
theorem dX7_firstFault_2 : decode cX7_firstFault 2 = .ok (.putfield 9, 3) := by decide +kernel
theorem dX7_firstFault_5 : decode cX7_firstFault 5 = .ok (.aload_n 0, 1) := by decide +kernel
theorem dX7_firstFault_6 : decode cX7_firstFault 6 = .ok (.getfield 22, 3) := by decide +kernel
theorem dX7_firstFault_9 : decode cX7_firstFault 9 = .ok (.iconst 0, 1) := by decide +kernel
theorem dX7_firstFault_10 : decode cX7_firstFault 10 = .ok (.putfield 26, 3) := by decide +kernel
theorem dX7_firstFault_13 : decode cX7_firstFault 13 = .ok (.aload_n 1, 1) := by decide +kernel
theorem dX7_firstFault_14 : decode cX7_firstFault 14 = .ok (.iload_n 2, 1) := by decide +kernel
theorem dX7_firstFault_15 : decode cX7_firstFault 15 = .ok (.iload_n 3, 1) := by decide +kernel
theorem dX7_firstFault_16 : decode cX7_firstFault 16 = .ok (.iconst 0, 1) := by decide +kernel
theorem dX7_firstFault_17 : decode cX7_firstFault 17 = .ok (.invokestatic 29, 3) := by decide +kernel
theorem dX7_firstFault_20 : decode cX7_firstFault 20 = .ok (.bipush 114, 2) := by decide +kernel
theorem dX7_firstFault_22 : decode cX7_firstFault 22 = .ok (.if_icmp .eq 5, 3) := by decide +kernel
theorem dX7_firstFault_25 : decode cX7_firstFault 25 = .ok (.iconst 0, 1) := by decide +kernel
theorem dX7_firstFault_26 : decode cX7_firstFault 26 = .ok (.ireturn, 1) := by decide +kernel
theorem dX7_firstFault_27 : decode cX7_firstFault 27 = .ok (.aload_n 0, 1) := by decide +kernel
theorem dX7_firstFault_28 : decode cX7_firstFault 28 = .ok (.aload_n 1, 1) := by decide +kernel
theorem dX7_firstFault_29 : decode cX7_firstFault 29 = .ok (.iload_n 2, 1) := by decide +kernel
theorem dX7_firstFault_30 : decode cX7_firstFault 30 = .ok (.iload_n 3, 1) := by decide +kernel
theorem dX7_firstFault_31 : decode cX7_firstFault 31 = .ok (.invokevirtual 33, 3) := by decide +kernel
theorem dX7_firstFault_34 : decode cX7_firstFault 34 = .ok (.aload_n 0, 1) := by decide +kernel
theorem dX7_firstFault_35 : decode cX7_firstFault 35 = .ok (.getfield 9, 3) := by decide +kernel
theorem dX7_firstFault_38 : decode cX7_firstFault 38 = .ok (.ifCond .ne 7, 3) := by decide +kernel
theorem dX7_firstFault_41 : decode cX7_firstFault 41 = .ok (.iconst 1, 1) := by decide +kernel
theorem dX7_firstFault_42 : decode cX7_firstFault 42 = .ok (.goto 10, 3) := by decide +kernel
theorem dX7_firstFault_45 : decode cX7_firstFault 45 = .ok (.aload_n 0, 1) := by decide +kernel
theorem dX7_firstFault_46 : decode cX7_firstFault 46 = .ok (.aload_n 1, 1) := by decide +kernel
theorem dX7_firstFault_47 : decode cX7_firstFault 47 = .ok (.iload_n 2, 1) := by decide +kernel
theorem dX7_firstFault_48 : decode cX7_firstFault 48 = .ok (.iload_n 3, 1) := by decide +kernel
theorem dX7_firstFault_49 : decode cX7_firstFault 49 = .ok (.invokevirtual 37, 3) := by decide +kernel
theorem dX7_firstFault_52 : decode cX7_firstFault 52 = .ok (.ireturn, 1) := by decide +kernel
set_option maxRecDepth 20000 in
theorem ggX7_readDigits_X7_codeOf : GoodIn wsX7_readDigits wsX7_codeOf := goodIn_r _ [6, 7, 8, 9, 10, 11, 12, 13, 20, 21, 22, 23] (by decide +kernel) (by decide +kernel)
set_option maxRecDepth 20000 in
theorem gX7_readDigits_X7_codeOf : GoodIn wsX7_readDigits (va_wsS RX7 29 yX7_codeOf wsX7_codeOf) := goodIn_app (goodIn_of _ (by decide +kernel)) ggX7_readDigits_X7_codeOf
set_option maxRecDepth 20000 in
theorem ggX7_readDigits_X7_isDigit : GoodIn wsX7_readDigits wsX7_isDigit := goodIn_r _ [16] (by decide +kernel) (by decide +kernel)
set_option maxRecDepth 20000 in
theorem gX7_readDigits_X7_isDigit : GoodIn wsX7_readDigits (va_wsS RX7 41 yX7_isDigit wsX7_isDigit) := goodIn_app (goodIn_of _ (by decide +kernel)) ggX7_readDigits_X7_isDigit
theorem dX7_readDigits_0 : decode cX7_readDigits 0 = .ok (.iconst 0, 1) := by decide +kernel
theorem dX7_readDigits_1 : decode cX7_readDigits 1 = .ok (.istore 4, 2) := by decide +kernel
theorem dX7_readDigits_3 : decode cX7_readDigits 3 = .ok (.iload 4, 2) := by decide +kernel
theorem dX7_readDigits_5 : decode cX7_readDigits 5 = .ok (.bipush 16, 2) := by decide +kernel
theorem dX7_readDigits_7 : decode cX7_readDigits 7 = .ok (.if_icmp .ge 50, 3) := by decide +kernel
theorem dX7_readDigits_10 : decode cX7_readDigits 10 = .ok (.aload_n 1, 1) := by decide +kernel
theorem dX7_readDigits_11 : decode cX7_readDigits 11 = .ok (.iload_n 2, 1) := by decide +kernel
theorem dX7_readDigits_12 : decode cX7_readDigits 12 = .ok (.iload_n 3, 1) := by decide +kernel
theorem dX7_readDigits_13 : decode cX7_readDigits 13 = .ok (.iconst 1, 1) := by decide +kernel
theorem dX7_readDigits_14 : decode cX7_readDigits 14 = .ok (.iload 4, 2) := by decide +kernel
theorem dX7_readDigits_16 : decode cX7_readDigits 16 = .ok (.iadd, 1) := by decide +kernel
theorem dX7_readDigits_17 : decode cX7_readDigits 17 = .ok (.invokestatic 29, 3) := by decide +kernel
theorem dX7_readDigits_20 : decode cX7_readDigits 20 = .ok (.istore 5, 2) := by decide +kernel
theorem dX7_readDigits_22 : decode cX7_readDigits 22 = .ok (.iload 5, 2) := by decide +kernel
theorem dX7_readDigits_24 : decode cX7_readDigits 24 = .ok (.invokestatic 41, 3) := by decide +kernel
theorem dX7_readDigits_27 : decode cX7_readDigits 27 = .ok (.ifCond .ne 4, 3) := by decide +kernel
theorem dX7_readDigits_30 : decode cX7_readDigits 30 = .ok (.return_, 1) := by decide +kernel
theorem dX7_readDigits_31 : decode cX7_readDigits 31 = .ok (.aload_n 0, 1) := by decide +kernel
theorem dX7_readDigits_32 : decode cX7_readDigits 32 = .ok (.getfield 15, 3) := by decide +kernel
theorem dX7_readDigits_35 : decode cX7_readDigits 35 = .ok (.iload 4, 2) := by decide +kernel
theorem dX7_readDigits_37 : decode cX7_readDigits 37 = .ok (.iload 5, 2) := by decide +kernel
theorem dX7_readDigits_39 : decode cX7_readDigits 39 = .ok (.bipush 48, 2) := by decide +kernel
theorem dX7_readDigits_41 : decode cX7_readDigits 41 = .ok (.isub, 1) := by decide +kernel
theorem dX7_readDigits_42 : decode cX7_readDigits 42 = .ok (.iastore, 1) := by decide +kernel
theorem dX7_readDigits_43 : decode cX7_readDigits 43 = .ok (.aload_n 0, 1) := by decide +kernel
theorem dX7_readDigits_44 : decode cX7_readDigits 44 = .ok (.iload 4, 2) := by decide +kernel
theorem dX7_readDigits_46 : decode cX7_readDigits 46 = .ok (.iconst 1, 1) := by decide +kernel
theorem dX7_readDigits_47 : decode cX7_readDigits 47 = .ok (.iadd, 1) := by decide +kernel
theorem dX7_readDigits_48 : decode cX7_readDigits 48 = .ok (.putfield 9, 3) := by decide +kernel
theorem dX7_readDigits_51 : decode cX7_readDigits 51 = .ok (.iinc 4 1, 3) := by decide +kernel
theorem dX7_readDigits_54 : decode cX7_readDigits 54 = .ok (.goto (-51), 3) := by decide +kernel
theorem dX7_readDigits_57 : decode cX7_readDigits 57 = .ok (.return_, 1) := by decide +kernel
set_option maxRecDepth 20000 in
theorem ggX7_firstFaultOfHelpers_X7_codeOf : GoodIn wsX7_firstFaultOfHelpers wsX7_codeOf := goodIn_r _ [6, 7, 8, 9, 10, 11, 12, 13, 31, 32, 33, 34] (by decide +kernel) (by decide +kernel)
set_option maxRecDepth 20000 in
theorem gX7_firstFaultOfHelpers_X7_codeOf : GoodIn wsX7_firstFaultOfHelpers (va_wsS RX7 29 yX7_codeOf wsX7_codeOf) := goodIn_app (goodIn_of _ (by decide +kernel)) ggX7_firstFaultOfHelpers_X7_codeOf
set_option maxRecDepth 20000 in
theorem ggX7_firstFaultOfHelpers_X7_kindOf : GoodIn wsX7_firstFaultOfHelpers wsX7_kindOf := goodIn_r _ [16] (by decide +kernel) (by decide +kernel)
set_option maxRecDepth 20000 in
theorem gX7_firstFaultOfHelpers_X7_kindOf : GoodIn wsX7_firstFaultOfHelpers (va_wsS RX7 45 yX7_kindOf wsX7_kindOf) := goodIn_app (goodIn_of _ (by decide +kernel)) ggX7_firstFaultOfHelpers_X7_kindOf
set_option maxRecDepth 20000 in
theorem ggX7_firstFaultOfHelpers_X7_isDigit : GoodIn wsX7_firstFaultOfHelpers wsX7_isDigit := goodIn_r _ [19] (by decide +kernel) (by decide +kernel)
set_option maxRecDepth 20000 in
theorem gX7_firstFaultOfHelpers_X7_isDigit : GoodIn wsX7_firstFaultOfHelpers (va_wsS RX7 41 yX7_isDigit wsX7_isDigit) := goodIn_app (goodIn_of _ (by decide +kernel)) ggX7_firstFaultOfHelpers_X7_isDigit
set_option maxRecDepth 20000 in
theorem ggX7_firstFaultOfHelpers_X1_join : GoodIn wsX7_firstFaultOfHelpers wsX1_join := goodIn_r _ [24, 25, 26, 27, 35, 36, 37] (by decide +kernel) (by decide +kernel)
set_option maxRecDepth 20000 in
theorem gX7_firstFaultOfHelpers_X1_join : GoodIn wsX7_firstFaultOfHelpers (wsV RX7 49 RX1 yX1_join wsX1_join) := goodIn_app (goodIn_of _ (by decide +kernel)) ggX7_firstFaultOfHelpers_X1_join
theorem dX7_firstFaultOfHelpers_0 : decode cX7_firstFaultOfHelpers 0 = .ok (.iconst 1, 1) := by decide +kernel
theorem dX7_firstFaultOfHelpers_1 : decode cX7_firstFaultOfHelpers 1 = .ok (.aload_n 0, 1) := by decide +kernel
theorem dX7_firstFaultOfHelpers_2 : decode cX7_firstFaultOfHelpers 2 = .ok (.getfield 9, 3) := by decide +kernel
theorem dX7_firstFaultOfHelpers_5 : decode cX7_firstFaultOfHelpers 5 = .ok (.iadd, 1) := by decide +kernel
theorem dX7_firstFaultOfHelpers_6 : decode cX7_firstFaultOfHelpers 6 = .ok (.istore 4, 2) := by decide +kernel
theorem dX7_firstFaultOfHelpers_8 : decode cX7_firstFaultOfHelpers 8 = .ok (.iconst 0, 1) := by decide +kernel
theorem dX7_firstFaultOfHelpers_9 : decode cX7_firstFaultOfHelpers 9 = .ok (.istore 5, 2) := by decide +kernel
theorem dX7_firstFaultOfHelpers_11 : decode cX7_firstFaultOfHelpers 11 = .ok (.iload 5, 2) := by decide +kernel
theorem dX7_firstFaultOfHelpers_13 : decode cX7_firstFaultOfHelpers 13 = .ok (.iconst 3, 1) := by decide +kernel
theorem dX7_firstFaultOfHelpers_14 : decode cX7_firstFaultOfHelpers 14 = .ok (.if_icmp .ge 100, 3) := by decide +kernel
theorem dX7_firstFaultOfHelpers_17 : decode cX7_firstFaultOfHelpers 17 = .ok (.iload 4, 2) := by decide +kernel
theorem dX7_firstFaultOfHelpers_19 : decode cX7_firstFaultOfHelpers 19 = .ok (.iload_n 3, 1) := by decide +kernel
theorem dX7_firstFaultOfHelpers_20 : decode cX7_firstFaultOfHelpers 20 = .ok (.if_icmp .ge 94, 3) := by decide +kernel
theorem dX7_firstFaultOfHelpers_23 : decode cX7_firstFaultOfHelpers 23 = .ok (.aload_n 1, 1) := by decide +kernel
theorem dX7_firstFaultOfHelpers_24 : decode cX7_firstFaultOfHelpers 24 = .ok (.iload_n 2, 1) := by decide +kernel
theorem dX7_firstFaultOfHelpers_25 : decode cX7_firstFaultOfHelpers 25 = .ok (.iload_n 3, 1) := by decide +kernel
theorem dX7_firstFaultOfHelpers_26 : decode cX7_firstFaultOfHelpers 26 = .ok (.iload 4, 2) := by decide +kernel
theorem dX7_firstFaultOfHelpers_28 : decode cX7_firstFaultOfHelpers 28 = .ok (.iconst 1, 1) := by decide +kernel
theorem dX7_firstFaultOfHelpers_29 : decode cX7_firstFaultOfHelpers 29 = .ok (.iadd, 1) := by decide +kernel
theorem dX7_firstFaultOfHelpers_30 : decode cX7_firstFaultOfHelpers 30 = .ok (.invokestatic 29, 3) := by decide +kernel
theorem dX7_firstFaultOfHelpers_33 : decode cX7_firstFaultOfHelpers 33 = .ok (.invokestatic 45, 3) := by decide +kernel
theorem dX7_firstFaultOfHelpers_36 : decode cX7_firstFaultOfHelpers 36 = .ok (.istore 6, 2) := by decide +kernel
theorem dX7_firstFaultOfHelpers_38 : decode cX7_firstFaultOfHelpers 38 = .ok (.aload_n 1, 1) := by decide +kernel
theorem dX7_firstFaultOfHelpers_39 : decode cX7_firstFaultOfHelpers 39 = .ok (.iload_n 2, 1) := by decide +kernel
theorem dX7_firstFaultOfHelpers_40 : decode cX7_firstFaultOfHelpers 40 = .ok (.iload_n 3, 1) := by decide +kernel
theorem dX7_firstFaultOfHelpers_41 : decode cX7_firstFaultOfHelpers 41 = .ok (.iload 4, 2) := by decide +kernel
theorem dX7_firstFaultOfHelpers_43 : decode cX7_firstFaultOfHelpers 43 = .ok (.iconst 2, 1) := by decide +kernel
theorem dX7_firstFaultOfHelpers_44 : decode cX7_firstFaultOfHelpers 44 = .ok (.iadd, 1) := by decide +kernel
theorem dX7_firstFaultOfHelpers_45 : decode cX7_firstFaultOfHelpers 45 = .ok (.invokestatic 29, 3) := by decide +kernel
theorem dX7_firstFaultOfHelpers_48 : decode cX7_firstFaultOfHelpers 48 = .ok (.istore 7, 2) := by decide +kernel
theorem dX7_firstFaultOfHelpers_50 : decode cX7_firstFaultOfHelpers 50 = .ok (.aload_n 1, 1) := by decide +kernel
theorem dX7_firstFaultOfHelpers_51 : decode cX7_firstFaultOfHelpers 51 = .ok (.iload_n 2, 1) := by decide +kernel
theorem dX7_firstFaultOfHelpers_52 : decode cX7_firstFaultOfHelpers 52 = .ok (.iload_n 3, 1) := by decide +kernel
theorem dX7_firstFaultOfHelpers_53 : decode cX7_firstFaultOfHelpers 53 = .ok (.iload 4, 2) := by decide +kernel
theorem dX7_firstFaultOfHelpers_55 : decode cX7_firstFaultOfHelpers 55 = .ok (.invokestatic 29, 3) := by decide +kernel
theorem dX7_firstFaultOfHelpers_58 : decode cX7_firstFaultOfHelpers 58 = .ok (.bipush 59, 2) := by decide +kernel
theorem dX7_firstFaultOfHelpers_60 : decode cX7_firstFaultOfHelpers 60 = .ok (.if_icmp .eq 6, 3) := by decide +kernel
theorem dX7_firstFaultOfHelpers_63 : decode cX7_firstFaultOfHelpers 63 = .ok (.iload 4, 2) := by decide +kernel
theorem dX7_firstFaultOfHelpers_65 : decode cX7_firstFaultOfHelpers 65 = .ok (.ireturn, 1) := by decide +kernel
theorem dX7_firstFaultOfHelpers_66 : decode cX7_firstFaultOfHelpers 66 = .ok (.iload 6, 2) := by decide +kernel
theorem dX7_firstFaultOfHelpers_68 : decode cX7_firstFaultOfHelpers 68 = .ok (.bipush (-9), 2) := by decide +kernel
theorem dX7_firstFaultOfHelpers_70 : decode cX7_firstFaultOfHelpers 70 = .ok (.if_icmp .ne 8, 3) := by decide +kernel
theorem dX7_firstFaultOfHelpers_73 : decode cX7_firstFaultOfHelpers 73 = .ok (.iload 4, 2) := by decide +kernel
theorem dX7_firstFaultOfHelpers_75 : decode cX7_firstFaultOfHelpers 75 = .ok (.iconst 1, 1) := by decide +kernel
theorem dX7_firstFaultOfHelpers_76 : decode cX7_firstFaultOfHelpers 76 = .ok (.iadd, 1) := by decide +kernel
theorem dX7_firstFaultOfHelpers_77 : decode cX7_firstFaultOfHelpers 77 = .ok (.ireturn, 1) := by decide +kernel
theorem dX7_firstFaultOfHelpers_78 : decode cX7_firstFaultOfHelpers 78 = .ok (.iload 7, 2) := by decide +kernel
theorem dX7_firstFaultOfHelpers_80 : decode cX7_firstFaultOfHelpers 80 = .ok (.invokestatic 41, 3) := by decide +kernel
theorem dX7_firstFaultOfHelpers_83 : decode cX7_firstFaultOfHelpers 83 = .ok (.ifCond .ne 8, 3) := by decide +kernel
theorem dX7_firstFaultOfHelpers_86 : decode cX7_firstFaultOfHelpers 86 = .ok (.iload 4, 2) := by decide +kernel
theorem dX7_firstFaultOfHelpers_88 : decode cX7_firstFaultOfHelpers 88 = .ok (.iconst 2, 1) := by decide +kernel
theorem dX7_firstFaultOfHelpers_89 : decode cX7_firstFaultOfHelpers 89 = .ok (.iadd, 1) := by decide +kernel
theorem dX7_firstFaultOfHelpers_90 : decode cX7_firstFaultOfHelpers 90 = .ok (.ireturn, 1) := by decide +kernel
theorem dX7_firstFaultOfHelpers_91 : decode cX7_firstFaultOfHelpers 91 = .ok (.aload_n 0, 1) := by decide +kernel
theorem dX7_firstFaultOfHelpers_92 : decode cX7_firstFaultOfHelpers 92 = .ok (.getfield 22, 3) := by decide +kernel
theorem dX7_firstFaultOfHelpers_95 : decode cX7_firstFaultOfHelpers 95 = .ok (.iload 6, 2) := by decide +kernel
theorem dX7_firstFaultOfHelpers_97 : decode cX7_firstFaultOfHelpers 97 = .ok (.iload 7, 2) := by decide +kernel
theorem dX7_firstFaultOfHelpers_99 : decode cX7_firstFaultOfHelpers 99 = .ok (.bipush 48, 2) := by decide +kernel
theorem dX7_firstFaultOfHelpers_101 : decode cX7_firstFaultOfHelpers 101 = .ok (.isub, 1) := by decide +kernel
theorem dX7_firstFaultOfHelpers_102 : decode cX7_firstFaultOfHelpers 102 = .ok (.invokevirtual 49, 3) := by decide +kernel
theorem dX7_firstFaultOfHelpers_105 : decode cX7_firstFaultOfHelpers 105 = .ok (.iinc 4 3, 3) := by decide +kernel
theorem dX7_firstFaultOfHelpers_108 : decode cX7_firstFaultOfHelpers 108 = .ok (.iinc 5 1, 3) := by decide +kernel
theorem dX7_firstFaultOfHelpers_111 : decode cX7_firstFaultOfHelpers 111 = .ok (.goto (-100), 3) := by decide +kernel
theorem dX7_firstFaultOfHelpers_114 : decode cX7_firstFaultOfHelpers 114 = .ok (.iload 4, 2) := by decide +kernel
theorem dX7_firstFaultOfHelpers_116 : decode cX7_firstFaultOfHelpers 116 = .ok (.iload_n 3, 1) := by decide +kernel
theorem dX7_firstFaultOfHelpers_117 : decode cX7_firstFaultOfHelpers 117 = .ok (.if_icmp .ge 8, 3) := by decide +kernel
theorem dX7_firstFaultOfHelpers_120 : decode cX7_firstFaultOfHelpers 120 = .ok (.iload 4, 2) := by decide +kernel
theorem dX7_firstFaultOfHelpers_122 : decode cX7_firstFaultOfHelpers 122 = .ok (.goto 5, 3) := by decide +kernel
theorem dX7_firstFaultOfHelpers_125 : decode cX7_firstFaultOfHelpers 125 = .ok (.bipush (-9), 2) := by decide +kernel
theorem dX7_firstFaultOfHelpers_127 : decode cX7_firstFaultOfHelpers 127 = .ok (.ireturn, 1) := by decide +kernel
set_option maxRecDepth 20000 in
theorem ggX7_codeOf_X5_code : GoodIn wsX7_codeOf wsX5_code := goodIn_r _ [5, 6, 7, 8, 9, 10, 11] (by decide +kernel) (by decide +kernel)
set_option maxRecDepth 20000 in
theorem gX7_codeOf_X5_code : GoodIn wsX7_codeOf (wsV RX7 53 RX5 yX5_code wsX5_code) := goodIn_app (goodIn_of _ (by decide +kernel)) ggX7_codeOf_X5_code
theorem dX7_codeOf_0 : decode cX7_codeOf 0 = .ok (.iload_n 3, 1) := by decide +kernel
theorem dX7_codeOf_1 : decode cX7_codeOf 1 = .ok (.iload_n 2, 1) := by decide +kernel
theorem dX7_codeOf_2 : decode cX7_codeOf 2 = .ok (.if_icmp .ge 13, 3) := by decide +kernel
theorem dX7_codeOf_5 : decode cX7_codeOf 5 = .ok (.aload_n 0, 1) := by decide +kernel
theorem dX7_codeOf_6 : decode cX7_codeOf 6 = .ok (.iload_n 1, 1) := by decide +kernel
theorem dX7_codeOf_7 : decode cX7_codeOf 7 = .ok (.iload_n 3, 1) := by decide +kernel
theorem dX7_codeOf_8 : decode cX7_codeOf 8 = .ok (.iadd, 1) := by decide +kernel
theorem dX7_codeOf_9 : decode cX7_codeOf 9 = .ok (.invokevirtual 53, 3) := by decide +kernel
theorem dX7_codeOf_12 : decode cX7_codeOf 12 = .ok (.goto 5, 3) := by decide +kernel
theorem dX7_codeOf_15 : decode cX7_codeOf 15 = .ok (.bipush (-9), 2) := by decide +kernel
theorem dX7_codeOf_17 : decode cX7_codeOf 17 = .ok (.ireturn, 1) := by decide +kernel
theorem dX7_isDigit_0 : decode cX7_isDigit 0 = .ok (.iload_n 0, 1) := by decide +kernel
theorem dX7_isDigit_1 : decode cX7_isDigit 1 = .ok (.bipush 48, 2) := by decide +kernel
theorem dX7_isDigit_3 : decode cX7_isDigit 3 = .ok (.if_icmp .lt 13, 3) := by decide +kernel
theorem dX7_isDigit_6 : decode cX7_isDigit 6 = .ok (.iload_n 0, 1) := by decide +kernel
theorem dX7_isDigit_7 : decode cX7_isDigit 7 = .ok (.bipush 57, 2) := by decide +kernel
theorem dX7_isDigit_9 : decode cX7_isDigit 9 = .ok (.if_icmp .gt 7, 3) := by decide +kernel
theorem dX7_isDigit_12 : decode cX7_isDigit 12 = .ok (.iconst 1, 1) := by decide +kernel
theorem dX7_isDigit_13 : decode cX7_isDigit 13 = .ok (.goto 4, 3) := by decide +kernel
theorem dX7_isDigit_16 : decode cX7_isDigit 16 = .ok (.iconst 0, 1) := by decide +kernel
theorem dX7_isDigit_17 : decode cX7_isDigit 17 = .ok (.ireturn, 1) := by decide +kernel
theorem dX7_kindOf_0 : decode cX7_kindOf 0 = .ok (.iload_n 0, 1) := by decide +kernel
theorem dX7_kindOf_1 : decode cX7_kindOf 1 = .ok (.lookupswitch 41 #[(98, 37), (100, 39), (112, 35)], 35) := by decide +kernel
theorem dX7_kindOf_36 : decode cX7_kindOf 36 = .ok (.iconst 0, 1) := by decide +kernel
theorem dX7_kindOf_37 : decode cX7_kindOf 37 = .ok (.ireturn, 1) := by decide +kernel
theorem dX7_kindOf_38 : decode cX7_kindOf 38 = .ok (.iconst 1, 1) := by decide +kernel
theorem dX7_kindOf_39 : decode cX7_kindOf 39 = .ok (.ireturn, 1) := by decide +kernel
theorem dX7_kindOf_40 : decode cX7_kindOf 40 = .ok (.iconst 2, 1) := by decide +kernel
theorem dX7_kindOf_41 : decode cX7_kindOf 41 = .ok (.ireturn, 1) := by decide +kernel
theorem dX7_kindOf_42 : decode cX7_kindOf 42 = .ok (.bipush (-9), 2) := by decide +kernel
theorem dX7_kindOf_44 : decode cX7_kindOf 44 = .ok (.ireturn, 1) := by decide +kernel
