theorem dX0_init_0 : decode cX0_init 0 = .ok (.aload_n 0, 1) := by decide +kernel
theorem dX0_init_1 : decode cX0_init 1 = .ok (.invokespecial 3, 3) := by decide +kernel
theorem dX0_init_4 : decode cX0_init 4 = .ok (.aload_n 0, 1) := by decide +kernel
theorem dX0_init_5 : decode cX0_init 5 = .ok (.bipush 40, 2) := by decide +kernel
theorem dX0_init_7 : decode cX0_init 7 = .ok (.newarray .int, 2) := by decide +kernel
theorem dX0_init_9 : decode cX0_init 9 = .ok (.putfield 9, 3) := by decide +kernel
theorem dX0_init_12 : decode cX0_init 12 = .ok (.aload_n 0, 1) := by decide +kernel
theorem dX0_init_13 : decode cX0_init 13 = .ok (.bipush 40, 2) := by decide +kernel
theorem dX0_init_15 : decode cX0_init 15 = .ok (.newarray .int, 2) := by decide +kernel
theorem dX0_init_17 : decode cX0_init 17 = .ok (.putfield 15, 3) := by decide +kernel
theorem dX0_init_20 : decode cX0_init 20 = .ok (.aload_n 0, 1) := by decide +kernel
theorem dX0_init_21 : decode cX0_init 21 = .ok (.bipush 40, 2) := by decide +kernel
theorem dX0_init_23 : decode cX0_init 23 = .ok (.newarray .int, 2) := by decide +kernel
theorem dX0_init_25 : decode cX0_init 25 = .ok (.putfield 18, 3) := by decide +kernel
theorem dX0_init_28 : decode cX0_init 28 = .ok (.aload_n 0, 1) := by decide +kernel
theorem dX0_init_29 : decode cX0_init 29 = .ok (.bipush 40, 2) := by decide +kernel
theorem dX0_init_31 : decode cX0_init 31 = .ok (.newarray .int, 2) := by decide +kernel
theorem dX0_init_33 : decode cX0_init 33 = .ok (.putfield 21, 3) := by decide +kernel
theorem dX0_init_36 : decode cX0_init 36 = .ok (.aload_n 0, 1) := by decide +kernel
theorem dX0_init_37 : decode cX0_init 37 = .ok (.bipush 40, 2) := by decide +kernel
theorem dX0_init_39 : decode cX0_init 39 = .ok (.newarray .int, 2) := by decide +kernel
theorem dX0_init_41 : decode cX0_init 41 = .ok (.putfield 24, 3) := by decide +kernel
theorem dX0_init_44 : decode cX0_init 44 = .ok (.aload_n 0, 1) := by decide +kernel
theorem dX0_init_45 : decode cX0_init 45 = .ok (.bipush 40, 2) := by decide +kernel
theorem dX0_init_47 : decode cX0_init 47 = .ok (.newarray .int, 2) := by decide +kernel
theorem dX0_init_49 : decode cX0_init 49 = .ok (.putfield 27, 3) := by decide +kernel
theorem dX0_init_52 : decode cX0_init 52 = .ok (.aload_n 0, 1) := by decide +kernel
theorem dX0_init_53 : decode cX0_init 53 = .ok (.bipush 40, 2) := by decide +kernel
theorem dX0_init_55 : decode cX0_init 55 = .ok (.newarray .int, 2) := by decide +kernel
theorem dX0_init_57 : decode cX0_init 57 = .ok (.putfield 30, 3) := by decide +kernel
theorem dX0_init_60 : decode cX0_init 60 = .ok (.aload_n 0, 1) := by decide +kernel
theorem dX0_init_61 : decode cX0_init 61 = .ok (.iconst 0, 1) := by decide +kernel
theorem dX0_init_62 : decode cX0_init 62 = .ok (.putfield 33, 3) := by decide +kernel
theorem dX0_init_65 : decode cX0_init 65 = .ok (.return_, 1) := by decide +kernel
theorem dX0_knows_0 : decode cX0_knows 0 = .ok (.iload_n 1, 1) := by decide +kernel
theorem dX0_knows_1 : decode cX0_knows 1 = .ok (.ifCond .lt 15, 3) := by decide +kernel
theorem dX0_knows_4 : decode cX0_knows 4 = .ok (.iload_n 1, 1) := by decide +kernel
theorem dX0_knows_5 : decode cX0_knows 5 = .ok (.aload_n 0, 1) := by decide +kernel
theorem dX0_knows_6 : decode cX0_knows 6 = .ok (.getfield 33, 3) := by decide +kernel
theorem dX0_knows_9 : decode cX0_knows 9 = .ok (.if_icmp .ge 7, 3) := by decide +kernel
theorem dX0_knows_12 : decode cX0_knows 12 = .ok (.iconst 1, 1) := by decide +kernel
theorem dX0_knows_13 : decode cX0_knows 13 = .ok (.goto 4, 3) := by decide +kernel
theorem dX0_knows_16 : decode cX0_knows 16 = .ok (.iconst 0, 1) := by decide +kernel
theorem dX0_knows_17 : decode cX0_knows 17 = .ok (.ireturn, 1) := by decide +kernel
set_option maxRecDepth 20000 in
theorem ggX0_add_X0_enqueue : GoodIn wsX0_add wsX0_enqueue := goodIn_r _ [10, 11, 12, 13, 14, 15, 16, 9, 17, 1, 18, 19, 20, 21, 22, 23, 24, 25] (by decide +kernel) (by decide +kernel)
set_option maxRecDepth 20000 in
theorem gX0_add_X0_enqueue : GoodIn wsX0_add (wsV RX0 37 RX0 yX0_enqueue wsX0_enqueue) := goodIn_app (goodIn_of _ (by decide +kernel)) ggX0_add_X0_enqueue
theorem dX0_add_0 : decode cX0_add 0 = .ok (.aload_n 0, 1) := by decide +kernel
theorem dX0_add_1 : decode cX0_add 1 = .ok (.getfield 33, 3) := by decide +kernel
theorem dX0_add_4 : decode cX0_add 4 = .ok (.bipush 40, 2) := by decide +kernel
theorem dX0_add_6 : decode cX0_add 6 = .ok (.if_icmp .ge 63, 3) := by decide +kernel
theorem dX0_add_9 : decode cX0_add 9 = .ok (.aload_n 0, 1) := by decide +kernel
theorem dX0_add_10 : decode cX0_add 10 = .ok (.getfield 9, 3) := by decide +kernel
theorem dX0_add_13 : decode cX0_add 13 = .ok (.aload_n 0, 1) := by decide +kernel
theorem dX0_add_14 : decode cX0_add 14 = .ok (.getfield 33, 3) := by decide +kernel
theorem dX0_add_17 : decode cX0_add 17 = .ok (.iload_n 1, 1) := by decide +kernel
theorem dX0_add_18 : decode cX0_add 18 = .ok (.iastore, 1) := by decide +kernel
theorem dX0_add_19 : decode cX0_add 19 = .ok (.aload_n 0, 1) := by decide +kernel
theorem dX0_add_20 : decode cX0_add 20 = .ok (.getfield 15, 3) := by decide +kernel
theorem dX0_add_23 : decode cX0_add 23 = .ok (.aload_n 0, 1) := by decide +kernel
theorem dX0_add_24 : decode cX0_add 24 = .ok (.getfield 33, 3) := by decide +kernel
theorem dX0_add_27 : decode cX0_add 27 = .ok (.iload_n 2, 1) := by decide +kernel
theorem dX0_add_28 : decode cX0_add 28 = .ok (.iastore, 1) := by decide +kernel
theorem dX0_add_29 : decode cX0_add 29 = .ok (.aload_n 0, 1) := by decide +kernel
theorem dX0_add_30 : decode cX0_add 30 = .ok (.getfield 18, 3) := by decide +kernel
theorem dX0_add_33 : decode cX0_add 33 = .ok (.aload_n 0, 1) := by decide +kernel
theorem dX0_add_34 : decode cX0_add 34 = .ok (.getfield 33, 3) := by decide +kernel
theorem dX0_add_37 : decode cX0_add 37 = .ok (.iload_n 3, 1) := by decide +kernel
theorem dX0_add_38 : decode cX0_add 38 = .ok (.iastore, 1) := by decide +kernel
theorem dX0_add_39 : decode cX0_add 39 = .ok (.aload_n 0, 1) := by decide +kernel
theorem dX0_add_40 : decode cX0_add 40 = .ok (.getfield 30, 3) := by decide +kernel
theorem dX0_add_43 : decode cX0_add 43 = .ok (.aload_n 0, 1) := by decide +kernel
theorem dX0_add_44 : decode cX0_add 44 = .ok (.getfield 33, 3) := by decide +kernel
theorem dX0_add_47 : decode cX0_add 47 = .ok (.iconst 0, 1) := by decide +kernel
theorem dX0_add_48 : decode cX0_add 48 = .ok (.iastore, 1) := by decide +kernel
theorem dX0_add_49 : decode cX0_add 49 = .ok (.aload_n 0, 1) := by decide +kernel
theorem dX0_add_50 : decode cX0_add 50 = .ok (.dup, 1) := by decide +kernel
theorem dX0_add_51 : decode cX0_add 51 = .ok (.getfield 33, 3) := by decide +kernel
theorem dX0_add_54 : decode cX0_add 54 = .ok (.iconst 1, 1) := by decide +kernel
theorem dX0_add_55 : decode cX0_add 55 = .ok (.iadd, 1) := by decide +kernel
theorem dX0_add_56 : decode cX0_add 56 = .ok (.putfield 33, 3) := by decide +kernel
theorem dX0_add_59 : decode cX0_add 59 = .ok (.aload_n 0, 1) := by decide +kernel
theorem dX0_add_60 : decode cX0_add 60 = .ok (.aload_n 0, 1) := by decide +kernel
theorem dX0_add_61 : decode cX0_add 61 = .ok (.getfield 33, 3) := by decide +kernel
theorem dX0_add_64 : decode cX0_add 64 = .ok (.iconst 1, 1) := by decide +kernel
theorem dX0_add_65 : decode cX0_add 65 = .ok (.isub, 1) := by decide +kernel
theorem dX0_add_66 : decode cX0_add 66 = .ok (.invokevirtual 37, 3) := by decide +kernel
theorem dX0_add_69 : decode cX0_add 69 = .ok (.return_, 1) := by decide +kernel
set_option maxRecDepth 20000 in
theorem ggX0_enqueue_X0_knows : GoodIn wsX0_enqueue wsX0_knows := goodIn_r _ [8, 9, 10, 11, 12, 13, 14, 15, 16, 17] (by decide +kernel) (by decide +kernel)
set_option maxRecDepth 20000 in
theorem gX0_enqueue_X0_knows : GoodIn wsX0_enqueue (wsV RX0 41 RX0 yX0_knows wsX0_knows) := goodIn_app (goodIn_of _ (by decide +kernel)) ggX0_enqueue_X0_knows
theorem dX0_enqueue_0 : decode cX0_enqueue 0 = .ok (.aload_n 0, 1) := by decide +kernel
theorem dX0_enqueue_1 : decode cX0_enqueue 1 = .ok (.iload_n 1, 1) := by decide +kernel
theorem dX0_enqueue_2 : decode cX0_enqueue 2 = .ok (.invokevirtual 41, 3) := by decide +kernel
theorem dX0_enqueue_5 : decode cX0_enqueue 5 = .ok (.ifCond .eq 24, 3) := by decide +kernel
theorem dX0_enqueue_8 : decode cX0_enqueue 8 = .ok (.aload_n 0, 1) := by decide +kernel
theorem dX0_enqueue_9 : decode cX0_enqueue 9 = .ok (.getfield 21, 3) := by decide +kernel
theorem dX0_enqueue_12 : decode cX0_enqueue 12 = .ok (.iload_n 1, 1) := by decide +kernel
theorem dX0_enqueue_13 : decode cX0_enqueue 13 = .ok (.iconst 0, 1) := by decide +kernel
theorem dX0_enqueue_14 : decode cX0_enqueue 14 = .ok (.iastore, 1) := by decide +kernel
theorem dX0_enqueue_15 : decode cX0_enqueue 15 = .ok (.aload_n 0, 1) := by decide +kernel
theorem dX0_enqueue_16 : decode cX0_enqueue 16 = .ok (.getfield 24, 3) := by decide +kernel
theorem dX0_enqueue_19 : decode cX0_enqueue 19 = .ok (.iload_n 1, 1) := by decide +kernel
theorem dX0_enqueue_20 : decode cX0_enqueue 20 = .ok (.iconst (-1), 1) := by decide +kernel
theorem dX0_enqueue_21 : decode cX0_enqueue 21 = .ok (.iastore, 1) := by decide +kernel
theorem dX0_enqueue_22 : decode cX0_enqueue 22 = .ok (.aload_n 0, 1) := by decide +kernel
theorem dX0_enqueue_23 : decode cX0_enqueue 23 = .ok (.getfield 27, 3) := by decide +kernel
theorem dX0_enqueue_26 : decode cX0_enqueue 26 = .ok (.iload_n 1, 1) := by decide +kernel
theorem dX0_enqueue_27 : decode cX0_enqueue 27 = .ok (.iconst (-1), 1) := by decide +kernel
theorem dX0_enqueue_28 : decode cX0_enqueue 28 = .ok (.iastore, 1) := by decide +kernel
theorem dX0_enqueue_29 : decode cX0_enqueue 29 = .ok (.return_, 1) := by decide +kernel
set_option maxRecDepth 20000 in
theorem ggX0_setUrgency_X0_knows : GoodIn wsX0_setUrgency wsX0_knows := goodIn_r _ [6, 7, 8, 9, 10, 11, 12, 13, 14, 15] (by decide +kernel) (by decide +kernel)
set_option maxRecDepth 20000 in
theorem gX0_setUrgency_X0_knows : GoodIn wsX0_setUrgency (wsV RX0 41 RX0 yX0_knows wsX0_knows) := goodIn_app (goodIn_of _ (by decide +kernel)) ggX0_setUrgency_X0_knows
theorem dX0_setUrgency_0 : decode cX0_setUrgency 0 = .ok (.aload_n 0, 1) := by decide +kernel
theorem dX0_setUrgency_1 : decode cX0_setUrgency 1 = .ok (.iload_n 1, 1) := by decide +kernel
theorem dX0_setUrgency_2 : decode cX0_setUrgency 2 = .ok (.invokevirtual 41, 3) := by decide +kernel
theorem dX0_setUrgency_5 : decode cX0_setUrgency 5 = .ok (.ifCond .eq 10, 3) := by decide +kernel
theorem dX0_setUrgency_8 : decode cX0_setUrgency 8 = .ok (.aload_n 0, 1) := by decide +kernel
theorem dX0_setUrgency_9 : decode cX0_setUrgency 9 = .ok (.getfield 15, 3) := by decide +kernel
theorem dX0_setUrgency_12 : decode cX0_setUrgency 12 = .ok (.iload_n 1, 1) := by decide +kernel
theorem dX0_setUrgency_13 : decode cX0_setUrgency 13 = .ok (.iload_n 2, 1) := by decide +kernel
theorem dX0_setUrgency_14 : decode cX0_setUrgency 14 = .ok (.iastore, 1) := by decide +kernel
theorem dX0_setUrgency_15 : decode cX0_setUrgency 15 = .ok (.return_, 1) := by decide +kernel
set_option maxRecDepth 20000 in
theorem ggX0_begin_X0_knows : GoodIn wsX0_begin wsX0_knows := goodIn_r _ [9, 10, 11, 12, 13, 14, 15, 16, 17, 18] (by decide +kernel) (by decide +kernel)
set_option maxRecDepth 20000 in
theorem gX0_begin_X0_knows : GoodIn wsX0_begin (wsV RX0 41 RX0 yX0_knows wsX0_knows) := goodIn_app (goodIn_of _ (by decide +kernel)) ggX0_begin_X0_knows
theorem dX0_begin_0 : decode cX0_begin 0 = .ok (.aload_n 0, 1) := by decide +kernel
theorem dX0_begin_1 : decode cX0_begin 1 = .ok (.iload_n 1, 1) := by decide +kernel
theorem dX0_begin_2 : decode cX0_begin 2 = .ok (.invokevirtual 41, 3) := by decide +kernel
theorem dX0_begin_5 : decode cX0_begin 5 = .ok (.ifCond .eq 34, 3) := by decide +kernel
theorem dX0_begin_8 : decode cX0_begin 8 = .ok (.aload_n 0, 1) := by decide +kernel
theorem dX0_begin_9 : decode cX0_begin 9 = .ok (.getfield 21, 3) := by decide +kernel
theorem dX0_begin_12 : decode cX0_begin 12 = .ok (.iload_n 1, 1) := by decide +kernel
theorem dX0_begin_13 : decode cX0_begin 13 = .ok (.iconst 1, 1) := by decide +kernel
theorem dX0_begin_14 : decode cX0_begin 14 = .ok (.iastore, 1) := by decide +kernel
theorem dX0_begin_15 : decode cX0_begin 15 = .ok (.aload_n 0, 1) := by decide +kernel
theorem dX0_begin_16 : decode cX0_begin 16 = .ok (.getfield 24, 3) := by decide +kernel
theorem dX0_begin_19 : decode cX0_begin 19 = .ok (.iload_n 1, 1) := by decide +kernel
theorem dX0_begin_20 : decode cX0_begin 20 = .ok (.iload_n 2, 1) := by decide +kernel
theorem dX0_begin_21 : decode cX0_begin 21 = .ok (.iastore, 1) := by decide +kernel
theorem dX0_begin_22 : decode cX0_begin 22 = .ok (.aload_n 0, 1) := by decide +kernel
theorem dX0_begin_23 : decode cX0_begin 23 = .ok (.getfield 27, 3) := by decide +kernel
theorem dX0_begin_26 : decode cX0_begin 26 = .ok (.iload_n 1, 1) := by decide +kernel
theorem dX0_begin_27 : decode cX0_begin 27 = .ok (.iload_n 3, 1) := by decide +kernel
theorem dX0_begin_28 : decode cX0_begin 28 = .ok (.iastore, 1) := by decide +kernel
theorem dX0_begin_29 : decode cX0_begin 29 = .ok (.aload_n 0, 1) := by decide +kernel
theorem dX0_begin_30 : decode cX0_begin 30 = .ok (.getfield 30, 3) := by decide +kernel
theorem dX0_begin_33 : decode cX0_begin 33 = .ok (.iload_n 1, 1) := by decide +kernel
theorem dX0_begin_34 : decode cX0_begin 34 = .ok (.dup2, 1) := by decide +kernel
theorem dX0_begin_35 : decode cX0_begin 35 = .ok (.iaload, 1) := by decide +kernel
theorem dX0_begin_36 : decode cX0_begin 36 = .ok (.iconst 1, 1) := by decide +kernel
theorem dX0_begin_37 : decode cX0_begin 37 = .ok (.iadd, 1) := by decide +kernel
theorem dX0_begin_38 : decode cX0_begin 38 = .ok (.iastore, 1) := by decide +kernel
theorem dX0_begin_39 : decode cX0_begin 39 = .ok (.return_, 1) := by decide +kernel
theorem dX0_mostUrgent_0 : decode cX0_mostUrgent 0 = .ok (.iconst (-1), 1) := by decide +kernel
theorem dX0_mostUrgent_1 : decode cX0_mostUrgent 1 = .ok (.istore_n 3, 1) := by decide +kernel
theorem dX0_mostUrgent_2 : decode cX0_mostUrgent 2 = .ok (.iconst 0, 1) := by decide +kernel
theorem dX0_mostUrgent_3 : decode cX0_mostUrgent 3 = .ok (.istore 4, 2) := by decide +kernel
theorem dX0_mostUrgent_5 : decode cX0_mostUrgent 5 = .ok (.iload 4, 2) := by decide +kernel
theorem dX0_mostUrgent_7 : decode cX0_mostUrgent 7 = .ok (.aload_n 0, 1) := by decide +kernel
theorem dX0_mostUrgent_8 : decode cX0_mostUrgent 8 = .ok (.getfield 33, 3) := by decide +kernel
theorem dX0_mostUrgent_11 : decode cX0_mostUrgent 11 = .ok (.if_icmp .ge 68, 3) := by decide +kernel
theorem dX0_mostUrgent_14 : decode cX0_mostUrgent 14 = .ok (.aload_n 0, 1) := by decide +kernel
theorem dX0_mostUrgent_15 : decode cX0_mostUrgent 15 = .ok (.getfield 21, 3) := by decide +kernel
theorem dX0_mostUrgent_18 : decode cX0_mostUrgent 18 = .ok (.iload 4, 2) := by decide +kernel
theorem dX0_mostUrgent_20 : decode cX0_mostUrgent 20 = .ok (.iaload, 1) := by decide +kernel
theorem dX0_mostUrgent_21 : decode cX0_mostUrgent 21 = .ok (.ifCond .ne 52, 3) := by decide +kernel
theorem dX0_mostUrgent_24 : decode cX0_mostUrgent 24 = .ok (.aload_n 0, 1) := by decide +kernel
theorem dX0_mostUrgent_25 : decode cX0_mostUrgent 25 = .ok (.getfield 9, 3) := by decide +kernel
theorem dX0_mostUrgent_28 : decode cX0_mostUrgent 28 = .ok (.iload 4, 2) := by decide +kernel
theorem dX0_mostUrgent_30 : decode cX0_mostUrgent 30 = .ok (.iaload, 1) := by decide +kernel
theorem dX0_mostUrgent_31 : decode cX0_mostUrgent 31 = .ok (.iload_n 1, 1) := by decide +kernel
theorem dX0_mostUrgent_32 : decode cX0_mostUrgent 32 = .ok (.iconst (-1), 1) := by decide +kernel
theorem dX0_mostUrgent_33 : decode cX0_mostUrgent 33 = .ok (.ixor, 1) := by decide +kernel
theorem dX0_mostUrgent_34 : decode cX0_mostUrgent 34 = .ok (.iand, 1) := by decide +kernel
theorem dX0_mostUrgent_35 : decode cX0_mostUrgent 35 = .ok (.ifCond .ne 38, 3) := by decide +kernel
theorem dX0_mostUrgent_38 : decode cX0_mostUrgent 38 = .ok (.aload_n 0, 1) := by decide +kernel
theorem dX0_mostUrgent_39 : decode cX0_mostUrgent 39 = .ok (.getfield 18, 3) := by decide +kernel
theorem dX0_mostUrgent_42 : decode cX0_mostUrgent 42 = .ok (.iload 4, 2) := by decide +kernel
theorem dX0_mostUrgent_44 : decode cX0_mostUrgent 44 = .ok (.iaload, 1) := by decide +kernel
theorem dX0_mostUrgent_45 : decode cX0_mostUrgent 45 = .ok (.iload_n 2, 1) := by decide +kernel
theorem dX0_mostUrgent_46 : decode cX0_mostUrgent 46 = .ok (.if_icmp .gt 27, 3) := by decide +kernel
theorem dX0_mostUrgent_49 : decode cX0_mostUrgent 49 = .ok (.iload_n 3, 1) := by decide +kernel
theorem dX0_mostUrgent_50 : decode cX0_mostUrgent 50 = .ok (.iconst (-1), 1) := by decide +kernel
theorem dX0_mostUrgent_51 : decode cX0_mostUrgent 51 = .ok (.if_icmp .eq 19, 3) := by decide +kernel
theorem dX0_mostUrgent_54 : decode cX0_mostUrgent 54 = .ok (.aload_n 0, 1) := by decide +kernel
theorem dX0_mostUrgent_55 : decode cX0_mostUrgent 55 = .ok (.getfield 15, 3) := by decide +kernel
theorem dX0_mostUrgent_58 : decode cX0_mostUrgent 58 = .ok (.iload 4, 2) := by decide +kernel
theorem dX0_mostUrgent_60 : decode cX0_mostUrgent 60 = .ok (.iaload, 1) := by decide +kernel
theorem dX0_mostUrgent_61 : decode cX0_mostUrgent 61 = .ok (.aload_n 0, 1) := by decide +kernel
theorem dX0_mostUrgent_62 : decode cX0_mostUrgent 62 = .ok (.getfield 15, 3) := by decide +kernel
theorem dX0_mostUrgent_65 : decode cX0_mostUrgent 65 = .ok (.iload_n 3, 1) := by decide +kernel
theorem dX0_mostUrgent_66 : decode cX0_mostUrgent 66 = .ok (.iaload, 1) := by decide +kernel
theorem dX0_mostUrgent_67 : decode cX0_mostUrgent 67 = .ok (.if_icmp .le 6, 3) := by decide +kernel
theorem dX0_mostUrgent_70 : decode cX0_mostUrgent 70 = .ok (.iload 4, 2) := by decide +kernel
theorem dX0_mostUrgent_72 : decode cX0_mostUrgent 72 = .ok (.istore_n 3, 1) := by decide +kernel
theorem dX0_mostUrgent_73 : decode cX0_mostUrgent 73 = .ok (.iinc 4 1, 3) := by decide +kernel
theorem dX0_mostUrgent_76 : decode cX0_mostUrgent 76 = .ok (.goto (-71), 3) := by decide +kernel
theorem dX0_mostUrgent_79 : decode cX0_mostUrgent 79 = .ok (.iload_n 3, 1) := by decide +kernel
theorem dX0_mostUrgent_80 : decode cX0_mostUrgent 80 = .ok (.ireturn, 1) := by decide +kernel
theorem dX1_init_0 : decode cX1_init 0 = .ok (.aload_n 0, 1) := by decide +kernel
theorem dX1_init_1 : decode cX1_init 1 = .ok (.invokespecial 3, 3) := by decide +kernel
theorem dX1_init_4 : decode cX1_init 4 = .ok (.aload_n 0, 1) := by decide +kernel
theorem dX1_init_5 : decode cX1_init 5 = .ok (.bipush 10, 2) := by decide +kernel
theorem dX1_init_7 : decode cX1_init 7 = .ok (.newarray .long, 2) := by decide +kernel
theorem dX1_init_9 : decode cX1_init 9 = .ok (.putfield 9, 3) := by decide +kernel
theorem dX1_init_12 : decode cX1_init 12 = .ok (.return_, 1) := by decide +kernel
theorem dX1_clear_0 : decode cX1_clear 0 = .ok (.iconst 0, 1) := by decide +kernel
theorem dX1_clear_1 : decode cX1_clear 1 = .ok (.istore_n 1, 1) := by decide +kernel
theorem dX1_clear_2 : decode cX1_clear 2 = .ok (.iload_n 1, 1) := by decide +kernel
theorem dX1_clear_3 : decode cX1_clear 3 = .ok (.bipush 10, 2) := by decide +kernel
theorem dX1_clear_5 : decode cX1_clear 5 = .ok (.if_icmp .ge 16, 3) := by decide +kernel
theorem dX1_clear_8 : decode cX1_clear 8 = .ok (.aload_n 0, 1) := by decide +kernel
theorem dX1_clear_9 : decode cX1_clear 9 = .ok (.getfield 9, 3) := by decide +kernel
theorem dX1_clear_12 : decode cX1_clear 12 = .ok (.iload_n 1, 1) := by decide +kernel
theorem dX1_clear_13 : decode cX1_clear 13 = .ok (.lconst 0, 1) := by decide +kernel
theorem dX1_clear_14 : decode cX1_clear 14 = .ok (.lastore, 1) := by decide +kernel
theorem dX1_clear_15 : decode cX1_clear 15 = .ok (.iinc 1 1, 3) := by decide +kernel
theorem dX1_clear_18 : decode cX1_clear 18 = .ok (.goto (-16), 3) := by decide +kernel
theorem dX1_clear_21 : decode cX1_clear 21 = .ok (.return_, 1) := by decide +kernel
theorem dX1_add_0 : decode cX1_add 0 = .ok (.iload_n 1, 1) := by decide +kernel
theorem dX1_add_1 : decode cX1_add 1 = .ok (.ifCond .lt 44, 3) := by decide +kernel
theorem dX1_add_4 : decode cX1_add 4 = .ok (.iload_n 1, 1) := by decide +kernel
theorem dX1_add_5 : decode cX1_add 5 = .ok (.bipush 10, 2) := by decide +kernel
theorem dX1_add_7 : decode cX1_add 7 = .ok (.if_icmp .ge 38, 3) := by decide +kernel
theorem dX1_add_10 : decode cX1_add 10 = .ok (.iload_n 2, 1) := by decide +kernel
theorem dX1_add_11 : decode cX1_add 11 = .ok (.istore 4, 2) := by decide +kernel
theorem dX1_add_13 : decode cX1_add 13 = .ok (.iload 4, 2) := by decide +kernel
theorem dX1_add_15 : decode cX1_add 15 = .ok (.iload_n 3, 1) := by decide +kernel
theorem dX1_add_16 : decode cX1_add 16 = .ok (.if_icmp .gt 29, 3) := by decide +kernel
theorem dX1_add_19 : decode cX1_add 19 = .ok (.iload 4, 2) := by decide +kernel
theorem dX1_add_21 : decode cX1_add 21 = .ok (.bipush 50, 2) := by decide +kernel
theorem dX1_add_23 : decode cX1_add 23 = .ok (.if_icmp .ge 22, 3) := by decide +kernel
theorem dX1_add_26 : decode cX1_add 26 = .ok (.aload_n 0, 1) := by decide +kernel
theorem dX1_add_27 : decode cX1_add 27 = .ok (.getfield 9, 3) := by decide +kernel
theorem dX1_add_30 : decode cX1_add 30 = .ok (.iload_n 1, 1) := by decide +kernel
theorem dX1_add_31 : decode cX1_add 31 = .ok (.dup2, 1) := by decide +kernel
theorem dX1_add_32 : decode cX1_add 32 = .ok (.laload, 1) := by decide +kernel
theorem dX1_add_33 : decode cX1_add 33 = .ok (.lconst 1, 1) := by decide +kernel
theorem dX1_add_34 : decode cX1_add 34 = .ok (.iload 4, 2) := by decide +kernel
theorem dX1_add_36 : decode cX1_add 36 = .ok (.lshl, 1) := by decide +kernel
theorem dX1_add_37 : decode cX1_add 37 = .ok (.lor, 1) := by decide +kernel
theorem dX1_add_38 : decode cX1_add 38 = .ok (.lastore, 1) := by decide +kernel
theorem dX1_add_39 : decode cX1_add 39 = .ok (.iinc 4 1, 3) := by decide +kernel
theorem dX1_add_42 : decode cX1_add 42 = .ok (.goto (-29), 3) := by decide +kernel
theorem dX1_add_45 : decode cX1_add 45 = .ok (.return_, 1) := by decide +kernel
theorem dX1_isAway_0 : decode cX1_isAway 0 = .ok (.iload_n 1, 1) := by decide +kernel
theorem dX1_isAway_1 : decode cX1_isAway 1 = .ok (.ifCond .lt 31, 3) := by decide +kernel
theorem dX1_isAway_4 : decode cX1_isAway 4 = .ok (.iload_n 1, 1) := by decide +kernel
theorem dX1_isAway_5 : decode cX1_isAway 5 = .ok (.bipush 10, 2) := by decide +kernel
theorem dX1_isAway_7 : decode cX1_isAway 7 = .ok (.if_icmp .ge 25, 3) := by decide +kernel
theorem dX1_isAway_10 : decode cX1_isAway 10 = .ok (.aload_n 0, 1) := by decide +kernel
theorem dX1_isAway_11 : decode cX1_isAway 11 = .ok (.getfield 9, 3) := by decide +kernel
theorem dX1_isAway_14 : decode cX1_isAway 14 = .ok (.iload_n 1, 1) := by decide +kernel
theorem dX1_isAway_15 : decode cX1_isAway 15 = .ok (.laload, 1) := by decide +kernel
theorem dX1_isAway_16 : decode cX1_isAway 16 = .ok (.iload_n 2, 1) := by decide +kernel
theorem dX1_isAway_17 : decode cX1_isAway 17 = .ok (.bipush 8, 2) := by decide +kernel
theorem dX1_isAway_19 : decode cX1_isAway 19 = .ok (.idiv, 1) := by decide +kernel
theorem dX1_isAway_20 : decode cX1_isAway 20 = .ok (.lshr, 1) := by decide +kernel
theorem dX1_isAway_21 : decode cX1_isAway 21 = .ok (.lconst 1, 1) := by decide +kernel
theorem dX1_isAway_22 : decode cX1_isAway 22 = .ok (.land, 1) := by decide +kernel
theorem dX1_isAway_23 : decode cX1_isAway 23 = .ok (.lconst 1, 1) := by decide +kernel
theorem dX1_isAway_24 : decode cX1_isAway 24 = .ok (.lcmp, 1) := by decide +kernel
theorem dX1_isAway_25 : decode cX1_isAway 25 = .ok (.ifCond .ne 7, 3) := by decide +kernel
theorem dX1_isAway_28 : decode cX1_isAway 28 = .ok (.iconst 1, 1) := by decide +kernel
theorem dX1_isAway_29 : decode cX1_isAway 29 = .ok (.goto 4, 3) := by decide +kernel
theorem dX1_isAway_32 : decode cX1_isAway 32 = .ok (.iconst 0, 1) := by decide +kernel
theorem dX1_isAway_33 : decode cX1_isAway 33 = .ok (.ireturn, 1) := by decide +kernel
set_option maxRecDepth 20000 in
theorem ggX1_peopleAway_X1_isAway : GoodIn wsX1_peopleAway wsX1_isAway := goodIn_r _ [5, 6, 7] (by decide +kernel) (by decide +kernel)
set_option maxRecDepth 20000 in
theorem gX1_peopleAway_X1_isAway : GoodIn wsX1_peopleAway (wsV RX1 15 RX1 yX1_isAway wsX1_isAway) := goodIn_app (goodIn_of _ (by decide +kernel)) ggX1_peopleAway_X1_isAway
theorem dX1_peopleAway_0 : decode cX1_peopleAway 0 = .ok (.iconst 0, 1) := by decide +kernel
theorem dX1_peopleAway_1 : decode cX1_peopleAway 1 = .ok (.istore_n 2, 1) := by decide +kernel
theorem dX1_peopleAway_2 : decode cX1_peopleAway 2 = .ok (.iconst 0, 1) := by decide +kernel
theorem dX1_peopleAway_3 : decode cX1_peopleAway 3 = .ok (.istore_n 3, 1) := by decide +kernel
theorem dX1_peopleAway_4 : decode cX1_peopleAway 4 = .ok (.iload_n 3, 1) := by decide +kernel
theorem dX1_peopleAway_5 : decode cX1_peopleAway 5 = .ok (.bipush 10, 2) := by decide +kernel
theorem dX1_peopleAway_7 : decode cX1_peopleAway 7 = .ok (.if_icmp .ge 24, 3) := by decide +kernel
theorem dX1_peopleAway_10 : decode cX1_peopleAway 10 = .ok (.aload_n 0, 1) := by decide +kernel
theorem dX1_peopleAway_11 : decode cX1_peopleAway 11 = .ok (.iload_n 3, 1) := by decide +kernel
theorem dX1_peopleAway_12 : decode cX1_peopleAway 12 = .ok (.iload_n 1, 1) := by decide +kernel
theorem dX1_peopleAway_13 : decode cX1_peopleAway 13 = .ok (.invokevirtual 15, 3) := by decide +kernel
theorem dX1_peopleAway_16 : decode cX1_peopleAway 16 = .ok (.ifCond .eq 9, 3) := by decide +kernel
theorem dX1_peopleAway_19 : decode cX1_peopleAway 19 = .ok (.iload_n 2, 1) := by decide +kernel
theorem dX1_peopleAway_20 : decode cX1_peopleAway 20 = .ok (.iconst 1, 1) := by decide +kernel
theorem dX1_peopleAway_21 : decode cX1_peopleAway 21 = .ok (.iload_n 3, 1) := by decide +kernel
theorem dX1_peopleAway_22 : decode cX1_peopleAway 22 = .ok (.ishl, 1) := by decide +kernel
theorem dX1_peopleAway_23 : decode cX1_peopleAway 23 = .ok (.ior, 1) := by decide +kernel
theorem dX1_peopleAway_24 : decode cX1_peopleAway 24 = .ok (.istore_n 2, 1) := by decide +kernel
theorem dX1_peopleAway_25 : decode cX1_peopleAway 25 = .ok (.iinc 3 1, 3) := by decide +kernel
theorem dX1_peopleAway_28 : decode cX1_peopleAway 28 = .ok (.goto (-24), 3) := by decide +kernel
theorem dX1_peopleAway_31 : decode cX1_peopleAway 31 = .ok (.iload_n 2, 1) := by decide +kernel
theorem dX1_peopleAway_32 : decode cX1_peopleAway 32 = .ok (.ireturn, 1) := by decide +kernel
theorem dX2_init_0 : decode cX2_init 0 = .ok (.aload_n 0, 1) := by decide +kernel
theorem dX2_init_1 : decode cX2_init 1 = .ok (.invokespecial 3, 3) := by decide +kernel
theorem dX2_init_4 : decode cX2_init 4 = .ok (.aload_n 0, 1) := by decide +kernel
theorem dX2_init_5 : decode cX2_init 5 = .ok (.bipush 20, 2) := by decide +kernel
theorem dX2_init_7 : decode cX2_init 7 = .ok (.newarray .int, 2) := by decide +kernel
theorem dX2_init_9 : decode cX2_init 9 = .ok (.putfield 9, 3) := by decide +kernel
theorem dX2_init_12 : decode cX2_init 12 = .ok (.aload_n 0, 1) := by decide +kernel
theorem dX2_init_13 : decode cX2_init 13 = .ok (.bipush 20, 2) := by decide +kernel
theorem dX2_init_15 : decode cX2_init 15 = .ok (.newarray .int, 2) := by decide +kernel
theorem dX2_init_17 : decode cX2_init 17 = .ok (.putfield 15, 3) := by decide +kernel
theorem dX2_init_20 : decode cX2_init 20 = .ok (.aload_n 0, 1) := by decide +kernel
theorem dX2_init_21 : decode cX2_init 21 = .ok (.bipush 20, 2) := by decide +kernel
theorem dX2_init_23 : decode cX2_init 23 = .ok (.newarray .int, 2) := by decide +kernel
theorem dX2_init_25 : decode cX2_init 25 = .ok (.putfield 18, 3) := by decide +kernel
theorem dX2_init_28 : decode cX2_init 28 = .ok (.aload_n 0, 1) := by decide +kernel
theorem dX2_init_29 : decode cX2_init 29 = .ok (.bipush 20, 2) := by decide +kernel
theorem dX2_init_31 : decode cX2_init 31 = .ok (.newarray .int, 2) := by decide +kernel
theorem dX2_init_33 : decode cX2_init 33 = .ok (.putfield 21, 3) := by decide +kernel
theorem dX2_init_36 : decode cX2_init 36 = .ok (.aload_n 0, 1) := by decide +kernel
theorem dX2_init_37 : decode cX2_init 37 = .ok (.iconst 0, 1) := by decide +kernel
theorem dX2_init_38 : decode cX2_init 38 = .ok (.putfield 24, 3) := by decide +kernel
theorem dX2_init_41 : decode cX2_init 41 = .ok (.return_, 1) := by decide +kernel
theorem dX2_add_0 : decode cX2_add 0 = .ok (.aload_n 0, 1) := by decide +kernel
theorem dX2_add_1 : decode cX2_add 1 = .ok (.getfield 24, 3) := by decide +kernel
theorem dX2_add_4 : decode cX2_add 4 = .ok (.bipush 20, 2) := by decide +kernel
theorem dX2_add_6 : decode cX2_add 6 = .ok (.if_icmp .ge 54, 3) := by decide +kernel
theorem dX2_add_9 : decode cX2_add 9 = .ok (.aload_n 0, 1) := by decide +kernel
theorem dX2_add_10 : decode cX2_add 10 = .ok (.getfield 9, 3) := by decide +kernel
theorem dX2_add_13 : decode cX2_add 13 = .ok (.aload_n 0, 1) := by decide +kernel
theorem dX2_add_14 : decode cX2_add 14 = .ok (.getfield 24, 3) := by decide +kernel
theorem dX2_add_17 : decode cX2_add 17 = .ok (.iload_n 1, 1) := by decide +kernel
theorem dX2_add_18 : decode cX2_add 18 = .ok (.iastore, 1) := by decide +kernel
theorem dX2_add_19 : decode cX2_add 19 = .ok (.aload_n 0, 1) := by decide +kernel
theorem dX2_add_20 : decode cX2_add 20 = .ok (.getfield 15, 3) := by decide +kernel
theorem dX2_add_23 : decode cX2_add 23 = .ok (.aload_n 0, 1) := by decide +kernel
theorem dX2_add_24 : decode cX2_add 24 = .ok (.getfield 24, 3) := by decide +kernel
theorem dX2_add_27 : decode cX2_add 27 = .ok (.iload_n 2, 1) := by decide +kernel
theorem dX2_add_28 : decode cX2_add 28 = .ok (.iastore, 1) := by decide +kernel
theorem dX2_add_29 : decode cX2_add 29 = .ok (.aload_n 0, 1) := by decide +kernel
theorem dX2_add_30 : decode cX2_add 30 = .ok (.getfield 18, 3) := by decide +kernel
theorem dX2_add_33 : decode cX2_add 33 = .ok (.aload_n 0, 1) := by decide +kernel
theorem dX2_add_34 : decode cX2_add 34 = .ok (.getfield 24, 3) := by decide +kernel
theorem dX2_add_37 : decode cX2_add 37 = .ok (.iload_n 3, 1) := by decide +kernel
theorem dX2_add_38 : decode cX2_add 38 = .ok (.iastore, 1) := by decide +kernel
theorem dX2_add_39 : decode cX2_add 39 = .ok (.aload_n 0, 1) := by decide +kernel
theorem dX2_add_40 : decode cX2_add 40 = .ok (.getfield 21, 3) := by decide +kernel
theorem dX2_add_43 : decode cX2_add 43 = .ok (.aload_n 0, 1) := by decide +kernel
theorem dX2_add_44 : decode cX2_add 44 = .ok (.getfield 24, 3) := by decide +kernel
theorem dX2_add_47 : decode cX2_add 47 = .ok (.iload 4, 2) := by decide +kernel
theorem dX2_add_49 : decode cX2_add 49 = .ok (.iastore, 1) := by decide +kernel
theorem dX2_add_50 : decode cX2_add 50 = .ok (.aload_n 0, 1) := by decide +kernel
theorem dX2_add_51 : decode cX2_add 51 = .ok (.dup, 1) := by decide +kernel
theorem dX2_add_52 : decode cX2_add 52 = .ok (.getfield 24, 3) := by decide +kernel
theorem dX2_add_55 : decode cX2_add 55 = .ok (.iconst 1, 1) := by decide +kernel
theorem dX2_add_56 : decode cX2_add 56 = .ok (.iadd, 1) := by decide +kernel
theorem dX2_add_57 : decode cX2_add 57 = .ok (.putfield 24, 3) := by decide +kernel
theorem dX2_add_60 : decode cX2_add 60 = .ok (.return_, 1) := by decide +kernel
theorem dX2_borrower_0 : decode cX2_borrower 0 = .ok (.aload_n 0, 1) := by decide +kernel
theorem dX2_borrower_1 : decode cX2_borrower 1 = .ok (.getfield 24, 3) := by decide +kernel
theorem dX2_borrower_4 : decode cX2_borrower 4 = .ok (.iconst 1, 1) := by decide +kernel
theorem dX2_borrower_5 : decode cX2_borrower 5 = .ok (.isub, 1) := by decide +kernel
theorem dX2_borrower_6 : decode cX2_borrower 6 = .ok (.istore_n 3, 1) := by decide +kernel
theorem dX2_borrower_7 : decode cX2_borrower 7 = .ok (.iload_n 3, 1) := by decide +kernel
theorem dX2_borrower_8 : decode cX2_borrower 8 = .ok (.ifCond .lt 46, 3) := by decide +kernel
theorem dX2_borrower_11 : decode cX2_borrower 11 = .ok (.aload_n 0, 1) := by decide +kernel
theorem dX2_borrower_12 : decode cX2_borrower 12 = .ok (.getfield 9, 3) := by decide +kernel
theorem dX2_borrower_15 : decode cX2_borrower 15 = .ok (.iload_n 3, 1) := by decide +kernel
theorem dX2_borrower_16 : decode cX2_borrower 16 = .ok (.iaload, 1) := by decide +kernel
theorem dX2_borrower_17 : decode cX2_borrower 17 = .ok (.iload_n 1, 1) := by decide +kernel
theorem dX2_borrower_18 : decode cX2_borrower 18 = .ok (.if_icmp .ne 30, 3) := by decide +kernel
theorem dX2_borrower_21 : decode cX2_borrower 21 = .ok (.aload_n 0, 1) := by decide +kernel
theorem dX2_borrower_22 : decode cX2_borrower 22 = .ok (.getfield 18, 3) := by decide +kernel
theorem dX2_borrower_25 : decode cX2_borrower 25 = .ok (.iload_n 3, 1) := by decide +kernel
theorem dX2_borrower_26 : decode cX2_borrower 26 = .ok (.iaload, 1) := by decide +kernel
theorem dX2_borrower_27 : decode cX2_borrower 27 = .ok (.iload_n 2, 1) := by decide +kernel
theorem dX2_borrower_28 : decode cX2_borrower 28 = .ok (.if_icmp .gt 20, 3) := by decide +kernel
theorem dX2_borrower_31 : decode cX2_borrower 31 = .ok (.iload_n 2, 1) := by decide +kernel
theorem dX2_borrower_32 : decode cX2_borrower 32 = .ok (.aload_n 0, 1) := by decide +kernel
theorem dX2_borrower_33 : decode cX2_borrower 33 = .ok (.getfield 21, 3) := by decide +kernel
theorem dX2_borrower_36 : decode cX2_borrower 36 = .ok (.iload_n 3, 1) := by decide +kernel
theorem dX2_borrower_37 : decode cX2_borrower 37 = .ok (.iaload, 1) := by decide +kernel
theorem dX2_borrower_38 : decode cX2_borrower 38 = .ok (.if_icmp .gt 10, 3) := by decide +kernel
theorem dX2_borrower_41 : decode cX2_borrower 41 = .ok (.aload_n 0, 1) := by decide +kernel
theorem dX2_borrower_42 : decode cX2_borrower 42 = .ok (.getfield 15, 3) := by decide +kernel
theorem dX2_borrower_45 : decode cX2_borrower 45 = .ok (.iload_n 3, 1) := by decide +kernel
theorem dX2_borrower_46 : decode cX2_borrower 46 = .ok (.iaload, 1) := by decide +kernel
theorem dX2_borrower_47 : decode cX2_borrower 47 = .ok (.ireturn, 1) := by decide +kernel
theorem dX2_borrower_48 : decode cX2_borrower 48 = .ok (.iinc 3 (-1), 3) := by decide +kernel
theorem dX2_borrower_51 : decode cX2_borrower 51 = .ok (.goto (-44), 3) := by decide +kernel
theorem dX2_borrower_54 : decode cX2_borrower 54 = .ok (.iconst (-1), 1) := by decide +kernel
theorem dX2_borrower_55 : decode cX2_borrower 55 = .ok (.ireturn, 1) := by decide +kernel
theorem dX3_init_0 : decode cX3_init 0 = .ok (.aload_n 0, 1) := by decide +kernel
theorem dX3_init_1 : decode cX3_init 1 = .ok (.invokespecial 3, 3) := by decide +kernel
theorem dX3_init_4 : decode cX3_init 4 = .ok (.aload_n 0, 1) := by decide +kernel
theorem dX3_init_5 : decode cX3_init 5 = .ok (.bipush 6, 2) := by decide +kernel
theorem dX3_init_7 : decode cX3_init 7 = .ok (.newarray .int, 2) := by decide +kernel
theorem dX3_init_9 : decode cX3_init 9 = .ok (.putfield 9, 3) := by decide +kernel
theorem dX3_init_12 : decode cX3_init 12 = .ok (.aload_n 0, 1) := by decide +kernel
theorem dX3_init_13 : decode cX3_init 13 = .ok (.bipush 6, 2) := by decide +kernel
theorem dX3_init_15 : decode cX3_init 15 = .ok (.newarray .int, 2) := by decide +kernel
theorem dX3_init_17 : decode cX3_init 17 = .ok (.putfield 15, 3) := by decide +kernel
theorem dX3_init_20 : decode cX3_init 20 = .ok (.aload_n 0, 1) := by decide +kernel
theorem dX3_init_21 : decode cX3_init 21 = .ok (.bipush 6, 2) := by decide +kernel
theorem dX3_init_23 : decode cX3_init 23 = .ok (.newarray .int, 2) := by decide +kernel
theorem dX3_init_25 : decode cX3_init 25 = .ok (.putfield 18, 3) := by decide +kernel
theorem dX3_init_28 : decode cX3_init 28 = .ok (.aload_n 0, 1) := by decide +kernel
theorem dX3_init_29 : decode cX3_init 29 = .ok (.bipush 6, 2) := by decide +kernel
theorem dX3_init_31 : decode cX3_init 31 = .ok (.newarray .int, 2) := by decide +kernel
theorem dX3_init_33 : decode cX3_init 33 = .ok (.putfield 21, 3) := by decide +kernel
theorem dX3_init_36 : decode cX3_init 36 = .ok (.aload_n 0, 1) := by decide +kernel
theorem dX3_init_37 : decode cX3_init 37 = .ok (.bipush 6, 2) := by decide +kernel
theorem dX3_init_39 : decode cX3_init 39 = .ok (.newarray .int, 2) := by decide +kernel
theorem dX3_init_41 : decode cX3_init 41 = .ok (.putfield 24, 3) := by decide +kernel
theorem dX3_init_44 : decode cX3_init 44 = .ok (.aload_n 0, 1) := by decide +kernel
theorem dX3_init_45 : decode cX3_init 45 = .ok (.iconst 0, 1) := by decide +kernel
theorem dX3_init_46 : decode cX3_init 46 = .ok (.putfield 27, 3) := by decide +kernel
theorem dX3_init_49 : decode cX3_init 49 = .ok (.return_, 1) := by decide +kernel
theorem dX3_knows_0 : decode cX3_knows 0 = .ok (.iload_n 1, 1) := by decide +kernel
theorem dX3_knows_1 : decode cX3_knows 1 = .ok (.ifCond .lt 15, 3) := by decide +kernel
theorem dX3_knows_4 : decode cX3_knows 4 = .ok (.iload_n 1, 1) := by decide +kernel
theorem dX3_knows_5 : decode cX3_knows 5 = .ok (.aload_n 0, 1) := by decide +kernel
theorem dX3_knows_6 : decode cX3_knows 6 = .ok (.getfield 27, 3) := by decide +kernel
theorem dX3_knows_9 : decode cX3_knows 9 = .ok (.if_icmp .ge 7, 3) := by decide +kernel
theorem dX3_knows_12 : decode cX3_knows 12 = .ok (.iconst 1, 1) := by decide +kernel
theorem dX3_knows_13 : decode cX3_knows 13 = .ok (.goto 4, 3) := by decide +kernel
theorem dX3_knows_16 : decode cX3_knows 16 = .ok (.iconst 0, 1) := by decide +kernel
theorem dX3_knows_17 : decode cX3_knows 17 = .ok (.ireturn, 1) := by decide +kernel
theorem dX3_add_0 : decode cX3_add 0 = .ok (.aload_n 0, 1) := by decide +kernel
theorem dX3_add_1 : decode cX3_add 1 = .ok (.getfield 27, 3) := by decide +kernel
theorem dX3_add_4 : decode cX3_add 4 = .ok (.bipush 6, 2) := by decide +kernel
theorem dX3_add_6 : decode cX3_add 6 = .ok (.if_icmp .ge 63, 3) := by decide +kernel
theorem dX3_add_9 : decode cX3_add 9 = .ok (.aload_n 0, 1) := by decide +kernel
theorem dX3_add_10 : decode cX3_add 10 = .ok (.getfield 9, 3) := by decide +kernel
theorem dX3_add_13 : decode cX3_add 13 = .ok (.aload_n 0, 1) := by decide +kernel
theorem dX3_add_14 : decode cX3_add 14 = .ok (.getfield 27, 3) := by decide +kernel
theorem dX3_add_17 : decode cX3_add 17 = .ok (.iload_n 1, 1) := by decide +kernel
theorem dX3_add_18 : decode cX3_add 18 = .ok (.iastore, 1) := by decide +kernel
theorem dX3_add_19 : decode cX3_add 19 = .ok (.aload_n 0, 1) := by decide +kernel
theorem dX3_add_20 : decode cX3_add 20 = .ok (.getfield 15, 3) := by decide +kernel
theorem dX3_add_23 : decode cX3_add 23 = .ok (.aload_n 0, 1) := by decide +kernel
theorem dX3_add_24 : decode cX3_add 24 = .ok (.getfield 27, 3) := by decide +kernel
theorem dX3_add_27 : decode cX3_add 27 = .ok (.iload_n 2, 1) := by decide +kernel
theorem dX3_add_28 : decode cX3_add 28 = .ok (.iastore, 1) := by decide +kernel
theorem dX3_add_29 : decode cX3_add 29 = .ok (.aload_n 0, 1) := by decide +kernel
theorem dX3_add_30 : decode cX3_add 30 = .ok (.getfield 18, 3) := by decide +kernel
theorem dX3_add_33 : decode cX3_add 33 = .ok (.aload_n 0, 1) := by decide +kernel
theorem dX3_add_34 : decode cX3_add 34 = .ok (.getfield 27, 3) := by decide +kernel
theorem dX3_add_37 : decode cX3_add 37 = .ok (.iconst 0, 1) := by decide +kernel
theorem dX3_add_38 : decode cX3_add 38 = .ok (.iastore, 1) := by decide +kernel
theorem dX3_add_39 : decode cX3_add 39 = .ok (.aload_n 0, 1) := by decide +kernel
theorem dX3_add_40 : decode cX3_add 40 = .ok (.getfield 21, 3) := by decide +kernel
theorem dX3_add_43 : decode cX3_add 43 = .ok (.aload_n 0, 1) := by decide +kernel
theorem dX3_add_44 : decode cX3_add 44 = .ok (.getfield 27, 3) := by decide +kernel
theorem dX3_add_47 : decode cX3_add 47 = .ok (.iconst 0, 1) := by decide +kernel
theorem dX3_add_48 : decode cX3_add 48 = .ok (.iastore, 1) := by decide +kernel
theorem dX3_add_49 : decode cX3_add 49 = .ok (.aload_n 0, 1) := by decide +kernel
theorem dX3_add_50 : decode cX3_add 50 = .ok (.getfield 24, 3) := by decide +kernel
theorem dX3_add_53 : decode cX3_add 53 = .ok (.aload_n 0, 1) := by decide +kernel
theorem dX3_add_54 : decode cX3_add 54 = .ok (.getfield 27, 3) := by decide +kernel
theorem dX3_add_57 : decode cX3_add 57 = .ok (.iconst (-1), 1) := by decide +kernel
theorem dX3_add_58 : decode cX3_add 58 = .ok (.iastore, 1) := by decide +kernel
theorem dX3_add_59 : decode cX3_add 59 = .ok (.aload_n 0, 1) := by decide +kernel
theorem dX3_add_60 : decode cX3_add 60 = .ok (.dup, 1) := by decide +kernel
theorem dX3_add_61 : decode cX3_add 61 = .ok (.getfield 27, 3) := by decide +kernel
theorem dX3_add_64 : decode cX3_add 64 = .ok (.iconst 1, 1) := by decide +kernel
theorem dX3_add_65 : decode cX3_add 65 = .ok (.iadd, 1) := by decide +kernel
theorem dX3_add_66 : decode cX3_add 66 = .ok (.putfield 27, 3) := by decide +kernel
theorem dX3_add_69 : decode cX3_add 69 = .ok (.return_, 1) := by decide +kernel
set_option maxRecDepth 20000 in
theorem ggX3_isBroken_X3_knows : GoodIn wsX3_isBroken wsX3_knows := goodIn_r _ [7, 8, 12, 13, 14, 15, 16, 17] (by decide +kernel) (by decide +kernel)
set_option maxRecDepth 20000 in
theorem gX3_isBroken_X3_knows : GoodIn wsX3_isBroken (wsV RX3 31 RX3 yX3_knows wsX3_knows) := goodIn_app (goodIn_of _ (by decide +kernel)) ggX3_isBroken_X3_knows
set_option maxRecDepth 20000 in
theorem ggX3_isBroken_X8_overlap : GoodIn wsX3_isBroken wsX8_overlap := goodIn_r _ [11] (by decide +kernel) (by decide +kernel)
set_option maxRecDepth 20000 in
theorem gX3_isBroken_X8_overlap_n35 : GoodIn wsX3_isBroken (wsX8_overlap) := ggX3_isBroken_X8_overlap
theorem dX3_isBroken_0 : decode cX3_isBroken 0 = .ok (.aload_n 0, 1) := by decide +kernel
theorem dX3_isBroken_1 : decode cX3_isBroken 1 = .ok (.iload_n 1, 1) := by decide +kernel
theorem dX3_isBroken_2 : decode cX3_isBroken 2 = .ok (.invokevirtual 31, 3) := by decide +kernel
theorem dX3_isBroken_5 : decode cX3_isBroken 5 = .ok (.ifCond .eq 49, 3) := by decide +kernel
theorem dX3_isBroken_8 : decode cX3_isBroken 8 = .ok (.aload_n 0, 1) := by decide +kernel
theorem dX3_isBroken_9 : decode cX3_isBroken 9 = .ok (.getfield 18, 3) := by decide +kernel
theorem dX3_isBroken_12 : decode cX3_isBroken 12 = .ok (.iload_n 1, 1) := by decide +kernel
theorem dX3_isBroken_13 : decode cX3_isBroken 13 = .ok (.iaload, 1) := by decide +kernel
theorem dX3_isBroken_14 : decode cX3_isBroken 14 = .ok (.aload_n 0, 1) := by decide +kernel
theorem dX3_isBroken_15 : decode cX3_isBroken 15 = .ok (.getfield 21, 3) := by decide +kernel
theorem dX3_isBroken_18 : decode cX3_isBroken 18 = .ok (.iload_n 1, 1) := by decide +kernel
theorem dX3_isBroken_19 : decode cX3_isBroken 19 = .ok (.iaload, 1) := by decide +kernel
theorem dX3_isBroken_20 : decode cX3_isBroken 20 = .ok (.if_icmp .ge 34, 3) := by decide +kernel
theorem dX3_isBroken_23 : decode cX3_isBroken 23 = .ok (.iload_n 2, 1) := by decide +kernel
theorem dX3_isBroken_24 : decode cX3_isBroken 24 = .ok (.iload_n 3, 1) := by decide +kernel
theorem dX3_isBroken_25 : decode cX3_isBroken 25 = .ok (.aload_n 0, 1) := by decide +kernel
theorem dX3_isBroken_26 : decode cX3_isBroken 26 = .ok (.getfield 18, 3) := by decide +kernel
theorem dX3_isBroken_29 : decode cX3_isBroken 29 = .ok (.iload_n 1, 1) := by decide +kernel
theorem dX3_isBroken_30 : decode cX3_isBroken 30 = .ok (.iaload, 1) := by decide +kernel
theorem dX3_isBroken_31 : decode cX3_isBroken 31 = .ok (.aload_n 0, 1) := by decide +kernel
theorem dX3_isBroken_32 : decode cX3_isBroken 32 = .ok (.getfield 21, 3) := by decide +kernel
theorem dX3_isBroken_35 : decode cX3_isBroken 35 = .ok (.iload_n 1, 1) := by decide +kernel
theorem dX3_isBroken_36 : decode cX3_isBroken 36 = .ok (.iaload, 1) := by decide +kernel
theorem dX3_isBroken_37 : decode cX3_isBroken 37 = .ok (.aload_n 0, 1) := by decide +kernel
theorem dX3_isBroken_38 : decode cX3_isBroken 38 = .ok (.getfield 18, 3) := by decide +kernel
theorem dX3_isBroken_41 : decode cX3_isBroken 41 = .ok (.iload_n 1, 1) := by decide +kernel
theorem dX3_isBroken_42 : decode cX3_isBroken 42 = .ok (.iaload, 1) := by decide +kernel
theorem dX3_isBroken_43 : decode cX3_isBroken 43 = .ok (.isub, 1) := by decide +kernel
theorem dX3_isBroken_44 : decode cX3_isBroken 44 = .ok (.invokestatic 35, 3) := by decide +kernel
theorem dX3_isBroken_47 : decode cX3_isBroken 47 = .ok (.ifCond .eq 7, 3) := by decide +kernel
theorem dX3_isBroken_50 : decode cX3_isBroken 50 = .ok (.iconst 1, 1) := by decide +kernel
theorem dX3_isBroken_51 : decode cX3_isBroken 51 = .ok (.goto 4, 3) := by decide +kernel
theorem dX3_isBroken_54 : decode cX3_isBroken 54 = .ok (.iconst 0, 1) := by decide +kernel
theorem dX3_isBroken_55 : decode cX3_isBroken 55 = .ok (.ireturn, 1) := by decide +kernel
theorem dX4_init_0 : decode cX4_init 0 = .ok (.aload_n 0, 1) := by decide +kernel
theorem dX4_init_1 : decode cX4_init 1 = .ok (.invokespecial 3, 3) := by decide +kernel
theorem dX4_init_4 : decode cX4_init 4 = .ok (.aload_n 0, 1) := by decide +kernel
theorem dX4_init_5 : decode cX4_init 5 = .ok (.bipush 30, 2) := by decide +kernel
theorem dX4_init_7 : decode cX4_init 7 = .ok (.newarray .int, 2) := by decide +kernel
theorem dX4_init_9 : decode cX4_init 9 = .ok (.putfield 9, 3) := by decide +kernel
theorem dX4_init_12 : decode cX4_init 12 = .ok (.aload_n 0, 1) := by decide +kernel
theorem dX4_init_13 : decode cX4_init 13 = .ok (.bipush 30, 2) := by decide +kernel
theorem dX4_init_15 : decode cX4_init 15 = .ok (.newarray .int, 2) := by decide +kernel
theorem dX4_init_17 : decode cX4_init 17 = .ok (.putfield 15, 3) := by decide +kernel
theorem dX4_init_20 : decode cX4_init 20 = .ok (.aload_n 0, 1) := by decide +kernel
theorem dX4_init_21 : decode cX4_init 21 = .ok (.bipush 30, 2) := by decide +kernel
theorem dX4_init_23 : decode cX4_init 23 = .ok (.newarray .int, 2) := by decide +kernel
theorem dX4_init_25 : decode cX4_init 25 = .ok (.putfield 18, 3) := by decide +kernel
theorem dX4_init_28 : decode cX4_init 28 = .ok (.aload_n 0, 1) := by decide +kernel
theorem dX4_init_29 : decode cX4_init 29 = .ok (.bipush 30, 2) := by decide +kernel
theorem dX4_init_31 : decode cX4_init 31 = .ok (.newarray .int, 2) := by decide +kernel
theorem dX4_init_33 : decode cX4_init 33 = .ok (.putfield 21, 3) := by decide +kernel
theorem dX4_init_36 : decode cX4_init 36 = .ok (.aload_n 0, 1) := by decide +kernel
theorem dX4_init_37 : decode cX4_init 37 = .ok (.bipush 30, 2) := by decide +kernel
theorem dX4_init_39 : decode cX4_init 39 = .ok (.newarray .int, 2) := by decide +kernel
theorem dX4_init_41 : decode cX4_init 41 = .ok (.putfield 24, 3) := by decide +kernel
theorem dX4_init_44 : decode cX4_init 44 = .ok (.aload_n 0, 1) := by decide +kernel
theorem dX4_init_45 : decode cX4_init 45 = .ok (.bipush 30, 2) := by decide +kernel
theorem dX4_init_47 : decode cX4_init 47 = .ok (.newarray .int, 2) := by decide +kernel
theorem dX4_init_49 : decode cX4_init 49 = .ok (.putfield 27, 3) := by decide +kernel
theorem dX4_init_52 : decode cX4_init 52 = .ok (.aload_n 0, 1) := by decide +kernel
theorem dX4_init_53 : decode cX4_init 53 = .ok (.iconst 0, 1) := by decide +kernel
theorem dX4_init_54 : decode cX4_init 54 = .ok (.putfield 30, 3) := by decide +kernel
theorem dX4_init_57 : decode cX4_init 57 = .ok (.return_, 1) := by decide +kernel
theorem dX4_knows_0 : decode cX4_knows 0 = .ok (.iload_n 1, 1) := by decide +kernel
theorem dX4_knows_1 : decode cX4_knows 1 = .ok (.ifCond .lt 15, 3) := by decide +kernel
theorem dX4_knows_4 : decode cX4_knows 4 = .ok (.iload_n 1, 1) := by decide +kernel
theorem dX4_knows_5 : decode cX4_knows 5 = .ok (.aload_n 0, 1) := by decide +kernel
theorem dX4_knows_6 : decode cX4_knows 6 = .ok (.getfield 30, 3) := by decide +kernel
theorem dX4_knows_9 : decode cX4_knows 9 = .ok (.if_icmp .ge 7, 3) := by decide +kernel
theorem dX4_knows_12 : decode cX4_knows 12 = .ok (.iconst 1, 1) := by decide +kernel
theorem dX4_knows_13 : decode cX4_knows 13 = .ok (.goto 4, 3) := by decide +kernel
theorem dX4_knows_16 : decode cX4_knows 16 = .ok (.iconst 0, 1) := by decide +kernel
theorem dX4_knows_17 : decode cX4_knows 17 = .ok (.ireturn, 1) := by decide +kernel
theorem dX4_add_0 : decode cX4_add 0 = .ok (.aload_n 0, 1) := by decide +kernel
theorem dX4_add_1 : decode cX4_add 1 = .ok (.getfield 30, 3) := by decide +kernel
theorem dX4_add_4 : decode cX4_add 4 = .ok (.bipush 30, 2) := by decide +kernel
theorem dX4_add_6 : decode cX4_add 6 = .ok (.if_icmp .ge 74, 3) := by decide +kernel
theorem dX4_add_9 : decode cX4_add 9 = .ok (.aload_n 0, 1) := by decide +kernel
theorem dX4_add_10 : decode cX4_add 10 = .ok (.getfield 9, 3) := by decide +kernel
theorem dX4_add_13 : decode cX4_add 13 = .ok (.aload_n 0, 1) := by decide +kernel
theorem dX4_add_14 : decode cX4_add 14 = .ok (.getfield 30, 3) := by decide +kernel
theorem dX4_add_17 : decode cX4_add 17 = .ok (.iload_n 1, 1) := by decide +kernel
theorem dX4_add_18 : decode cX4_add 18 = .ok (.iastore, 1) := by decide +kernel
theorem dX4_add_19 : decode cX4_add 19 = .ok (.aload_n 0, 1) := by decide +kernel
theorem dX4_add_20 : decode cX4_add 20 = .ok (.getfield 15, 3) := by decide +kernel
theorem dX4_add_23 : decode cX4_add 23 = .ok (.aload_n 0, 1) := by decide +kernel
theorem dX4_add_24 : decode cX4_add 24 = .ok (.getfield 30, 3) := by decide +kernel
theorem dX4_add_27 : decode cX4_add 27 = .ok (.iload_n 2, 1) := by decide +kernel
theorem dX4_add_28 : decode cX4_add 28 = .ok (.iastore, 1) := by decide +kernel
theorem dX4_add_29 : decode cX4_add 29 = .ok (.aload_n 0, 1) := by decide +kernel
theorem dX4_add_30 : decode cX4_add 30 = .ok (.getfield 18, 3) := by decide +kernel
theorem dX4_add_33 : decode cX4_add 33 = .ok (.aload_n 0, 1) := by decide +kernel
theorem dX4_add_34 : decode cX4_add 34 = .ok (.getfield 30, 3) := by decide +kernel
theorem dX4_add_37 : decode cX4_add 37 = .ok (.iload_n 3, 1) := by decide +kernel
theorem dX4_add_38 : decode cX4_add 38 = .ok (.iastore, 1) := by decide +kernel
theorem dX4_add_39 : decode cX4_add 39 = .ok (.aload_n 0, 1) := by decide +kernel
theorem dX4_add_40 : decode cX4_add 40 = .ok (.getfield 21, 3) := by decide +kernel
theorem dX4_add_43 : decode cX4_add 43 = .ok (.aload_n 0, 1) := by decide +kernel
theorem dX4_add_44 : decode cX4_add 44 = .ok (.getfield 30, 3) := by decide +kernel
theorem dX4_add_47 : decode cX4_add 47 = .ok (.iload 4, 2) := by decide +kernel
theorem dX4_add_49 : decode cX4_add 49 = .ok (.iastore, 1) := by decide +kernel
theorem dX4_add_50 : decode cX4_add 50 = .ok (.aload_n 0, 1) := by decide +kernel
theorem dX4_add_51 : decode cX4_add 51 = .ok (.getfield 24, 3) := by decide +kernel
theorem dX4_add_54 : decode cX4_add 54 = .ok (.aload_n 0, 1) := by decide +kernel
theorem dX4_add_55 : decode cX4_add 55 = .ok (.getfield 30, 3) := by decide +kernel
theorem dX4_add_58 : decode cX4_add 58 = .ok (.iconst 0, 1) := by decide +kernel
theorem dX4_add_59 : decode cX4_add 59 = .ok (.iastore, 1) := by decide +kernel
theorem dX4_add_60 : decode cX4_add 60 = .ok (.aload_n 0, 1) := by decide +kernel
theorem dX4_add_61 : decode cX4_add 61 = .ok (.getfield 27, 3) := by decide +kernel
theorem dX4_add_64 : decode cX4_add 64 = .ok (.aload_n 0, 1) := by decide +kernel
theorem dX4_add_65 : decode cX4_add 65 = .ok (.getfield 30, 3) := by decide +kernel
theorem dX4_add_68 : decode cX4_add 68 = .ok (.iconst 0, 1) := by decide +kernel
theorem dX4_add_69 : decode cX4_add 69 = .ok (.iastore, 1) := by decide +kernel
theorem dX4_add_70 : decode cX4_add 70 = .ok (.aload_n 0, 1) := by decide +kernel
theorem dX4_add_71 : decode cX4_add 71 = .ok (.dup, 1) := by decide +kernel
theorem dX4_add_72 : decode cX4_add 72 = .ok (.getfield 30, 3) := by decide +kernel
theorem dX4_add_75 : decode cX4_add 75 = .ok (.iconst 1, 1) := by decide +kernel
theorem dX4_add_76 : decode cX4_add 76 = .ok (.iadd, 1) := by decide +kernel
theorem dX4_add_77 : decode cX4_add 77 = .ok (.putfield 30, 3) := by decide +kernel
theorem dX4_add_80 : decode cX4_add 80 = .ok (.return_, 1) := by decide +kernel
set_option maxRecDepth 20000 in
theorem ggX4_peopleOf_X4_knows : GoodIn wsX4_peopleOf wsX4_knows := goodIn_r _ [6, 7, 8, 9, 10, 11, 12, 13, 14] (by decide +kernel) (by decide +kernel)
set_option maxRecDepth 20000 in
theorem gX4_peopleOf_X4_knows : GoodIn wsX4_peopleOf (wsV RX4 34 RX4 yX4_knows wsX4_knows) := goodIn_app (goodIn_of _ (by decide +kernel)) ggX4_peopleOf_X4_knows
theorem dX4_peopleOf_0 : decode cX4_peopleOf 0 = .ok (.aload_n 0, 1) := by decide +kernel
theorem dX4_peopleOf_1 : decode cX4_peopleOf 1 = .ok (.iload_n 1, 1) := by decide +kernel
theorem dX4_peopleOf_2 : decode cX4_peopleOf 2 = .ok (.invokevirtual 34, 3) := by decide +kernel
theorem dX4_peopleOf_5 : decode cX4_peopleOf 5 = .ok (.ifCond .eq 12, 3) := by decide +kernel
theorem dX4_peopleOf_8 : decode cX4_peopleOf 8 = .ok (.aload_n 0, 1) := by decide +kernel
theorem dX4_peopleOf_9 : decode cX4_peopleOf 9 = .ok (.getfield 9, 3) := by decide +kernel
theorem dX4_peopleOf_12 : decode cX4_peopleOf 12 = .ok (.iload_n 1, 1) := by decide +kernel
theorem dX4_peopleOf_13 : decode cX4_peopleOf 13 = .ok (.iaload, 1) := by decide +kernel
theorem dX4_peopleOf_14 : decode cX4_peopleOf 14 = .ok (.goto 4, 3) := by decide +kernel
theorem dX4_peopleOf_17 : decode cX4_peopleOf 17 = .ok (.iconst 0, 1) := by decide +kernel
theorem dX4_peopleOf_18 : decode cX4_peopleOf 18 = .ok (.ireturn, 1) := by decide +kernel
set_option maxRecDepth 20000 in
theorem ggX4_place_X4_knows : GoodIn wsX4_place wsX4_knows := goodIn_r _ [7, 8, 9, 10, 11, 12, 13, 14, 15] (by decide +kernel) (by decide +kernel)
set_option maxRecDepth 20000 in
theorem gX4_place_X4_knows : GoodIn wsX4_place (wsV RX4 34 RX4 yX4_knows wsX4_knows) := goodIn_app (goodIn_of _ (by decide +kernel)) ggX4_place_X4_knows
theorem dX4_place_0 : decode cX4_place 0 = .ok (.aload_n 0, 1) := by decide +kernel
theorem dX4_place_1 : decode cX4_place 1 = .ok (.iload_n 1, 1) := by decide +kernel
theorem dX4_place_2 : decode cX4_place 2 = .ok (.invokevirtual 34, 3) := by decide +kernel
theorem dX4_place_5 : decode cX4_place 5 = .ok (.ifCond .eq 20, 3) := by decide +kernel
theorem dX4_place_8 : decode cX4_place 8 = .ok (.aload_n 0, 1) := by decide +kernel
theorem dX4_place_9 : decode cX4_place 9 = .ok (.getfield 15, 3) := by decide +kernel
theorem dX4_place_12 : decode cX4_place 12 = .ok (.iload_n 1, 1) := by decide +kernel
theorem dX4_place_13 : decode cX4_place 13 = .ok (.iload_n 2, 1) := by decide +kernel
theorem dX4_place_14 : decode cX4_place 14 = .ok (.iastore, 1) := by decide +kernel
theorem dX4_place_15 : decode cX4_place 15 = .ok (.aload_n 0, 1) := by decide +kernel
theorem dX4_place_16 : decode cX4_place 16 = .ok (.getfield 27, 3) := by decide +kernel
theorem dX4_place_19 : decode cX4_place 19 = .ok (.iload_n 1, 1) := by decide +kernel
theorem dX4_place_20 : decode cX4_place 20 = .ok (.dup2, 1) := by decide +kernel
theorem dX4_place_21 : decode cX4_place 21 = .ok (.iaload, 1) := by decide +kernel
theorem dX4_place_22 : decode cX4_place 22 = .ok (.iconst 1, 1) := by decide +kernel
theorem dX4_place_23 : decode cX4_place 23 = .ok (.iadd, 1) := by decide +kernel
theorem dX4_place_24 : decode cX4_place 24 = .ok (.iastore, 1) := by decide +kernel
theorem dX4_place_25 : decode cX4_place 25 = .ok (.return_, 1) := by decide +kernel
set_option maxRecDepth 20000 in
theorem ggX4_callOff_X4_knows : GoodIn wsX4_callOff wsX4_knows := goodIn_r _ [6, 7, 8, 9, 10, 11, 12, 13, 14] (by decide +kernel) (by decide +kernel)
set_option maxRecDepth 20000 in
theorem gX4_callOff_X4_knows : GoodIn wsX4_callOff (wsV RX4 34 RX4 yX4_knows wsX4_knows) := goodIn_app (goodIn_of _ (by decide +kernel)) ggX4_callOff_X4_knows
theorem dX4_callOff_0 : decode cX4_callOff 0 = .ok (.aload_n 0, 1) := by decide +kernel
theorem dX4_callOff_1 : decode cX4_callOff 1 = .ok (.iload_n 1, 1) := by decide +kernel
theorem dX4_callOff_2 : decode cX4_callOff 2 = .ok (.invokevirtual 34, 3) := by decide +kernel
theorem dX4_callOff_5 : decode cX4_callOff 5 = .ok (.ifCond .eq 10, 3) := by decide +kernel
theorem dX4_callOff_8 : decode cX4_callOff 8 = .ok (.aload_n 0, 1) := by decide +kernel
theorem dX4_callOff_9 : decode cX4_callOff 9 = .ok (.getfield 24, 3) := by decide +kernel
theorem dX4_callOff_12 : decode cX4_callOff 12 = .ok (.iload_n 1, 1) := by decide +kernel
theorem dX4_callOff_13 : decode cX4_callOff 13 = .ok (.iconst 1, 1) := by decide +kernel
theorem dX4_callOff_14 : decode cX4_callOff 14 = .ok (.iastore, 1) := by decide +kernel
theorem dX4_callOff_15 : decode cX4_callOff 15 = .ok (.return_, 1) := by decide +kernel
set_option maxRecDepth 20000 in
theorem ggX4_exchange_X4_knows : GoodIn wsX4_exchange wsX4_knows := goodIn_r _ [6, 7, 8, 9, 10, 11, 12, 13, 14] (by decide +kernel) (by decide +kernel)
set_option maxRecDepth 20000 in
theorem gX4_exchange_X4_knows : GoodIn wsX4_exchange (wsV RX4 34 RX4 yX4_knows wsX4_knows) := goodIn_app (goodIn_of _ (by decide +kernel)) ggX4_exchange_X4_knows
theorem dX4_exchange_0 : decode cX4_exchange 0 = .ok (.aload_n 0, 1) := by decide +kernel
theorem dX4_exchange_1 : decode cX4_exchange 1 = .ok (.iload_n 1, 1) := by decide +kernel
theorem dX4_exchange_2 : decode cX4_exchange 2 = .ok (.invokevirtual 34, 3) := by decide +kernel
theorem dX4_exchange_5 : decode cX4_exchange 5 = .ok (.ifCond .eq 37, 3) := by decide +kernel
theorem dX4_exchange_8 : decode cX4_exchange 8 = .ok (.aload_n 0, 1) := by decide +kernel
theorem dX4_exchange_9 : decode cX4_exchange 9 = .ok (.iload_n 2, 1) := by decide +kernel
theorem dX4_exchange_10 : decode cX4_exchange 10 = .ok (.invokevirtual 34, 3) := by decide +kernel
theorem dX4_exchange_13 : decode cX4_exchange 13 = .ok (.ifCond .eq 29, 3) := by decide +kernel
theorem dX4_exchange_16 : decode cX4_exchange 16 = .ok (.aload_n 0, 1) := by decide +kernel
theorem dX4_exchange_17 : decode cX4_exchange 17 = .ok (.getfield 15, 3) := by decide +kernel
theorem dX4_exchange_20 : decode cX4_exchange 20 = .ok (.iload_n 1, 1) := by decide +kernel
theorem dX4_exchange_21 : decode cX4_exchange 21 = .ok (.iaload, 1) := by decide +kernel
theorem dX4_exchange_22 : decode cX4_exchange 22 = .ok (.istore_n 3, 1) := by decide +kernel
theorem dX4_exchange_23 : decode cX4_exchange 23 = .ok (.aload_n 0, 1) := by decide +kernel
theorem dX4_exchange_24 : decode cX4_exchange 24 = .ok (.getfield 15, 3) := by decide +kernel
theorem dX4_exchange_27 : decode cX4_exchange 27 = .ok (.iload_n 1, 1) := by decide +kernel
theorem dX4_exchange_28 : decode cX4_exchange 28 = .ok (.aload_n 0, 1) := by decide +kernel
theorem dX4_exchange_29 : decode cX4_exchange 29 = .ok (.getfield 15, 3) := by decide +kernel
theorem dX4_exchange_32 : decode cX4_exchange 32 = .ok (.iload_n 2, 1) := by decide +kernel
theorem dX4_exchange_33 : decode cX4_exchange 33 = .ok (.iaload, 1) := by decide +kernel
theorem dX4_exchange_34 : decode cX4_exchange 34 = .ok (.iastore, 1) := by decide +kernel
theorem dX4_exchange_35 : decode cX4_exchange 35 = .ok (.aload_n 0, 1) := by decide +kernel
theorem dX4_exchange_36 : decode cX4_exchange 36 = .ok (.getfield 15, 3) := by decide +kernel
theorem dX4_exchange_39 : decode cX4_exchange 39 = .ok (.iload_n 2, 1) := by decide +kernel
theorem dX4_exchange_40 : decode cX4_exchange 40 = .ok (.iload_n 3, 1) := by decide +kernel
theorem dX4_exchange_41 : decode cX4_exchange 41 = .ok (.iastore, 1) := by decide +kernel
theorem dX4_exchange_42 : decode cX4_exchange 42 = .ok (.return_, 1) := by decide +kernel
set_option maxRecDepth 20000 in
theorem ggX4_placeSwapped_X4_knows : GoodIn wsX4_placeSwapped wsX4_knows := goodIn_r _ [6, 7, 13, 14, 15, 16, 17, 18, 19] (by decide +kernel) (by decide +kernel)
set_option maxRecDepth 20000 in
theorem gX4_placeSwapped_X4_knows : GoodIn wsX4_placeSwapped (wsV RX4 34 RX4 yX4_knows wsX4_knows) := goodIn_app (goodIn_of _ (by decide +kernel)) ggX4_placeSwapped_X4_knows
set_option maxRecDepth 20000 in
theorem ggX4_placeSwapped_X4_exchange : GoodIn wsX4_placeSwapped wsX4_exchange := goodIn_r _ [11, 12, 2, 3, 4, 5, 6, 7, 13, 14, 15, 16, 17, 18, 19] (by decide +kernel) (by decide +kernel)
set_option maxRecDepth 20000 in
theorem gX4_placeSwapped_X4_exchange : GoodIn wsX4_placeSwapped (wsV RX4 38 RX4 yX4_exchange wsX4_exchange) := goodIn_app (goodIn_of _ (by decide +kernel)) ggX4_placeSwapped_X4_exchange
theorem dX4_placeSwapped_0 : decode cX4_placeSwapped 0 = .ok (.aload_n 0, 1) := by decide +kernel
theorem dX4_placeSwapped_1 : decode cX4_placeSwapped 1 = .ok (.iload_n 1, 1) := by decide +kernel
theorem dX4_placeSwapped_2 : decode cX4_placeSwapped 2 = .ok (.invokevirtual 34, 3) := by decide +kernel
theorem dX4_placeSwapped_5 : decode cX4_placeSwapped 5 = .ok (.ifCond .eq 37, 3) := by decide +kernel
theorem dX4_placeSwapped_8 : decode cX4_placeSwapped 8 = .ok (.aload_n 0, 1) := by decide +kernel
theorem dX4_placeSwapped_9 : decode cX4_placeSwapped 9 = .ok (.iload_n 2, 1) := by decide +kernel
theorem dX4_placeSwapped_10 : decode cX4_placeSwapped 10 = .ok (.invokevirtual 34, 3) := by decide +kernel
theorem dX4_placeSwapped_13 : decode cX4_placeSwapped 13 = .ok (.ifCond .eq 29, 3) := by decide +kernel
theorem dX4_placeSwapped_16 : decode cX4_placeSwapped 16 = .ok (.aload_n 0, 1) := by decide +kernel
theorem dX4_placeSwapped_17 : decode cX4_placeSwapped 17 = .ok (.iload_n 1, 1) := by decide +kernel
theorem dX4_placeSwapped_18 : decode cX4_placeSwapped 18 = .ok (.iload_n 2, 1) := by decide +kernel
theorem dX4_placeSwapped_19 : decode cX4_placeSwapped 19 = .ok (.invokevirtual 38, 3) := by decide +kernel
theorem dX4_placeSwapped_22 : decode cX4_placeSwapped 22 = .ok (.aload_n 0, 1) := by decide +kernel
theorem dX4_placeSwapped_23 : decode cX4_placeSwapped 23 = .ok (.getfield 27, 3) := by decide +kernel
theorem dX4_placeSwapped_26 : decode cX4_placeSwapped 26 = .ok (.iload_n 1, 1) := by decide +kernel
theorem dX4_placeSwapped_27 : decode cX4_placeSwapped 27 = .ok (.dup2, 1) := by decide +kernel
theorem dX4_placeSwapped_28 : decode cX4_placeSwapped 28 = .ok (.iaload, 1) := by decide +kernel
theorem dX4_placeSwapped_29 : decode cX4_placeSwapped 29 = .ok (.iconst 1, 1) := by decide +kernel
theorem dX4_placeSwapped_30 : decode cX4_placeSwapped 30 = .ok (.iadd, 1) := by decide +kernel
theorem dX4_placeSwapped_31 : decode cX4_placeSwapped 31 = .ok (.iastore, 1) := by decide +kernel
theorem dX4_placeSwapped_32 : decode cX4_placeSwapped 32 = .ok (.aload_n 0, 1) := by decide +kernel
theorem dX4_placeSwapped_33 : decode cX4_placeSwapped 33 = .ok (.getfield 27, 3) := by decide +kernel
theorem dX4_placeSwapped_36 : decode cX4_placeSwapped 36 = .ok (.iload_n 2, 1) := by decide +kernel
theorem dX4_placeSwapped_37 : decode cX4_placeSwapped 37 = .ok (.dup2, 1) := by decide +kernel
theorem dX4_placeSwapped_38 : decode cX4_placeSwapped 38 = .ok (.iaload, 1) := by decide +kernel
theorem dX4_placeSwapped_39 : decode cX4_placeSwapped 39 = .ok (.iconst 1, 1) := by decide +kernel
theorem dX4_placeSwapped_40 : decode cX4_placeSwapped 40 = .ok (.iadd, 1) := by decide +kernel
theorem dX4_placeSwapped_41 : decode cX4_placeSwapped 41 = .ok (.iastore, 1) := by decide +kernel
theorem dX4_placeSwapped_42 : decode cX4_placeSwapped 42 = .ok (.return_, 1) := by decide +kernel
set_option maxRecDepth 20000 in
theorem ggX4_busyPeople_X8_overlap : GoodIn wsX4_busyPeople wsX8_overlap := goodIn_r _ [8] (by decide +kernel) (by decide +kernel)
set_option maxRecDepth 20000 in
theorem gX4_busyPeople_X8_overlap_n42 : GoodIn wsX4_busyPeople (wsX8_overlap) := ggX4_busyPeople_X8_overlap
theorem dX4_busyPeople_0 : decode cX4_busyPeople 0 = .ok (.iconst 0, 1) := by decide +kernel
theorem dX4_busyPeople_1 : decode cX4_busyPeople 1 = .ok (.istore 4, 2) := by decide +kernel
theorem dX4_busyPeople_3 : decode cX4_busyPeople 3 = .ok (.iconst 0, 1) := by decide +kernel
theorem dX4_busyPeople_4 : decode cX4_busyPeople 4 = .ok (.istore 5, 2) := by decide +kernel
theorem dX4_busyPeople_6 : decode cX4_busyPeople 6 = .ok (.iload 5, 2) := by decide +kernel
theorem dX4_busyPeople_8 : decode cX4_busyPeople 8 = .ok (.aload_n 0, 1) := by decide +kernel
theorem dX4_busyPeople_9 : decode cX4_busyPeople 9 = .ok (.getfield 30, 3) := by decide +kernel
theorem dX4_busyPeople_12 : decode cX4_busyPeople 12 = .ok (.if_icmp .ge 59, 3) := by decide +kernel
theorem dX4_busyPeople_15 : decode cX4_busyPeople 15 = .ok (.iload 5, 2) := by decide +kernel
theorem dX4_busyPeople_17 : decode cX4_busyPeople 17 = .ok (.iload_n 3, 1) := by decide +kernel
theorem dX4_busyPeople_18 : decode cX4_busyPeople 18 = .ok (.if_icmp .eq 47, 3) := by decide +kernel
theorem dX4_busyPeople_21 : decode cX4_busyPeople 21 = .ok (.aload_n 0, 1) := by decide +kernel
theorem dX4_busyPeople_22 : decode cX4_busyPeople 22 = .ok (.getfield 24, 3) := by decide +kernel
theorem dX4_busyPeople_25 : decode cX4_busyPeople 25 = .ok (.iload 5, 2) := by decide +kernel
theorem dX4_busyPeople_27 : decode cX4_busyPeople 27 = .ok (.iaload, 1) := by decide +kernel
theorem dX4_busyPeople_28 : decode cX4_busyPeople 28 = .ok (.ifCond .ne 37, 3) := by decide +kernel
theorem dX4_busyPeople_31 : decode cX4_busyPeople 31 = .ok (.aload_n 0, 1) := by decide +kernel
theorem dX4_busyPeople_32 : decode cX4_busyPeople 32 = .ok (.getfield 15, 3) := by decide +kernel
theorem dX4_busyPeople_35 : decode cX4_busyPeople 35 = .ok (.iload 5, 2) := by decide +kernel
theorem dX4_busyPeople_37 : decode cX4_busyPeople 37 = .ok (.iaload, 1) := by decide +kernel
theorem dX4_busyPeople_38 : decode cX4_busyPeople 38 = .ok (.aload_n 0, 1) := by decide +kernel
theorem dX4_busyPeople_39 : decode cX4_busyPeople 39 = .ok (.getfield 18, 3) := by decide +kernel
theorem dX4_busyPeople_42 : decode cX4_busyPeople 42 = .ok (.iload 5, 2) := by decide +kernel
theorem dX4_busyPeople_44 : decode cX4_busyPeople 44 = .ok (.iaload, 1) := by decide +kernel
theorem dX4_busyPeople_45 : decode cX4_busyPeople 45 = .ok (.iload_n 1, 1) := by decide +kernel
theorem dX4_busyPeople_46 : decode cX4_busyPeople 46 = .ok (.iload_n 2, 1) := by decide +kernel
theorem dX4_busyPeople_47 : decode cX4_busyPeople 47 = .ok (.invokestatic 42, 3) := by decide +kernel
theorem dX4_busyPeople_50 : decode cX4_busyPeople 50 = .ok (.ifCond .eq 15, 3) := by decide +kernel
theorem dX4_busyPeople_53 : decode cX4_busyPeople 53 = .ok (.iload 4, 2) := by decide +kernel
theorem dX4_busyPeople_55 : decode cX4_busyPeople 55 = .ok (.aload_n 0, 1) := by decide +kernel
theorem dX4_busyPeople_56 : decode cX4_busyPeople 56 = .ok (.getfield 9, 3) := by decide +kernel
theorem dX4_busyPeople_59 : decode cX4_busyPeople 59 = .ok (.iload 5, 2) := by decide +kernel
theorem dX4_busyPeople_61 : decode cX4_busyPeople 61 = .ok (.iaload, 1) := by decide +kernel
theorem dX4_busyPeople_62 : decode cX4_busyPeople 62 = .ok (.ior, 1) := by decide +kernel
theorem dX4_busyPeople_63 : decode cX4_busyPeople 63 = .ok (.istore 4, 2) := by decide +kernel
theorem dX4_busyPeople_65 : decode cX4_busyPeople 65 = .ok (.iinc 5 1, 3) := by decide +kernel
theorem dX4_busyPeople_68 : decode cX4_busyPeople 68 = .ok (.goto (-62), 3) := by decide +kernel
theorem dX4_busyPeople_71 : decode cX4_busyPeople 71 = .ok (.iload 4, 2) := by decide +kernel
theorem dX4_busyPeople_73 : decode cX4_busyPeople 73 = .ok (.ireturn, 1) := by decide +kernel
set_option maxRecDepth 20000 in
theorem ggX4_isPromised_X8_overlap : GoodIn wsX4_isPromised wsX8_overlap := goodIn_r _ [8] (by decide +kernel) (by decide +kernel)
set_option maxRecDepth 20000 in
theorem gX4_isPromised_X8_overlap_n42 : GoodIn wsX4_isPromised (wsX8_overlap) := ggX4_isPromised_X8_overlap
theorem dX4_isPromised_0 : decode cX4_isPromised 0 = .ok (.iconst 0, 1) := by decide +kernel
theorem dX4_isPromised_1 : decode cX4_isPromised 1 = .ok (.istore 5, 2) := by decide +kernel
theorem dX4_isPromised_3 : decode cX4_isPromised 3 = .ok (.iload 5, 2) := by decide +kernel
theorem dX4_isPromised_5 : decode cX4_isPromised 5 = .ok (.aload_n 0, 1) := by decide +kernel
theorem dX4_isPromised_6 : decode cX4_isPromised 6 = .ok (.getfield 30, 3) := by decide +kernel
theorem dX4_isPromised_9 : decode cX4_isPromised 9 = .ok (.if_icmp .ge 61, 3) := by decide +kernel
theorem dX4_isPromised_12 : decode cX4_isPromised 12 = .ok (.iload 5, 2) := by decide +kernel
theorem dX4_isPromised_14 : decode cX4_isPromised 14 = .ok (.iload 4, 2) := by decide +kernel
theorem dX4_isPromised_16 : decode cX4_isPromised 16 = .ok (.if_icmp .eq 48, 3) := by decide +kernel
theorem dX4_isPromised_19 : decode cX4_isPromised 19 = .ok (.aload_n 0, 1) := by decide +kernel
theorem dX4_isPromised_20 : decode cX4_isPromised 20 = .ok (.getfield 21, 3) := by decide +kernel
theorem dX4_isPromised_23 : decode cX4_isPromised 23 = .ok (.iload 5, 2) := by decide +kernel
theorem dX4_isPromised_25 : decode cX4_isPromised 25 = .ok (.iaload, 1) := by decide +kernel
theorem dX4_isPromised_26 : decode cX4_isPromised 26 = .ok (.iload_n 1, 1) := by decide +kernel
theorem dX4_isPromised_27 : decode cX4_isPromised 27 = .ok (.if_icmp .ne 37, 3) := by decide +kernel
theorem dX4_isPromised_30 : decode cX4_isPromised 30 = .ok (.aload_n 0, 1) := by decide +kernel
theorem dX4_isPromised_31 : decode cX4_isPromised 31 = .ok (.getfield 24, 3) := by decide +kernel
theorem dX4_isPromised_34 : decode cX4_isPromised 34 = .ok (.iload 5, 2) := by decide +kernel
theorem dX4_isPromised_36 : decode cX4_isPromised 36 = .ok (.iaload, 1) := by decide +kernel
theorem dX4_isPromised_37 : decode cX4_isPromised 37 = .ok (.ifCond .ne 27, 3) := by decide +kernel
theorem dX4_isPromised_40 : decode cX4_isPromised 40 = .ok (.aload_n 0, 1) := by decide +kernel
theorem dX4_isPromised_41 : decode cX4_isPromised 41 = .ok (.getfield 15, 3) := by decide +kernel
theorem dX4_isPromised_44 : decode cX4_isPromised 44 = .ok (.iload 5, 2) := by decide +kernel
theorem dX4_isPromised_46 : decode cX4_isPromised 46 = .ok (.iaload, 1) := by decide +kernel
theorem dX4_isPromised_47 : decode cX4_isPromised 47 = .ok (.aload_n 0, 1) := by decide +kernel
theorem dX4_isPromised_48 : decode cX4_isPromised 48 = .ok (.getfield 18, 3) := by decide +kernel
theorem dX4_isPromised_51 : decode cX4_isPromised 51 = .ok (.iload 5, 2) := by decide +kernel
theorem dX4_isPromised_53 : decode cX4_isPromised 53 = .ok (.iaload, 1) := by decide +kernel
theorem dX4_isPromised_54 : decode cX4_isPromised 54 = .ok (.iload_n 2, 1) := by decide +kernel
theorem dX4_isPromised_55 : decode cX4_isPromised 55 = .ok (.iload_n 3, 1) := by decide +kernel
theorem dX4_isPromised_56 : decode cX4_isPromised 56 = .ok (.invokestatic 42, 3) := by decide +kernel
theorem dX4_isPromised_59 : decode cX4_isPromised 59 = .ok (.ifCond .eq 5, 3) := by decide +kernel
theorem dX4_isPromised_62 : decode cX4_isPromised 62 = .ok (.iconst 1, 1) := by decide +kernel
theorem dX4_isPromised_63 : decode cX4_isPromised 63 = .ok (.ireturn, 1) := by decide +kernel
theorem dX4_isPromised_64 : decode cX4_isPromised 64 = .ok (.iinc 5 1, 3) := by decide +kernel
theorem dX4_isPromised_67 : decode cX4_isPromised 67 = .ok (.goto (-64), 3) := by decide +kernel
theorem dX4_isPromised_70 : decode cX4_isPromised 70 = .ok (.iconst 0, 1) := by decide +kernel
theorem dX4_isPromised_71 : decode cX4_isPromised 71 = .ok (.ireturn, 1) := by decide +kernel
theorem dX4_endBy_0 : decode cX4_endBy 0 = .ok (.iconst 0, 1) := by decide +kernel
theorem dX4_endBy_1 : decode cX4_endBy 1 = .ok (.istore_n 2, 1) := by decide +kernel
theorem dX4_endBy_2 : decode cX4_endBy 2 = .ok (.iload_n 2, 1) := by decide +kernel
theorem dX4_endBy_3 : decode cX4_endBy 3 = .ok (.aload_n 0, 1) := by decide +kernel
theorem dX4_endBy_4 : decode cX4_endBy 4 = .ok (.getfield 30, 3) := by decide +kernel
theorem dX4_endBy_7 : decode cX4_endBy 7 = .ok (.if_icmp .ge 42, 3) := by decide +kernel
theorem dX4_endBy_10 : decode cX4_endBy 10 = .ok (.aload_n 0, 1) := by decide +kernel
theorem dX4_endBy_11 : decode cX4_endBy 11 = .ok (.getfield 24, 3) := by decide +kernel
theorem dX4_endBy_14 : decode cX4_endBy 14 = .ok (.iload_n 2, 1) := by decide +kernel
theorem dX4_endBy_15 : decode cX4_endBy 15 = .ok (.iaload, 1) := by decide +kernel
theorem dX4_endBy_16 : decode cX4_endBy 16 = .ok (.ifCond .ne 27, 3) := by decide +kernel
theorem dX4_endBy_19 : decode cX4_endBy 19 = .ok (.aload_n 0, 1) := by decide +kernel
theorem dX4_endBy_20 : decode cX4_endBy 20 = .ok (.getfield 15, 3) := by decide +kernel
theorem dX4_endBy_23 : decode cX4_endBy 23 = .ok (.iload_n 2, 1) := by decide +kernel
theorem dX4_endBy_24 : decode cX4_endBy 24 = .ok (.iaload, 1) := by decide +kernel
theorem dX4_endBy_25 : decode cX4_endBy 25 = .ok (.aload_n 0, 1) := by decide +kernel
theorem dX4_endBy_26 : decode cX4_endBy 26 = .ok (.getfield 18, 3) := by decide +kernel
theorem dX4_endBy_29 : decode cX4_endBy 29 = .ok (.iload_n 2, 1) := by decide +kernel
theorem dX4_endBy_30 : decode cX4_endBy 30 = .ok (.iaload, 1) := by decide +kernel
theorem dX4_endBy_31 : decode cX4_endBy 31 = .ok (.iadd, 1) := by decide +kernel
theorem dX4_endBy_32 : decode cX4_endBy 32 = .ok (.iload_n 1, 1) := by decide +kernel
theorem dX4_endBy_33 : decode cX4_endBy 33 = .ok (.if_icmp .gt 10, 3) := by decide +kernel
theorem dX4_endBy_36 : decode cX4_endBy 36 = .ok (.aload_n 0, 1) := by decide +kernel
theorem dX4_endBy_37 : decode cX4_endBy 37 = .ok (.getfield 24, 3) := by decide +kernel
theorem dX4_endBy_40 : decode cX4_endBy 40 = .ok (.iload_n 2, 1) := by decide +kernel
theorem dX4_endBy_41 : decode cX4_endBy 41 = .ok (.iconst 2, 1) := by decide +kernel
theorem dX4_endBy_42 : decode cX4_endBy 42 = .ok (.iastore, 1) := by decide +kernel
theorem dX4_endBy_43 : decode cX4_endBy 43 = .ok (.iinc 2 1, 3) := by decide +kernel
theorem dX4_endBy_46 : decode cX4_endBy 46 = .ok (.goto (-44), 3) := by decide +kernel
theorem dX4_endBy_49 : decode cX4_endBy 49 = .ok (.return_, 1) := by decide +kernel
set_option maxRecDepth 20000 in
theorem ggX5_init_X3_init : GoodIn wsX5_init wsX3_init := goodIn_r _ [26, 27, 2, 3, 28, 29, 30, 31, 32, 33, 34, 69, 70, 71, 72, 73, 74] (by decide +kernel) (by decide +kernel)
set_option maxRecDepth 20000 in
theorem gX5_init_X3_init_n11 : GoodIn wsX5_init (wsX3_init) := ggX5_init_X3_init
set_option maxRecDepth 20000 in
theorem ggX5_init_X2_init : GoodIn wsX5_init wsX2_init := goodIn_r _ [36, 37, 2, 3, 28, 38, 39, 40, 41, 42, 81, 82, 83, 84, 85] (by decide +kernel) (by decide +kernel)
set_option maxRecDepth 20000 in
theorem gX5_init_X2_init_n20 : GoodIn wsX5_init (wsX2_init) := ggX5_init_X2_init
set_option maxRecDepth 20000 in
theorem ggX5_init_X1_init : GoodIn wsX5_init wsX1_init := goodIn_r _ [44, 45, 2, 3, 46, 47, 86] (by decide +kernel) (by decide +kernel)
set_option maxRecDepth 20000 in
theorem gX5_init_X1_init_n27 : GoodIn wsX5_init (wsX1_init) := ggX5_init_X1_init
set_option maxRecDepth 20000 in
theorem ggX5_init_X4_init : GoodIn wsX5_init wsX4_init := goodIn_r _ [49, 50, 2, 3, 28, 51, 52, 53, 54, 55, 56, 57, 87, 88, 89, 90, 91, 92, 93] (by decide +kernel) (by decide +kernel)
set_option maxRecDepth 20000 in
theorem gX5_init_X4_init_n34 : GoodIn wsX5_init (wsX4_init) := ggX5_init_X4_init
set_option maxRecDepth 20000 in
theorem ggX5_init_X0_init : GoodIn wsX5_init wsX0_init := goodIn_r _ [59, 60, 2, 3, 28, 61, 62, 63, 64, 65, 66, 67, 68, 94, 95, 96, 97, 98, 99, 100, 101] (by decide +kernel) (by decide +kernel)
set_option maxRecDepth 20000 in
theorem gX5_init_X0_init_n41 : GoodIn wsX5_init (wsX0_init) := ggX5_init_X0_init
theorem dX5_init_0 : decode cX5_init 0 = .ok (.aload_n 0, 1) := by decide +kernel
theorem dX5_init_1 : decode cX5_init 1 = .ok (.invokespecial 3, 3) := by decide +kernel
theorem dX5_init_4 : decode cX5_init 4 = .ok (.aload_n 0, 1) := by decide +kernel
theorem dX5_init_5 : decode cX5_init 5 = .ok (.new 9, 3) := by decide +kernel
theorem dX5_init_8 : decode cX5_init 8 = .ok (.dup, 1) := by decide +kernel
theorem dX5_init_9 : decode cX5_init 9 = .ok (.invokespecial 11, 3) := by decide +kernel
theorem dX5_init_12 : decode cX5_init 12 = .ok (.putfield 12, 3) := by decide +kernel
theorem dX5_init_15 : decode cX5_init 15 = .ok (.aload_n 0, 1) := by decide +kernel
theorem dX5_init_16 : decode cX5_init 16 = .ok (.new 18, 3) := by decide +kernel
theorem dX5_init_19 : decode cX5_init 19 = .ok (.dup, 1) := by decide +kernel
theorem dX5_init_20 : decode cX5_init 20 = .ok (.invokespecial 20, 3) := by decide +kernel
theorem dX5_init_23 : decode cX5_init 23 = .ok (.putfield 21, 3) := by decide +kernel
theorem dX5_init_26 : decode cX5_init 26 = .ok (.aload_n 0, 1) := by decide +kernel
theorem dX5_init_27 : decode cX5_init 27 = .ok (.new 25, 3) := by decide +kernel
theorem dX5_init_30 : decode cX5_init 30 = .ok (.dup, 1) := by decide +kernel
theorem dX5_init_31 : decode cX5_init 31 = .ok (.invokespecial 27, 3) := by decide +kernel
theorem dX5_init_34 : decode cX5_init 34 = .ok (.putfield 28, 3) := by decide +kernel
theorem dX5_init_37 : decode cX5_init 37 = .ok (.aload_n 0, 1) := by decide +kernel
theorem dX5_init_38 : decode cX5_init 38 = .ok (.new 32, 3) := by decide +kernel
theorem dX5_init_41 : decode cX5_init 41 = .ok (.dup, 1) := by decide +kernel
theorem dX5_init_42 : decode cX5_init 42 = .ok (.invokespecial 34, 3) := by decide +kernel
theorem dX5_init_45 : decode cX5_init 45 = .ok (.putfield 35, 3) := by decide +kernel
theorem dX5_init_48 : decode cX5_init 48 = .ok (.aload_n 0, 1) := by decide +kernel
theorem dX5_init_49 : decode cX5_init 49 = .ok (.new 39, 3) := by decide +kernel
theorem dX5_init_52 : decode cX5_init 52 = .ok (.dup, 1) := by decide +kernel
theorem dX5_init_53 : decode cX5_init 53 = .ok (.invokespecial 41, 3) := by decide +kernel
theorem dX5_init_56 : decode cX5_init 56 = .ok (.putfield 42, 3) := by decide +kernel
theorem dX5_init_59 : decode cX5_init 59 = .ok (.aload_n 0, 1) := by decide +kernel
theorem dX5_init_60 : decode cX5_init 60 = .ok (.iconst 0, 1) := by decide +kernel
theorem dX5_init_61 : decode cX5_init 61 = .ok (.putfield 46, 3) := by decide +kernel
theorem dX5_init_64 : decode cX5_init 64 = .ok (.return_, 1) := by decide +kernel
set_option maxRecDepth 20000 in
theorem ggX5_clear_X1_clear : GoodIn wsX5_clear wsX1_clear := goodIn_r _ [15, 16, 49] (by decide +kernel) (by decide +kernel)
set_option maxRecDepth 20000 in
theorem gX5_clear_X1_clear : GoodIn wsX5_clear (wsV RX5 54 RX1 yX1_clear wsX1_clear) := goodIn_app (goodIn_of _ (by decide +kernel)) ggX5_clear_X1_clear
theorem dX5_clear_0 : decode cX5_clear 0 = .ok (.aload_n 0, 1) := by decide +kernel
theorem dX5_clear_1 : decode cX5_clear 1 = .ok (.getfield 12, 3) := by decide +kernel
theorem dX5_clear_4 : decode cX5_clear 4 = .ok (.iconst 0, 1) := by decide +kernel
theorem dX5_clear_5 : decode cX5_clear 5 = .ok (.putfield 50, 3) := by decide +kernel
theorem dX5_clear_8 : decode cX5_clear 8 = .ok (.aload_n 0, 1) := by decide +kernel
theorem dX5_clear_9 : decode cX5_clear 9 = .ok (.getfield 21, 3) := by decide +kernel
theorem dX5_clear_12 : decode cX5_clear 12 = .ok (.iconst 0, 1) := by decide +kernel
theorem dX5_clear_13 : decode cX5_clear 13 = .ok (.putfield 53, 3) := by decide +kernel
theorem dX5_clear_16 : decode cX5_clear 16 = .ok (.aload_n 0, 1) := by decide +kernel
theorem dX5_clear_17 : decode cX5_clear 17 = .ok (.getfield 28, 3) := by decide +kernel
theorem dX5_clear_20 : decode cX5_clear 20 = .ok (.invokevirtual 54, 3) := by decide +kernel
theorem dX5_clear_23 : decode cX5_clear 23 = .ok (.aload_n 0, 1) := by decide +kernel
theorem dX5_clear_24 : decode cX5_clear 24 = .ok (.getfield 35, 3) := by decide +kernel
theorem dX5_clear_27 : decode cX5_clear 27 = .ok (.iconst 0, 1) := by decide +kernel
theorem dX5_clear_28 : decode cX5_clear 28 = .ok (.putfield 57, 3) := by decide +kernel
theorem dX5_clear_31 : decode cX5_clear 31 = .ok (.aload_n 0, 1) := by decide +kernel
theorem dX5_clear_32 : decode cX5_clear 32 = .ok (.getfield 42, 3) := by decide +kernel
theorem dX5_clear_35 : decode cX5_clear 35 = .ok (.iconst 0, 1) := by decide +kernel
theorem dX5_clear_36 : decode cX5_clear 36 = .ok (.putfield 58, 3) := by decide +kernel
theorem dX5_clear_39 : decode cX5_clear 39 = .ok (.aload_n 0, 1) := by decide +kernel
theorem dX5_clear_40 : decode cX5_clear 40 = .ok (.iconst 0, 1) := by decide +kernel
theorem dX5_clear_41 : decode cX5_clear 41 = .ok (.putfield 46, 3) := by decide +kernel
theorem dX5_clear_44 : decode cX5_clear 44 = .ok (.return_, 1) := by decide +kernel
set_option maxRecDepth 20000 in
theorem ggX5_take_X3_add : GoodIn wsX5_take wsX3_add := goodIn_r _ [10, 11, 12, 13, 14, 15, 16, 110, 111, 112, 113, 114, 115] (by decide +kernel) (by decide +kernel)
set_option maxRecDepth 20000 in
theorem gX5_take_X3_add : GoodIn wsX5_take (wsV RX5 59 RX3 yX3_add wsX3_add) := goodIn_app (goodIn_of _ (by decide +kernel)) ggX5_take_X3_add
set_option maxRecDepth 20000 in
theorem ggX5_take_X1_add : GoodIn wsX5_take wsX1_add := goodIn_r _ [21, 22, 116] (by decide +kernel) (by decide +kernel)
set_option maxRecDepth 20000 in
theorem gX5_take_X1_add : GoodIn wsX5_take (wsV RX5 63 RX1 yX1_add wsX1_add) := goodIn_app (goodIn_of _ (by decide +kernel)) ggX5_take_X1_add
set_option maxRecDepth 20000 in
theorem ggX5_take_X2_add : GoodIn wsX5_take wsX2_add := goodIn_r _ [27, 28, 29, 30, 31, 32, 117, 118, 119, 120, 121] (by decide +kernel) (by decide +kernel)
set_option maxRecDepth 20000 in
theorem gX5_take_X2_add : GoodIn wsX5_take (wsV RX5 66 RX2 yX2_add wsX2_add) := goodIn_app (goodIn_of _ (by decide +kernel)) ggX5_take_X2_add
set_option maxRecDepth 20000 in
theorem ggX5_take_X5_setBroken : GoodIn wsX5_take wsX5_setBroken := goodIn_r _ [37, 1, 38, 39, 40, 5, 41, 42, 43, 44, 9, 45, 11, 46, 47, 48, 49, 50, 51, 52, 53, 54, 55, 56, 57, 58, 104, 105, 106, 107, 108, 109, 110, 111, 112, 113, 114, 115, 122, 123, 124, 125, 126, 127, 128, 129] (by decide +kernel) (by decide +kernel)
set_option maxRecDepth 20000 in
theorem gX5_take_X5_setBroken : GoodIn wsX5_take (wsV RX5 69 RX5 yX5_setBroken wsX5_setBroken) := goodIn_app (goodIn_of _ (by decide +kernel)) ggX5_take_X5_setBroken
set_option maxRecDepth 20000 in
theorem ggX5_take_X4_add : GoodIn wsX5_take wsX4_add := goodIn_r _ [63, 64, 65, 66, 67, 68, 69, 70, 130, 131, 132, 133, 134, 135, 136] (by decide +kernel) (by decide +kernel)
set_option maxRecDepth 20000 in
theorem gX5_take_X4_add : GoodIn wsX5_take (wsV RX5 72 RX4 yX4_add wsX4_add) := goodIn_app (goodIn_of _ (by decide +kernel)) ggX5_take_X4_add
set_option maxRecDepth 20000 in
theorem ggX5_take_X4_place : GoodIn wsX5_take wsX4_place := goodIn_r _ [74, 66, 70, 75, 76, 77, 62, 78, 64, 130, 131, 132, 133, 134, 135, 136] (by decide +kernel) (by decide +kernel)
set_option maxRecDepth 20000 in
theorem gX5_take_X4_place : GoodIn wsX5_take (wsV RX5 73 RX4 yX4_place wsX4_place) := goodIn_app (goodIn_of _ (by decide +kernel)) ggX5_take_X4_place
set_option maxRecDepth 20000 in
theorem ggX5_take_X4_callOff : GoodIn wsX5_take wsX4_callOff := goodIn_r _ [82, 69, 75, 76, 77, 62, 78, 64, 130, 131, 132, 133, 134, 135, 136] (by decide +kernel) (by decide +kernel)
set_option maxRecDepth 20000 in
theorem gX5_take_X4_callOff : GoodIn wsX5_take (wsV RX5 76 RX4 yX4_callOff wsX4_callOff) := goodIn_app (goodIn_of _ (by decide +kernel)) ggX5_take_X4_callOff
set_option maxRecDepth 20000 in
theorem ggX5_take_X4_placeSwapped : GoodIn wsX5_take wsX4_placeSwapped := goodIn_r _ [86, 70, 75, 76, 77, 62, 78, 64, 87, 88, 89, 90, 66, 130, 131, 132, 133, 134, 135, 136] (by decide +kernel) (by decide +kernel)
set_option maxRecDepth 20000 in
theorem gX5_take_X4_placeSwapped : GoodIn wsX5_take (wsV RX5 80 RX4 yX4_placeSwapped wsX4_placeSwapped) := goodIn_app (goodIn_of _ (by decide +kernel)) ggX5_take_X4_placeSwapped
set_option maxRecDepth 20000 in
theorem ggX5_take_X0_add : GoodIn wsX5_take wsX0_add := goodIn_r _ [94, 58, 95, 96, 97, 98, 99, 47, 48, 49, 50, 51, 52, 53, 54, 55, 56, 57, 122, 123, 124, 125, 126, 127, 128, 129] (by decide +kernel) (by decide +kernel)
set_option maxRecDepth 20000 in
theorem gX5_take_X0_add : GoodIn wsX5_take (wsV RX5 83 RX0 yX0_add wsX0_add) := goodIn_app (goodIn_of _ (by decide +kernel)) ggX5_take_X0_add
set_option maxRecDepth 20000 in
theorem ggX5_take_X0_setUrgency : GoodIn wsX5_take wsX0_setUrgency := goodIn_r _ [103, 96, 54, 55, 56, 49, 57, 58, 122, 123, 124, 125, 126, 127, 128, 129] (by decide +kernel) (by decide +kernel)
set_option maxRecDepth 20000 in
theorem gX5_take_X0_setUrgency : GoodIn wsX5_take (wsV RX5 84 RX0 yX0_setUrgency wsX0_setUrgency) := goodIn_app (goodIn_of _ (by decide +kernel)) ggX5_take_X0_setUrgency
theorem dX5_take_0 : decode cX5_take 0 = .ok (.iload_n 1, 1) := by decide +kernel
theorem dX5_take_1 : decode cX5_take 1 = .ok (.tableswitch 183 0 9 #[55, 67, 81, 97, 106, 122, 134, 145, 157, 171], 55) := by decide +kernel
theorem dX5_take_56 : decode cX5_take 56 = .ok (.aload_n 0, 1) := by decide +kernel
theorem dX5_take_57 : decode cX5_take 57 = .ok (.getfield 12, 3) := by decide +kernel
theorem dX5_take_60 : decode cX5_take 60 = .ok (.iload_n 2, 1) := by decide +kernel
theorem dX5_take_61 : decode cX5_take 61 = .ok (.iload_n 3, 1) := by decide +kernel
theorem dX5_take_62 : decode cX5_take 62 = .ok (.invokevirtual 59, 3) := by decide +kernel
theorem dX5_take_65 : decode cX5_take 65 = .ok (.goto 119, 3) := by decide +kernel
theorem dX5_take_68 : decode cX5_take 68 = .ok (.aload_n 0, 1) := by decide +kernel
theorem dX5_take_69 : decode cX5_take 69 = .ok (.getfield 28, 3) := by decide +kernel
theorem dX5_take_72 : decode cX5_take 72 = .ok (.iload_n 2, 1) := by decide +kernel
theorem dX5_take_73 : decode cX5_take 73 = .ok (.iload_n 3, 1) := by decide +kernel
theorem dX5_take_74 : decode cX5_take 74 = .ok (.iload 4, 2) := by decide +kernel
theorem dX5_take_76 : decode cX5_take 76 = .ok (.invokevirtual 63, 3) := by decide +kernel
theorem dX5_take_79 : decode cX5_take 79 = .ok (.goto 105, 3) := by decide +kernel
theorem dX5_take_82 : decode cX5_take 82 = .ok (.aload_n 0, 1) := by decide +kernel
theorem dX5_take_83 : decode cX5_take 83 = .ok (.getfield 21, 3) := by decide +kernel
theorem dX5_take_86 : decode cX5_take 86 = .ok (.iload_n 2, 1) := by decide +kernel
theorem dX5_take_87 : decode cX5_take 87 = .ok (.iload_n 3, 1) := by decide +kernel
theorem dX5_take_88 : decode cX5_take 88 = .ok (.iload 4, 2) := by decide +kernel
theorem dX5_take_90 : decode cX5_take 90 = .ok (.iload 5, 2) := by decide +kernel
theorem dX5_take_92 : decode cX5_take 92 = .ok (.invokevirtual 66, 3) := by decide +kernel
theorem dX5_take_95 : decode cX5_take 95 = .ok (.goto 89, 3) := by decide +kernel
theorem dX5_take_98 : decode cX5_take 98 = .ok (.aload_n 0, 1) := by decide +kernel
theorem dX5_take_99 : decode cX5_take 99 = .ok (.iload_n 2, 1) := by decide +kernel
theorem dX5_take_100 : decode cX5_take 100 = .ok (.iload_n 3, 1) := by decide +kernel
theorem dX5_take_101 : decode cX5_take 101 = .ok (.invokevirtual 69, 3) := by decide +kernel
theorem dX5_take_104 : decode cX5_take 104 = .ok (.goto 80, 3) := by decide +kernel
theorem dX5_take_107 : decode cX5_take 107 = .ok (.aload_n 0, 1) := by decide +kernel
theorem dX5_take_108 : decode cX5_take 108 = .ok (.getfield 35, 3) := by decide +kernel
theorem dX5_take_111 : decode cX5_take 111 = .ok (.iload_n 2, 1) := by decide +kernel
theorem dX5_take_112 : decode cX5_take 112 = .ok (.iload_n 3, 1) := by decide +kernel
theorem dX5_take_113 : decode cX5_take 113 = .ok (.iload 4, 2) := by decide +kernel
theorem dX5_take_115 : decode cX5_take 115 = .ok (.iload 5, 2) := by decide +kernel
theorem dX5_take_117 : decode cX5_take 117 = .ok (.invokevirtual 72, 3) := by decide +kernel
theorem dX5_take_120 : decode cX5_take 120 = .ok (.goto 64, 3) := by decide +kernel
theorem dX5_take_123 : decode cX5_take 123 = .ok (.aload_n 0, 1) := by decide +kernel
theorem dX5_take_124 : decode cX5_take 124 = .ok (.getfield 35, 3) := by decide +kernel
theorem dX5_take_127 : decode cX5_take 127 = .ok (.iload_n 2, 1) := by decide +kernel
theorem dX5_take_128 : decode cX5_take 128 = .ok (.iload_n 3, 1) := by decide +kernel
theorem dX5_take_129 : decode cX5_take 129 = .ok (.invokevirtual 73, 3) := by decide +kernel
theorem dX5_take_132 : decode cX5_take 132 = .ok (.goto 52, 3) := by decide +kernel
theorem dX5_take_135 : decode cX5_take 135 = .ok (.aload_n 0, 1) := by decide +kernel
theorem dX5_take_136 : decode cX5_take 136 = .ok (.getfield 35, 3) := by decide +kernel
theorem dX5_take_139 : decode cX5_take 139 = .ok (.iload_n 2, 1) := by decide +kernel
theorem dX5_take_140 : decode cX5_take 140 = .ok (.invokevirtual 76, 3) := by decide +kernel
theorem dX5_take_143 : decode cX5_take 143 = .ok (.goto 41, 3) := by decide +kernel
theorem dX5_take_146 : decode cX5_take 146 = .ok (.aload_n 0, 1) := by decide +kernel
theorem dX5_take_147 : decode cX5_take 147 = .ok (.getfield 35, 3) := by decide +kernel
theorem dX5_take_150 : decode cX5_take 150 = .ok (.iload_n 2, 1) := by decide +kernel
theorem dX5_take_151 : decode cX5_take 151 = .ok (.iload_n 3, 1) := by decide +kernel
theorem dX5_take_152 : decode cX5_take 152 = .ok (.invokevirtual 80, 3) := by decide +kernel
theorem dX5_take_155 : decode cX5_take 155 = .ok (.goto 29, 3) := by decide +kernel
theorem dX5_take_158 : decode cX5_take 158 = .ok (.aload_n 0, 1) := by decide +kernel
theorem dX5_take_159 : decode cX5_take 159 = .ok (.getfield 42, 3) := by decide +kernel
theorem dX5_take_162 : decode cX5_take 162 = .ok (.iload_n 2, 1) := by decide +kernel
theorem dX5_take_163 : decode cX5_take 163 = .ok (.iload_n 3, 1) := by decide +kernel
theorem dX5_take_164 : decode cX5_take 164 = .ok (.iload 4, 2) := by decide +kernel
theorem dX5_take_166 : decode cX5_take 166 = .ok (.invokevirtual 83, 3) := by decide +kernel
theorem dX5_take_169 : decode cX5_take 169 = .ok (.goto 15, 3) := by decide +kernel
theorem dX5_take_172 : decode cX5_take 172 = .ok (.aload_n 0, 1) := by decide +kernel
theorem dX5_take_173 : decode cX5_take 173 = .ok (.getfield 42, 3) := by decide +kernel
theorem dX5_take_176 : decode cX5_take 176 = .ok (.iload_n 2, 1) := by decide +kernel
theorem dX5_take_177 : decode cX5_take 177 = .ok (.iload_n 3, 1) := by decide +kernel
theorem dX5_take_178 : decode cX5_take 178 = .ok (.invokevirtual 84, 3) := by decide +kernel
theorem dX5_take_181 : decode cX5_take 181 = .ok (.goto 3, 3) := by decide +kernel
theorem dX5_take_184 : decode cX5_take 184 = .ok (.return_, 1) := by decide +kernel
set_option maxRecDepth 20000 in
theorem ggX5_setBroken_X3_knows : GoodIn wsX5_setBroken wsX3_knows := goodIn_r _ [11, 12, 32, 33, 34, 35, 36, 37] (by decide +kernel) (by decide +kernel)
set_option maxRecDepth 20000 in
theorem gX5_setBroken_X3_knows : GoodIn wsX5_setBroken (wsV RX5 87 RX3 yX3_knows wsX3_knows) := goodIn_app (goodIn_of _ (by decide +kernel)) ggX5_setBroken_X3_knows
set_option maxRecDepth 20000 in
theorem ggX5_setBroken_X0_enqueue : GoodIn wsX5_setBroken wsX0_enqueue := goodIn_r _ [17, 18, 19, 20, 21, 22, 23, 16, 24, 25, 38, 39, 40, 41, 42, 43, 44, 45] (by decide +kernel) (by decide +kernel)
set_option maxRecDepth 20000 in
theorem gX5_setBroken_X0_enqueue : GoodIn wsX5_setBroken (wsV RX5 101 RX0 yX0_enqueue wsX0_enqueue) := goodIn_app (goodIn_of _ (by decide +kernel)) ggX5_setBroken_X0_enqueue
theorem dX5_setBroken_0 : decode cX5_setBroken 0 = .ok (.aload_n 0, 1) := by decide +kernel
theorem dX5_setBroken_1 : decode cX5_setBroken 1 = .ok (.getfield 12, 3) := by decide +kernel
theorem dX5_setBroken_4 : decode cX5_setBroken 4 = .ok (.iload_n 1, 1) := by decide +kernel
theorem dX5_setBroken_5 : decode cX5_setBroken 5 = .ok (.invokevirtual 87, 3) := by decide +kernel
theorem dX5_setBroken_8 : decode cX5_setBroken 8 = .ok (.ifCond .eq 61, 3) := by decide +kernel
theorem dX5_setBroken_11 : decode cX5_setBroken 11 = .ok (.aload_n 0, 1) := by decide +kernel
theorem dX5_setBroken_12 : decode cX5_setBroken 12 = .ok (.getfield 12, 3) := by decide +kernel
theorem dX5_setBroken_15 : decode cX5_setBroken 15 = .ok (.getfield 91, 3) := by decide +kernel
theorem dX5_setBroken_18 : decode cX5_setBroken 18 = .ok (.iload_n 1, 1) := by decide +kernel
theorem dX5_setBroken_19 : decode cX5_setBroken 19 = .ok (.aload_n 0, 1) := by decide +kernel
theorem dX5_setBroken_20 : decode cX5_setBroken 20 = .ok (.getfield 46, 3) := by decide +kernel
theorem dX5_setBroken_23 : decode cX5_setBroken 23 = .ok (.iastore, 1) := by decide +kernel
theorem dX5_setBroken_24 : decode cX5_setBroken 24 = .ok (.aload_n 0, 1) := by decide +kernel
theorem dX5_setBroken_25 : decode cX5_setBroken 25 = .ok (.getfield 12, 3) := by decide +kernel
theorem dX5_setBroken_28 : decode cX5_setBroken 28 = .ok (.getfield 95, 3) := by decide +kernel
theorem dX5_setBroken_31 : decode cX5_setBroken 31 = .ok (.iload_n 1, 1) := by decide +kernel
theorem dX5_setBroken_32 : decode cX5_setBroken 32 = .ok (.aload_n 0, 1) := by decide +kernel
theorem dX5_setBroken_33 : decode cX5_setBroken 33 = .ok (.getfield 46, 3) := by decide +kernel
theorem dX5_setBroken_36 : decode cX5_setBroken 36 = .ok (.iload_n 2, 1) := by decide +kernel
theorem dX5_setBroken_37 : decode cX5_setBroken 37 = .ok (.iadd, 1) := by decide +kernel
theorem dX5_setBroken_38 : decode cX5_setBroken 38 = .ok (.iastore, 1) := by decide +kernel
theorem dX5_setBroken_39 : decode cX5_setBroken 39 = .ok (.iload_n 2, 1) := by decide +kernel
theorem dX5_setBroken_40 : decode cX5_setBroken 40 = .ok (.ifCond .le 29, 3) := by decide +kernel
theorem dX5_setBroken_43 : decode cX5_setBroken 43 = .ok (.aload_n 0, 1) := by decide +kernel
theorem dX5_setBroken_44 : decode cX5_setBroken 44 = .ok (.getfield 42, 3) := by decide +kernel
theorem dX5_setBroken_47 : decode cX5_setBroken 47 = .ok (.aload_n 0, 1) := by decide +kernel
theorem dX5_setBroken_48 : decode cX5_setBroken 48 = .ok (.getfield 12, 3) := by decide +kernel
theorem dX5_setBroken_51 : decode cX5_setBroken 51 = .ok (.getfield 98, 3) := by decide +kernel
theorem dX5_setBroken_54 : decode cX5_setBroken 54 = .ok (.iload_n 1, 1) := by decide +kernel
theorem dX5_setBroken_55 : decode cX5_setBroken 55 = .ok (.iaload, 1) := by decide +kernel
theorem dX5_setBroken_56 : decode cX5_setBroken 56 = .ok (.invokevirtual 101, 3) := by decide +kernel
theorem dX5_setBroken_59 : decode cX5_setBroken 59 = .ok (.aload_n 0, 1) := by decide +kernel
theorem dX5_setBroken_60 : decode cX5_setBroken 60 = .ok (.getfield 12, 3) := by decide +kernel
theorem dX5_setBroken_63 : decode cX5_setBroken 63 = .ok (.getfield 98, 3) := by decide +kernel
theorem dX5_setBroken_66 : decode cX5_setBroken 66 = .ok (.iload_n 1, 1) := by decide +kernel
theorem dX5_setBroken_67 : decode cX5_setBroken 67 = .ok (.iconst (-1), 1) := by decide +kernel
theorem dX5_setBroken_68 : decode cX5_setBroken 68 = .ok (.iastore, 1) := by decide +kernel
theorem dX5_setBroken_69 : decode cX5_setBroken 69 = .ok (.return_, 1) := by decide +kernel
set_option maxRecDepth 20000 in
theorem ggX5_holder_X2_borrower : GoodIn wsX5_holder wsX2_borrower := goodIn_r _ [8, 9, 10, 11, 12, 13, 32, 33, 34, 35, 36] (by decide +kernel) (by decide +kernel)
set_option maxRecDepth 20000 in
theorem gX5_holder_X2_borrower : GoodIn wsX5_holder (wsV RX5 104 RX2 yX2_borrower wsX2_borrower) := goodIn_app (goodIn_of _ (by decide +kernel)) ggX5_holder_X2_borrower
set_option maxRecDepth 20000 in
theorem ggX5_holder_X3_knows : GoodIn wsX5_holder wsX3_knows := goodIn_r _ [18, 19, 26, 27, 28, 29, 30, 31] (by decide +kernel) (by decide +kernel)
set_option maxRecDepth 20000 in
theorem gX5_holder_X3_knows : GoodIn wsX5_holder (wsV RX5 87 RX3 yX3_knows wsX3_knows) := goodIn_app (goodIn_of _ (by decide +kernel)) ggX5_holder_X3_knows
theorem dX5_holder_0 : decode cX5_holder 0 = .ok (.aload_n 0, 1) := by decide +kernel
theorem dX5_holder_1 : decode cX5_holder 1 = .ok (.getfield 21, 3) := by decide +kernel
theorem dX5_holder_4 : decode cX5_holder 4 = .ok (.iload_n 1, 1) := by decide +kernel
theorem dX5_holder_5 : decode cX5_holder 5 = .ok (.iload_n 2, 1) := by decide +kernel
theorem dX5_holder_6 : decode cX5_holder 6 = .ok (.invokevirtual 104, 3) := by decide +kernel
theorem dX5_holder_9 : decode cX5_holder 9 = .ok (.istore_n 3, 1) := by decide +kernel
theorem dX5_holder_10 : decode cX5_holder 10 = .ok (.iload_n 3, 1) := by decide +kernel
theorem dX5_holder_11 : decode cX5_holder 11 = .ok (.iconst (-1), 1) := by decide +kernel
theorem dX5_holder_12 : decode cX5_holder 12 = .ok (.if_icmp .ne 26, 3) := by decide +kernel
theorem dX5_holder_15 : decode cX5_holder 15 = .ok (.aload_n 0, 1) := by decide +kernel
theorem dX5_holder_16 : decode cX5_holder 16 = .ok (.getfield 12, 3) := by decide +kernel
theorem dX5_holder_19 : decode cX5_holder 19 = .ok (.iload_n 1, 1) := by decide +kernel
theorem dX5_holder_20 : decode cX5_holder 20 = .ok (.invokevirtual 87, 3) := by decide +kernel
theorem dX5_holder_23 : decode cX5_holder 23 = .ok (.ifCond .eq 15, 3) := by decide +kernel
theorem dX5_holder_26 : decode cX5_holder 26 = .ok (.aload_n 0, 1) := by decide +kernel
theorem dX5_holder_27 : decode cX5_holder 27 = .ok (.getfield 12, 3) := by decide +kernel
theorem dX5_holder_30 : decode cX5_holder 30 = .ok (.getfield 108, 3) := by decide +kernel
theorem dX5_holder_33 : decode cX5_holder 33 = .ok (.iload_n 1, 1) := by decide +kernel
theorem dX5_holder_34 : decode cX5_holder 34 = .ok (.iaload, 1) := by decide +kernel
theorem dX5_holder_35 : decode cX5_holder 35 = .ok (.goto 4, 3) := by decide +kernel
theorem dX5_holder_38 : decode cX5_holder 38 = .ok (.iload_n 3, 1) := by decide +kernel
theorem dX5_holder_39 : decode cX5_holder 39 = .ok (.ireturn, 1) := by decide +kernel
set_option maxRecDepth 20000 in
theorem ggX5_isAhead_X4_knows : GoodIn wsX5_isAhead wsX4_knows := goodIn_r _ [9, 10, 17, 18, 19, 20, 21, 22, 23] (by decide +kernel) (by decide +kernel)
set_option maxRecDepth 20000 in
theorem gX5_isAhead_X4_knows : GoodIn wsX5_isAhead (wsV RX5 111 RX4 yX4_knows wsX4_knows) := goodIn_app (goodIn_of _ (by decide +kernel)) ggX5_isAhead_X4_knows
theorem dX5_isAhead_0 : decode cX5_isAhead 0 = .ok (.aload_n 0, 1) := by decide +kernel
theorem dX5_isAhead_1 : decode cX5_isAhead 1 = .ok (.getfield 35, 3) := by decide +kernel
theorem dX5_isAhead_4 : decode cX5_isAhead 4 = .ok (.iload_n 1, 1) := by decide +kernel
theorem dX5_isAhead_5 : decode cX5_isAhead 5 = .ok (.invokevirtual 111, 3) := by decide +kernel
theorem dX5_isAhead_8 : decode cX5_isAhead 8 = .ok (.ifCond .eq 35, 3) := by decide +kernel
theorem dX5_isAhead_11 : decode cX5_isAhead 11 = .ok (.aload_n 0, 1) := by decide +kernel
theorem dX5_isAhead_12 : decode cX5_isAhead 12 = .ok (.getfield 35, 3) := by decide +kernel
theorem dX5_isAhead_15 : decode cX5_isAhead 15 = .ok (.getfield 112, 3) := by decide +kernel
theorem dX5_isAhead_18 : decode cX5_isAhead 18 = .ok (.iload_n 1, 1) := by decide +kernel
theorem dX5_isAhead_19 : decode cX5_isAhead 19 = .ok (.iaload, 1) := by decide +kernel
theorem dX5_isAhead_20 : decode cX5_isAhead 20 = .ok (.ifCond .ne 23, 3) := by decide +kernel
theorem dX5_isAhead_23 : decode cX5_isAhead 23 = .ok (.aload_n 0, 1) := by decide +kernel
theorem dX5_isAhead_24 : decode cX5_isAhead 24 = .ok (.getfield 35, 3) := by decide +kernel
theorem dX5_isAhead_27 : decode cX5_isAhead 27 = .ok (.getfield 115, 3) := by decide +kernel
theorem dX5_isAhead_30 : decode cX5_isAhead 30 = .ok (.iload_n 1, 1) := by decide +kernel
theorem dX5_isAhead_31 : decode cX5_isAhead 31 = .ok (.iaload, 1) := by decide +kernel
theorem dX5_isAhead_32 : decode cX5_isAhead 32 = .ok (.aload_n 0, 1) := by decide +kernel
theorem dX5_isAhead_33 : decode cX5_isAhead 33 = .ok (.getfield 46, 3) := by decide +kernel
theorem dX5_isAhead_36 : decode cX5_isAhead 36 = .ok (.if_icmp .lt 7, 3) := by decide +kernel
theorem dX5_isAhead_39 : decode cX5_isAhead 39 = .ok (.iconst 1, 1) := by decide +kernel
theorem dX5_isAhead_40 : decode cX5_isAhead 40 = .ok (.goto 4, 3) := by decide +kernel
theorem dX5_isAhead_43 : decode cX5_isAhead 43 = .ok (.iconst 0, 1) := by decide +kernel
theorem dX5_isAhead_44 : decode cX5_isAhead 44 = .ok (.ireturn, 1) := by decide +kernel
set_option maxRecDepth 20000 in
theorem ggX5_runsIn_X3_knows : GoodIn wsX5_runsIn wsX3_knows := goodIn_r _ [10, 11, 27, 28, 29, 30, 31, 32] (by decide +kernel) (by decide +kernel)
set_option maxRecDepth 20000 in
theorem gX5_runsIn_X3_knows : GoodIn wsX5_runsIn (wsV RX5 87 RX3 yX3_knows wsX3_knows) := goodIn_app (goodIn_of _ (by decide +kernel)) ggX5_runsIn_X3_knows
set_option maxRecDepth 20000 in
theorem ggX5_runsIn_X0_knows : GoodIn wsX5_runsIn wsX0_knows := goodIn_r _ [16, 17, 33, 34, 35, 36, 37, 38, 39, 40] (by decide +kernel) (by decide +kernel)
set_option maxRecDepth 20000 in
theorem gX5_runsIn_X0_knows : GoodIn wsX5_runsIn (wsV RX5 117 RX0 yX0_knows wsX0_knows) := goodIn_app (goodIn_of _ (by decide +kernel)) ggX5_runsIn_X0_knows
set_option maxRecDepth 20000 in
theorem ggX5_runsIn_X8_overlap : GoodIn wsX5_runsIn wsX8_overlap := goodIn_r _ [20] (by decide +kernel) (by decide +kernel)
set_option maxRecDepth 20000 in
theorem gX5_runsIn_X8_overlap_n124 : GoodIn wsX5_runsIn (wsX8_overlap) := ggX5_runsIn_X8_overlap
theorem dX5_runsIn_0 : decode cX5_runsIn 0 = .ok (.aload_n 0, 1) := by decide +kernel
theorem dX5_runsIn_1 : decode cX5_runsIn 1 = .ok (.getfield 12, 3) := by decide +kernel
theorem dX5_runsIn_4 : decode cX5_runsIn 4 = .ok (.iload_n 1, 1) := by decide +kernel
theorem dX5_runsIn_5 : decode cX5_runsIn 5 = .ok (.invokevirtual 87, 3) := by decide +kernel
theorem dX5_runsIn_8 : decode cX5_runsIn 8 = .ok (.ifCond .ne 5, 3) := by decide +kernel
theorem dX5_runsIn_11 : decode cX5_runsIn 11 = .ok (.iconst 0, 1) := by decide +kernel
theorem dX5_runsIn_12 : decode cX5_runsIn 12 = .ok (.ireturn, 1) := by decide +kernel
theorem dX5_runsIn_13 : decode cX5_runsIn 13 = .ok (.aload_n 0, 1) := by decide +kernel
theorem dX5_runsIn_14 : decode cX5_runsIn 14 = .ok (.getfield 12, 3) := by decide +kernel
theorem dX5_runsIn_17 : decode cX5_runsIn 17 = .ok (.getfield 98, 3) := by decide +kernel
theorem dX5_runsIn_20 : decode cX5_runsIn 20 = .ok (.iload_n 1, 1) := by decide +kernel
theorem dX5_runsIn_21 : decode cX5_runsIn 21 = .ok (.iaload, 1) := by decide +kernel
theorem dX5_runsIn_22 : decode cX5_runsIn 22 = .ok (.istore 4, 2) := by decide +kernel
theorem dX5_runsIn_24 : decode cX5_runsIn 24 = .ok (.aload_n 0, 1) := by decide +kernel
theorem dX5_runsIn_25 : decode cX5_runsIn 25 = .ok (.getfield 42, 3) := by decide +kernel
theorem dX5_runsIn_28 : decode cX5_runsIn 28 = .ok (.iload 4, 2) := by decide +kernel
theorem dX5_runsIn_30 : decode cX5_runsIn 30 = .ok (.invokevirtual 117, 3) := by decide +kernel
theorem dX5_runsIn_33 : decode cX5_runsIn 33 = .ok (.ifCond .eq 35, 3) := by decide +kernel
theorem dX5_runsIn_36 : decode cX5_runsIn 36 = .ok (.aload_n 0, 1) := by decide +kernel
theorem dX5_runsIn_37 : decode cX5_runsIn 37 = .ok (.getfield 42, 3) := by decide +kernel
theorem dX5_runsIn_40 : decode cX5_runsIn 40 = .ok (.getfield 118, 3) := by decide +kernel
theorem dX5_runsIn_43 : decode cX5_runsIn 43 = .ok (.iload 4, 2) := by decide +kernel
theorem dX5_runsIn_45 : decode cX5_runsIn 45 = .ok (.iaload, 1) := by decide +kernel
theorem dX5_runsIn_46 : decode cX5_runsIn 46 = .ok (.aload_n 0, 1) := by decide +kernel
theorem dX5_runsIn_47 : decode cX5_runsIn 47 = .ok (.getfield 42, 3) := by decide +kernel
theorem dX5_runsIn_50 : decode cX5_runsIn 50 = .ok (.getfield 121, 3) := by decide +kernel
theorem dX5_runsIn_53 : decode cX5_runsIn 53 = .ok (.iload 4, 2) := by decide +kernel
theorem dX5_runsIn_55 : decode cX5_runsIn 55 = .ok (.iaload, 1) := by decide +kernel
theorem dX5_runsIn_56 : decode cX5_runsIn 56 = .ok (.iload_n 2, 1) := by decide +kernel
theorem dX5_runsIn_57 : decode cX5_runsIn 57 = .ok (.iload_n 3, 1) := by decide +kernel
theorem dX5_runsIn_58 : decode cX5_runsIn 58 = .ok (.invokestatic 124, 3) := by decide +kernel
theorem dX5_runsIn_61 : decode cX5_runsIn 61 = .ok (.ifCond .eq 7, 3) := by decide +kernel
theorem dX5_runsIn_64 : decode cX5_runsIn 64 = .ok (.iconst 1, 1) := by decide +kernel
theorem dX5_runsIn_65 : decode cX5_runsIn 65 = .ok (.goto 4, 3) := by decide +kernel
theorem dX5_runsIn_68 : decode cX5_runsIn 68 = .ok (.iconst 0, 1) := by decide +kernel
theorem dX5_runsIn_69 : decode cX5_runsIn 69 = .ok (.ireturn, 1) := by decide +kernel
set_option maxRecDepth 20000 in
theorem ggX5_hasRoom_X4_busyPeople : GoodIn wsX5_hasRoom wsX4_busyPeople := goodIn_r _ [8, 9, 10, 11, 12, 13, 14, 15, 16, 66, 67, 68, 69, 70, 71, 72] (by decide +kernel) (by decide +kernel)
set_option maxRecDepth 20000 in
theorem gX5_hasRoom_X4_busyPeople : GoodIn wsX5_hasRoom (wsV RX5 128 RX4 yX4_busyPeople wsX4_busyPeople) := goodIn_app (goodIn_of _ (by decide +kernel)) ggX5_hasRoom_X4_busyPeople
set_option maxRecDepth 20000 in
theorem ggX5_hasRoom_X1_peopleAway : GoodIn wsX5_hasRoom wsX1_peopleAway := goodIn_r _ [21, 22, 23, 24, 20, 25, 26, 73] (by decide +kernel) (by decide +kernel)
set_option maxRecDepth 20000 in
theorem gX5_hasRoom_X1_peopleAway : GoodIn wsX5_hasRoom (wsV RX5 132 RX1 yX1_peopleAway wsX1_peopleAway) := goodIn_app (goodIn_of _ (by decide +kernel)) ggX5_hasRoom_X1_peopleAway
set_option maxRecDepth 20000 in
theorem ggX5_hasRoom_X4_isPromised : GoodIn wsX5_hasRoom wsX4_isPromised := goodIn_r _ [30, 9, 31, 10, 11, 12, 14, 15, 16, 66, 67, 68, 69, 70, 71, 72] (by decide +kernel) (by decide +kernel)
set_option maxRecDepth 20000 in
theorem gX5_hasRoom_X4_isPromised : GoodIn wsX5_hasRoom (wsV RX5 136 RX4 yX4_isPromised wsX4_isPromised) := goodIn_app (goodIn_of _ (by decide +kernel)) ggX5_hasRoom_X4_isPromised
set_option maxRecDepth 20000 in
theorem ggX5_hasRoom_X5_runsIn : GoodIn wsX5_hasRoom wsX5_runsIn := goodIn_r _ [36, 3, 37, 38, 39, 40, 41, 42, 43, 44, 45, 46, 47, 48, 49, 50, 51, 52, 14, 15, 16, 60, 61, 62, 63, 64, 65, 74, 75, 76, 77, 78, 79, 80, 81, 82, 83, 84, 85, 86, 87] (by decide +kernel) (by decide +kernel)
set_option maxRecDepth 20000 in
theorem gX5_hasRoom_X5_runsIn : GoodIn wsX5_hasRoom (wsV RX5 139 RX5 yX5_runsIn wsX5_runsIn) := goodIn_app (goodIn_of _ (by decide +kernel)) ggX5_hasRoom_X5_runsIn
set_option maxRecDepth 20000 in
theorem ggX5_hasRoom_X3_isBroken : GoodIn wsX5_hasRoom wsX3_isBroken := goodIn_r _ [56, 57, 58, 59, 42, 43, 44, 45, 46, 14, 15, 16, 74, 75, 76, 77, 78, 79] (by decide +kernel) (by decide +kernel)
set_option maxRecDepth 20000 in
theorem gX5_hasRoom_X3_isBroken : GoodIn wsX5_hasRoom (wsV RX5 143 RX3 yX3_isBroken wsX3_isBroken) := goodIn_app (goodIn_of _ (by decide +kernel)) ggX5_hasRoom_X3_isBroken
theorem dX5_hasRoom_0 : decode cX5_hasRoom 0 = .ok (.aload_n 0, 1) := by decide +kernel
theorem dX5_hasRoom_1 : decode cX5_hasRoom 1 = .ok (.getfield 35, 3) := by decide +kernel
theorem dX5_hasRoom_4 : decode cX5_hasRoom 4 = .ok (.iload_n 2, 1) := by decide +kernel
theorem dX5_hasRoom_5 : decode cX5_hasRoom 5 = .ok (.iload_n 3, 1) := by decide +kernel
theorem dX5_hasRoom_6 : decode cX5_hasRoom 6 = .ok (.iload 5, 2) := by decide +kernel
theorem dX5_hasRoom_8 : decode cX5_hasRoom 8 = .ok (.invokevirtual 128, 3) := by decide +kernel
theorem dX5_hasRoom_11 : decode cX5_hasRoom 11 = .ok (.aload_n 0, 1) := by decide +kernel
theorem dX5_hasRoom_12 : decode cX5_hasRoom 12 = .ok (.getfield 28, 3) := by decide +kernel
theorem dX5_hasRoom_15 : decode cX5_hasRoom 15 = .ok (.iload_n 2, 1) := by decide +kernel
theorem dX5_hasRoom_16 : decode cX5_hasRoom 16 = .ok (.invokevirtual 132, 3) := by decide +kernel
theorem dX5_hasRoom_19 : decode cX5_hasRoom 19 = .ok (.ior, 1) := by decide +kernel
theorem dX5_hasRoom_20 : decode cX5_hasRoom 20 = .ok (.istore 6, 2) := by decide +kernel
theorem dX5_hasRoom_22 : decode cX5_hasRoom 22 = .ok (.iload_n 1, 1) := by decide +kernel
theorem dX5_hasRoom_23 : decode cX5_hasRoom 23 = .ok (.iload 6, 2) := by decide +kernel
theorem dX5_hasRoom_25 : decode cX5_hasRoom 25 = .ok (.iand, 1) := by decide +kernel
theorem dX5_hasRoom_26 : decode cX5_hasRoom 26 = .ok (.ifCond .ne 54, 3) := by decide +kernel
theorem dX5_hasRoom_29 : decode cX5_hasRoom 29 = .ok (.iload 4, 2) := by decide +kernel
theorem dX5_hasRoom_31 : decode cX5_hasRoom 31 = .ok (.iconst (-1), 1) := by decide +kernel
theorem dX5_hasRoom_32 : decode cX5_hasRoom 32 = .ok (.if_icmp .eq 44, 3) := by decide +kernel
theorem dX5_hasRoom_35 : decode cX5_hasRoom 35 = .ok (.aload_n 0, 1) := by decide +kernel
theorem dX5_hasRoom_36 : decode cX5_hasRoom 36 = .ok (.getfield 35, 3) := by decide +kernel
theorem dX5_hasRoom_39 : decode cX5_hasRoom 39 = .ok (.iload 4, 2) := by decide +kernel
theorem dX5_hasRoom_41 : decode cX5_hasRoom 41 = .ok (.iload_n 2, 1) := by decide +kernel
theorem dX5_hasRoom_42 : decode cX5_hasRoom 42 = .ok (.iload_n 3, 1) := by decide +kernel
theorem dX5_hasRoom_43 : decode cX5_hasRoom 43 = .ok (.iload 5, 2) := by decide +kernel
theorem dX5_hasRoom_45 : decode cX5_hasRoom 45 = .ok (.invokevirtual 136, 3) := by decide +kernel
theorem dX5_hasRoom_48 : decode cX5_hasRoom 48 = .ok (.ifCond .ne 32, 3) := by decide +kernel
theorem dX5_hasRoom_51 : decode cX5_hasRoom 51 = .ok (.aload_n 0, 1) := by decide +kernel
theorem dX5_hasRoom_52 : decode cX5_hasRoom 52 = .ok (.iload 4, 2) := by decide +kernel
theorem dX5_hasRoom_54 : decode cX5_hasRoom 54 = .ok (.iload_n 2, 1) := by decide +kernel
theorem dX5_hasRoom_55 : decode cX5_hasRoom 55 = .ok (.iload_n 3, 1) := by decide +kernel
theorem dX5_hasRoom_56 : decode cX5_hasRoom 56 = .ok (.invokevirtual 139, 3) := by decide +kernel
theorem dX5_hasRoom_59 : decode cX5_hasRoom 59 = .ok (.ifCond .ne 21, 3) := by decide +kernel
theorem dX5_hasRoom_62 : decode cX5_hasRoom 62 = .ok (.aload_n 0, 1) := by decide +kernel
theorem dX5_hasRoom_63 : decode cX5_hasRoom 63 = .ok (.getfield 12, 3) := by decide +kernel
theorem dX5_hasRoom_66 : decode cX5_hasRoom 66 = .ok (.iload 4, 2) := by decide +kernel
theorem dX5_hasRoom_68 : decode cX5_hasRoom 68 = .ok (.iload_n 2, 1) := by decide +kernel
theorem dX5_hasRoom_69 : decode cX5_hasRoom 69 = .ok (.iload_n 3, 1) := by decide +kernel
theorem dX5_hasRoom_70 : decode cX5_hasRoom 70 = .ok (.invokevirtual 143, 3) := by decide +kernel
theorem dX5_hasRoom_73 : decode cX5_hasRoom 73 = .ok (.ifCond .ne 7, 3) := by decide +kernel
theorem dX5_hasRoom_76 : decode cX5_hasRoom 76 = .ok (.iconst 1, 1) := by decide +kernel
theorem dX5_hasRoom_77 : decode cX5_hasRoom 77 = .ok (.goto 4, 3) := by decide +kernel
theorem dX5_hasRoom_80 : decode cX5_hasRoom 80 = .ok (.iconst 0, 1) := by decide +kernel
theorem dX5_hasRoom_81 : decode cX5_hasRoom 81 = .ok (.ireturn, 1) := by decide +kernel
set_option maxRecDepth 20000 in
theorem ggX5_canBe_X4_knows : GoodIn wsX5_canBe wsX4_knows := goodIn_r _ [9, 10, 79, 80, 81, 82, 83, 84, 85] (by decide +kernel) (by decide +kernel)
set_option maxRecDepth 20000 in
theorem gX5_canBe_X4_knows : GoodIn wsX5_canBe (wsV RX5 111 RX4 yX4_knows wsX4_knows) := goodIn_app (goodIn_of _ (by decide +kernel)) ggX5_canBe_X4_knows
set_option maxRecDepth 20000 in
theorem ggX5_canBe_X8_isOneDay : GoodIn wsX5_canBe wsX8_isOneDay := goodIn_r _ [13] (by decide +kernel) (by decide +kernel)
set_option maxRecDepth 20000 in
theorem gX5_canBe_X8_isOneDay_n147 : GoodIn wsX5_canBe (wsX8_isOneDay) := ggX5_canBe_X8_isOneDay
set_option maxRecDepth 20000 in
theorem ggX5_canBe_X5_hasRoom : GoodIn wsX5_canBe wsX5_hasRoom := goodIn_r _ [18, 1, 19, 20, 21, 22, 23, 8, 24, 10, 25, 26, 27, 28, 29, 12, 30, 31, 32, 33, 34, 35, 36, 37, 38, 39, 40, 41, 42, 43, 44, 45, 46, 47, 48, 17, 49, 50, 51, 52, 53, 54, 55, 56, 57, 58, 59, 60, 61, 62, 63, 64, 65, 66, 67, 68, 69, 70, 71, 72, 73, 74, 75, 76, 77, 78, 79, 80, 81, 82, 83, 84, 85, 86, 87, 88, 89, 90, 91, 92, 93, 94, 95, 96, 97, 98, 99, 100] (by decide +kernel) (by decide +kernel)
set_option maxRecDepth 20000 in
theorem gX5_canBe_X5_hasRoom : GoodIn wsX5_canBe (wsV RX5 157 RX5 yX5_hasRoom wsX5_hasRoom) := goodIn_app (goodIn_of _ (by decide +kernel)) ggX5_canBe_X5_hasRoom
theorem dX5_canBe_0 : decode cX5_canBe 0 = .ok (.aload_n 0, 1) := by decide +kernel
theorem dX5_canBe_1 : decode cX5_canBe 1 = .ok (.getfield 35, 3) := by decide +kernel
theorem dX5_canBe_4 : decode cX5_canBe 4 = .ok (.iload_n 1, 1) := by decide +kernel
theorem dX5_canBe_5 : decode cX5_canBe 5 = .ok (.invokevirtual 111, 3) := by decide +kernel
theorem dX5_canBe_8 : decode cX5_canBe 8 = .ok (.ifCond .eq 59, 3) := by decide +kernel
theorem dX5_canBe_11 : decode cX5_canBe 11 = .ok (.iload_n 2, 1) := by decide +kernel
theorem dX5_canBe_12 : decode cX5_canBe 12 = .ok (.aload_n 0, 1) := by decide +kernel
theorem dX5_canBe_13 : decode cX5_canBe 13 = .ok (.getfield 35, 3) := by decide +kernel
theorem dX5_canBe_16 : decode cX5_canBe 16 = .ok (.getfield 146, 3) := by decide +kernel
theorem dX5_canBe_19 : decode cX5_canBe 19 = .ok (.iload_n 1, 1) := by decide +kernel
theorem dX5_canBe_20 : decode cX5_canBe 20 = .ok (.iaload, 1) := by decide +kernel
theorem dX5_canBe_21 : decode cX5_canBe 21 = .ok (.invokestatic 147, 3) := by decide +kernel
theorem dX5_canBe_24 : decode cX5_canBe 24 = .ok (.ifCond .eq 43, 3) := by decide +kernel
theorem dX5_canBe_27 : decode cX5_canBe 27 = .ok (.aload_n 0, 1) := by decide +kernel
theorem dX5_canBe_28 : decode cX5_canBe 28 = .ok (.aload_n 0, 1) := by decide +kernel
theorem dX5_canBe_29 : decode cX5_canBe 29 = .ok (.getfield 35, 3) := by decide +kernel
theorem dX5_canBe_32 : decode cX5_canBe 32 = .ok (.getfield 151, 3) := by decide +kernel
theorem dX5_canBe_35 : decode cX5_canBe 35 = .ok (.iload_n 1, 1) := by decide +kernel
theorem dX5_canBe_36 : decode cX5_canBe 36 = .ok (.iaload, 1) := by decide +kernel
theorem dX5_canBe_37 : decode cX5_canBe 37 = .ok (.iload_n 2, 1) := by decide +kernel
theorem dX5_canBe_38 : decode cX5_canBe 38 = .ok (.aload_n 0, 1) := by decide +kernel
theorem dX5_canBe_39 : decode cX5_canBe 39 = .ok (.getfield 35, 3) := by decide +kernel
theorem dX5_canBe_42 : decode cX5_canBe 42 = .ok (.getfield 146, 3) := by decide +kernel
theorem dX5_canBe_45 : decode cX5_canBe 45 = .ok (.iload_n 1, 1) := by decide +kernel
theorem dX5_canBe_46 : decode cX5_canBe 46 = .ok (.iaload, 1) := by decide +kernel
theorem dX5_canBe_47 : decode cX5_canBe 47 = .ok (.aload_n 0, 1) := by decide +kernel
theorem dX5_canBe_48 : decode cX5_canBe 48 = .ok (.getfield 35, 3) := by decide +kernel
theorem dX5_canBe_51 : decode cX5_canBe 51 = .ok (.getfield 154, 3) := by decide +kernel
theorem dX5_canBe_54 : decode cX5_canBe 54 = .ok (.iload_n 1, 1) := by decide +kernel
theorem dX5_canBe_55 : decode cX5_canBe 55 = .ok (.iaload, 1) := by decide +kernel
theorem dX5_canBe_56 : decode cX5_canBe 56 = .ok (.iload_n 1, 1) := by decide +kernel
theorem dX5_canBe_57 : decode cX5_canBe 57 = .ok (.invokevirtual 157, 3) := by decide +kernel
theorem dX5_canBe_60 : decode cX5_canBe 60 = .ok (.ifCond .eq 7, 3) := by decide +kernel
theorem dX5_canBe_63 : decode cX5_canBe 63 = .ok (.iconst 1, 1) := by decide +kernel
theorem dX5_canBe_64 : decode cX5_canBe 64 = .ok (.goto 4, 3) := by decide +kernel
theorem dX5_canBe_67 : decode cX5_canBe 67 = .ok (.iconst 0, 1) := by decide +kernel
theorem dX5_canBe_68 : decode cX5_canBe 68 = .ok (.ireturn, 1) := by decide +kernel
set_option maxRecDepth 20000 in
theorem ggX5_canSwap_X4_knows : GoodIn wsX5_canSwap wsX4_knows := goodIn_r _ [7, 8, 89, 90, 91, 92, 93, 94, 95] (by decide +kernel) (by decide +kernel)
set_option maxRecDepth 20000 in
theorem gX5_canSwap_X4_knows : GoodIn wsX5_canSwap (wsV RX5 111 RX4 yX4_knows wsX4_knows) := goodIn_app (goodIn_of _ (by decide +kernel)) ggX5_canSwap_X4_knows
set_option maxRecDepth 20000 in
theorem ggX5_canSwap_X4_exchange : GoodIn wsX5_canSwap wsX4_exchange := goodIn_r _ [12, 13, 14, 4, 5, 6, 7, 8, 89, 90, 91, 92, 93, 94, 95] (by decide +kernel) (by decide +kernel)
set_option maxRecDepth 20000 in
theorem gX5_canSwap_X4_exchange : GoodIn wsX5_canSwap (wsV RX5 161 RX4 yX4_exchange wsX4_exchange) := goodIn_app (goodIn_of _ (by decide +kernel)) ggX5_canSwap_X4_exchange
set_option maxRecDepth 20000 in
theorem ggX5_canSwap_X5_canBe : GoodIn wsX5_canSwap wsX5_canBe := goodIn_r _ [19, 1, 20, 21, 22, 3, 4, 5, 6, 7, 8, 23, 24, 25, 26, 27, 28, 18, 29, 30, 31, 32, 33, 34, 35, 36, 13, 37, 38, 39, 40, 41, 42, 43, 44, 45, 46, 47, 48, 49, 50, 51, 52, 53, 54, 55, 56, 57, 58, 59, 60, 61, 62, 63, 64, 65, 66, 67, 68, 69, 70, 71, 72, 73, 74, 75, 76, 77, 78, 79, 80, 81, 82, 83, 84, 85, 86, 87, 88, 89, 90, 91, 92, 93, 94, 95, 96, 97, 98, 99, 100, 101, 102, 103, 104, 105, 106, 107, 108, 109, 110] (by decide +kernel) (by decide +kernel)
set_option maxRecDepth 20000 in
theorem gX5_canSwap_X5_canBe : GoodIn wsX5_canSwap (wsV RX5 164 RX5 yX5_canBe wsX5_canBe) := goodIn_app (goodIn_of _ (by decide +kernel)) ggX5_canSwap_X5_canBe
theorem dX5_canSwap_0 : decode cX5_canSwap 0 = .ok (.aload_n 0, 1) := by decide +kernel
theorem dX5_canSwap_1 : decode cX5_canSwap 1 = .ok (.getfield 35, 3) := by decide +kernel
theorem dX5_canSwap_4 : decode cX5_canSwap 4 = .ok (.iload_n 1, 1) := by decide +kernel
theorem dX5_canSwap_5 : decode cX5_canSwap 5 = .ok (.invokevirtual 111, 3) := by decide +kernel
theorem dX5_canSwap_8 : decode cX5_canSwap 8 = .ok (.ifCond .eq 14, 3) := by decide +kernel
theorem dX5_canSwap_11 : decode cX5_canSwap 11 = .ok (.aload_n 0, 1) := by decide +kernel
theorem dX5_canSwap_12 : decode cX5_canSwap 12 = .ok (.getfield 35, 3) := by decide +kernel
theorem dX5_canSwap_15 : decode cX5_canSwap 15 = .ok (.iload_n 2, 1) := by decide +kernel
theorem dX5_canSwap_16 : decode cX5_canSwap 16 = .ok (.invokevirtual 111, 3) := by decide +kernel
theorem dX5_canSwap_19 : decode cX5_canSwap 19 = .ok (.ifCond .ne 5, 3) := by decide +kernel
theorem dX5_canSwap_22 : decode cX5_canSwap 22 = .ok (.iconst 0, 1) := by decide +kernel
theorem dX5_canSwap_23 : decode cX5_canSwap 23 = .ok (.ireturn, 1) := by decide +kernel
theorem dX5_canSwap_24 : decode cX5_canSwap 24 = .ok (.aload_n 0, 1) := by decide +kernel
theorem dX5_canSwap_25 : decode cX5_canSwap 25 = .ok (.getfield 35, 3) := by decide +kernel
theorem dX5_canSwap_28 : decode cX5_canSwap 28 = .ok (.iload_n 1, 1) := by decide +kernel
theorem dX5_canSwap_29 : decode cX5_canSwap 29 = .ok (.iload_n 2, 1) := by decide +kernel
theorem dX5_canSwap_30 : decode cX5_canSwap 30 = .ok (.invokevirtual 161, 3) := by decide +kernel
theorem dX5_canSwap_33 : decode cX5_canSwap 33 = .ok (.aload_n 0, 1) := by decide +kernel
theorem dX5_canSwap_34 : decode cX5_canSwap 34 = .ok (.iload_n 1, 1) := by decide +kernel
theorem dX5_canSwap_35 : decode cX5_canSwap 35 = .ok (.aload_n 0, 1) := by decide +kernel
theorem dX5_canSwap_36 : decode cX5_canSwap 36 = .ok (.getfield 35, 3) := by decide +kernel
theorem dX5_canSwap_39 : decode cX5_canSwap 39 = .ok (.getfield 115, 3) := by decide +kernel
theorem dX5_canSwap_42 : decode cX5_canSwap 42 = .ok (.iload_n 1, 1) := by decide +kernel
theorem dX5_canSwap_43 : decode cX5_canSwap 43 = .ok (.iaload, 1) := by decide +kernel
theorem dX5_canSwap_44 : decode cX5_canSwap 44 = .ok (.invokevirtual 164, 3) := by decide +kernel
theorem dX5_canSwap_47 : decode cX5_canSwap 47 = .ok (.ifCond .eq 24, 3) := by decide +kernel
theorem dX5_canSwap_50 : decode cX5_canSwap 50 = .ok (.aload_n 0, 1) := by decide +kernel
theorem dX5_canSwap_51 : decode cX5_canSwap 51 = .ok (.iload_n 2, 1) := by decide +kernel
theorem dX5_canSwap_52 : decode cX5_canSwap 52 = .ok (.aload_n 0, 1) := by decide +kernel
theorem dX5_canSwap_53 : decode cX5_canSwap 53 = .ok (.getfield 35, 3) := by decide +kernel
theorem dX5_canSwap_56 : decode cX5_canSwap 56 = .ok (.getfield 115, 3) := by decide +kernel
theorem dX5_canSwap_59 : decode cX5_canSwap 59 = .ok (.iload_n 2, 1) := by decide +kernel
theorem dX5_canSwap_60 : decode cX5_canSwap 60 = .ok (.iaload, 1) := by decide +kernel
theorem dX5_canSwap_61 : decode cX5_canSwap 61 = .ok (.invokevirtual 164, 3) := by decide +kernel
theorem dX5_canSwap_64 : decode cX5_canSwap 64 = .ok (.ifCond .eq 7, 3) := by decide +kernel
theorem dX5_canSwap_67 : decode cX5_canSwap 67 = .ok (.iconst 1, 1) := by decide +kernel
theorem dX5_canSwap_68 : decode cX5_canSwap 68 = .ok (.goto 4, 3) := by decide +kernel
theorem dX5_canSwap_71 : decode cX5_canSwap 71 = .ok (.iconst 0, 1) := by decide +kernel
theorem dX5_canSwap_72 : decode cX5_canSwap 72 = .ok (.istore_n 3, 1) := by decide +kernel
theorem dX5_canSwap_73 : decode cX5_canSwap 73 = .ok (.aload_n 0, 1) := by decide +kernel
theorem dX5_canSwap_74 : decode cX5_canSwap 74 = .ok (.getfield 35, 3) := by decide +kernel
theorem dX5_canSwap_77 : decode cX5_canSwap 77 = .ok (.iload_n 1, 1) := by decide +kernel
theorem dX5_canSwap_78 : decode cX5_canSwap 78 = .ok (.iload_n 2, 1) := by decide +kernel
theorem dX5_canSwap_79 : decode cX5_canSwap 79 = .ok (.invokevirtual 161, 3) := by decide +kernel
theorem dX5_canSwap_82 : decode cX5_canSwap 82 = .ok (.iload_n 3, 1) := by decide +kernel
theorem dX5_canSwap_83 : decode cX5_canSwap 83 = .ok (.ireturn, 1) := by decide +kernel
set_option maxRecDepth 20000 in
theorem ggX5_passTo_X5_beginOn : GoodIn wsX5_passTo wsX5_beginOn := goodIn_r _ [8, 2, 9, 10, 11, 1, 12, 13, 14, 15, 16, 17, 18, 19, 20, 21, 22, 23, 24, 25, 26, 27, 28, 29, 30, 7, 31, 32, 33, 34, 35, 36, 37, 38, 39, 40, 41, 42, 43, 44, 45, 46, 47, 48, 49, 50, 51, 52, 53, 54, 55, 56, 57, 58, 59, 60, 61, 62, 63, 64, 65, 66, 67, 68, 69, 70, 71, 72, 73, 74, 75, 76, 77, 78, 79, 80, 81, 82, 83, 84, 85, 86, 99, 100, 101, 102, 103, 104, 105, 106, 107, 108, 109, 110, 111, 112, 113, 114, 115, 116, 117, 118, 119, 120, 121, 122, 123, 124, 125, 126, 127, 128, 129, 130, 131] (by decide +kernel) (by decide +kernel)
set_option maxRecDepth 20000 in
theorem gX5_passTo_X5_beginOn : GoodIn wsX5_passTo (wsV RX5 167 RX5 yX5_beginOn wsX5_beginOn) := goodIn_app (goodIn_of _ (by decide +kernel)) ggX5_passTo_X5_beginOn
set_option maxRecDepth 20000 in
theorem ggX5_passTo_X5_endSlot : GoodIn wsX5_passTo wsX5_endSlot := goodIn_r _ [90, 1, 2, 3, 9, 11, 91, 92, 93, 33, 94, 84, 85, 21, 86, 23, 95, 96, 97, 69, 98, 71, 73, 74, 75, 99, 100, 101, 102, 103, 104, 105, 106, 107, 108, 109, 110, 111, 112, 113, 114, 115, 116, 117, 118, 125, 126, 127, 128, 129, 130, 131] (by decide +kernel) (by decide +kernel)
set_option maxRecDepth 20000 in
theorem gX5_passTo_X5_endSlot : GoodIn wsX5_passTo (wsV RX5 170 RX5 yX5_endSlot wsX5_endSlot) := goodIn_app (goodIn_of _ (by decide +kernel)) ggX5_passTo_X5_endSlot
theorem dX5_passTo_0 : decode cX5_passTo 0 = .ok (.aload_n 0, 1) := by decide +kernel
theorem dX5_passTo_1 : decode cX5_passTo 1 = .ok (.getfield 46, 3) := by decide +kernel
theorem dX5_passTo_4 : decode cX5_passTo 4 = .ok (.istore_n 2, 1) := by decide +kernel
theorem dX5_passTo_5 : decode cX5_passTo 5 = .ok (.iload_n 2, 1) := by decide +kernel
theorem dX5_passTo_6 : decode cX5_passTo 6 = .ok (.iload_n 1, 1) := by decide +kernel
theorem dX5_passTo_7 : decode cX5_passTo 7 = .ok (.if_icmp .ge 44, 3) := by decide +kernel
theorem dX5_passTo_10 : decode cX5_passTo 10 = .ok (.iload_n 2, 1) := by decide +kernel
theorem dX5_passTo_11 : decode cX5_passTo 11 = .ok (.sipush 400, 3) := by decide +kernel
theorem dX5_passTo_14 : decode cX5_passTo 14 = .ok (.if_icmp .ge 37, 3) := by decide +kernel
theorem dX5_passTo_17 : decode cX5_passTo 17 = .ok (.iconst 0, 1) := by decide +kernel
theorem dX5_passTo_18 : decode cX5_passTo 18 = .ok (.istore_n 3, 1) := by decide +kernel
theorem dX5_passTo_19 : decode cX5_passTo 19 = .ok (.iload_n 3, 1) := by decide +kernel
theorem dX5_passTo_20 : decode cX5_passTo 20 = .ok (.aload_n 0, 1) := by decide +kernel
theorem dX5_passTo_21 : decode cX5_passTo 21 = .ok (.getfield 12, 3) := by decide +kernel
theorem dX5_passTo_24 : decode cX5_passTo 24 = .ok (.getfield 50, 3) := by decide +kernel
theorem dX5_passTo_27 : decode cX5_passTo 27 = .ok (.if_icmp .ge 14, 3) := by decide +kernel
theorem dX5_passTo_30 : decode cX5_passTo 30 = .ok (.aload_n 0, 1) := by decide +kernel
theorem dX5_passTo_31 : decode cX5_passTo 31 = .ok (.iload_n 3, 1) := by decide +kernel
theorem dX5_passTo_32 : decode cX5_passTo 32 = .ok (.invokevirtual 167, 3) := by decide +kernel
theorem dX5_passTo_35 : decode cX5_passTo 35 = .ok (.iinc 3 1, 3) := by decide +kernel
theorem dX5_passTo_38 : decode cX5_passTo 38 = .ok (.goto (-19), 3) := by decide +kernel
theorem dX5_passTo_41 : decode cX5_passTo 41 = .ok (.aload_n 0, 1) := by decide +kernel
theorem dX5_passTo_42 : decode cX5_passTo 42 = .ok (.invokevirtual 170, 3) := by decide +kernel
theorem dX5_passTo_45 : decode cX5_passTo 45 = .ok (.iinc 2 1, 3) := by decide +kernel
theorem dX5_passTo_48 : decode cX5_passTo 48 = .ok (.goto (-43), 3) := by decide +kernel
theorem dX5_passTo_51 : decode cX5_passTo 51 = .ok (.return_, 1) := by decide +kernel
set_option maxRecDepth 20000 in
theorem ggX5_beginOn_X3_knows : GoodIn wsX5_beginOn wsX3_knows := goodIn_r _ [10, 11, 88, 89, 90, 91, 92, 93] (by decide +kernel) (by decide +kernel)
set_option maxRecDepth 20000 in
theorem gX5_beginOn_X3_knows : GoodIn wsX5_beginOn (wsV RX5 87 RX3 yX3_knows wsX3_knows) := goodIn_app (goodIn_of _ (by decide +kernel)) ggX5_beginOn_X3_knows
set_option maxRecDepth 20000 in
theorem ggX5_beginOn_X0_mostUrgent : GoodIn wsX5_beginOn wsX0_mostUrgent := goodIn_r _ [16, 17, 18, 19, 20, 21, 94, 95, 96, 97, 98, 99, 100, 101] (by decide +kernel) (by decide +kernel)
set_option maxRecDepth 20000 in
theorem gX5_beginOn_X0_mostUrgent : GoodIn wsX5_beginOn (wsV RX5 176 RX0 yX0_mostUrgent wsX0_mostUrgent) := goodIn_app (goodIn_of _ (by decide +kernel)) ggX5_beginOn_X0_mostUrgent
set_option maxRecDepth 20000 in
theorem ggX5_beginOn_X5_freeSlots : GoodIn wsX5_beginOn wsX5_freeSlots := goodIn_r _ [26, 5, 1, 27, 28, 29, 30, 31, 9, 32, 33, 34, 35, 7, 8, 10, 11, 36, 37, 38, 39, 40, 41, 25, 42, 43, 44, 45, 46, 47, 48, 49, 50, 51, 52, 53, 54, 6, 55, 56, 57, 58, 59, 60, 61, 62, 63, 64, 65, 66, 67, 68, 69, 70, 82, 83, 84, 85, 86, 87, 88, 89, 90, 91, 92, 93, 102, 103, 104, 105, 106, 107, 108, 109, 110, 111, 112, 113, 114] (by decide +kernel) (by decide +kernel)
set_option maxRecDepth 20000 in
theorem gX5_beginOn_X5_freeSlots : GoodIn wsX5_beginOn (wsV RX5 179 RX5 yX5_freeSlots wsX5_freeSlots) := goodIn_app (goodIn_of _ (by decide +kernel)) ggX5_beginOn_X5_freeSlots
set_option maxRecDepth 20000 in
theorem ggX5_beginOn_X0_begin : GoodIn wsX5_beginOn wsX0_begin := goodIn_r _ [74, 18, 75, 76, 77, 78, 79, 80, 15, 81, 17, 94, 95, 96, 97, 98, 99, 100, 101] (by decide +kernel) (by decide +kernel)
set_option maxRecDepth 20000 in
theorem gX5_beginOn_X0_begin : GoodIn wsX5_beginOn (wsV RX5 182 RX0 yX0_begin wsX0_begin) := goodIn_app (goodIn_of _ (by decide +kernel)) ggX5_beginOn_X0_begin
theorem dX5_beginOn_0 : decode cX5_beginOn 0 = .ok (.aload_n 0, 1) := by decide +kernel
theorem dX5_beginOn_1 : decode cX5_beginOn 1 = .ok (.getfield 12, 3) := by decide +kernel
theorem dX5_beginOn_4 : decode cX5_beginOn 4 = .ok (.iload_n 1, 1) := by decide +kernel
theorem dX5_beginOn_5 : decode cX5_beginOn 5 = .ok (.invokevirtual 87, 3) := by decide +kernel
theorem dX5_beginOn_8 : decode cX5_beginOn 8 = .ok (.ifCond .eq 16, 3) := by decide +kernel
theorem dX5_beginOn_11 : decode cX5_beginOn 11 = .ok (.aload_n 0, 1) := by decide +kernel
theorem dX5_beginOn_12 : decode cX5_beginOn 12 = .ok (.getfield 12, 3) := by decide +kernel
theorem dX5_beginOn_15 : decode cX5_beginOn 15 = .ok (.getfield 98, 3) := by decide +kernel
theorem dX5_beginOn_18 : decode cX5_beginOn 18 = .ok (.iload_n 1, 1) := by decide +kernel
theorem dX5_beginOn_19 : decode cX5_beginOn 19 = .ok (.iaload, 1) := by decide +kernel
theorem dX5_beginOn_20 : decode cX5_beginOn 20 = .ok (.iconst (-1), 1) := by decide +kernel
theorem dX5_beginOn_21 : decode cX5_beginOn 21 = .ok (.if_icmp .eq 4, 3) := by decide +kernel
theorem dX5_beginOn_24 : decode cX5_beginOn 24 = .ok (.return_, 1) := by decide +kernel
theorem dX5_beginOn_25 : decode cX5_beginOn 25 = .ok (.aload_n 0, 1) := by decide +kernel
theorem dX5_beginOn_26 : decode cX5_beginOn 26 = .ok (.getfield 12, 3) := by decide +kernel
theorem dX5_beginOn_29 : decode cX5_beginOn 29 = .ok (.getfield 173, 3) := by decide +kernel
theorem dX5_beginOn_32 : decode cX5_beginOn 32 = .ok (.iload_n 1, 1) := by decide +kernel
theorem dX5_beginOn_33 : decode cX5_beginOn 33 = .ok (.iaload, 1) := by decide +kernel
theorem dX5_beginOn_34 : decode cX5_beginOn 34 = .ok (.istore_n 2, 1) := by decide +kernel
theorem dX5_beginOn_35 : decode cX5_beginOn 35 = .ok (.aload_n 0, 1) := by decide +kernel
theorem dX5_beginOn_36 : decode cX5_beginOn 36 = .ok (.getfield 42, 3) := by decide +kernel
theorem dX5_beginOn_39 : decode cX5_beginOn 39 = .ok (.iload_n 2, 1) := by decide +kernel
theorem dX5_beginOn_40 : decode cX5_beginOn 40 = .ok (.bipush 6, 2) := by decide +kernel
theorem dX5_beginOn_42 : decode cX5_beginOn 42 = .ok (.invokevirtual 176, 3) := by decide +kernel
theorem dX5_beginOn_45 : decode cX5_beginOn 45 = .ok (.iconst (-1), 1) := by decide +kernel
theorem dX5_beginOn_46 : decode cX5_beginOn 46 = .ok (.if_icmp .eq 45, 3) := by decide +kernel
theorem dX5_beginOn_49 : decode cX5_beginOn 49 = .ok (.aload_n 0, 1) := by decide +kernel
theorem dX5_beginOn_50 : decode cX5_beginOn 50 = .ok (.getfield 42, 3) := by decide +kernel
theorem dX5_beginOn_53 : decode cX5_beginOn 53 = .ok (.iload_n 2, 1) := by decide +kernel
theorem dX5_beginOn_54 : decode cX5_beginOn 54 = .ok (.aload_n 0, 1) := by decide +kernel
theorem dX5_beginOn_55 : decode cX5_beginOn 55 = .ok (.iload_n 1, 1) := by decide +kernel
theorem dX5_beginOn_56 : decode cX5_beginOn 56 = .ok (.invokevirtual 179, 3) := by decide +kernel
theorem dX5_beginOn_59 : decode cX5_beginOn 59 = .ok (.invokevirtual 176, 3) := by decide +kernel
theorem dX5_beginOn_62 : decode cX5_beginOn 62 = .ok (.istore_n 3, 1) := by decide +kernel
theorem dX5_beginOn_63 : decode cX5_beginOn 63 = .ok (.iload_n 3, 1) := by decide +kernel
theorem dX5_beginOn_64 : decode cX5_beginOn 64 = .ok (.iconst (-1), 1) := by decide +kernel
theorem dX5_beginOn_65 : decode cX5_beginOn 65 = .ok (.if_icmp .eq 26, 3) := by decide +kernel
theorem dX5_beginOn_68 : decode cX5_beginOn 68 = .ok (.aload_n 0, 1) := by decide +kernel
theorem dX5_beginOn_69 : decode cX5_beginOn 69 = .ok (.getfield 42, 3) := by decide +kernel
theorem dX5_beginOn_72 : decode cX5_beginOn 72 = .ok (.iload_n 3, 1) := by decide +kernel
theorem dX5_beginOn_73 : decode cX5_beginOn 73 = .ok (.iload_n 1, 1) := by decide +kernel
theorem dX5_beginOn_74 : decode cX5_beginOn 74 = .ok (.aload_n 0, 1) := by decide +kernel
theorem dX5_beginOn_75 : decode cX5_beginOn 75 = .ok (.getfield 46, 3) := by decide +kernel
theorem dX5_beginOn_78 : decode cX5_beginOn 78 = .ok (.invokevirtual 182, 3) := by decide +kernel
theorem dX5_beginOn_81 : decode cX5_beginOn 81 = .ok (.aload_n 0, 1) := by decide +kernel
theorem dX5_beginOn_82 : decode cX5_beginOn 82 = .ok (.getfield 12, 3) := by decide +kernel
theorem dX5_beginOn_85 : decode cX5_beginOn 85 = .ok (.getfield 98, 3) := by decide +kernel
theorem dX5_beginOn_88 : decode cX5_beginOn 88 = .ok (.iload_n 1, 1) := by decide +kernel
theorem dX5_beginOn_89 : decode cX5_beginOn 89 = .ok (.iload_n 3, 1) := by decide +kernel
theorem dX5_beginOn_90 : decode cX5_beginOn 90 = .ok (.iastore, 1) := by decide +kernel
theorem dX5_beginOn_91 : decode cX5_beginOn 91 = .ok (.return_, 1) := by decide +kernel
set_option maxRecDepth 20000 in
theorem ggX5_freeSlots_X3_isBroken : GoodIn wsX5_freeSlots wsX3_isBroken := goodIn_r _ [9, 10, 11, 12, 13, 14, 8, 15, 16, 17, 18, 19, 60, 61, 62, 63, 64, 65] (by decide +kernel) (by decide +kernel)
set_option maxRecDepth 20000 in
theorem gX5_freeSlots_X3_isBroken : GoodIn wsX5_freeSlots (wsV RX5 143 RX3 yX3_isBroken wsX3_isBroken) := goodIn_app (goodIn_of _ (by decide +kernel)) ggX5_freeSlots_X3_isBroken
set_option maxRecDepth 20000 in
theorem ggX5_freeSlots_X5_holder : GoodIn wsX5_freeSlots wsX5_holder := goodIn_r _ [24, 25, 2, 26, 27, 28, 29, 30, 31, 32, 33, 34, 35, 36, 37, 13, 14, 8, 15, 16, 54, 55, 56, 57, 58, 59, 60, 61, 62, 63, 64, 65, 66, 67, 68, 69, 70] (by decide +kernel) (by decide +kernel)
set_option maxRecDepth 20000 in
theorem gX5_freeSlots_X5_holder : GoodIn wsX5_freeSlots (wsV RX5 185 RX5 yX5_holder wsX5_holder) := goodIn_app (goodIn_of _ (by decide +kernel)) ggX5_freeSlots_X5_holder
set_option maxRecDepth 20000 in
theorem ggX5_freeSlots_X1_isAway : GoodIn wsX5_freeSlots wsX1_isAway := goodIn_r _ [42, 43, 71] (by decide +kernel) (by decide +kernel)
set_option maxRecDepth 20000 in
theorem gX5_freeSlots_X1_isAway : GoodIn wsX5_freeSlots (wsV RX5 188 RX1 yX1_isAway wsX1_isAway) := goodIn_app (goodIn_of _ (by decide +kernel)) ggX5_freeSlots_X1_isAway
set_option maxRecDepth 20000 in
theorem ggX5_freeSlots_X4_isPromised : GoodIn wsX5_freeSlots wsX4_isPromised := goodIn_r _ [48, 49, 50, 51, 52, 53, 17, 18, 19, 72, 73, 74, 75, 76, 77, 78] (by decide +kernel) (by decide +kernel)
set_option maxRecDepth 20000 in
theorem gX5_freeSlots_X4_isPromised : GoodIn wsX5_freeSlots (wsV RX5 136 RX4 yX4_isPromised wsX4_isPromised) := goodIn_app (goodIn_of _ (by decide +kernel)) ggX5_freeSlots_X4_isPromised
theorem dX5_freeSlots_0 : decode cX5_freeSlots 0 = .ok (.iconst 0, 1) := by decide +kernel
theorem dX5_freeSlots_1 : decode cX5_freeSlots 1 = .ok (.istore_n 2, 1) := by decide +kernel
theorem dX5_freeSlots_2 : decode cX5_freeSlots 2 = .ok (.iload_n 2, 1) := by decide +kernel
theorem dX5_freeSlots_3 : decode cX5_freeSlots 3 = .ok (.bipush 6, 2) := by decide +kernel
theorem dX5_freeSlots_5 : decode cX5_freeSlots 5 = .ok (.if_icmp .ge 74, 3) := by decide +kernel
theorem dX5_freeSlots_8 : decode cX5_freeSlots 8 = .ok (.aload_n 0, 1) := by decide +kernel
theorem dX5_freeSlots_9 : decode cX5_freeSlots 9 = .ok (.getfield 46, 3) := by decide +kernel
theorem dX5_freeSlots_12 : decode cX5_freeSlots 12 = .ok (.iload_n 2, 1) := by decide +kernel
theorem dX5_freeSlots_13 : decode cX5_freeSlots 13 = .ok (.iadd, 1) := by decide +kernel
theorem dX5_freeSlots_14 : decode cX5_freeSlots 14 = .ok (.sipush 400, 3) := by decide +kernel
theorem dX5_freeSlots_17 : decode cX5_freeSlots 17 = .ok (.if_icmp .ge 62, 3) := by decide +kernel
theorem dX5_freeSlots_20 : decode cX5_freeSlots 20 = .ok (.aload_n 0, 1) := by decide +kernel
theorem dX5_freeSlots_21 : decode cX5_freeSlots 21 = .ok (.getfield 46, 3) := by decide +kernel
theorem dX5_freeSlots_24 : decode cX5_freeSlots 24 = .ok (.iload_n 2, 1) := by decide +kernel
theorem dX5_freeSlots_25 : decode cX5_freeSlots 25 = .ok (.iadd, 1) := by decide +kernel
theorem dX5_freeSlots_26 : decode cX5_freeSlots 26 = .ok (.istore_n 3, 1) := by decide +kernel
theorem dX5_freeSlots_27 : decode cX5_freeSlots 27 = .ok (.aload_n 0, 1) := by decide +kernel
theorem dX5_freeSlots_28 : decode cX5_freeSlots 28 = .ok (.getfield 12, 3) := by decide +kernel
theorem dX5_freeSlots_31 : decode cX5_freeSlots 31 = .ok (.iload_n 1, 1) := by decide +kernel
theorem dX5_freeSlots_32 : decode cX5_freeSlots 32 = .ok (.iload_n 3, 1) := by decide +kernel
theorem dX5_freeSlots_33 : decode cX5_freeSlots 33 = .ok (.iconst 1, 1) := by decide +kernel
theorem dX5_freeSlots_34 : decode cX5_freeSlots 34 = .ok (.invokevirtual 143, 3) := by decide +kernel
theorem dX5_freeSlots_37 : decode cX5_freeSlots 37 = .ok (.ifCond .ne 34, 3) := by decide +kernel
theorem dX5_freeSlots_40 : decode cX5_freeSlots 40 = .ok (.aload_n 0, 1) := by decide +kernel
theorem dX5_freeSlots_41 : decode cX5_freeSlots 41 = .ok (.getfield 28, 3) := by decide +kernel
theorem dX5_freeSlots_44 : decode cX5_freeSlots 44 = .ok (.aload_n 0, 1) := by decide +kernel
theorem dX5_freeSlots_45 : decode cX5_freeSlots 45 = .ok (.iload_n 1, 1) := by decide +kernel
theorem dX5_freeSlots_46 : decode cX5_freeSlots 46 = .ok (.iload_n 3, 1) := by decide +kernel
theorem dX5_freeSlots_47 : decode cX5_freeSlots 47 = .ok (.invokevirtual 185, 3) := by decide +kernel
theorem dX5_freeSlots_50 : decode cX5_freeSlots 50 = .ok (.iload_n 3, 1) := by decide +kernel
theorem dX5_freeSlots_51 : decode cX5_freeSlots 51 = .ok (.invokevirtual 188, 3) := by decide +kernel
theorem dX5_freeSlots_54 : decode cX5_freeSlots 54 = .ok (.ifCond .ne 17, 3) := by decide +kernel
theorem dX5_freeSlots_57 : decode cX5_freeSlots 57 = .ok (.aload_n 0, 1) := by decide +kernel
theorem dX5_freeSlots_58 : decode cX5_freeSlots 58 = .ok (.getfield 35, 3) := by decide +kernel
theorem dX5_freeSlots_61 : decode cX5_freeSlots 61 = .ok (.iload_n 1, 1) := by decide +kernel
theorem dX5_freeSlots_62 : decode cX5_freeSlots 62 = .ok (.iload_n 3, 1) := by decide +kernel
theorem dX5_freeSlots_63 : decode cX5_freeSlots 63 = .ok (.iconst 1, 1) := by decide +kernel
theorem dX5_freeSlots_64 : decode cX5_freeSlots 64 = .ok (.iconst (-1), 1) := by decide +kernel
theorem dX5_freeSlots_65 : decode cX5_freeSlots 65 = .ok (.invokevirtual 136, 3) := by decide +kernel
theorem dX5_freeSlots_68 : decode cX5_freeSlots 68 = .ok (.ifCond .eq 5, 3) := by decide +kernel
theorem dX5_freeSlots_71 : decode cX5_freeSlots 71 = .ok (.iload_n 2, 1) := by decide +kernel
theorem dX5_freeSlots_72 : decode cX5_freeSlots 72 = .ok (.ireturn, 1) := by decide +kernel
theorem dX5_freeSlots_73 : decode cX5_freeSlots 73 = .ok (.iinc 2 1, 3) := by decide +kernel
theorem dX5_freeSlots_76 : decode cX5_freeSlots 76 = .ok (.goto (-74), 3) := by decide +kernel
theorem dX5_freeSlots_79 : decode cX5_freeSlots 79 = .ok (.bipush 6, 2) := by decide +kernel
theorem dX5_freeSlots_81 : decode cX5_freeSlots 81 = .ok (.ireturn, 1) := by decide +kernel
set_option maxRecDepth 20000 in
theorem ggX5_endSlot_X0_knows : GoodIn wsX5_endSlot wsX0_knows := goodIn_r _ [14, 15, 37, 38, 39, 40, 41, 42, 43, 44] (by decide +kernel) (by decide +kernel)
set_option maxRecDepth 20000 in
theorem gX5_endSlot_X0_knows : GoodIn wsX5_endSlot (wsV RX5 117 RX0 yX0_knows wsX0_knows) := goodIn_app (goodIn_of _ (by decide +kernel)) ggX5_endSlot_X0_knows
set_option maxRecDepth 20000 in
theorem ggX5_endSlot_X4_endBy : GoodIn wsX5_endSlot wsX4_endBy := goodIn_r _ [20, 21, 22, 23, 24, 45, 46, 47, 48, 49, 50, 51] (by decide +kernel) (by decide +kernel)
set_option maxRecDepth 20000 in
theorem gX5_endSlot_X4_endBy : GoodIn wsX5_endSlot (wsV RX5 192 RX4 yX4_endBy wsX4_endBy) := goodIn_app (goodIn_of _ (by decide +kernel)) ggX5_endSlot_X4_endBy
theorem dX5_endSlot_0 : decode cX5_endSlot 0 = .ok (.aload_n 0, 1) := by decide +kernel
theorem dX5_endSlot_1 : decode cX5_endSlot 1 = .ok (.dup, 1) := by decide +kernel
theorem dX5_endSlot_2 : decode cX5_endSlot 2 = .ok (.getfield 46, 3) := by decide +kernel
theorem dX5_endSlot_5 : decode cX5_endSlot 5 = .ok (.iconst 1, 1) := by decide +kernel
theorem dX5_endSlot_6 : decode cX5_endSlot 6 = .ok (.iadd, 1) := by decide +kernel
theorem dX5_endSlot_7 : decode cX5_endSlot 7 = .ok (.putfield 46, 3) := by decide +kernel
theorem dX5_endSlot_10 : decode cX5_endSlot 10 = .ok (.iconst 0, 1) := by decide +kernel
theorem dX5_endSlot_11 : decode cX5_endSlot 11 = .ok (.istore_n 1, 1) := by decide +kernel
theorem dX5_endSlot_12 : decode cX5_endSlot 12 = .ok (.iload_n 1, 1) := by decide +kernel
theorem dX5_endSlot_13 : decode cX5_endSlot 13 = .ok (.aload_n 0, 1) := by decide +kernel
theorem dX5_endSlot_14 : decode cX5_endSlot 14 = .ok (.getfield 12, 3) := by decide +kernel
theorem dX5_endSlot_17 : decode cX5_endSlot 17 = .ok (.getfield 50, 3) := by decide +kernel
theorem dX5_endSlot_20 : decode cX5_endSlot 20 = .ok (.if_icmp .ge 76, 3) := by decide +kernel
theorem dX5_endSlot_23 : decode cX5_endSlot 23 = .ok (.aload_n 0, 1) := by decide +kernel
theorem dX5_endSlot_24 : decode cX5_endSlot 24 = .ok (.getfield 12, 3) := by decide +kernel
theorem dX5_endSlot_27 : decode cX5_endSlot 27 = .ok (.getfield 98, 3) := by decide +kernel
theorem dX5_endSlot_30 : decode cX5_endSlot 30 = .ok (.iload_n 1, 1) := by decide +kernel
theorem dX5_endSlot_31 : decode cX5_endSlot 31 = .ok (.iaload, 1) := by decide +kernel
theorem dX5_endSlot_32 : decode cX5_endSlot 32 = .ok (.istore_n 2, 1) := by decide +kernel
theorem dX5_endSlot_33 : decode cX5_endSlot 33 = .ok (.aload_n 0, 1) := by decide +kernel
theorem dX5_endSlot_34 : decode cX5_endSlot 34 = .ok (.getfield 42, 3) := by decide +kernel
theorem dX5_endSlot_37 : decode cX5_endSlot 37 = .ok (.iload_n 2, 1) := by decide +kernel
theorem dX5_endSlot_38 : decode cX5_endSlot 38 = .ok (.invokevirtual 117, 3) := by decide +kernel
theorem dX5_endSlot_41 : decode cX5_endSlot 41 = .ok (.ifCond .eq 49, 3) := by decide +kernel
theorem dX5_endSlot_44 : decode cX5_endSlot 44 = .ok (.aload_n 0, 1) := by decide +kernel
theorem dX5_endSlot_45 : decode cX5_endSlot 45 = .ok (.getfield 42, 3) := by decide +kernel
theorem dX5_endSlot_48 : decode cX5_endSlot 48 = .ok (.getfield 118, 3) := by decide +kernel
theorem dX5_endSlot_51 : decode cX5_endSlot 51 = .ok (.iload_n 2, 1) := by decide +kernel
theorem dX5_endSlot_52 : decode cX5_endSlot 52 = .ok (.iaload, 1) := by decide +kernel
theorem dX5_endSlot_53 : decode cX5_endSlot 53 = .ok (.aload_n 0, 1) := by decide +kernel
theorem dX5_endSlot_54 : decode cX5_endSlot 54 = .ok (.getfield 42, 3) := by decide +kernel
theorem dX5_endSlot_57 : decode cX5_endSlot 57 = .ok (.getfield 121, 3) := by decide +kernel
theorem dX5_endSlot_60 : decode cX5_endSlot 60 = .ok (.iload_n 2, 1) := by decide +kernel
theorem dX5_endSlot_61 : decode cX5_endSlot 61 = .ok (.iaload, 1) := by decide +kernel
theorem dX5_endSlot_62 : decode cX5_endSlot 62 = .ok (.iadd, 1) := by decide +kernel
theorem dX5_endSlot_63 : decode cX5_endSlot 63 = .ok (.aload_n 0, 1) := by decide +kernel
theorem dX5_endSlot_64 : decode cX5_endSlot 64 = .ok (.getfield 46, 3) := by decide +kernel
theorem dX5_endSlot_67 : decode cX5_endSlot 67 = .ok (.if_icmp .gt 23, 3) := by decide +kernel
theorem dX5_endSlot_70 : decode cX5_endSlot 70 = .ok (.aload_n 0, 1) := by decide +kernel
theorem dX5_endSlot_71 : decode cX5_endSlot 71 = .ok (.getfield 42, 3) := by decide +kernel
theorem dX5_endSlot_74 : decode cX5_endSlot 74 = .ok (.getfield 191, 3) := by decide +kernel
theorem dX5_endSlot_77 : decode cX5_endSlot 77 = .ok (.iload_n 2, 1) := by decide +kernel
theorem dX5_endSlot_78 : decode cX5_endSlot 78 = .ok (.iconst 2, 1) := by decide +kernel
theorem dX5_endSlot_79 : decode cX5_endSlot 79 = .ok (.iastore, 1) := by decide +kernel
theorem dX5_endSlot_80 : decode cX5_endSlot 80 = .ok (.aload_n 0, 1) := by decide +kernel
theorem dX5_endSlot_81 : decode cX5_endSlot 81 = .ok (.getfield 12, 3) := by decide +kernel
theorem dX5_endSlot_84 : decode cX5_endSlot 84 = .ok (.getfield 98, 3) := by decide +kernel
theorem dX5_endSlot_87 : decode cX5_endSlot 87 = .ok (.iload_n 1, 1) := by decide +kernel
theorem dX5_endSlot_88 : decode cX5_endSlot 88 = .ok (.iconst (-1), 1) := by decide +kernel
theorem dX5_endSlot_89 : decode cX5_endSlot 89 = .ok (.iastore, 1) := by decide +kernel
theorem dX5_endSlot_90 : decode cX5_endSlot 90 = .ok (.iinc 1 1, 3) := by decide +kernel
theorem dX5_endSlot_93 : decode cX5_endSlot 93 = .ok (.goto (-81), 3) := by decide +kernel
theorem dX5_endSlot_96 : decode cX5_endSlot 96 = .ok (.aload_n 0, 1) := by decide +kernel
theorem dX5_endSlot_97 : decode cX5_endSlot 97 = .ok (.getfield 35, 3) := by decide +kernel
theorem dX5_endSlot_100 : decode cX5_endSlot 100 = .ok (.aload_n 0, 1) := by decide +kernel
theorem dX5_endSlot_101 : decode cX5_endSlot 101 = .ok (.getfield 46, 3) := by decide +kernel
theorem dX5_endSlot_104 : decode cX5_endSlot 104 = .ok (.invokevirtual 192, 3) := by decide +kernel
theorem dX5_endSlot_107 : decode cX5_endSlot 107 = .ok (.return_, 1) := by decide +kernel
set_option maxRecDepth 20000 in
theorem ggX5_sign_X4_isPromised : GoodIn wsX5_sign wsX4_isPromised := goodIn_r _ [8, 9, 10, 11, 12, 13, 14, 15, 16, 51, 52, 53, 54, 55, 56, 57] (by decide +kernel) (by decide +kernel)
set_option maxRecDepth 20000 in
theorem gX5_sign_X4_isPromised : GoodIn wsX5_sign (wsV RX5 136 RX4 yX4_isPromised wsX4_isPromised) := goodIn_app (goodIn_of _ (by decide +kernel)) ggX5_sign_X4_isPromised
set_option maxRecDepth 20000 in
theorem ggX5_sign_X5_runsIn : GoodIn wsX5_sign wsX5_runsIn := goodIn_r _ [21, 2, 22, 23, 24, 25, 26, 27, 28, 29, 30, 31, 32, 33, 34, 35, 36, 37, 14, 15, 16, 45, 46, 47, 48, 49, 50, 58, 59, 60, 61, 62, 63, 64, 65, 66, 67, 68, 69, 70, 71] (by decide +kernel) (by decide +kernel)
set_option maxRecDepth 20000 in
theorem gX5_sign_X5_runsIn : GoodIn wsX5_sign (wsV RX5 139 RX5 yX5_runsIn wsX5_runsIn) := goodIn_app (goodIn_of _ (by decide +kernel)) ggX5_sign_X5_runsIn
set_option maxRecDepth 20000 in
theorem ggX5_sign_X3_isBroken : GoodIn wsX5_sign wsX3_isBroken := goodIn_r _ [41, 42, 43, 44, 27, 28, 29, 30, 31, 14, 15, 16, 58, 59, 60, 61, 62, 63] (by decide +kernel) (by decide +kernel)
set_option maxRecDepth 20000 in
theorem gX5_sign_X3_isBroken : GoodIn wsX5_sign (wsV RX5 143 RX3 yX3_isBroken wsX3_isBroken) := goodIn_app (goodIn_of _ (by decide +kernel)) ggX5_sign_X3_isBroken
theorem dX5_sign_0 : decode cX5_sign 0 = .ok (.aload_n 0, 1) := by decide +kernel
theorem dX5_sign_1 : decode cX5_sign 1 = .ok (.getfield 35, 3) := by decide +kernel
theorem dX5_sign_4 : decode cX5_sign 4 = .ok (.iload_n 1, 1) := by decide +kernel
theorem dX5_sign_5 : decode cX5_sign 5 = .ok (.iload_n 2, 1) := by decide +kernel
theorem dX5_sign_6 : decode cX5_sign 6 = .ok (.iconst 1, 1) := by decide +kernel
theorem dX5_sign_7 : decode cX5_sign 7 = .ok (.iconst (-1), 1) := by decide +kernel
theorem dX5_sign_8 : decode cX5_sign 8 = .ok (.invokevirtual 136, 3) := by decide +kernel
theorem dX5_sign_11 : decode cX5_sign 11 = .ok (.ifCond .eq 6, 3) := by decide +kernel
theorem dX5_sign_14 : decode cX5_sign 14 = .ok (.bipush 77, 2) := by decide +kernel
theorem dX5_sign_16 : decode cX5_sign 16 = .ok (.ireturn, 1) := by decide +kernel
theorem dX5_sign_17 : decode cX5_sign 17 = .ok (.aload_n 0, 1) := by decide +kernel
theorem dX5_sign_18 : decode cX5_sign 18 = .ok (.iload_n 1, 1) := by decide +kernel
theorem dX5_sign_19 : decode cX5_sign 19 = .ok (.iload_n 2, 1) := by decide +kernel
theorem dX5_sign_20 : decode cX5_sign 20 = .ok (.iconst 1, 1) := by decide +kernel
theorem dX5_sign_21 : decode cX5_sign 21 = .ok (.invokevirtual 139, 3) := by decide +kernel
theorem dX5_sign_24 : decode cX5_sign 24 = .ok (.ifCond .eq 6, 3) := by decide +kernel
theorem dX5_sign_27 : decode cX5_sign 27 = .ok (.bipush 66, 2) := by decide +kernel
theorem dX5_sign_29 : decode cX5_sign 29 = .ok (.ireturn, 1) := by decide +kernel
theorem dX5_sign_30 : decode cX5_sign 30 = .ok (.aload_n 0, 1) := by decide +kernel
theorem dX5_sign_31 : decode cX5_sign 31 = .ok (.getfield 12, 3) := by decide +kernel
theorem dX5_sign_34 : decode cX5_sign 34 = .ok (.iload_n 1, 1) := by decide +kernel
theorem dX5_sign_35 : decode cX5_sign 35 = .ok (.iload_n 2, 1) := by decide +kernel
theorem dX5_sign_36 : decode cX5_sign 36 = .ok (.iconst 1, 1) := by decide +kernel
theorem dX5_sign_37 : decode cX5_sign 37 = .ok (.invokevirtual 143, 3) := by decide +kernel
theorem dX5_sign_40 : decode cX5_sign 40 = .ok (.ifCond .eq 8, 3) := by decide +kernel
theorem dX5_sign_43 : decode cX5_sign 43 = .ok (.ldc 195, 2) := by decide +kernel
theorem dX5_sign_45 : decode cX5_sign 45 = .ok (.goto 5, 3) := by decide +kernel
theorem dX5_sign_48 : decode cX5_sign 48 = .ok (.bipush 46, 2) := by decide +kernel
theorem dX5_sign_50 : decode cX5_sign 50 = .ok (.ireturn, 1) := by decide +kernel
