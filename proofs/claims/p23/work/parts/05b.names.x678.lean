theorem dX6_init_0 : decode cX6_init 0 = .ok (.aload_n 0, 1) := by decide +kernel
theorem dX6_init_1 : decode cX6_init 1 = .ok (.invokespecial 3, 3) := by decide +kernel
theorem dX6_init_4 : decode cX6_init 4 = .ok (.aload_n 0, 1) := by decide +kernel
theorem dX6_init_5 : decode cX6_init 5 = .ok (.bipush 20, 2) := by decide +kernel
theorem dX6_init_7 : decode cX6_init 7 = .ok (.newarray .int, 2) := by decide +kernel
theorem dX6_init_9 : decode cX6_init 9 = .ok (.putfield 9, 3) := by decide +kernel
theorem dX6_init_12 : decode cX6_init 12 = .ok (.aload_n 0, 1) := by decide +kernel
theorem dX6_init_13 : decode cX6_init 13 = .ok (.bipush 20, 2) := by decide +kernel
theorem dX6_init_15 : decode cX6_init 15 = .ok (.newarray .int, 2) := by decide +kernel
theorem dX6_init_17 : decode cX6_init 17 = .ok (.putfield 15, 3) := by decide +kernel
theorem dX6_init_20 : decode cX6_init 20 = .ok (.aload_n 0, 1) := by decide +kernel
theorem dX6_init_21 : decode cX6_init 21 = .ok (.bipush 20, 2) := by decide +kernel
theorem dX6_init_23 : decode cX6_init 23 = .ok (.newarray .int, 2) := by decide +kernel
theorem dX6_init_25 : decode cX6_init 25 = .ok (.putfield 18, 3) := by decide +kernel
theorem dX6_init_28 : decode cX6_init 28 = .ok (.aload_n 0, 1) := by decide +kernel
theorem dX6_init_29 : decode cX6_init 29 = .ok (.bipush 20, 2) := by decide +kernel
theorem dX6_init_31 : decode cX6_init 31 = .ok (.newarray .int, 2) := by decide +kernel
theorem dX6_init_33 : decode cX6_init 33 = .ok (.putfield 21, 3) := by decide +kernel
theorem dX6_init_36 : decode cX6_init 36 = .ok (.aload_n 0, 1) := by decide +kernel
theorem dX6_init_37 : decode cX6_init 37 = .ok (.bipush 20, 2) := by decide +kernel
theorem dX6_init_39 : decode cX6_init 39 = .ok (.newarray .int, 2) := by decide +kernel
theorem dX6_init_41 : decode cX6_init 41 = .ok (.putfield 24, 3) := by decide +kernel
theorem dX6_init_44 : decode cX6_init 44 = .ok (.aload_n 0, 1) := by decide +kernel
theorem dX6_init_45 : decode cX6_init 45 = .ok (.bipush 20, 2) := by decide +kernel
theorem dX6_init_47 : decode cX6_init 47 = .ok (.newarray .int, 2) := by decide +kernel
theorem dX6_init_49 : decode cX6_init 49 = .ok (.putfield 27, 3) := by decide +kernel
theorem dX6_init_52 : decode cX6_init 52 = .ok (.aload_n 0, 1) := by decide +kernel
theorem dX6_init_53 : decode cX6_init 53 = .ok (.iconst 0, 1) := by decide +kernel
theorem dX6_init_54 : decode cX6_init 54 = .ok (.putfield 30, 3) := by decide +kernel
theorem dX6_init_57 : decode cX6_init 57 = .ok (.return_, 1) := by decide +kernel
theorem dX6_add_0 : decode cX6_add 0 = .ok (.aload_n 0, 1) := by decide +kernel
theorem dX6_add_1 : decode cX6_add 1 = .ok (.getfield 30, 3) := by decide +kernel
theorem dX6_add_4 : decode cX6_add 4 = .ok (.bipush 20, 2) := by decide +kernel
theorem dX6_add_6 : decode cX6_add 6 = .ok (.if_icmp .ge 74, 3) := by decide +kernel
theorem dX6_add_9 : decode cX6_add 9 = .ok (.aload_n 0, 1) := by decide +kernel
theorem dX6_add_10 : decode cX6_add 10 = .ok (.getfield 9, 3) := by decide +kernel
theorem dX6_add_13 : decode cX6_add 13 = .ok (.aload_n 0, 1) := by decide +kernel
theorem dX6_add_14 : decode cX6_add 14 = .ok (.getfield 30, 3) := by decide +kernel
theorem dX6_add_17 : decode cX6_add 17 = .ok (.iload_n 1, 1) := by decide +kernel
theorem dX6_add_18 : decode cX6_add 18 = .ok (.iastore, 1) := by decide +kernel
theorem dX6_add_19 : decode cX6_add 19 = .ok (.aload_n 0, 1) := by decide +kernel
theorem dX6_add_20 : decode cX6_add 20 = .ok (.getfield 15, 3) := by decide +kernel
theorem dX6_add_23 : decode cX6_add 23 = .ok (.aload_n 0, 1) := by decide +kernel
theorem dX6_add_24 : decode cX6_add 24 = .ok (.getfield 30, 3) := by decide +kernel
theorem dX6_add_27 : decode cX6_add 27 = .ok (.iload_n 2, 1) := by decide +kernel
theorem dX6_add_28 : decode cX6_add 28 = .ok (.iastore, 1) := by decide +kernel
theorem dX6_add_29 : decode cX6_add 29 = .ok (.aload_n 0, 1) := by decide +kernel
theorem dX6_add_30 : decode cX6_add 30 = .ok (.getfield 18, 3) := by decide +kernel
theorem dX6_add_33 : decode cX6_add 33 = .ok (.aload_n 0, 1) := by decide +kernel
theorem dX6_add_34 : decode cX6_add 34 = .ok (.getfield 30, 3) := by decide +kernel
theorem dX6_add_37 : decode cX6_add 37 = .ok (.iload_n 3, 1) := by decide +kernel
theorem dX6_add_38 : decode cX6_add 38 = .ok (.iastore, 1) := by decide +kernel
theorem dX6_add_39 : decode cX6_add 39 = .ok (.aload_n 0, 1) := by decide +kernel
theorem dX6_add_40 : decode cX6_add 40 = .ok (.getfield 21, 3) := by decide +kernel
theorem dX6_add_43 : decode cX6_add 43 = .ok (.aload_n 0, 1) := by decide +kernel
theorem dX6_add_44 : decode cX6_add 44 = .ok (.getfield 30, 3) := by decide +kernel
theorem dX6_add_47 : decode cX6_add 47 = .ok (.iload 4, 2) := by decide +kernel
theorem dX6_add_49 : decode cX6_add 49 = .ok (.iastore, 1) := by decide +kernel
theorem dX6_add_50 : decode cX6_add 50 = .ok (.aload_n 0, 1) := by decide +kernel
theorem dX6_add_51 : decode cX6_add 51 = .ok (.getfield 24, 3) := by decide +kernel
theorem dX6_add_54 : decode cX6_add 54 = .ok (.aload_n 0, 1) := by decide +kernel
theorem dX6_add_55 : decode cX6_add 55 = .ok (.getfield 30, 3) := by decide +kernel
theorem dX6_add_58 : decode cX6_add 58 = .ok (.iconst 0, 1) := by decide +kernel
theorem dX6_add_59 : decode cX6_add 59 = .ok (.iastore, 1) := by decide +kernel
theorem dX6_add_60 : decode cX6_add 60 = .ok (.aload_n 0, 1) := by decide +kernel
theorem dX6_add_61 : decode cX6_add 61 = .ok (.getfield 27, 3) := by decide +kernel
theorem dX6_add_64 : decode cX6_add 64 = .ok (.aload_n 0, 1) := by decide +kernel
theorem dX6_add_65 : decode cX6_add 65 = .ok (.getfield 30, 3) := by decide +kernel
theorem dX6_add_68 : decode cX6_add 68 = .ok (.iconst 0, 1) := by decide +kernel
theorem dX6_add_69 : decode cX6_add 69 = .ok (.iastore, 1) := by decide +kernel
theorem dX6_add_70 : decode cX6_add 70 = .ok (.aload_n 0, 1) := by decide +kernel
theorem dX6_add_71 : decode cX6_add 71 = .ok (.dup, 1) := by decide +kernel
theorem dX6_add_72 : decode cX6_add 72 = .ok (.getfield 30, 3) := by decide +kernel
theorem dX6_add_75 : decode cX6_add 75 = .ok (.iconst 1, 1) := by decide +kernel
theorem dX6_add_76 : decode cX6_add 76 = .ok (.iadd, 1) := by decide +kernel
theorem dX6_add_77 : decode cX6_add 77 = .ok (.putfield 30, 3) := by decide +kernel
theorem dX6_add_80 : decode cX6_add 80 = .ok (.return_, 1) := by decide +kernel
theorem dX7_init_0 : decode cX7_init 0 = .ok (.aload_n 0, 1) := by decide +kernel
theorem dX7_init_1 : decode cX7_init 1 = .ok (.invokespecial 3, 3) := by decide +kernel
theorem dX7_init_4 : decode cX7_init 4 = .ok (.aload_n 0, 1) := by decide +kernel
theorem dX7_init_5 : decode cX7_init 5 = .ok (.sipush 512, 3) := by decide +kernel
theorem dX7_init_8 : decode cX7_init 8 = .ok (.newarray .int, 2) := by decide +kernel
theorem dX7_init_10 : decode cX7_init 10 = .ok (.putfield 9, 3) := by decide +kernel
theorem dX7_init_13 : decode cX7_init 13 = .ok (.aload_n 0, 1) := by decide +kernel
theorem dX7_init_14 : decode cX7_init 14 = .ok (.sipush 512, 3) := by decide +kernel
theorem dX7_init_17 : decode cX7_init 17 = .ok (.newarray .int, 2) := by decide +kernel
theorem dX7_init_19 : decode cX7_init 19 = .ok (.putfield 15, 3) := by decide +kernel
theorem dX7_init_22 : decode cX7_init 22 = .ok (.aload_n 0, 1) := by decide +kernel
theorem dX7_init_23 : decode cX7_init 23 = .ok (.sipush 512, 3) := by decide +kernel
theorem dX7_init_26 : decode cX7_init 26 = .ok (.newarray .int, 2) := by decide +kernel
theorem dX7_init_28 : decode cX7_init 28 = .ok (.putfield 18, 3) := by decide +kernel
theorem dX7_init_31 : decode cX7_init 31 = .ok (.aload_n 0, 1) := by decide +kernel
theorem dX7_init_32 : decode cX7_init 32 = .ok (.sipush 512, 3) := by decide +kernel
theorem dX7_init_35 : decode cX7_init 35 = .ok (.newarray .int, 2) := by decide +kernel
theorem dX7_init_37 : decode cX7_init 37 = .ok (.putfield 21, 3) := by decide +kernel
theorem dX7_init_40 : decode cX7_init 40 = .ok (.aload_n 0, 1) := by decide +kernel
theorem dX7_init_41 : decode cX7_init 41 = .ok (.sipush 512, 3) := by decide +kernel
theorem dX7_init_44 : decode cX7_init 44 = .ok (.newarray .int, 2) := by decide +kernel
theorem dX7_init_46 : decode cX7_init 46 = .ok (.putfield 24, 3) := by decide +kernel
theorem dX7_init_49 : decode cX7_init 49 = .ok (.aload_n 0, 1) := by decide +kernel
theorem dX7_init_50 : decode cX7_init 50 = .ok (.sipush 512, 3) := by decide +kernel
theorem dX7_init_53 : decode cX7_init 53 = .ok (.newarray .int, 2) := by decide +kernel
theorem dX7_init_55 : decode cX7_init 55 = .ok (.putfield 27, 3) := by decide +kernel
theorem dX7_init_58 : decode cX7_init 58 = .ok (.aload_n 0, 1) := by decide +kernel
theorem dX7_init_59 : decode cX7_init 59 = .ok (.iconst 0, 1) := by decide +kernel
theorem dX7_init_60 : decode cX7_init 60 = .ok (.putfield 30, 3) := by decide +kernel
theorem dX7_init_63 : decode cX7_init 63 = .ok (.return_, 1) := by decide +kernel
theorem dX7_note_0 : decode cX7_note 0 = .ok (.aload_n 0, 1) := by decide +kernel
theorem dX7_note_1 : decode cX7_note 1 = .ok (.getfield 30, 3) := by decide +kernel
theorem dX7_note_4 : decode cX7_note 4 = .ok (.sipush 512, 3) := by decide +kernel
theorem dX7_note_7 : decode cX7_note 7 = .ok (.if_icmp .ge 76, 3) := by decide +kernel
theorem dX7_note_10 : decode cX7_note 10 = .ok (.aload_n 0, 1) := by decide +kernel
theorem dX7_note_11 : decode cX7_note 11 = .ok (.getfield 9, 3) := by decide +kernel
theorem dX7_note_14 : decode cX7_note 14 = .ok (.aload_n 0, 1) := by decide +kernel
theorem dX7_note_15 : decode cX7_note 15 = .ok (.getfield 30, 3) := by decide +kernel
theorem dX7_note_18 : decode cX7_note 18 = .ok (.iload_n 1, 1) := by decide +kernel
theorem dX7_note_19 : decode cX7_note 19 = .ok (.iastore, 1) := by decide +kernel
theorem dX7_note_20 : decode cX7_note 20 = .ok (.aload_n 0, 1) := by decide +kernel
theorem dX7_note_21 : decode cX7_note 21 = .ok (.getfield 15, 3) := by decide +kernel
theorem dX7_note_24 : decode cX7_note 24 = .ok (.aload_n 0, 1) := by decide +kernel
theorem dX7_note_25 : decode cX7_note 25 = .ok (.getfield 30, 3) := by decide +kernel
theorem dX7_note_28 : decode cX7_note 28 = .ok (.iload_n 2, 1) := by decide +kernel
theorem dX7_note_29 : decode cX7_note 29 = .ok (.iastore, 1) := by decide +kernel
theorem dX7_note_30 : decode cX7_note 30 = .ok (.aload_n 0, 1) := by decide +kernel
theorem dX7_note_31 : decode cX7_note 31 = .ok (.getfield 18, 3) := by decide +kernel
theorem dX7_note_34 : decode cX7_note 34 = .ok (.aload_n 0, 1) := by decide +kernel
theorem dX7_note_35 : decode cX7_note 35 = .ok (.getfield 30, 3) := by decide +kernel
theorem dX7_note_38 : decode cX7_note 38 = .ok (.iload_n 3, 1) := by decide +kernel
theorem dX7_note_39 : decode cX7_note 39 = .ok (.iastore, 1) := by decide +kernel
theorem dX7_note_40 : decode cX7_note 40 = .ok (.aload_n 0, 1) := by decide +kernel
theorem dX7_note_41 : decode cX7_note 41 = .ok (.getfield 21, 3) := by decide +kernel
theorem dX7_note_44 : decode cX7_note 44 = .ok (.aload_n 0, 1) := by decide +kernel
theorem dX7_note_45 : decode cX7_note 45 = .ok (.getfield 30, 3) := by decide +kernel
theorem dX7_note_48 : decode cX7_note 48 = .ok (.iload 4, 2) := by decide +kernel
theorem dX7_note_50 : decode cX7_note 50 = .ok (.iastore, 1) := by decide +kernel
theorem dX7_note_51 : decode cX7_note 51 = .ok (.aload_n 0, 1) := by decide +kernel
theorem dX7_note_52 : decode cX7_note 52 = .ok (.getfield 24, 3) := by decide +kernel
theorem dX7_note_55 : decode cX7_note 55 = .ok (.aload_n 0, 1) := by decide +kernel
theorem dX7_note_56 : decode cX7_note 56 = .ok (.getfield 30, 3) := by decide +kernel
theorem dX7_note_59 : decode cX7_note 59 = .ok (.iload 5, 2) := by decide +kernel
theorem dX7_note_61 : decode cX7_note 61 = .ok (.iastore, 1) := by decide +kernel
theorem dX7_note_62 : decode cX7_note 62 = .ok (.aload_n 0, 1) := by decide +kernel
theorem dX7_note_63 : decode cX7_note 63 = .ok (.getfield 27, 3) := by decide +kernel
theorem dX7_note_66 : decode cX7_note 66 = .ok (.aload_n 0, 1) := by decide +kernel
theorem dX7_note_67 : decode cX7_note 67 = .ok (.getfield 30, 3) := by decide +kernel
theorem dX7_note_70 : decode cX7_note 70 = .ok (.iload 6, 2) := by decide +kernel
theorem dX7_note_72 : decode cX7_note 72 = .ok (.iastore, 1) := by decide +kernel
theorem dX7_note_73 : decode cX7_note 73 = .ok (.aload_n 0, 1) := by decide +kernel
theorem dX7_note_74 : decode cX7_note 74 = .ok (.dup, 1) := by decide +kernel
theorem dX7_note_75 : decode cX7_note 75 = .ok (.getfield 30, 3) := by decide +kernel
theorem dX7_note_78 : decode cX7_note 78 = .ok (.iconst 1, 1) := by decide +kernel
theorem dX7_note_79 : decode cX7_note 79 = .ok (.iadd, 1) := by decide +kernel
theorem dX7_note_80 : decode cX7_note 80 = .ok (.putfield 30, 3) := by decide +kernel
theorem dX7_note_83 : decode cX7_note 83 = .ok (.return_, 1) := by decide +kernel
set_option maxRecDepth 20000 in
theorem ggX8_init_X5_init : GoodIn wsX8_init wsX5_init := goodIn_r _ [18, 19, 2, 3, 20, 21, 22, 23, 24, 25, 26, 27, 28, 29, 30, 31, 32, 33, 34, 35, 36, 37, 38, 39, 40, 41, 42, 43, 44, 45, 46, 47, 48, 49, 50, 51, 52, 53, 54, 55, 56, 57, 58, 59, 60, 61, 62, 63, 64, 65, 66, 67, 68, 69, 70, 71, 72, 73, 74, 75, 76, 77, 78, 79, 80, 81, 82, 83, 84, 129, 130, 131, 132, 133, 134, 105, 106, 107, 108, 109, 110, 135, 136, 137, 138, 139, 140, 141, 142, 143, 144, 145, 146, 147, 148, 149, 150, 151, 152, 153, 154, 155] (by decide +kernel) (by decide +kernel)
set_option maxRecDepth 20000 in
theorem gX8_init_X5_init_n9 : GoodIn wsX8_init (wsX5_init) := ggX8_init_X5_init
set_option maxRecDepth 20000 in
theorem ggX8_init_X7_init : GoodIn wsX8_init wsX7_init := goodIn_r _ [86, 87, 2, 3, 44, 88, 89, 90, 91, 92, 93, 94, 115, 116, 117, 118, 119, 120, 121] (by decide +kernel) (by decide +kernel)
set_option maxRecDepth 20000 in
theorem gX8_init_X7_init_n21 : GoodIn wsX8_init (wsX7_init) := ggX8_init_X7_init
set_option maxRecDepth 20000 in
theorem ggX8_init_X6_init : GoodIn wsX8_init wsX6_init := goodIn_r _ [96, 97, 2, 3, 44, 98, 99, 100, 101, 102, 103, 104, 122, 123, 124, 125, 126, 127, 128] (by decide +kernel) (by decide +kernel)
set_option maxRecDepth 20000 in
theorem gX8_init_X6_init_n28 : GoodIn wsX8_init (wsX6_init) := ggX8_init_X6_init
theorem dX8_init_0 : decode cX8_init 0 = .ok (.aload_n 0, 1) := by decide +kernel
theorem dX8_init_1 : decode cX8_init 1 = .ok (.invokespecial 1, 3) := by decide +kernel
theorem dX8_init_4 : decode cX8_init 4 = .ok (.aload_n 0, 1) := by decide +kernel
theorem dX8_init_5 : decode cX8_init 5 = .ok (.new 7, 3) := by decide +kernel
theorem dX8_init_8 : decode cX8_init 8 = .ok (.dup, 1) := by decide +kernel
theorem dX8_init_9 : decode cX8_init 9 = .ok (.invokespecial 9, 3) := by decide +kernel
theorem dX8_init_12 : decode cX8_init 12 = .ok (.putfield 10, 3) := by decide +kernel
theorem dX8_init_15 : decode cX8_init 15 = .ok (.aload_n 0, 1) := by decide +kernel
theorem dX8_init_16 : decode cX8_init 16 = .ok (.new 7, 3) := by decide +kernel
theorem dX8_init_19 : decode cX8_init 19 = .ok (.dup, 1) := by decide +kernel
theorem dX8_init_20 : decode cX8_init 20 = .ok (.invokespecial 9, 3) := by decide +kernel
theorem dX8_init_23 : decode cX8_init 23 = .ok (.putfield 16, 3) := by decide +kernel
theorem dX8_init_26 : decode cX8_init 26 = .ok (.aload_n 0, 1) := by decide +kernel
theorem dX8_init_27 : decode cX8_init 27 = .ok (.new 19, 3) := by decide +kernel
theorem dX8_init_30 : decode cX8_init 30 = .ok (.dup, 1) := by decide +kernel
theorem dX8_init_31 : decode cX8_init 31 = .ok (.invokespecial 21, 3) := by decide +kernel
theorem dX8_init_34 : decode cX8_init 34 = .ok (.putfield 22, 3) := by decide +kernel
theorem dX8_init_37 : decode cX8_init 37 = .ok (.aload_n 0, 1) := by decide +kernel
theorem dX8_init_38 : decode cX8_init 38 = .ok (.new 26, 3) := by decide +kernel
theorem dX8_init_41 : decode cX8_init 41 = .ok (.dup, 1) := by decide +kernel
theorem dX8_init_42 : decode cX8_init 42 = .ok (.invokespecial 28, 3) := by decide +kernel
theorem dX8_init_45 : decode cX8_init 45 = .ok (.putfield 29, 3) := by decide +kernel
theorem dX8_init_48 : decode cX8_init 48 = .ok (.return_, 1) := by decide +kernel
set_option maxRecDepth 20000 in
theorem ggX8_machine_X8_needPerson : GoodIn wsX8_machine wsX8_needPerson := goodIn_ca (goodIn_r _ [7, 8, 9] (by decide +kernel) (by decide +kernel)) (goodIn_sub (fun _ h => List.mem_cons_of_mem _ (List.mem_append_left _ (List.mem_append_left _ (List.mem_append_right _ h)))) (by decide +kernel))
set_option maxRecDepth 20000 in
theorem gX8_machine_X8_needPerson : GoodIn wsX8_machine (va_wsS RX8 33 yX8_needPerson wsX8_needPerson) := goodIn_app (goodIn_of _ (by decide +kernel)) ggX8_machine_X8_needPerson
set_option maxRecDepth 20000 in
theorem ggX8_machine_X8_needRange : GoodIn wsX8_machine wsX8_needRange := goodIn_ca (goodIn_r _ [12, 13, 14] (by decide +kernel) (by decide +kernel)) (goodIn_sub (fun _ h => List.mem_cons_of_mem _ (List.mem_append_left _ (List.mem_append_right _ h))) (by decide +kernel))
set_option maxRecDepth 20000 in
theorem gX8_machine_X8_needRange : GoodIn wsX8_machine (va_wsS RX8 37 yX8_needRange wsX8_needRange) := goodIn_app (goodIn_of _ (by decide +kernel)) ggX8_machine_X8_needRange
set_option maxRecDepth 20000 in
theorem ggX8_machine_X8_needState : GoodIn wsX8_machine wsX8_needState := goodIn_ca (goodIn_r _ [17, 18, 19] (by decide +kernel) (by decide +kernel)) (goodIn_sub (fun _ h => List.mem_cons_of_mem _ (List.mem_append_right _ h)) (by decide +kernel))
set_option maxRecDepth 20000 in
theorem gX8_machine_X8_needState : GoodIn wsX8_machine (va_wsS RX8 51 yX8_needState wsX8_needState) := goodIn_app (goodIn_of _ (by decide +kernel)) ggX8_machine_X8_needState
set_option maxRecDepth 20000 in
theorem ggX8_machine_X8_tell : GoodIn wsX8_machine wsX8_tell := goodIn_r _ [23, 24, 1, 25, 26, 27, 28, 29, 30, 31, 32, 33, 34, 35, 36, 37, 38, 39, 40, 41, 42, 43, 44, 45, 46, 47, 48, 49, 50, 51, 52, 53, 54, 55, 56, 57, 58, 59, 60, 61, 62, 63, 64, 65, 66, 67, 68, 69, 70, 71, 72, 73, 74, 75, 76, 77, 78, 79, 80, 81, 82, 83, 84, 85, 86, 87, 88, 89, 90, 91, 92, 93, 94, 95, 96, 97, 98, 99, 100, 101, 102, 103, 104, 105, 106, 107, 108, 109, 110, 111, 112, 113, 114, 115, 116, 117, 118, 119, 120, 121, 122, 123, 124, 125, 126, 127, 128, 129, 130, 131, 132, 133, 134, 135, 136, 137, 138, 139, 140, 141, 142, 143, 144, 145, 146, 147, 148, 149, 150, 151, 152, 153, 154, 161, 162, 163, 164, 165, 166, 167, 155, 156, 157, 158, 159, 160, 168, 169, 170, 171, 172, 173, 174, 175, 176, 177, 178, 179, 180, 181, 182, 183, 184, 185, 186, 187, 188] (by decide +kernel) (by decide +kernel)
set_option maxRecDepth 20000 in
theorem gX8_machine_X8_tell : GoodIn wsX8_machine (wsV RX8 55 RX8 yX8_tell wsX8_tell) := goodIn_app (goodIn_of _ (by decide +kernel)) ggX8_machine_X8_tell
theorem dX8_machine_0 : decode cX8_machine 0 = .ok (.iload_n 2, 1) := by decide +kernel
theorem dX8_machine_1 : decode cX8_machine 1 = .ok (.invokestatic 33, 3) := by decide +kernel
theorem dX8_machine_4 : decode cX8_machine 4 = .ok (.iload_n 1, 1) := by decide +kernel
theorem dX8_machine_5 : decode cX8_machine 5 = .ok (.iconst 0, 1) := by decide +kernel
theorem dX8_machine_6 : decode cX8_machine 6 = .ok (.bipush 15, 2) := by decide +kernel
theorem dX8_machine_8 : decode cX8_machine 8 = .ok (.invokestatic 37, 3) := by decide +kernel
theorem dX8_machine_11 : decode cX8_machine 11 = .ok (.aload_n 0, 1) := by decide +kernel
theorem dX8_machine_12 : decode cX8_machine 12 = .ok (.getfield 10, 3) := by decide +kernel
theorem dX8_machine_15 : decode cX8_machine 15 = .ok (.getfield 41, 3) := by decide +kernel
theorem dX8_machine_18 : decode cX8_machine 18 = .ok (.getfield 45, 3) := by decide +kernel
theorem dX8_machine_21 : decode cX8_machine 21 = .ok (.istore_n 3, 1) := by decide +kernel
theorem dX8_machine_22 : decode cX8_machine 22 = .ok (.iload_n 3, 1) := by decide +kernel
theorem dX8_machine_23 : decode cX8_machine 23 = .ok (.bipush 6, 2) := by decide +kernel
theorem dX8_machine_25 : decode cX8_machine 25 = .ok (.if_icmp .ge 7, 3) := by decide +kernel
theorem dX8_machine_28 : decode cX8_machine 28 = .ok (.iconst 1, 1) := by decide +kernel
theorem dX8_machine_29 : decode cX8_machine 29 = .ok (.goto 4, 3) := by decide +kernel
theorem dX8_machine_32 : decode cX8_machine 32 = .ok (.iconst 0, 1) := by decide +kernel
theorem dX8_machine_33 : decode cX8_machine 33 = .ok (.invokestatic 51, 3) := by decide +kernel
theorem dX8_machine_36 : decode cX8_machine 36 = .ok (.aload_n 0, 1) := by decide +kernel
theorem dX8_machine_37 : decode cX8_machine 37 = .ok (.iconst 0, 1) := by decide +kernel
theorem dX8_machine_38 : decode cX8_machine 38 = .ok (.iload_n 1, 1) := by decide +kernel
theorem dX8_machine_39 : decode cX8_machine 39 = .ok (.iload_n 2, 1) := by decide +kernel
theorem dX8_machine_40 : decode cX8_machine 40 = .ok (.iconst 0, 1) := by decide +kernel
theorem dX8_machine_41 : decode cX8_machine 41 = .ok (.iconst 0, 1) := by decide +kernel
theorem dX8_machine_42 : decode cX8_machine 42 = .ok (.invokevirtual 55, 3) := by decide +kernel
theorem dX8_machine_45 : decode cX8_machine 45 = .ok (.iload_n 3, 1) := by decide +kernel
theorem dX8_machine_46 : decode cX8_machine 46 = .ok (.ireturn, 1) := by decide +kernel
set_option maxRecDepth 20000 in
theorem ggX8_leave_X8_needPerson : GoodIn wsX8_leave wsX8_needPerson := goodIn_ca (goodIn_r _ [7, 8, 9] (by decide +kernel) (by decide +kernel)) (goodIn_sub (fun _ h => List.mem_cons_of_mem _ (List.mem_append_left _ (List.mem_append_left _ (List.mem_append_right _ h)))) (by decide +kernel))
set_option maxRecDepth 20000 in
theorem gX8_leave_X8_needPerson : GoodIn wsX8_leave (va_wsS RX8 33 yX8_needPerson wsX8_needPerson) := goodIn_app (goodIn_of _ (by decide +kernel)) ggX8_leave_X8_needPerson
set_option maxRecDepth 20000 in
theorem ggX8_leave_X8_needRange : GoodIn wsX8_leave wsX8_needRange := goodIn_ca (goodIn_r _ [12, 13, 14] (by decide +kernel) (by decide +kernel)) (goodIn_sub (fun _ h => List.mem_cons_of_mem _ (List.mem_append_left _ (List.mem_append_right _ h))) (by decide +kernel))
set_option maxRecDepth 20000 in
theorem gX8_leave_X8_needRange : GoodIn wsX8_leave (va_wsS RX8 37 yX8_needRange wsX8_needRange) := goodIn_app (goodIn_of _ (by decide +kernel)) ggX8_leave_X8_needRange
set_option maxRecDepth 20000 in
theorem ggX8_leave_X4_busyPeople : GoodIn wsX8_leave wsX4_busyPeople := goodIn_r _ [19, 20, 21, 22, 23, 24, 25, 6, 26, 163, 164, 165, 166, 167, 168, 169] (by decide +kernel) (by decide +kernel)
set_option maxRecDepth 20000 in
theorem gX8_leave_X4_busyPeople : GoodIn wsX8_leave (wsV RX8 66 RX4 yX4_busyPeople wsX4_busyPeople) := goodIn_app (goodIn_of _ (by decide +kernel)) ggX8_leave_X4_busyPeople
set_option maxRecDepth 20000 in
theorem ggX8_leave_X8_isIn : GoodIn wsX8_leave wsX8_isIn := goodIn_r _ [29] (by decide +kernel) (by decide +kernel)
set_option maxRecDepth 20000 in
theorem gX8_leave_X8_isIn : GoodIn wsX8_leave (va_wsS RX8 72 yX8_isIn wsX8_isIn) := goodIn_app (goodIn_of _ (by decide +kernel)) ggX8_leave_X8_isIn
set_option maxRecDepth 20000 in
theorem ggX8_leave_X8_needState : GoodIn wsX8_leave wsX8_needState := goodIn_ca (goodIn_r _ [32, 33, 34] (by decide +kernel) (by decide +kernel)) (goodIn_sub (fun _ h => List.mem_cons_of_mem _ (List.mem_append_right _ h)) (by decide +kernel))
set_option maxRecDepth 20000 in
theorem gX8_leave_X8_needState : GoodIn wsX8_leave (va_wsS RX8 51 yX8_needState wsX8_needState) := goodIn_app (goodIn_of _ (by decide +kernel)) ggX8_leave_X8_needState
set_option maxRecDepth 20000 in
theorem ggX8_leave_X8_tell : GoodIn wsX8_leave wsX8_tell := goodIn_r _ [38, 39, 1, 2, 40, 41, 42, 43, 44, 45, 46, 47, 48, 49, 50, 51, 52, 53, 54, 55, 56, 57, 58, 59, 60, 61, 62, 63, 64, 65, 66, 67, 68, 69, 70, 71, 72, 73, 74, 75, 76, 77, 78, 79, 80, 81, 82, 83, 84, 85, 86, 87, 88, 89, 90, 91, 92, 93, 94, 95, 96, 97, 98, 99, 100, 101, 102, 103, 104, 105, 106, 107, 108, 109, 110, 111, 112, 113, 114, 115, 116, 18, 117, 20, 24, 22, 23, 118, 21, 119, 120, 121, 122, 123, 124, 125, 126, 127, 128, 129, 130, 131, 132, 133, 134, 135, 136, 137, 138, 139, 140, 141, 142, 143, 144, 145, 146, 147, 148, 149, 150, 151, 152, 153, 154, 155, 156, 157, 158, 159, 160, 161, 162, 170, 171, 172, 173, 174, 175, 176, 177, 178, 179, 180, 181, 182, 183, 184, 185, 186, 187, 188, 189, 190, 191, 192, 193, 194, 195, 196, 163, 164, 165, 166, 167, 168, 169] (by decide +kernel) (by decide +kernel)
set_option maxRecDepth 20000 in
theorem gX8_leave_X8_tell : GoodIn wsX8_leave (wsV RX8 55 RX8 yX8_tell wsX8_tell) := goodIn_app (goodIn_of _ (by decide +kernel)) ggX8_leave_X8_tell
theorem dX8_leave_0 : decode cX8_leave 0 = .ok (.iload_n 1, 1) := by decide +kernel
theorem dX8_leave_1 : decode cX8_leave 1 = .ok (.invokestatic 33, 3) := by decide +kernel
theorem dX8_leave_4 : decode cX8_leave 4 = .ok (.iload_n 2, 1) := by decide +kernel
theorem dX8_leave_5 : decode cX8_leave 5 = .ok (.aload_n 0, 1) := by decide +kernel
theorem dX8_leave_6 : decode cX8_leave 6 = .ok (.getfield 10, 3) := by decide +kernel
theorem dX8_leave_9 : decode cX8_leave 9 = .ok (.getfield 59, 3) := by decide +kernel
theorem dX8_leave_12 : decode cX8_leave 12 = .ok (.bipush 8, 2) := by decide +kernel
theorem dX8_leave_14 : decode cX8_leave 14 = .ok (.idiv, 1) := by decide +kernel
theorem dX8_leave_15 : decode cX8_leave 15 = .ok (.bipush 49, 2) := by decide +kernel
theorem dX8_leave_17 : decode cX8_leave 17 = .ok (.invokestatic 37, 3) := by decide +kernel
theorem dX8_leave_20 : decode cX8_leave 20 = .ok (.iload_n 3, 1) := by decide +kernel
theorem dX8_leave_21 : decode cX8_leave 21 = .ok (.iload_n 2, 1) := by decide +kernel
theorem dX8_leave_22 : decode cX8_leave 22 = .ok (.bipush 49, 2) := by decide +kernel
theorem dX8_leave_24 : decode cX8_leave 24 = .ok (.invokestatic 37, 3) := by decide +kernel
theorem dX8_leave_27 : decode cX8_leave 27 = .ok (.iload_n 3, 1) := by decide +kernel
theorem dX8_leave_28 : decode cX8_leave 28 = .ok (.iload_n 2, 1) := by decide +kernel
theorem dX8_leave_29 : decode cX8_leave 29 = .ok (.isub, 1) := by decide +kernel
theorem dX8_leave_30 : decode cX8_leave 30 = .ok (.iconst 1, 1) := by decide +kernel
theorem dX8_leave_31 : decode cX8_leave 31 = .ok (.iadd, 1) := by decide +kernel
theorem dX8_leave_32 : decode cX8_leave 32 = .ok (.bipush 8, 2) := by decide +kernel
theorem dX8_leave_34 : decode cX8_leave 34 = .ok (.imul, 1) := by decide +kernel
theorem dX8_leave_35 : decode cX8_leave 35 = .ok (.istore 4, 2) := by decide +kernel
theorem dX8_leave_37 : decode cX8_leave 37 = .ok (.iload_n 1, 1) := by decide +kernel
theorem dX8_leave_38 : decode cX8_leave 38 = .ok (.aload_n 0, 1) := by decide +kernel
theorem dX8_leave_39 : decode cX8_leave 39 = .ok (.getfield 10, 3) := by decide +kernel
theorem dX8_leave_42 : decode cX8_leave 42 = .ok (.getfield 62, 3) := by decide +kernel
theorem dX8_leave_45 : decode cX8_leave 45 = .ok (.iload_n 2, 1) := by decide +kernel
theorem dX8_leave_46 : decode cX8_leave 46 = .ok (.bipush 8, 2) := by decide +kernel
theorem dX8_leave_48 : decode cX8_leave 48 = .ok (.imul, 1) := by decide +kernel
theorem dX8_leave_49 : decode cX8_leave 49 = .ok (.iload 4, 2) := by decide +kernel
theorem dX8_leave_51 : decode cX8_leave 51 = .ok (.iconst (-1), 1) := by decide +kernel
theorem dX8_leave_52 : decode cX8_leave 52 = .ok (.invokevirtual 66, 3) := by decide +kernel
theorem dX8_leave_55 : decode cX8_leave 55 = .ok (.invokestatic 72, 3) := by decide +kernel
theorem dX8_leave_58 : decode cX8_leave 58 = .ok (.ifCond .ne 7, 3) := by decide +kernel
theorem dX8_leave_61 : decode cX8_leave 61 = .ok (.iconst 1, 1) := by decide +kernel
theorem dX8_leave_62 : decode cX8_leave 62 = .ok (.goto 4, 3) := by decide +kernel
theorem dX8_leave_65 : decode cX8_leave 65 = .ok (.iconst 0, 1) := by decide +kernel
theorem dX8_leave_66 : decode cX8_leave 66 = .ok (.invokestatic 51, 3) := by decide +kernel
theorem dX8_leave_69 : decode cX8_leave 69 = .ok (.aload_n 0, 1) := by decide +kernel
theorem dX8_leave_70 : decode cX8_leave 70 = .ok (.iconst 1, 1) := by decide +kernel
theorem dX8_leave_71 : decode cX8_leave 71 = .ok (.iload_n 1, 1) := by decide +kernel
theorem dX8_leave_72 : decode cX8_leave 72 = .ok (.iload_n 2, 1) := by decide +kernel
theorem dX8_leave_73 : decode cX8_leave 73 = .ok (.iload_n 3, 1) := by decide +kernel
theorem dX8_leave_74 : decode cX8_leave 74 = .ok (.iconst 0, 1) := by decide +kernel
theorem dX8_leave_75 : decode cX8_leave 75 = .ok (.invokevirtual 55, 3) := by decide +kernel
theorem dX8_leave_78 : decode cX8_leave 78 = .ok (.return_, 1) := by decide +kernel
set_option maxRecDepth 20000 in
theorem ggX8_lend_X8_needMachine : GoodIn wsX8_lend wsX8_needMachine := goodIn_ca (goodIn_r _ [9, 10, 11, 1, 12, 13, 14, 15, 16, 17, 18, 151, 152, 153, 154, 155, 156, 157, 158, 159, 160, 166, 167, 168, 169, 170, 171] (by decide +kernel) (by decide +kernel)) (goodIn_sub (fun _ h => List.mem_cons_of_mem _ (List.mem_append_left _ (List.mem_append_left _ (List.mem_append_right _ h)))) (by decide +kernel))
set_option maxRecDepth 20000 in
theorem gX8_lend_X8_needMachine : GoodIn wsX8_lend (wsV RX8 76 RX8 yX8_needMachine wsX8_needMachine) := goodIn_app (goodIn_of _ (by decide +kernel)) ggX8_lend_X8_needMachine
set_option maxRecDepth 20000 in
theorem ggX8_lend_X8_needPerson : GoodIn wsX8_lend wsX8_needPerson := goodIn_ca (goodIn_r _ [21, 10, 11] (by decide +kernel) (by decide +kernel)) (goodIn_sub (fun _ h => List.mem_cons_of_mem _ (List.mem_append_left _ (List.mem_append_left _ (List.mem_append_right _ h)))) (by decide +kernel))
set_option maxRecDepth 20000 in
theorem gX8_lend_X8_needPerson : GoodIn wsX8_lend (va_wsS RX8 33 yX8_needPerson wsX8_needPerson) := goodIn_app (goodIn_of _ (by decide +kernel)) ggX8_lend_X8_needPerson
set_option maxRecDepth 20000 in
theorem ggX8_lend_X8_needRange : GoodIn wsX8_lend wsX8_needRange := goodIn_ca (goodIn_r _ [24, 25, 26] (by decide +kernel) (by decide +kernel)) (goodIn_sub (fun _ h => List.mem_cons_of_mem _ (List.mem_append_left _ (List.mem_append_right _ h))) (by decide +kernel))
set_option maxRecDepth 20000 in
theorem gX8_lend_X8_needRange : GoodIn wsX8_lend (va_wsS RX8 37 yX8_needRange wsX8_needRange) := goodIn_app (goodIn_of _ (by decide +kernel)) ggX8_lend_X8_needRange
set_option maxRecDepth 20000 in
theorem ggX8_lend_X8_needState : GoodIn wsX8_lend wsX8_needState := goodIn_ca (goodIn_r _ [29, 30, 31] (by decide +kernel) (by decide +kernel)) (goodIn_sub (fun _ h => List.mem_cons_of_mem _ (List.mem_append_right _ h)) (by decide +kernel))
set_option maxRecDepth 20000 in
theorem gX8_lend_X8_needState : GoodIn wsX8_lend (va_wsS RX8 51 yX8_needState wsX8_needState) := goodIn_app (goodIn_of _ (by decide +kernel)) ggX8_lend_X8_needState
set_option maxRecDepth 20000 in
theorem ggX8_lend_X8_tell : GoodIn wsX8_lend wsX8_tell := goodIn_r _ [35, 36, 1, 2, 37, 38, 39, 40, 41, 42, 43, 44, 45, 46, 47, 48, 49, 50, 51, 52, 53, 54, 55, 56, 57, 58, 59, 60, 61, 16, 62, 18, 63, 64, 65, 66, 67, 68, 69, 70, 71, 72, 73, 74, 75, 76, 77, 78, 79, 80, 81, 82, 83, 84, 85, 86, 87, 88, 89, 90, 91, 92, 14, 15, 17, 93, 94, 95, 96, 97, 98, 99, 100, 101, 102, 103, 104, 105, 106, 107, 108, 109, 110, 111, 112, 113, 114, 115, 116, 117, 118, 119, 120, 121, 122, 123, 124, 125, 126, 127, 128, 129, 130, 131, 132, 133, 134, 135, 136, 137, 138, 139, 140, 141, 142, 143, 144, 145, 146, 147, 148, 149, 150, 151, 152, 153, 154, 155, 156, 157, 158, 159, 160, 172, 173, 174, 175, 176, 177, 178, 166, 167, 168, 169, 170, 171, 179, 161, 162, 163, 164, 165, 180, 181, 182, 183, 184, 185, 186, 187, 188, 189, 190, 191, 192, 193, 194] (by decide +kernel) (by decide +kernel)
set_option maxRecDepth 20000 in
theorem gX8_lend_X8_tell : GoodIn wsX8_lend (wsV RX8 55 RX8 yX8_tell wsX8_tell) := goodIn_app (goodIn_of _ (by decide +kernel)) ggX8_lend_X8_tell
theorem dX8_lend_0 : decode cX8_lend 0 = .ok (.aload_n 0, 1) := by decide +kernel
theorem dX8_lend_1 : decode cX8_lend 1 = .ok (.iload_n 1, 1) := by decide +kernel
theorem dX8_lend_2 : decode cX8_lend 2 = .ok (.invokevirtual 76, 3) := by decide +kernel
theorem dX8_lend_5 : decode cX8_lend 5 = .ok (.iload_n 2, 1) := by decide +kernel
theorem dX8_lend_6 : decode cX8_lend 6 = .ok (.invokestatic 33, 3) := by decide +kernel
theorem dX8_lend_9 : decode cX8_lend 9 = .ok (.iload_n 3, 1) := by decide +kernel
theorem dX8_lend_10 : decode cX8_lend 10 = .ok (.aload_n 0, 1) := by decide +kernel
theorem dX8_lend_11 : decode cX8_lend 11 = .ok (.getfield 10, 3) := by decide +kernel
theorem dX8_lend_14 : decode cX8_lend 14 = .ok (.getfield 59, 3) := by decide +kernel
theorem dX8_lend_17 : decode cX8_lend 17 = .ok (.sipush 399, 3) := by decide +kernel
theorem dX8_lend_20 : decode cX8_lend 20 = .ok (.invokestatic 37, 3) := by decide +kernel
theorem dX8_lend_23 : decode cX8_lend 23 = .ok (.iload 4, 2) := by decide +kernel
theorem dX8_lend_25 : decode cX8_lend 25 = .ok (.iload_n 3, 1) := by decide +kernel
theorem dX8_lend_26 : decode cX8_lend 26 = .ok (.sipush 399, 3) := by decide +kernel
theorem dX8_lend_29 : decode cX8_lend 29 = .ok (.invokestatic 37, 3) := by decide +kernel
theorem dX8_lend_32 : decode cX8_lend 32 = .ok (.aload_n 0, 1) := by decide +kernel
theorem dX8_lend_33 : decode cX8_lend 33 = .ok (.getfield 10, 3) := by decide +kernel
theorem dX8_lend_36 : decode cX8_lend 36 = .ok (.getfield 79, 3) := by decide +kernel
theorem dX8_lend_39 : decode cX8_lend 39 = .ok (.getfield 83, 3) := by decide +kernel
theorem dX8_lend_42 : decode cX8_lend 42 = .ok (.bipush 20, 2) := by decide +kernel
theorem dX8_lend_44 : decode cX8_lend 44 = .ok (.if_icmp .ge 7, 3) := by decide +kernel
theorem dX8_lend_47 : decode cX8_lend 47 = .ok (.iconst 1, 1) := by decide +kernel
theorem dX8_lend_48 : decode cX8_lend 48 = .ok (.goto 4, 3) := by decide +kernel
theorem dX8_lend_51 : decode cX8_lend 51 = .ok (.iconst 0, 1) := by decide +kernel
theorem dX8_lend_52 : decode cX8_lend 52 = .ok (.invokestatic 51, 3) := by decide +kernel
theorem dX8_lend_55 : decode cX8_lend 55 = .ok (.aload_n 0, 1) := by decide +kernel
theorem dX8_lend_56 : decode cX8_lend 56 = .ok (.iconst 2, 1) := by decide +kernel
theorem dX8_lend_57 : decode cX8_lend 57 = .ok (.iload_n 1, 1) := by decide +kernel
theorem dX8_lend_58 : decode cX8_lend 58 = .ok (.iload_n 2, 1) := by decide +kernel
theorem dX8_lend_59 : decode cX8_lend 59 = .ok (.iload_n 3, 1) := by decide +kernel
theorem dX8_lend_60 : decode cX8_lend 60 = .ok (.iload 4, 2) := by decide +kernel
theorem dX8_lend_62 : decode cX8_lend 62 = .ok (.invokevirtual 55, 3) := by decide +kernel
theorem dX8_lend_65 : decode cX8_lend 65 = .ok (.return_, 1) := by decide +kernel
set_option maxRecDepth 20000 in
theorem ggX8_breakDown_X8_needMachine : GoodIn wsX8_breakDown wsX8_needMachine := goodIn_ca (goodIn_r _ [8, 9, 10, 1, 2, 11, 12, 13, 14, 15, 16, 142, 143, 144, 145, 146, 147, 148, 149, 150, 151, 152, 153, 154, 155, 156, 157] (by decide +kernel) (by decide +kernel)) (goodIn_sub (fun _ h => List.mem_cons_of_mem _ (List.mem_append_left _ (List.mem_append_right _ h))) (by decide +kernel))
set_option maxRecDepth 20000 in
theorem gX8_breakDown_X8_needMachine : GoodIn wsX8_breakDown (wsV RX8 76 RX8 yX8_needMachine wsX8_needMachine) := goodIn_app (goodIn_of _ (by decide +kernel)) ggX8_breakDown_X8_needMachine
set_option maxRecDepth 20000 in
theorem ggX8_breakDown_X8_needRange : GoodIn wsX8_breakDown wsX8_needRange := goodIn_ca (goodIn_r _ [19, 20, 21] (by decide +kernel) (by decide +kernel)) (goodIn_sub (fun _ h => List.mem_cons_of_mem _ (List.mem_append_right _ h)) (by decide +kernel))
set_option maxRecDepth 20000 in
theorem gX8_breakDown_X8_needRange : GoodIn wsX8_breakDown (va_wsS RX8 37 yX8_needRange wsX8_needRange) := goodIn_app (goodIn_of _ (by decide +kernel)) ggX8_breakDown_X8_needRange
set_option maxRecDepth 20000 in
theorem ggX8_breakDown_X8_tell : GoodIn wsX8_breakDown wsX8_tell := goodIn_r _ [25, 26, 1, 27, 28, 29, 30, 31, 32, 33, 34, 35, 36, 37, 38, 39, 40, 41, 42, 43, 44, 45, 46, 47, 48, 49, 50, 51, 52, 14, 53, 16, 54, 55, 56, 57, 58, 59, 60, 61, 62, 63, 64, 65, 66, 67, 68, 69, 70, 71, 72, 73, 74, 75, 76, 77, 78, 79, 80, 81, 82, 83, 12, 13, 15, 84, 85, 86, 87, 88, 89, 90, 91, 92, 93, 94, 95, 96, 97, 98, 99, 100, 101, 102, 103, 104, 105, 106, 107, 108, 109, 110, 111, 112, 113, 114, 115, 116, 117, 118, 119, 120, 121, 122, 123, 124, 125, 126, 127, 128, 129, 130, 131, 132, 133, 134, 135, 136, 137, 138, 139, 140, 141, 142, 143, 144, 145, 146, 147, 148, 149, 150, 151, 158, 159, 160, 161, 162, 163, 164, 152, 153, 154, 155, 156, 157, 165, 166, 167, 168, 169, 170, 171, 172, 173, 174, 175, 176, 177, 178, 179, 180, 181, 182, 183, 184, 185] (by decide +kernel) (by decide +kernel)
set_option maxRecDepth 20000 in
theorem gX8_breakDown_X8_tell : GoodIn wsX8_breakDown (wsV RX8 55 RX8 yX8_tell wsX8_tell) := goodIn_app (goodIn_of _ (by decide +kernel)) ggX8_breakDown_X8_tell
theorem dX8_breakDown_0 : decode cX8_breakDown 0 = .ok (.aload_n 0, 1) := by decide +kernel
theorem dX8_breakDown_1 : decode cX8_breakDown 1 = .ok (.iload_n 1, 1) := by decide +kernel
theorem dX8_breakDown_2 : decode cX8_breakDown 2 = .ok (.invokevirtual 76, 3) := by decide +kernel
theorem dX8_breakDown_5 : decode cX8_breakDown 5 = .ok (.iload_n 2, 1) := by decide +kernel
theorem dX8_breakDown_6 : decode cX8_breakDown 6 = .ok (.iconst 0, 1) := by decide +kernel
theorem dX8_breakDown_7 : decode cX8_breakDown 7 = .ok (.bipush 40, 2) := by decide +kernel
theorem dX8_breakDown_9 : decode cX8_breakDown 9 = .ok (.invokestatic 37, 3) := by decide +kernel
theorem dX8_breakDown_12 : decode cX8_breakDown 12 = .ok (.iload_n 2, 1) := by decide +kernel
theorem dX8_breakDown_13 : decode cX8_breakDown 13 = .ok (.ifCond .le 18, 3) := by decide +kernel
theorem dX8_breakDown_16 : decode cX8_breakDown 16 = .ok (.aload_n 0, 1) := by decide +kernel
theorem dX8_breakDown_17 : decode cX8_breakDown 17 = .ok (.getfield 10, 3) := by decide +kernel
theorem dX8_breakDown_20 : decode cX8_breakDown 20 = .ok (.getfield 41, 3) := by decide +kernel
theorem dX8_breakDown_23 : decode cX8_breakDown 23 = .ok (.getfield 86, 3) := by decide +kernel
theorem dX8_breakDown_26 : decode cX8_breakDown 26 = .ok (.iload_n 1, 1) := by decide +kernel
theorem dX8_breakDown_27 : decode cX8_breakDown 27 = .ok (.iaload, 1) := by decide +kernel
theorem dX8_breakDown_28 : decode cX8_breakDown 28 = .ok (.goto 4, 3) := by decide +kernel
theorem dX8_breakDown_31 : decode cX8_breakDown 31 = .ok (.iconst (-1), 1) := by decide +kernel
theorem dX8_breakDown_32 : decode cX8_breakDown 32 = .ok (.istore_n 3, 1) := by decide +kernel
theorem dX8_breakDown_33 : decode cX8_breakDown 33 = .ok (.aload_n 0, 1) := by decide +kernel
theorem dX8_breakDown_34 : decode cX8_breakDown 34 = .ok (.iconst 3, 1) := by decide +kernel
theorem dX8_breakDown_35 : decode cX8_breakDown 35 = .ok (.iload_n 1, 1) := by decide +kernel
theorem dX8_breakDown_36 : decode cX8_breakDown 36 = .ok (.iload_n 2, 1) := by decide +kernel
theorem dX8_breakDown_37 : decode cX8_breakDown 37 = .ok (.iconst 0, 1) := by decide +kernel
theorem dX8_breakDown_38 : decode cX8_breakDown 38 = .ok (.iconst 0, 1) := by decide +kernel
theorem dX8_breakDown_39 : decode cX8_breakDown 39 = .ok (.invokevirtual 55, 3) := by decide +kernel
theorem dX8_breakDown_42 : decode cX8_breakDown 42 = .ok (.iload_n 3, 1) := by decide +kernel
theorem dX8_breakDown_43 : decode cX8_breakDown 43 = .ok (.ireturn, 1) := by decide +kernel
set_option maxRecDepth 20000 in
theorem ggX8_meeting_X8_needMachine : GoodIn wsX8_meeting wsX8_needMachine := goodIn_ca (goodIn_r _ [9, 10, 11, 1, 12, 13, 14, 15, 16, 17, 18, 188, 189, 190, 191, 192, 193, 194, 195, 196, 197, 205, 206, 207, 208, 209, 210] (by decide +kernel) (by decide +kernel)) (goodIn_sub (fun _ h => List.mem_cons_of_mem _ (List.mem_append_left _ (List.mem_append_left _ (List.mem_append_right _ h)))) (by decide +kernel))
set_option maxRecDepth 20000 in
theorem gX8_meeting_X8_needMachine : GoodIn wsX8_meeting (wsV RX8 76 RX8 yX8_needMachine wsX8_needMachine) := goodIn_app (goodIn_of _ (by decide +kernel)) ggX8_meeting_X8_needMachine
set_option maxRecDepth 20000 in
theorem ggX8_meeting_X8_needRange : GoodIn wsX8_meeting wsX8_needRange := goodIn_ca (goodIn_r _ [21, 22, 23] (by decide +kernel) (by decide +kernel)) (goodIn_sub (fun _ h => List.mem_cons_of_mem _ (List.mem_append_left _ (List.mem_append_right _ h))) (by decide +kernel))
set_option maxRecDepth 20000 in
theorem gX8_meeting_X8_needRange : GoodIn wsX8_meeting (va_wsS RX8 37 yX8_needRange wsX8_needRange) := goodIn_app (goodIn_of _ (by decide +kernel)) ggX8_meeting_X8_needRange
set_option maxRecDepth 20000 in
theorem ggX8_meeting_X8_needOneDay : GoodIn wsX8_meeting wsX8_needOneDay := goodIn_ca (goodIn_r _ [26, 22, 23, 27, 28, 8, 29] (by decide +kernel) (by decide +kernel)) (goodIn_sub (fun _ h => List.mem_cons_of_mem _ (List.mem_append_left _ (List.mem_append_right _ h))) (by decide +kernel))
set_option maxRecDepth 20000 in
theorem gX8_meeting_X8_needOneDay : GoodIn wsX8_meeting (va_wsS RX8 90 yX8_needOneDay wsX8_needOneDay) := goodIn_app (goodIn_of _ (by decide +kernel)) ggX8_meeting_X8_needOneDay
set_option maxRecDepth 20000 in
theorem ggX8_meeting_X8_needState : GoodIn wsX8_meeting wsX8_needState := goodIn_ca (goodIn_r _ [32, 33, 34] (by decide +kernel) (by decide +kernel)) (goodIn_sub (fun _ h => List.mem_cons_of_mem _ (List.mem_append_right _ h)) (by decide +kernel))
set_option maxRecDepth 20000 in
theorem gX8_meeting_X8_needState : GoodIn wsX8_meeting (va_wsS RX8 51 yX8_needState wsX8_needState) := goodIn_app (goodIn_of _ (by decide +kernel)) ggX8_meeting_X8_needState
set_option maxRecDepth 20000 in
theorem ggX8_meeting_X5_hasRoom : GoodIn wsX8_meeting wsX5_hasRoom := goodIn_r _ [39, 40, 41, 42, 43, 44, 45, 46, 47, 48, 49, 50, 51, 52, 53, 8, 54, 55, 56, 57, 58, 59, 60, 61, 62, 63, 64, 65, 66, 67, 68, 69, 70, 71, 72, 38, 73, 74, 75, 76, 77, 78, 14, 15, 16, 17, 18, 79, 80, 81, 82, 83, 84, 85, 86, 87, 88, 89, 90, 91, 192, 193, 194, 195, 196, 197, 198, 199, 200, 201, 202, 203, 204, 211, 205, 206, 207, 208, 209, 210, 212, 213, 214, 215, 216, 217, 218, 219] (by decide +kernel) (by decide +kernel)
set_option maxRecDepth 20000 in
theorem gX8_meeting_X5_hasRoom : GoodIn wsX8_meeting (wsV RX8 95 RX5 yX5_hasRoom wsX5_hasRoom) := goodIn_app (goodIn_of _ (by decide +kernel)) ggX8_meeting_X5_hasRoom
set_option maxRecDepth 20000 in
theorem ggX8_meeting_X8_tell : GoodIn wsX8_meeting wsX8_tell := goodIn_r _ [95, 96, 1, 2, 97, 98, 99, 100, 101, 102, 103, 104, 105, 106, 107, 108, 109, 110, 111, 38, 112, 42, 41, 113, 40, 75, 114, 115, 116, 16, 117, 18, 118, 119, 89, 90, 120, 121, 122, 123, 58, 124, 64, 125, 126, 127, 128, 129, 130, 131, 132, 133, 134, 135, 136, 137, 138, 139, 140, 141, 74, 78, 14, 15, 17, 142, 143, 144, 82, 145, 146, 147, 148, 149, 80, 81, 83, 84, 150, 151, 152, 46, 153, 48, 52, 50, 51, 69, 49, 154, 155, 156, 157, 158, 159, 160, 161, 162, 163, 164, 165, 166, 167, 168, 169, 170, 171, 172, 173, 174, 175, 176, 177, 178, 179, 180, 181, 182, 183, 184, 185, 186, 187, 188, 189, 190, 191, 192, 193, 194, 195, 196, 197, 220, 221, 222, 223, 224, 225, 226, 205, 206, 207, 208, 209, 210, 211, 227, 228, 229, 230, 231, 212, 213, 214, 215, 216, 217, 218, 219, 198, 199, 200, 201, 202, 203, 204] (by decide +kernel) (by decide +kernel)
set_option maxRecDepth 20000 in
theorem gX8_meeting_X8_tell : GoodIn wsX8_meeting (wsV RX8 55 RX8 yX8_tell wsX8_tell) := goodIn_app (goodIn_of _ (by decide +kernel)) ggX8_meeting_X8_tell
theorem dX8_meeting_0 : decode cX8_meeting 0 = .ok (.iload 4, 2) := by decide +kernel
theorem dX8_meeting_2 : decode cX8_meeting 2 = .ok (.iconst (-1), 1) := by decide +kernel
theorem dX8_meeting_3 : decode cX8_meeting 3 = .ok (.if_icmp .eq 9, 3) := by decide +kernel
theorem dX8_meeting_6 : decode cX8_meeting 6 = .ok (.aload_n 0, 1) := by decide +kernel
theorem dX8_meeting_7 : decode cX8_meeting 7 = .ok (.iload 4, 2) := by decide +kernel
theorem dX8_meeting_9 : decode cX8_meeting 9 = .ok (.invokevirtual 76, 3) := by decide +kernel
theorem dX8_meeting_12 : decode cX8_meeting 12 = .ok (.iload_n 1, 1) := by decide +kernel
theorem dX8_meeting_13 : decode cX8_meeting 13 = .ok (.iconst 1, 1) := by decide +kernel
theorem dX8_meeting_14 : decode cX8_meeting 14 = .ok (.sipush 1023, 3) := by decide +kernel
theorem dX8_meeting_17 : decode cX8_meeting 17 = .ok (.invokestatic 37, 3) := by decide +kernel
theorem dX8_meeting_20 : decode cX8_meeting 20 = .ok (.iload_n 2, 1) := by decide +kernel
theorem dX8_meeting_21 : decode cX8_meeting 21 = .ok (.aload_n 0, 1) := by decide +kernel
theorem dX8_meeting_22 : decode cX8_meeting 22 = .ok (.getfield 10, 3) := by decide +kernel
theorem dX8_meeting_25 : decode cX8_meeting 25 = .ok (.getfield 59, 3) := by decide +kernel
theorem dX8_meeting_28 : decode cX8_meeting 28 = .ok (.sipush 399, 3) := by decide +kernel
theorem dX8_meeting_31 : decode cX8_meeting 31 = .ok (.invokestatic 37, 3) := by decide +kernel
theorem dX8_meeting_34 : decode cX8_meeting 34 = .ok (.iload_n 3, 1) := by decide +kernel
theorem dX8_meeting_35 : decode cX8_meeting 35 = .ok (.iconst 1, 1) := by decide +kernel
theorem dX8_meeting_36 : decode cX8_meeting 36 = .ok (.iconst 4, 1) := by decide +kernel
theorem dX8_meeting_37 : decode cX8_meeting 37 = .ok (.invokestatic 37, 3) := by decide +kernel
theorem dX8_meeting_40 : decode cX8_meeting 40 = .ok (.iload_n 2, 1) := by decide +kernel
theorem dX8_meeting_41 : decode cX8_meeting 41 = .ok (.iload_n 3, 1) := by decide +kernel
theorem dX8_meeting_42 : decode cX8_meeting 42 = .ok (.invokestatic 90, 3) := by decide +kernel
theorem dX8_meeting_45 : decode cX8_meeting 45 = .ok (.aload_n 0, 1) := by decide +kernel
theorem dX8_meeting_46 : decode cX8_meeting 46 = .ok (.getfield 10, 3) := by decide +kernel
theorem dX8_meeting_49 : decode cX8_meeting 49 = .ok (.getfield 62, 3) := by decide +kernel
theorem dX8_meeting_52 : decode cX8_meeting 52 = .ok (.getfield 94, 3) := by decide +kernel
theorem dX8_meeting_55 : decode cX8_meeting 55 = .ok (.istore 5, 2) := by decide +kernel
theorem dX8_meeting_57 : decode cX8_meeting 57 = .ok (.iload 5, 2) := by decide +kernel
theorem dX8_meeting_59 : decode cX8_meeting 59 = .ok (.bipush 30, 2) := by decide +kernel
theorem dX8_meeting_61 : decode cX8_meeting 61 = .ok (.if_icmp .ge 7, 3) := by decide +kernel
theorem dX8_meeting_64 : decode cX8_meeting 64 = .ok (.iconst 1, 1) := by decide +kernel
theorem dX8_meeting_65 : decode cX8_meeting 65 = .ok (.goto 4, 3) := by decide +kernel
theorem dX8_meeting_68 : decode cX8_meeting 68 = .ok (.iconst 0, 1) := by decide +kernel
theorem dX8_meeting_69 : decode cX8_meeting 69 = .ok (.invokestatic 51, 3) := by decide +kernel
theorem dX8_meeting_72 : decode cX8_meeting 72 = .ok (.aload_n 0, 1) := by decide +kernel
theorem dX8_meeting_73 : decode cX8_meeting 73 = .ok (.getfield 10, 3) := by decide +kernel
theorem dX8_meeting_76 : decode cX8_meeting 76 = .ok (.iload_n 1, 1) := by decide +kernel
theorem dX8_meeting_77 : decode cX8_meeting 77 = .ok (.iload_n 2, 1) := by decide +kernel
theorem dX8_meeting_78 : decode cX8_meeting 78 = .ok (.iload_n 3, 1) := by decide +kernel
theorem dX8_meeting_79 : decode cX8_meeting 79 = .ok (.iload 4, 2) := by decide +kernel
theorem dX8_meeting_81 : decode cX8_meeting 81 = .ok (.iconst (-1), 1) := by decide +kernel
theorem dX8_meeting_82 : decode cX8_meeting 82 = .ok (.invokevirtual 95, 3) := by decide +kernel
theorem dX8_meeting_85 : decode cX8_meeting 85 = .ok (.invokestatic 51, 3) := by decide +kernel
theorem dX8_meeting_88 : decode cX8_meeting 88 = .ok (.aload_n 0, 1) := by decide +kernel
theorem dX8_meeting_89 : decode cX8_meeting 89 = .ok (.iconst 4, 1) := by decide +kernel
theorem dX8_meeting_90 : decode cX8_meeting 90 = .ok (.iload_n 1, 1) := by decide +kernel
theorem dX8_meeting_91 : decode cX8_meeting 91 = .ok (.iload_n 2, 1) := by decide +kernel
theorem dX8_meeting_92 : decode cX8_meeting 92 = .ok (.iload_n 3, 1) := by decide +kernel
theorem dX8_meeting_93 : decode cX8_meeting 93 = .ok (.iload 4, 2) := by decide +kernel
theorem dX8_meeting_95 : decode cX8_meeting 95 = .ok (.invokevirtual 55, 3) := by decide +kernel
theorem dX8_meeting_98 : decode cX8_meeting 98 = .ok (.iload 5, 2) := by decide +kernel
theorem dX8_meeting_100 : decode cX8_meeting 100 = .ok (.ireturn, 1) := by decide +kernel
set_option maxRecDepth 20000 in
theorem ggX8_move_X8_needMeeting : GoodIn wsX8_move wsX8_needMeeting := goodIn_ca (goodIn_r _ [9, 10, 11, 1, 3, 12, 13, 14, 15, 16, 17, 201, 202, 203, 204, 205, 206, 207, 208, 209, 210, 211, 212, 213, 214, 215, 216, 217] (by decide +kernel) (by decide +kernel)) (goodIn_sub (fun _ h => List.mem_cons_of_mem _ (List.mem_append_left _ (List.mem_append_left _ (List.mem_append_right _ h)))) (by decide +kernel))
set_option maxRecDepth 20000 in
theorem gX8_move_X8_needMeeting : GoodIn wsX8_move (wsV RX8 99 RX8 yX8_needMeeting wsX8_needMeeting) := goodIn_app (goodIn_of _ (by decide +kernel)) ggX8_move_X8_needMeeting
set_option maxRecDepth 20000 in
theorem ggX8_move_X8_needRange : GoodIn wsX8_move wsX8_needRange := goodIn_ca (goodIn_r _ [20, 21, 22] (by decide +kernel) (by decide +kernel)) (goodIn_sub (fun _ h => List.mem_cons_of_mem _ (List.mem_append_left _ (List.mem_append_right _ h))) (by decide +kernel))
set_option maxRecDepth 20000 in
theorem gX8_move_X8_needRange : GoodIn wsX8_move (va_wsS RX8 37 yX8_needRange wsX8_needRange) := goodIn_app (goodIn_of _ (by decide +kernel)) ggX8_move_X8_needRange
set_option maxRecDepth 20000 in
theorem ggX8_move_X8_needOneDay : GoodIn wsX8_move wsX8_needOneDay := goodIn_ca (goodIn_r _ [25, 21, 22, 26, 27, 8, 28] (by decide +kernel) (by decide +kernel)) (goodIn_sub (fun _ h => List.mem_cons_of_mem _ (List.mem_append_left _ (List.mem_append_right _ h))) (by decide +kernel))
set_option maxRecDepth 20000 in
theorem gX8_move_X8_needOneDay : GoodIn wsX8_move (va_wsS RX8 90 yX8_needOneDay wsX8_needOneDay) := goodIn_app (goodIn_of _ (by decide +kernel)) ggX8_move_X8_needOneDay
set_option maxRecDepth 20000 in
theorem ggX8_move_X5_isAhead : GoodIn wsX8_move wsX5_isAhead := goodIn_r _ [33, 34, 35, 36, 37, 38, 13, 14, 15, 16, 17, 205, 206, 207, 208, 209, 210, 211, 212, 213, 214, 215, 216, 217] (by decide +kernel) (by decide +kernel)
set_option maxRecDepth 20000 in
theorem gX8_move_X5_isAhead : GoodIn wsX8_move (wsV RX8 105 RX5 yX5_isAhead wsX5_isAhead) := goodIn_app (goodIn_of _ (by decide +kernel)) ggX8_move_X5_isAhead
set_option maxRecDepth 20000 in
theorem ggX8_move_X8_needState : GoodIn wsX8_move wsX8_needState := goodIn_ca (goodIn_r _ [41, 42, 43] (by decide +kernel) (by decide +kernel)) (goodIn_sub (fun _ h => List.mem_cons_of_mem _ (List.mem_append_right _ h)) (by decide +kernel))
set_option maxRecDepth 20000 in
theorem gX8_move_X8_needState : GoodIn wsX8_move (va_wsS RX8 51 yX8_needState wsX8_needState) := goodIn_app (goodIn_of _ (by decide +kernel)) ggX8_move_X8_needState
set_option maxRecDepth 20000 in
theorem ggX8_move_X5_canBe : GoodIn wsX8_move wsX5_canBe := goodIn_r _ [47, 34, 48, 49, 50, 38, 13, 14, 15, 16, 17, 27, 8, 28, 51, 52, 53, 32, 54, 55, 56, 57, 58, 59, 60, 61, 62, 63, 64, 65, 66, 67, 68, 69, 70, 71, 72, 73, 74, 75, 76, 77, 78, 79, 80, 81, 82, 83, 84, 85, 86, 87, 88, 89, 90, 91, 92, 93, 94, 95, 96, 97, 98, 99, 100, 101, 102, 103, 104, 105, 106, 107, 108, 205, 206, 207, 208, 209, 210, 211, 212, 213, 214, 215, 216, 217, 218, 219, 220, 221, 222, 223, 224, 225, 226, 227, 228, 229, 230, 231, 232] (by decide +kernel) (by decide +kernel)
set_option maxRecDepth 20000 in
theorem gX8_move_X5_canBe : GoodIn wsX8_move (wsV RX8 109 RX5 yX5_canBe wsX5_canBe) := goodIn_app (goodIn_of _ (by decide +kernel)) ggX8_move_X5_canBe
set_option maxRecDepth 20000 in
theorem ggX8_move_X8_tell : GoodIn wsX8_move wsX8_tell := goodIn_r _ [112, 113, 1, 2, 114, 115, 116, 117, 118, 119, 120, 121, 122, 123, 124, 125, 126, 127, 128, 32, 129, 56, 55, 130, 34, 87, 131, 132, 133, 93, 134, 95, 135, 136, 106, 107, 137, 138, 139, 140, 70, 141, 76, 142, 143, 144, 145, 146, 147, 148, 149, 150, 151, 152, 153, 154, 155, 156, 37, 157, 86, 90, 91, 92, 94, 158, 159, 160, 99, 161, 162, 163, 164, 165, 97, 98, 100, 101, 166, 167, 168, 15, 169, 17, 64, 62, 63, 81, 61, 170, 171, 172, 173, 174, 175, 13, 14, 16, 176, 177, 178, 179, 180, 181, 182, 183, 184, 185, 186, 187, 188, 189, 190, 191, 192, 193, 194, 195, 196, 197, 198, 199, 200, 201, 202, 203, 204, 205, 206, 207, 208, 209, 210, 233, 234, 235, 236, 237, 238, 239, 219, 220, 221, 222, 223, 224, 218, 240, 241, 242, 243, 244, 225, 226, 227, 228, 229, 230, 231, 232, 211, 212, 213, 214, 215, 216, 217] (by decide +kernel) (by decide +kernel)
set_option maxRecDepth 20000 in
theorem gX8_move_X8_tell : GoodIn wsX8_move (wsV RX8 55 RX8 yX8_tell wsX8_tell) := goodIn_app (goodIn_of _ (by decide +kernel)) ggX8_move_X8_tell
theorem dX8_move_0 : decode cX8_move 0 = .ok (.aload_n 0, 1) := by decide +kernel
theorem dX8_move_1 : decode cX8_move 1 = .ok (.iload_n 1, 1) := by decide +kernel
theorem dX8_move_2 : decode cX8_move 2 = .ok (.invokevirtual 99, 3) := by decide +kernel
theorem dX8_move_5 : decode cX8_move 5 = .ok (.iload_n 2, 1) := by decide +kernel
theorem dX8_move_6 : decode cX8_move 6 = .ok (.aload_n 0, 1) := by decide +kernel
theorem dX8_move_7 : decode cX8_move 7 = .ok (.getfield 10, 3) := by decide +kernel
theorem dX8_move_10 : decode cX8_move 10 = .ok (.getfield 59, 3) := by decide +kernel
theorem dX8_move_13 : decode cX8_move 13 = .ok (.sipush 399, 3) := by decide +kernel
theorem dX8_move_16 : decode cX8_move 16 = .ok (.invokestatic 37, 3) := by decide +kernel
theorem dX8_move_19 : decode cX8_move 19 = .ok (.iload_n 2, 1) := by decide +kernel
theorem dX8_move_20 : decode cX8_move 20 = .ok (.aload_n 0, 1) := by decide +kernel
theorem dX8_move_21 : decode cX8_move 21 = .ok (.getfield 10, 3) := by decide +kernel
theorem dX8_move_24 : decode cX8_move 24 = .ok (.getfield 62, 3) := by decide +kernel
theorem dX8_move_27 : decode cX8_move 27 = .ok (.getfield 102, 3) := by decide +kernel
theorem dX8_move_30 : decode cX8_move 30 = .ok (.iload_n 1, 1) := by decide +kernel
theorem dX8_move_31 : decode cX8_move 31 = .ok (.iaload, 1) := by decide +kernel
theorem dX8_move_32 : decode cX8_move 32 = .ok (.invokestatic 90, 3) := by decide +kernel
theorem dX8_move_35 : decode cX8_move 35 = .ok (.aload_n 0, 1) := by decide +kernel
theorem dX8_move_36 : decode cX8_move 36 = .ok (.getfield 10, 3) := by decide +kernel
theorem dX8_move_39 : decode cX8_move 39 = .ok (.iload_n 1, 1) := by decide +kernel
theorem dX8_move_40 : decode cX8_move 40 = .ok (.invokevirtual 105, 3) := by decide +kernel
theorem dX8_move_43 : decode cX8_move 43 = .ok (.invokestatic 51, 3) := by decide +kernel
theorem dX8_move_46 : decode cX8_move 46 = .ok (.aload_n 0, 1) := by decide +kernel
theorem dX8_move_47 : decode cX8_move 47 = .ok (.getfield 10, 3) := by decide +kernel
theorem dX8_move_50 : decode cX8_move 50 = .ok (.iload_n 1, 1) := by decide +kernel
theorem dX8_move_51 : decode cX8_move 51 = .ok (.iload_n 2, 1) := by decide +kernel
theorem dX8_move_52 : decode cX8_move 52 = .ok (.invokevirtual 109, 3) := by decide +kernel
theorem dX8_move_55 : decode cX8_move 55 = .ok (.istore_n 3, 1) := by decide +kernel
theorem dX8_move_56 : decode cX8_move 56 = .ok (.iload_n 3, 1) := by decide +kernel
theorem dX8_move_57 : decode cX8_move 57 = .ok (.ifCond .eq 12, 3) := by decide +kernel
theorem dX8_move_60 : decode cX8_move 60 = .ok (.aload_n 0, 1) := by decide +kernel
theorem dX8_move_61 : decode cX8_move 61 = .ok (.iconst 5, 1) := by decide +kernel
theorem dX8_move_62 : decode cX8_move 62 = .ok (.iload_n 1, 1) := by decide +kernel
theorem dX8_move_63 : decode cX8_move 63 = .ok (.iload_n 2, 1) := by decide +kernel
theorem dX8_move_64 : decode cX8_move 64 = .ok (.iconst 0, 1) := by decide +kernel
theorem dX8_move_65 : decode cX8_move 65 = .ok (.iconst 0, 1) := by decide +kernel
theorem dX8_move_66 : decode cX8_move 66 = .ok (.invokevirtual 55, 3) := by decide +kernel
theorem dX8_move_69 : decode cX8_move 69 = .ok (.iload_n 3, 1) := by decide +kernel
theorem dX8_move_70 : decode cX8_move 70 = .ok (.ireturn, 1) := by decide +kernel
set_option maxRecDepth 20000 in
theorem ggX8_cancel_X8_needMeeting : GoodIn wsX8_cancel wsX8_needMeeting := goodIn_ca (goodIn_r _ [6, 7, 8, 1, 9, 10, 11, 12, 13, 14, 15, 148, 149, 150, 151, 152, 153, 154, 155, 156, 157, 158, 159, 160, 161, 162, 163, 164] (by decide +kernel) (by decide +kernel)) (goodIn_sub (fun _ h => List.mem_cons_of_mem _ (List.mem_append_left _ (List.mem_append_right _ h))) (by decide +kernel))
set_option maxRecDepth 20000 in
theorem gX8_cancel_X8_needMeeting : GoodIn wsX8_cancel (wsV RX8 99 RX8 yX8_needMeeting wsX8_needMeeting) := goodIn_app (goodIn_of _ (by decide +kernel)) ggX8_cancel_X8_needMeeting
set_option maxRecDepth 20000 in
theorem ggX8_cancel_X5_isAhead : GoodIn wsX8_cancel wsX5_isAhead := goodIn_r _ [20, 21, 22, 23, 24, 25, 11, 12, 13, 14, 15, 152, 153, 154, 155, 156, 157, 158, 159, 160, 161, 162, 163, 164] (by decide +kernel) (by decide +kernel)
set_option maxRecDepth 20000 in
theorem gX8_cancel_X5_isAhead : GoodIn wsX8_cancel (wsV RX8 105 RX5 yX5_isAhead wsX5_isAhead) := goodIn_app (goodIn_of _ (by decide +kernel)) ggX8_cancel_X5_isAhead
set_option maxRecDepth 20000 in
theorem ggX8_cancel_X8_needState : GoodIn wsX8_cancel wsX8_needState := goodIn_ca (goodIn_r _ [28, 29, 30] (by decide +kernel) (by decide +kernel)) (goodIn_sub (fun _ h => List.mem_cons_of_mem _ (List.mem_append_right _ h)) (by decide +kernel))
set_option maxRecDepth 20000 in
theorem gX8_cancel_X8_needState : GoodIn wsX8_cancel (va_wsS RX8 51 yX8_needState wsX8_needState) := goodIn_app (goodIn_of _ (by decide +kernel)) ggX8_cancel_X8_needState
set_option maxRecDepth 20000 in
theorem ggX8_cancel_X8_tell : GoodIn wsX8_cancel wsX8_tell := goodIn_r _ [34, 35, 1, 36, 37, 38, 39, 40, 41, 42, 43, 44, 45, 46, 47, 48, 49, 50, 51, 19, 52, 53, 54, 55, 21, 56, 57, 58, 59, 60, 61, 62, 63, 64, 65, 66, 67, 68, 69, 70, 71, 72, 73, 74, 75, 76, 77, 78, 79, 80, 81, 82, 83, 84, 85, 86, 87, 88, 24, 89, 90, 91, 92, 93, 94, 95, 96, 97, 98, 99, 100, 101, 102, 103, 104, 105, 106, 107, 108, 109, 110, 13, 111, 15, 112, 113, 114, 115, 116, 117, 118, 119, 120, 121, 122, 11, 12, 14, 123, 124, 125, 126, 127, 128, 129, 130, 131, 132, 133, 134, 135, 136, 137, 138, 139, 140, 141, 142, 143, 144, 145, 146, 147, 148, 149, 150, 151, 152, 153, 154, 155, 156, 157, 165, 166, 167, 168, 169, 170, 171, 172, 173, 174, 175, 176, 177, 178, 179, 180, 181, 182, 183, 184, 185, 186, 187, 188, 189, 190, 191, 158, 159, 160, 161, 162, 163, 164] (by decide +kernel) (by decide +kernel)
set_option maxRecDepth 20000 in
theorem gX8_cancel_X8_tell : GoodIn wsX8_cancel (wsV RX8 55 RX8 yX8_tell wsX8_tell) := goodIn_app (goodIn_of _ (by decide +kernel)) ggX8_cancel_X8_tell
theorem dX8_cancel_0 : decode cX8_cancel 0 = .ok (.aload_n 0, 1) := by decide +kernel
theorem dX8_cancel_1 : decode cX8_cancel 1 = .ok (.iload_n 1, 1) := by decide +kernel
theorem dX8_cancel_2 : decode cX8_cancel 2 = .ok (.invokevirtual 99, 3) := by decide +kernel
theorem dX8_cancel_5 : decode cX8_cancel 5 = .ok (.aload_n 0, 1) := by decide +kernel
theorem dX8_cancel_6 : decode cX8_cancel 6 = .ok (.getfield 10, 3) := by decide +kernel
theorem dX8_cancel_9 : decode cX8_cancel 9 = .ok (.iload_n 1, 1) := by decide +kernel
theorem dX8_cancel_10 : decode cX8_cancel 10 = .ok (.invokevirtual 105, 3) := by decide +kernel
theorem dX8_cancel_13 : decode cX8_cancel 13 = .ok (.invokestatic 51, 3) := by decide +kernel
theorem dX8_cancel_16 : decode cX8_cancel 16 = .ok (.aload_n 0, 1) := by decide +kernel
theorem dX8_cancel_17 : decode cX8_cancel 17 = .ok (.bipush 6, 2) := by decide +kernel
theorem dX8_cancel_19 : decode cX8_cancel 19 = .ok (.iload_n 1, 1) := by decide +kernel
theorem dX8_cancel_20 : decode cX8_cancel 20 = .ok (.iconst 0, 1) := by decide +kernel
theorem dX8_cancel_21 : decode cX8_cancel 21 = .ok (.iconst 0, 1) := by decide +kernel
theorem dX8_cancel_22 : decode cX8_cancel 22 = .ok (.iconst 0, 1) := by decide +kernel
theorem dX8_cancel_23 : decode cX8_cancel 23 = .ok (.invokevirtual 55, 3) := by decide +kernel
theorem dX8_cancel_26 : decode cX8_cancel 26 = .ok (.return_, 1) := by decide +kernel
set_option maxRecDepth 20000 in
theorem ggX8_swap_X8_needMeeting : GoodIn wsX8_swap wsX8_needMeeting := goodIn_ca (goodIn_r _ [12, 13, 14, 3, 6, 15, 16, 17, 18, 19, 20, 48, 49, 50, 51, 59, 60, 61, 62, 63, 64, 65, 66, 67, 68, 69, 70, 71] (by decide +kernel) (by decide +kernel)) (goodIn_sub (fun _ h => List.mem_cons_of_mem _ (List.mem_append_left _ (List.mem_append_right _ h))) (by decide +kernel))
set_option maxRecDepth 20000 in
theorem gX8_swap_X8_needMeeting : GoodIn wsX8_swap (wsV RX8 99 RX8 yX8_needMeeting wsX8_needMeeting) := goodIn_app (goodIn_of _ (by decide +kernel)) ggX8_swap_X8_needMeeting
set_option maxRecDepth 20000 in
theorem ggX8_swap_X5_isAhead : GoodIn wsX8_swap wsX5_isAhead := goodIn_r _ [25, 26, 27, 28, 29, 30, 16, 17, 18, 19, 20, 59, 60, 61, 62, 63, 64, 65, 66, 67, 68, 69, 70, 71] (by decide +kernel) (by decide +kernel)
set_option maxRecDepth 20000 in
theorem gX8_swap_X5_isAhead : GoodIn wsX8_swap (wsV RX8 105 RX5 yX5_isAhead wsX5_isAhead) := goodIn_app (goodIn_of _ (by decide +kernel)) ggX8_swap_X5_isAhead
set_option maxRecDepth 20000 in
theorem ggX8_swap_X8_needState : GoodIn wsX8_swap wsX8_needState := goodIn_ca (goodIn_r _ [33, 34, 35] (by decide +kernel) (by decide +kernel)) (goodIn_sub (fun _ h => List.mem_cons_of_mem _ (List.mem_append_right _ h)) (by decide +kernel))
set_option maxRecDepth 20000 in
theorem gX8_swap_X8_needState : GoodIn wsX8_swap (va_wsS RX8 51 yX8_needState wsX8_needState) := goodIn_app (goodIn_of _ (by decide +kernel)) ggX8_swap_X8_needState
set_option maxRecDepth 20000 in
theorem ggX8_swap_X6_add : GoodIn wsX8_swap wsX6_add := goodIn_r _ [40, 41, 42, 43, 44, 45, 46, 47, 52, 53, 54, 55, 56, 57, 58] (by decide +kernel) (by decide +kernel)
set_option maxRecDepth 20000 in
theorem gX8_swap_X6_add : GoodIn wsX8_swap (wsV RX8 123 RX6 yX6_add wsX6_add) := goodIn_app (goodIn_of _ (by decide +kernel)) ggX8_swap_X6_add
theorem dX8_swap_0 : decode cX8_swap 0 = .ok (.aload_n 0, 1) := by decide +kernel
theorem dX8_swap_1 : decode cX8_swap 1 = .ok (.iload_n 1, 1) := by decide +kernel
theorem dX8_swap_2 : decode cX8_swap 2 = .ok (.invokevirtual 99, 3) := by decide +kernel
theorem dX8_swap_5 : decode cX8_swap 5 = .ok (.aload_n 0, 1) := by decide +kernel
theorem dX8_swap_6 : decode cX8_swap 6 = .ok (.iload_n 2, 1) := by decide +kernel
theorem dX8_swap_7 : decode cX8_swap 7 = .ok (.invokevirtual 99, 3) := by decide +kernel
theorem dX8_swap_10 : decode cX8_swap 10 = .ok (.iload_n 1, 1) := by decide +kernel
theorem dX8_swap_11 : decode cX8_swap 11 = .ok (.iload_n 2, 1) := by decide +kernel
theorem dX8_swap_12 : decode cX8_swap 12 = .ok (.if_icmp .ne 13, 3) := by decide +kernel
theorem dX8_swap_15 : decode cX8_swap 15 = .ok (.new 112, 3) := by decide +kernel
theorem dX8_swap_18 : decode cX8_swap 18 = .ok (.dup, 1) := by decide +kernel
theorem dX8_swap_19 : decode cX8_swap 19 = .ok (.ldc 114, 2) := by decide +kernel
theorem dX8_swap_21 : decode cX8_swap 21 = .ok (.invokespecial 116, 3) := by decide +kernel
theorem dX8_swap_24 : decode cX8_swap 24 = .ok (.athrow, 1) := by decide +kernel
theorem dX8_swap_25 : decode cX8_swap 25 = .ok (.aload_n 0, 1) := by decide +kernel
theorem dX8_swap_26 : decode cX8_swap 26 = .ok (.getfield 10, 3) := by decide +kernel
theorem dX8_swap_29 : decode cX8_swap 29 = .ok (.iload_n 1, 1) := by decide +kernel
theorem dX8_swap_30 : decode cX8_swap 30 = .ok (.invokevirtual 105, 3) := by decide +kernel
theorem dX8_swap_33 : decode cX8_swap 33 = .ok (.invokestatic 51, 3) := by decide +kernel
theorem dX8_swap_36 : decode cX8_swap 36 = .ok (.aload_n 0, 1) := by decide +kernel
theorem dX8_swap_37 : decode cX8_swap 37 = .ok (.getfield 10, 3) := by decide +kernel
theorem dX8_swap_40 : decode cX8_swap 40 = .ok (.iload_n 2, 1) := by decide +kernel
theorem dX8_swap_41 : decode cX8_swap 41 = .ok (.invokevirtual 105, 3) := by decide +kernel
theorem dX8_swap_44 : decode cX8_swap 44 = .ok (.invokestatic 51, 3) := by decide +kernel
theorem dX8_swap_47 : decode cX8_swap 47 = .ok (.aload_n 0, 1) := by decide +kernel
theorem dX8_swap_48 : decode cX8_swap 48 = .ok (.getfield 29, 3) := by decide +kernel
theorem dX8_swap_51 : decode cX8_swap 51 = .ok (.getfield 119, 3) := by decide +kernel
theorem dX8_swap_54 : decode cX8_swap 54 = .ok (.istore_n 3, 1) := by decide +kernel
theorem dX8_swap_55 : decode cX8_swap 55 = .ok (.iload_n 3, 1) := by decide +kernel
theorem dX8_swap_56 : decode cX8_swap 56 = .ok (.bipush 20, 2) := by decide +kernel
theorem dX8_swap_58 : decode cX8_swap 58 = .ok (.if_icmp .ge 7, 3) := by decide +kernel
theorem dX8_swap_61 : decode cX8_swap 61 = .ok (.iconst 1, 1) := by decide +kernel
theorem dX8_swap_62 : decode cX8_swap 62 = .ok (.goto 4, 3) := by decide +kernel
theorem dX8_swap_65 : decode cX8_swap 65 = .ok (.iconst 0, 1) := by decide +kernel
theorem dX8_swap_66 : decode cX8_swap 66 = .ok (.invokestatic 51, 3) := by decide +kernel
theorem dX8_swap_69 : decode cX8_swap 69 = .ok (.aload_n 0, 1) := by decide +kernel
theorem dX8_swap_70 : decode cX8_swap 70 = .ok (.getfield 29, 3) := by decide +kernel
theorem dX8_swap_73 : decode cX8_swap 73 = .ok (.iload_n 1, 1) := by decide +kernel
theorem dX8_swap_74 : decode cX8_swap 74 = .ok (.aload_n 0, 1) := by decide +kernel
theorem dX8_swap_75 : decode cX8_swap 75 = .ok (.getfield 10, 3) := by decide +kernel
theorem dX8_swap_78 : decode cX8_swap 78 = .ok (.getfield 62, 3) := by decide +kernel
theorem dX8_swap_81 : decode cX8_swap 81 = .ok (.getfield 120, 3) := by decide +kernel
theorem dX8_swap_84 : decode cX8_swap 84 = .ok (.iload_n 1, 1) := by decide +kernel
theorem dX8_swap_85 : decode cX8_swap 85 = .ok (.iaload, 1) := by decide +kernel
theorem dX8_swap_86 : decode cX8_swap 86 = .ok (.iload_n 2, 1) := by decide +kernel
theorem dX8_swap_87 : decode cX8_swap 87 = .ok (.aload_n 0, 1) := by decide +kernel
theorem dX8_swap_88 : decode cX8_swap 88 = .ok (.getfield 10, 3) := by decide +kernel
theorem dX8_swap_91 : decode cX8_swap 91 = .ok (.getfield 62, 3) := by decide +kernel
theorem dX8_swap_94 : decode cX8_swap 94 = .ok (.getfield 120, 3) := by decide +kernel
theorem dX8_swap_97 : decode cX8_swap 97 = .ok (.iload_n 2, 1) := by decide +kernel
theorem dX8_swap_98 : decode cX8_swap 98 = .ok (.iaload, 1) := by decide +kernel
theorem dX8_swap_99 : decode cX8_swap 99 = .ok (.invokevirtual 123, 3) := by decide +kernel
theorem dX8_swap_102 : decode cX8_swap 102 = .ok (.iload_n 3, 1) := by decide +kernel
theorem dX8_swap_103 : decode cX8_swap 103 = .ok (.ireturn, 1) := by decide +kernel
set_option maxRecDepth 20000 in
theorem ggX8_agree_X8_needPerson : GoodIn wsX8_agree wsX8_needPerson := goodIn_ca (goodIn_r _ [11, 12, 13] (by decide +kernel) (by decide +kernel)) (goodIn_sub (fun _ h => List.mem_cons_of_mem _ (List.mem_append_left _ (List.mem_append_right _ h))) (by decide +kernel))
set_option maxRecDepth 20000 in
theorem gX8_agree_X8_needPerson : GoodIn wsX8_agree (va_wsS RX8 33 yX8_needPerson wsX8_needPerson) := goodIn_app (goodIn_of _ (by decide +kernel)) ggX8_agree_X8_needPerson
set_option maxRecDepth 20000 in
theorem ggX8_agree_X8_needSwap : GoodIn wsX8_agree wsX8_needSwap := goodIn_ca (goodIn_r _ [17, 12, 13, 1, 18, 222, 223, 224, 225, 226, 227, 228, 229, 230, 231, 232] (by decide +kernel) (by decide +kernel)) (goodIn_sub (fun _ h => List.mem_cons_of_mem _ (List.mem_append_left _ (List.mem_append_right _ h))) (by decide +kernel))
set_option maxRecDepth 20000 in
theorem gX8_agree_X8_needSwap : GoodIn wsX8_agree (wsV RX8 127 RX8 yX8_needSwap wsX8_needSwap) := goodIn_app (goodIn_of _ (by decide +kernel)) ggX8_agree_X8_needSwap
set_option maxRecDepth 20000 in
theorem ggX8_agree_X8_needState : GoodIn wsX8_agree wsX8_needState := goodIn_ca (goodIn_r _ [21, 22, 23] (by decide +kernel) (by decide +kernel)) (goodIn_sub (fun _ h => List.mem_cons_of_mem _ (List.mem_append_right _ h)) (by decide +kernel))
set_option maxRecDepth 20000 in
theorem gX8_agree_X8_needState : GoodIn wsX8_agree (va_wsS RX8 51 yX8_needState wsX8_needState) := goodIn_app (goodIn_of _ (by decide +kernel)) ggX8_agree_X8_needState
set_option maxRecDepth 20000 in
theorem ggX8_agree_X4_peopleOf : GoodIn wsX8_agree wsX4_peopleOf := goodIn_r _ [28, 29, 30, 31, 32, 27, 33, 34, 239, 240, 241, 242, 243, 244, 245] (by decide +kernel) (by decide +kernel)
set_option maxRecDepth 20000 in
theorem gX8_agree_X4_peopleOf : GoodIn wsX8_agree (wsV RX8 136 RX4 yX4_peopleOf wsX4_peopleOf) := goodIn_app (goodIn_of _ (by decide +kernel)) ggX8_agree_X4_peopleOf
set_option maxRecDepth 20000 in
theorem ggX8_agree_X8_isIn : GoodIn wsX8_agree wsX8_isIn := goodIn_r _ [37] (by decide +kernel) (by decide +kernel)
set_option maxRecDepth 20000 in
theorem gX8_agree_X8_isIn : GoodIn wsX8_agree (va_wsS RX8 72 yX8_isIn wsX8_isIn) := goodIn_app (goodIn_of _ (by decide +kernel)) ggX8_agree_X8_isIn
set_option maxRecDepth 20000 in
theorem ggX8_agree_X8_holds : GoodIn wsX8_agree wsX8_holds := goodIn_r _ [41, 1, 5, 6, 3, 4, 42, 43, 44, 45, 46, 47, 48, 49, 50, 51, 52, 53, 54, 31, 32, 27, 33, 34, 222, 223, 224, 225, 226, 227, 228, 229, 230, 231, 232, 233, 234, 235, 236, 237, 238, 239, 240, 241, 242, 243, 244, 245] (by decide +kernel) (by decide +kernel)
set_option maxRecDepth 20000 in
theorem gX8_agree_X8_holds : GoodIn wsX8_agree (wsV RX8 146 RX8 yX8_holds wsX8_holds) := goodIn_app (goodIn_of _ (by decide +kernel)) ggX8_agree_X8_holds
set_option maxRecDepth 20000 in
theorem ggX8_agree_X8_settle : GoodIn wsX8_agree wsX8_settle := goodIn_r _ [58, 1, 5, 6, 3, 2, 59, 60, 61, 48, 62, 50, 52, 54, 31, 32, 27, 33, 34, 63, 64, 65, 66, 67, 30, 68, 69, 70, 71, 72, 73, 74, 75, 10, 76, 77, 78, 79, 80, 81, 82, 83, 84, 85, 86, 87, 88, 29, 89, 90, 91, 92, 93, 94, 95, 96, 97, 98, 99, 100, 101, 102, 103, 104, 105, 106, 107, 108, 109, 110, 111, 112, 113, 114, 115, 116, 117, 118, 119, 120, 121, 122, 123, 124, 125, 126, 127, 128, 129, 130, 131, 132, 133, 134, 135, 136, 137, 138, 139, 140, 141, 142, 143, 144, 145, 146, 147, 148, 149, 150, 151, 152, 153, 154, 155, 156, 157, 158, 159, 160, 161, 162, 163, 164, 165, 166, 167, 168, 169, 170, 171, 172, 173, 174, 175, 176, 177, 178, 179, 180, 181, 53, 182, 183, 184, 185, 186, 187, 188, 189, 190, 191, 192, 193, 194, 195, 196, 197, 198, 199, 200, 201, 202, 203, 204, 205, 206, 207, 208, 209, 210, 211, 212, 213, 214, 215, 216, 217, 218, 219, 220, 221, 222, 223, 224, 225, 226, 227, 228, 229, 230, 231, 232, 233, 234, 235, 236, 237, 238, 239, 240, 241, 242, 243, 244, 245, 246, 247, 248, 249, 250, 251, 252, 253, 254, 255, 256, 257, 258, 259, 260, 261, 262, 263, 264, 265, 266, 267, 268, 269, 270, 271, 272] (by decide +kernel) (by decide +kernel)
set_option maxRecDepth 20000 in
theorem gX8_agree_X8_settle : GoodIn wsX8_agree (wsV RX8 149 RX8 yX8_settle wsX8_settle) := goodIn_app (goodIn_of _ (by decide +kernel)) ggX8_agree_X8_settle
theorem dX8_agree_0 : decode cX8_agree 0 = .ok (.iload_n 1, 1) := by decide +kernel
theorem dX8_agree_1 : decode cX8_agree 1 = .ok (.invokestatic 33, 3) := by decide +kernel
theorem dX8_agree_4 : decode cX8_agree 4 = .ok (.aload_n 0, 1) := by decide +kernel
theorem dX8_agree_5 : decode cX8_agree 5 = .ok (.iload_n 2, 1) := by decide +kernel
theorem dX8_agree_6 : decode cX8_agree 6 = .ok (.invokevirtual 127, 3) := by decide +kernel
theorem dX8_agree_9 : decode cX8_agree 9 = .ok (.aload_n 0, 1) := by decide +kernel
theorem dX8_agree_10 : decode cX8_agree 10 = .ok (.getfield 29, 3) := by decide +kernel
theorem dX8_agree_13 : decode cX8_agree 13 = .ok (.getfield 130, 3) := by decide +kernel
theorem dX8_agree_16 : decode cX8_agree 16 = .ok (.iload_n 2, 1) := by decide +kernel
theorem dX8_agree_17 : decode cX8_agree 17 = .ok (.iaload, 1) := by decide +kernel
theorem dX8_agree_18 : decode cX8_agree 18 = .ok (.ifCond .ne 7, 3) := by decide +kernel
theorem dX8_agree_21 : decode cX8_agree 21 = .ok (.iconst 1, 1) := by decide +kernel
theorem dX8_agree_22 : decode cX8_agree 22 = .ok (.goto 4, 3) := by decide +kernel
theorem dX8_agree_25 : decode cX8_agree 25 = .ok (.iconst 0, 1) := by decide +kernel
theorem dX8_agree_26 : decode cX8_agree 26 = .ok (.invokestatic 51, 3) := by decide +kernel
theorem dX8_agree_29 : decode cX8_agree 29 = .ok (.aload_n 0, 1) := by decide +kernel
theorem dX8_agree_30 : decode cX8_agree 30 = .ok (.getfield 10, 3) := by decide +kernel
theorem dX8_agree_33 : decode cX8_agree 33 = .ok (.getfield 62, 3) := by decide +kernel
theorem dX8_agree_36 : decode cX8_agree 36 = .ok (.aload_n 0, 1) := by decide +kernel
theorem dX8_agree_37 : decode cX8_agree 37 = .ok (.getfield 29, 3) := by decide +kernel
theorem dX8_agree_40 : decode cX8_agree 40 = .ok (.getfield 133, 3) := by decide +kernel
theorem dX8_agree_43 : decode cX8_agree 43 = .ok (.iload_n 2, 1) := by decide +kernel
theorem dX8_agree_44 : decode cX8_agree 44 = .ok (.iaload, 1) := by decide +kernel
theorem dX8_agree_45 : decode cX8_agree 45 = .ok (.invokevirtual 136, 3) := by decide +kernel
theorem dX8_agree_48 : decode cX8_agree 48 = .ok (.aload_n 0, 1) := by decide +kernel
theorem dX8_agree_49 : decode cX8_agree 49 = .ok (.getfield 10, 3) := by decide +kernel
theorem dX8_agree_52 : decode cX8_agree 52 = .ok (.getfield 62, 3) := by decide +kernel
theorem dX8_agree_55 : decode cX8_agree 55 = .ok (.aload_n 0, 1) := by decide +kernel
theorem dX8_agree_56 : decode cX8_agree 56 = .ok (.getfield 29, 3) := by decide +kernel
theorem dX8_agree_59 : decode cX8_agree 59 = .ok (.getfield 140, 3) := by decide +kernel
theorem dX8_agree_62 : decode cX8_agree 62 = .ok (.iload_n 2, 1) := by decide +kernel
theorem dX8_agree_63 : decode cX8_agree 63 = .ok (.iaload, 1) := by decide +kernel
theorem dX8_agree_64 : decode cX8_agree 64 = .ok (.invokevirtual 136, 3) := by decide +kernel
theorem dX8_agree_67 : decode cX8_agree 67 = .ok (.ior, 1) := by decide +kernel
theorem dX8_agree_68 : decode cX8_agree 68 = .ok (.istore_n 3, 1) := by decide +kernel
theorem dX8_agree_69 : decode cX8_agree 69 = .ok (.iload_n 1, 1) := by decide +kernel
theorem dX8_agree_70 : decode cX8_agree 70 = .ok (.iload_n 3, 1) := by decide +kernel
theorem dX8_agree_71 : decode cX8_agree 71 = .ok (.invokestatic 72, 3) := by decide +kernel
theorem dX8_agree_74 : decode cX8_agree 74 = .ok (.invokestatic 51, 3) := by decide +kernel
theorem dX8_agree_77 : decode cX8_agree 77 = .ok (.aload_n 0, 1) := by decide +kernel
theorem dX8_agree_78 : decode cX8_agree 78 = .ok (.getfield 29, 3) := by decide +kernel
theorem dX8_agree_81 : decode cX8_agree 81 = .ok (.getfield 143, 3) := by decide +kernel
theorem dX8_agree_84 : decode cX8_agree 84 = .ok (.iload_n 2, 1) := by decide +kernel
theorem dX8_agree_85 : decode cX8_agree 85 = .ok (.dup2, 1) := by decide +kernel
theorem dX8_agree_86 : decode cX8_agree 86 = .ok (.iaload, 1) := by decide +kernel
theorem dX8_agree_87 : decode cX8_agree 87 = .ok (.iconst 1, 1) := by decide +kernel
theorem dX8_agree_88 : decode cX8_agree 88 = .ok (.iload_n 1, 1) := by decide +kernel
theorem dX8_agree_89 : decode cX8_agree 89 = .ok (.ishl, 1) := by decide +kernel
theorem dX8_agree_90 : decode cX8_agree 90 = .ok (.ior, 1) := by decide +kernel
theorem dX8_agree_91 : decode cX8_agree 91 = .ok (.iastore, 1) := by decide +kernel
theorem dX8_agree_92 : decode cX8_agree 92 = .ok (.aload_n 0, 1) := by decide +kernel
theorem dX8_agree_93 : decode cX8_agree 93 = .ok (.iload_n 2, 1) := by decide +kernel
theorem dX8_agree_94 : decode cX8_agree 94 = .ok (.invokevirtual 146, 3) := by decide +kernel
theorem dX8_agree_97 : decode cX8_agree 97 = .ok (.ifCond .ne 16, 3) := by decide +kernel
theorem dX8_agree_100 : decode cX8_agree 100 = .ok (.aload_n 0, 1) := by decide +kernel
theorem dX8_agree_101 : decode cX8_agree 101 = .ok (.getfield 29, 3) := by decide +kernel
theorem dX8_agree_104 : decode cX8_agree 104 = .ok (.getfield 130, 3) := by decide +kernel
theorem dX8_agree_107 : decode cX8_agree 107 = .ok (.iload_n 2, 1) := by decide +kernel
theorem dX8_agree_108 : decode cX8_agree 108 = .ok (.iconst 2, 1) := by decide +kernel
theorem dX8_agree_109 : decode cX8_agree 109 = .ok (.iastore, 1) := by decide +kernel
theorem dX8_agree_110 : decode cX8_agree 110 = .ok (.goto 21, 3) := by decide +kernel
theorem dX8_agree_113 : decode cX8_agree 113 = .ok (.aload_n 0, 1) := by decide +kernel
theorem dX8_agree_114 : decode cX8_agree 114 = .ok (.getfield 29, 3) := by decide +kernel
theorem dX8_agree_117 : decode cX8_agree 117 = .ok (.getfield 143, 3) := by decide +kernel
theorem dX8_agree_120 : decode cX8_agree 120 = .ok (.iload_n 2, 1) := by decide +kernel
theorem dX8_agree_121 : decode cX8_agree 121 = .ok (.iaload, 1) := by decide +kernel
theorem dX8_agree_122 : decode cX8_agree 122 = .ok (.iload_n 3, 1) := by decide +kernel
theorem dX8_agree_123 : decode cX8_agree 123 = .ok (.if_icmp .ne 8, 3) := by decide +kernel
theorem dX8_agree_126 : decode cX8_agree 126 = .ok (.aload_n 0, 1) := by decide +kernel
theorem dX8_agree_127 : decode cX8_agree 127 = .ok (.iload_n 2, 1) := by decide +kernel
theorem dX8_agree_128 : decode cX8_agree 128 = .ok (.invokevirtual 149, 3) := by decide +kernel
theorem dX8_agree_131 : decode cX8_agree 131 = .ok (.aload_n 0, 1) := by decide +kernel
theorem dX8_agree_132 : decode cX8_agree 132 = .ok (.getfield 29, 3) := by decide +kernel
theorem dX8_agree_135 : decode cX8_agree 135 = .ok (.getfield 130, 3) := by decide +kernel
theorem dX8_agree_138 : decode cX8_agree 138 = .ok (.iload_n 2, 1) := by decide +kernel
theorem dX8_agree_139 : decode cX8_agree 139 = .ok (.iaload, 1) := by decide +kernel
theorem dX8_agree_140 : decode cX8_agree 140 = .ok (.ireturn, 1) := by decide +kernel
set_option maxRecDepth 20000 in
theorem ggX8_build_X8_needRange : GoodIn wsX8_build wsX8_needRange := goodIn_ca (goodIn_r _ [7, 8, 9] (by decide +kernel) (by decide +kernel)) (goodIn_sub (fun _ h => List.mem_cons_of_mem _ (List.mem_append_left _ (List.mem_append_right _ h))) (by decide +kernel))
set_option maxRecDepth 20000 in
theorem gX8_build_X8_needRange : GoodIn wsX8_build (va_wsS RX8 37 yX8_needRange wsX8_needRange) := goodIn_app (goodIn_of _ (by decide +kernel)) ggX8_build_X8_needRange
set_option maxRecDepth 20000 in
theorem ggX8_build_X8_needState : GoodIn wsX8_build wsX8_needState := goodIn_ca (goodIn_r _ [12, 13, 14] (by decide +kernel) (by decide +kernel)) (goodIn_sub (fun _ h => List.mem_cons_of_mem _ (List.mem_append_right _ h)) (by decide +kernel))
set_option maxRecDepth 20000 in
theorem gX8_build_X8_needState : GoodIn wsX8_build (va_wsS RX8 51 yX8_needState wsX8_needState) := goodIn_app (goodIn_of _ (by decide +kernel)) ggX8_build_X8_needState
set_option maxRecDepth 20000 in
theorem ggX8_build_X8_tell : GoodIn wsX8_build wsX8_tell := goodIn_r _ [18, 19, 1, 20, 21, 22, 23, 24, 25, 26, 27, 28, 29, 30, 31, 32, 33, 34, 35, 36, 37, 38, 39, 40, 41, 42, 43, 44, 45, 46, 47, 48, 49, 50, 51, 52, 53, 54, 55, 56, 57, 58, 59, 60, 61, 62, 63, 64, 65, 66, 67, 68, 69, 70, 71, 72, 73, 74, 75, 76, 77, 78, 79, 80, 81, 82, 83, 84, 85, 86, 87, 88, 89, 90, 91, 92, 93, 94, 95, 96, 97, 98, 99, 100, 101, 102, 103, 104, 105, 106, 107, 108, 109, 110, 111, 112, 113, 114, 115, 116, 117, 118, 119, 120, 121, 122, 123, 124, 125, 126, 127, 128, 129, 130, 131, 132, 133, 134, 135, 136, 137, 138, 139, 140, 141, 142, 143, 144, 145, 146, 147, 148, 149, 158, 159, 160, 161, 162, 163, 164, 165, 166, 167, 168, 169, 170, 171, 172, 173, 174, 175, 176, 150, 151, 152, 153, 154, 155, 156, 157, 177, 178, 179, 180, 181, 182, 183] (by decide +kernel) (by decide +kernel)
set_option maxRecDepth 20000 in
theorem gX8_build_X8_tell : GoodIn wsX8_build (wsV RX8 55 RX8 yX8_tell wsX8_tell) := goodIn_app (goodIn_of _ (by decide +kernel)) ggX8_build_X8_tell
theorem dX8_build_0 : decode cX8_build 0 = .ok (.iload_n 1, 1) := by decide +kernel
theorem dX8_build_1 : decode cX8_build 1 = .ok (.iconst 0, 1) := by decide +kernel
theorem dX8_build_2 : decode cX8_build 2 = .ok (.bipush 15, 2) := by decide +kernel
theorem dX8_build_4 : decode cX8_build 4 = .ok (.invokestatic 37, 3) := by decide +kernel
theorem dX8_build_7 : decode cX8_build 7 = .ok (.iload_n 2, 1) := by decide +kernel
theorem dX8_build_8 : decode cX8_build 8 = .ok (.iconst 0, 1) := by decide +kernel
theorem dX8_build_9 : decode cX8_build 9 = .ok (.bipush 9, 2) := by decide +kernel
theorem dX8_build_11 : decode cX8_build 11 = .ok (.invokestatic 37, 3) := by decide +kernel
theorem dX8_build_14 : decode cX8_build 14 = .ok (.iload_n 3, 1) := by decide +kernel
theorem dX8_build_15 : decode cX8_build 15 = .ok (.iconst 1, 1) := by decide +kernel
theorem dX8_build_16 : decode cX8_build 16 = .ok (.bipush 6, 2) := by decide +kernel
theorem dX8_build_18 : decode cX8_build 18 = .ok (.invokestatic 37, 3) := by decide +kernel
theorem dX8_build_21 : decode cX8_build 21 = .ok (.aload_n 0, 1) := by decide +kernel
theorem dX8_build_22 : decode cX8_build 22 = .ok (.getfield 10, 3) := by decide +kernel
theorem dX8_build_25 : decode cX8_build 25 = .ok (.getfield 152, 3) := by decide +kernel
theorem dX8_build_28 : decode cX8_build 28 = .ok (.getfield 156, 3) := by decide +kernel
theorem dX8_build_31 : decode cX8_build 31 = .ok (.istore 4, 2) := by decide +kernel
theorem dX8_build_33 : decode cX8_build 33 = .ok (.iload 4, 2) := by decide +kernel
theorem dX8_build_35 : decode cX8_build 35 = .ok (.bipush 40, 2) := by decide +kernel
theorem dX8_build_37 : decode cX8_build 37 = .ok (.if_icmp .ge 7, 3) := by decide +kernel
theorem dX8_build_40 : decode cX8_build 40 = .ok (.iconst 1, 1) := by decide +kernel
theorem dX8_build_41 : decode cX8_build 41 = .ok (.goto 4, 3) := by decide +kernel
theorem dX8_build_44 : decode cX8_build 44 = .ok (.iconst 0, 1) := by decide +kernel
theorem dX8_build_45 : decode cX8_build 45 = .ok (.invokestatic 51, 3) := by decide +kernel
theorem dX8_build_48 : decode cX8_build 48 = .ok (.aload_n 0, 1) := by decide +kernel
theorem dX8_build_49 : decode cX8_build 49 = .ok (.bipush 8, 2) := by decide +kernel
theorem dX8_build_51 : decode cX8_build 51 = .ok (.iload_n 1, 1) := by decide +kernel
theorem dX8_build_52 : decode cX8_build 52 = .ok (.iload_n 2, 1) := by decide +kernel
theorem dX8_build_53 : decode cX8_build 53 = .ok (.iload_n 3, 1) := by decide +kernel
theorem dX8_build_54 : decode cX8_build 54 = .ok (.iconst 0, 1) := by decide +kernel
theorem dX8_build_55 : decode cX8_build 55 = .ok (.invokevirtual 55, 3) := by decide +kernel
theorem dX8_build_58 : decode cX8_build 58 = .ok (.iload 4, 2) := by decide +kernel
theorem dX8_build_60 : decode cX8_build 60 = .ok (.ireturn, 1) := by decide +kernel
set_option maxRecDepth 20000 in
theorem ggX8_urge_X8_needBuild : GoodIn wsX8_urge wsX8_needBuild := goodIn_ca (goodIn_r _ [9, 10, 11, 1, 2, 12, 13, 14, 15, 16, 17, 148, 149, 150, 151, 152, 153, 154, 155, 156, 157, 158, 159, 160, 161, 162, 163, 164, 165] (by decide +kernel) (by decide +kernel)) (goodIn_sub (fun _ h => List.mem_cons_of_mem _ (List.mem_append_left _ (List.mem_append_left _ (List.mem_append_right _ h)))) (by decide +kernel))
set_option maxRecDepth 20000 in
theorem gX8_urge_X8_needBuild : GoodIn wsX8_urge (wsV RX8 159 RX8 yX8_needBuild wsX8_needBuild) := goodIn_app (goodIn_of _ (by decide +kernel)) ggX8_urge_X8_needBuild
set_option maxRecDepth 20000 in
theorem ggX8_urge_X8_needRange : GoodIn wsX8_urge wsX8_needRange := goodIn_ca (goodIn_r _ [20, 21, 22] (by decide +kernel) (by decide +kernel)) (goodIn_sub (fun _ h => List.mem_cons_of_mem _ (List.mem_append_left _ (List.mem_append_right _ h))) (by decide +kernel))
set_option maxRecDepth 20000 in
theorem gX8_urge_X8_needRange : GoodIn wsX8_urge (va_wsS RX8 37 yX8_needRange wsX8_needRange) := goodIn_app (goodIn_of _ (by decide +kernel)) ggX8_urge_X8_needRange
set_option maxRecDepth 20000 in
theorem ggX8_urge_X8_needState : GoodIn wsX8_urge wsX8_needState := goodIn_ca (goodIn_r _ [25, 26, 27] (by decide +kernel) (by decide +kernel)) (goodIn_sub (fun _ h => List.mem_cons_of_mem _ (List.mem_append_right _ h)) (by decide +kernel))
set_option maxRecDepth 20000 in
theorem gX8_urge_X8_needState : GoodIn wsX8_urge (va_wsS RX8 51 yX8_needState wsX8_needState) := goodIn_app (goodIn_of _ (by decide +kernel)) ggX8_urge_X8_needState
set_option maxRecDepth 20000 in
theorem ggX8_urge_X8_tell : GoodIn wsX8_urge wsX8_tell := goodIn_r _ [31, 32, 1, 33, 34, 35, 36, 37, 38, 39, 40, 41, 42, 43, 44, 45, 46, 47, 48, 49, 50, 51, 52, 53, 54, 55, 56, 57, 58, 59, 60, 61, 62, 63, 64, 65, 66, 67, 68, 69, 70, 71, 72, 73, 74, 75, 76, 77, 78, 79, 80, 81, 82, 83, 84, 85, 86, 87, 88, 89, 90, 91, 92, 93, 94, 95, 96, 97, 15, 98, 99, 100, 101, 102, 13, 14, 16, 17, 103, 104, 105, 106, 107, 108, 109, 110, 111, 112, 113, 114, 115, 116, 117, 118, 119, 120, 121, 122, 123, 124, 125, 126, 127, 128, 129, 130, 131, 132, 133, 134, 135, 136, 137, 138, 139, 140, 141, 142, 143, 144, 145, 146, 147, 148, 149, 150, 151, 152, 153, 154, 155, 156, 157, 166, 167, 168, 169, 170, 171, 172, 173, 174, 175, 176, 177, 178, 179, 180, 181, 182, 183, 184, 158, 159, 160, 161, 162, 163, 164, 165, 185, 186, 187, 188, 189, 190, 191] (by decide +kernel) (by decide +kernel)
set_option maxRecDepth 20000 in
theorem gX8_urge_X8_tell : GoodIn wsX8_urge (wsV RX8 55 RX8 yX8_tell wsX8_tell) := goodIn_app (goodIn_of _ (by decide +kernel)) ggX8_urge_X8_tell
theorem dX8_urge_0 : decode cX8_urge 0 = .ok (.aload_n 0, 1) := by decide +kernel
theorem dX8_urge_1 : decode cX8_urge 1 = .ok (.iload_n 1, 1) := by decide +kernel
theorem dX8_urge_2 : decode cX8_urge 2 = .ok (.invokevirtual 159, 3) := by decide +kernel
theorem dX8_urge_5 : decode cX8_urge 5 = .ok (.iload_n 2, 1) := by decide +kernel
theorem dX8_urge_6 : decode cX8_urge 6 = .ok (.iconst 0, 1) := by decide +kernel
theorem dX8_urge_7 : decode cX8_urge 7 = .ok (.bipush 9, 2) := by decide +kernel
theorem dX8_urge_9 : decode cX8_urge 9 = .ok (.invokestatic 37, 3) := by decide +kernel
theorem dX8_urge_12 : decode cX8_urge 12 = .ok (.aload_n 0, 1) := by decide +kernel
theorem dX8_urge_13 : decode cX8_urge 13 = .ok (.getfield 10, 3) := by decide +kernel
theorem dX8_urge_16 : decode cX8_urge 16 = .ok (.getfield 152, 3) := by decide +kernel
theorem dX8_urge_19 : decode cX8_urge 19 = .ok (.getfield 162, 3) := by decide +kernel
theorem dX8_urge_22 : decode cX8_urge 22 = .ok (.iload_n 1, 1) := by decide +kernel
theorem dX8_urge_23 : decode cX8_urge 23 = .ok (.iaload, 1) := by decide +kernel
theorem dX8_urge_24 : decode cX8_urge 24 = .ok (.ifCond .ne 7, 3) := by decide +kernel
theorem dX8_urge_27 : decode cX8_urge 27 = .ok (.iconst 1, 1) := by decide +kernel
theorem dX8_urge_28 : decode cX8_urge 28 = .ok (.goto 4, 3) := by decide +kernel
theorem dX8_urge_31 : decode cX8_urge 31 = .ok (.iconst 0, 1) := by decide +kernel
theorem dX8_urge_32 : decode cX8_urge 32 = .ok (.invokestatic 51, 3) := by decide +kernel
theorem dX8_urge_35 : decode cX8_urge 35 = .ok (.aload_n 0, 1) := by decide +kernel
theorem dX8_urge_36 : decode cX8_urge 36 = .ok (.getfield 10, 3) := by decide +kernel
theorem dX8_urge_39 : decode cX8_urge 39 = .ok (.getfield 152, 3) := by decide +kernel
theorem dX8_urge_42 : decode cX8_urge 42 = .ok (.getfield 163, 3) := by decide +kernel
theorem dX8_urge_45 : decode cX8_urge 45 = .ok (.iload_n 1, 1) := by decide +kernel
theorem dX8_urge_46 : decode cX8_urge 46 = .ok (.iaload, 1) := by decide +kernel
theorem dX8_urge_47 : decode cX8_urge 47 = .ok (.istore_n 3, 1) := by decide +kernel
theorem dX8_urge_48 : decode cX8_urge 48 = .ok (.aload_n 0, 1) := by decide +kernel
theorem dX8_urge_49 : decode cX8_urge 49 = .ok (.bipush 9, 2) := by decide +kernel
theorem dX8_urge_51 : decode cX8_urge 51 = .ok (.iload_n 1, 1) := by decide +kernel
theorem dX8_urge_52 : decode cX8_urge 52 = .ok (.iload_n 2, 1) := by decide +kernel
theorem dX8_urge_53 : decode cX8_urge 53 = .ok (.iconst 0, 1) := by decide +kernel
theorem dX8_urge_54 : decode cX8_urge 54 = .ok (.iconst 0, 1) := by decide +kernel
theorem dX8_urge_55 : decode cX8_urge 55 = .ok (.invokevirtual 55, 3) := by decide +kernel
theorem dX8_urge_58 : decode cX8_urge 58 = .ok (.iload_n 3, 1) := by decide +kernel
theorem dX8_urge_59 : decode cX8_urge 59 = .ok (.ireturn, 1) := by decide +kernel
set_option maxRecDepth 20000 in
theorem ggX8_pass_X8_needRange : GoodIn wsX8_pass wsX8_needRange := goodIn_ca (goodIn_r _ [6, 7, 8] (by decide +kernel) (by decide +kernel)) (goodIn_sub (fun _ h => List.mem_cons_of_mem _ (List.mem_append_left _ (List.mem_append_right _ h))) (by decide +kernel))
set_option maxRecDepth 20000 in
theorem gX8_pass_X8_needRange : GoodIn wsX8_pass (va_wsS RX8 37 yX8_needRange wsX8_needRange) := goodIn_app (goodIn_of _ (by decide +kernel)) ggX8_pass_X8_needRange
set_option maxRecDepth 20000 in
theorem ggX8_pass_X8_needState : GoodIn wsX8_pass wsX8_needState := goodIn_ca (goodIn_r _ [11, 12, 13] (by decide +kernel) (by decide +kernel)) (goodIn_sub (fun _ h => List.mem_cons_of_mem _ (List.mem_append_right _ h)) (by decide +kernel))
set_option maxRecDepth 20000 in
theorem gX8_pass_X8_needState : GoodIn wsX8_pass (va_wsS RX8 51 yX8_needState wsX8_needState) := goodIn_app (goodIn_of _ (by decide +kernel)) ggX8_pass_X8_needState
set_option maxRecDepth 20000 in
theorem ggX8_pass_X5_passTo : GoodIn wsX8_pass wsX5_passTo := goodIn_r _ [18, 19, 20, 21, 22, 23, 24, 17, 25, 26, 27, 28, 29, 30, 31, 32, 33, 34, 35, 36, 37, 38, 39, 40, 41, 42, 43, 44, 45, 46, 47, 48, 49, 50, 51, 52, 53, 54, 55, 56, 57, 58, 5, 59, 60, 61, 62, 63, 64, 65, 66, 67, 68, 69, 70, 71, 72, 73, 74, 75, 76, 77, 78, 79, 80, 81, 82, 83, 84, 85, 86, 87, 88, 89, 90, 91, 92, 93, 94, 95, 96, 97, 98, 99, 100, 101, 102, 103, 104, 105, 106, 107, 108, 109, 110, 111, 112, 113, 114, 119, 120, 121, 122, 123, 124, 125, 126, 127, 128, 129, 130, 131, 132, 133, 134, 135, 136, 137, 138, 139, 140, 141, 142, 143, 144, 145, 146, 147, 148, 149, 150, 151] (by decide +kernel) (by decide +kernel)
set_option maxRecDepth 20000 in
theorem gX8_pass_X5_passTo : GoodIn wsX8_pass (wsV RX8 166 RX5 yX5_passTo wsX5_passTo) := goodIn_app (goodIn_of _ (by decide +kernel)) ggX8_pass_X5_passTo
theorem dX8_pass_0 : decode cX8_pass 0 = .ok (.iload_n 1, 1) := by decide +kernel
theorem dX8_pass_1 : decode cX8_pass 1 = .ok (.iconst 1, 1) := by decide +kernel
theorem dX8_pass_2 : decode cX8_pass 2 = .ok (.bipush 50, 2) := by decide +kernel
theorem dX8_pass_4 : decode cX8_pass 4 = .ok (.invokestatic 37, 3) := by decide +kernel
theorem dX8_pass_7 : decode cX8_pass 7 = .ok (.aload_n 0, 1) := by decide +kernel
theorem dX8_pass_8 : decode cX8_pass 8 = .ok (.getfield 10, 3) := by decide +kernel
theorem dX8_pass_11 : decode cX8_pass 11 = .ok (.getfield 59, 3) := by decide +kernel
theorem dX8_pass_14 : decode cX8_pass 14 = .ok (.iload_n 1, 1) := by decide +kernel
theorem dX8_pass_15 : decode cX8_pass 15 = .ok (.iadd, 1) := by decide +kernel
theorem dX8_pass_16 : decode cX8_pass 16 = .ok (.sipush 400, 3) := by decide +kernel
theorem dX8_pass_19 : decode cX8_pass 19 = .ok (.if_icmp .gt 7, 3) := by decide +kernel
theorem dX8_pass_22 : decode cX8_pass 22 = .ok (.iconst 1, 1) := by decide +kernel
theorem dX8_pass_23 : decode cX8_pass 23 = .ok (.goto 4, 3) := by decide +kernel
theorem dX8_pass_26 : decode cX8_pass 26 = .ok (.iconst 0, 1) := by decide +kernel
theorem dX8_pass_27 : decode cX8_pass 27 = .ok (.invokestatic 51, 3) := by decide +kernel
theorem dX8_pass_30 : decode cX8_pass 30 = .ok (.aload_n 0, 1) := by decide +kernel
theorem dX8_pass_31 : decode cX8_pass 31 = .ok (.getfield 10, 3) := by decide +kernel
theorem dX8_pass_34 : decode cX8_pass 34 = .ok (.aload_n 0, 1) := by decide +kernel
theorem dX8_pass_35 : decode cX8_pass 35 = .ok (.getfield 10, 3) := by decide +kernel
theorem dX8_pass_38 : decode cX8_pass 38 = .ok (.getfield 59, 3) := by decide +kernel
theorem dX8_pass_41 : decode cX8_pass 41 = .ok (.iload_n 1, 1) := by decide +kernel
theorem dX8_pass_42 : decode cX8_pass 42 = .ok (.iadd, 1) := by decide +kernel
theorem dX8_pass_43 : decode cX8_pass 43 = .ok (.invokevirtual 166, 3) := by decide +kernel
theorem dX8_pass_46 : decode cX8_pass 46 = .ok (.aload_n 0, 1) := by decide +kernel
theorem dX8_pass_47 : decode cX8_pass 47 = .ok (.getfield 10, 3) := by decide +kernel
theorem dX8_pass_50 : decode cX8_pass 50 = .ok (.getfield 59, 3) := by decide +kernel
theorem dX8_pass_53 : decode cX8_pass 53 = .ok (.ireturn, 1) := by decide +kernel
theorem dX8_slot_0 : decode cX8_slot 0 = .ok (.aload_n 0, 1) := by decide +kernel
theorem dX8_slot_1 : decode cX8_slot 1 = .ok (.getfield 10, 3) := by decide +kernel
theorem dX8_slot_4 : decode cX8_slot 4 = .ok (.getfield 59, 3) := by decide +kernel
theorem dX8_slot_7 : decode cX8_slot 7 = .ok (.ireturn, 1) := by decide +kernel
set_option maxRecDepth 20000 in
theorem ggX8_meetingOf_X8_needMeeting : GoodIn wsX8_meetingOf wsX8_needMeeting := goodIn_ca (goodIn_r _ [14, 15, 16, 3, 4, 17, 18, 19, 20, 21, 22, 23, 24, 25, 26, 27, 28, 29, 30, 31, 32, 33, 34, 35, 36, 37, 38, 39] (by decide +kernel) (by decide +kernel)) (goodIn_sub (fun _ h => List.mem_cons_of_mem _ (List.mem_append_right _ h)) (by decide +kernel))
set_option maxRecDepth 20000 in
theorem gX8_meetingOf_X8_needMeeting : GoodIn wsX8_meetingOf (wsV RX8 99 RX8 yX8_needMeeting wsX8_needMeeting) := goodIn_app (goodIn_of _ (by decide +kernel)) ggX8_meetingOf_X8_needMeeting
theorem dX8_meetingOf_0 : decode cX8_meetingOf 0 = .ok (.aload_n 0, 1) := by decide +kernel
theorem dX8_meetingOf_1 : decode cX8_meetingOf 1 = .ok (.iload_n 1, 1) := by decide +kernel
theorem dX8_meetingOf_2 : decode cX8_meetingOf 2 = .ok (.invokevirtual 99, 3) := by decide +kernel
theorem dX8_meetingOf_5 : decode cX8_meetingOf 5 = .ok (.iload_n 2, 1) := by decide +kernel
theorem dX8_meetingOf_6 : decode cX8_meetingOf 6 = .ok (.tableswitch 99 0 4 #[34, 47, 60, 73, 86], 34) := by decide +kernel
theorem dX8_meetingOf_40 : decode cX8_meetingOf 40 = .ok (.aload_n 0, 1) := by decide +kernel
theorem dX8_meetingOf_41 : decode cX8_meetingOf 41 = .ok (.getfield 10, 3) := by decide +kernel
theorem dX8_meetingOf_44 : decode cX8_meetingOf 44 = .ok (.getfield 62, 3) := by decide +kernel
theorem dX8_meetingOf_47 : decode cX8_meetingOf 47 = .ok (.getfield 169, 3) := by decide +kernel
theorem dX8_meetingOf_50 : decode cX8_meetingOf 50 = .ok (.iload_n 1, 1) := by decide +kernel
theorem dX8_meetingOf_51 : decode cX8_meetingOf 51 = .ok (.iaload, 1) := by decide +kernel
theorem dX8_meetingOf_52 : decode cX8_meetingOf 52 = .ok (.ireturn, 1) := by decide +kernel
theorem dX8_meetingOf_53 : decode cX8_meetingOf 53 = .ok (.aload_n 0, 1) := by decide +kernel
theorem dX8_meetingOf_54 : decode cX8_meetingOf 54 = .ok (.getfield 10, 3) := by decide +kernel
theorem dX8_meetingOf_57 : decode cX8_meetingOf 57 = .ok (.getfield 62, 3) := by decide +kernel
theorem dX8_meetingOf_60 : decode cX8_meetingOf 60 = .ok (.getfield 170, 3) := by decide +kernel
theorem dX8_meetingOf_63 : decode cX8_meetingOf 63 = .ok (.iload_n 1, 1) := by decide +kernel
theorem dX8_meetingOf_64 : decode cX8_meetingOf 64 = .ok (.iaload, 1) := by decide +kernel
theorem dX8_meetingOf_65 : decode cX8_meetingOf 65 = .ok (.ireturn, 1) := by decide +kernel
theorem dX8_meetingOf_66 : decode cX8_meetingOf 66 = .ok (.aload_n 0, 1) := by decide +kernel
theorem dX8_meetingOf_67 : decode cX8_meetingOf 67 = .ok (.getfield 10, 3) := by decide +kernel
theorem dX8_meetingOf_70 : decode cX8_meetingOf 70 = .ok (.getfield 62, 3) := by decide +kernel
theorem dX8_meetingOf_73 : decode cX8_meetingOf 73 = .ok (.getfield 102, 3) := by decide +kernel
theorem dX8_meetingOf_76 : decode cX8_meetingOf 76 = .ok (.iload_n 1, 1) := by decide +kernel
theorem dX8_meetingOf_77 : decode cX8_meetingOf 77 = .ok (.iaload, 1) := by decide +kernel
theorem dX8_meetingOf_78 : decode cX8_meetingOf 78 = .ok (.ireturn, 1) := by decide +kernel
theorem dX8_meetingOf_79 : decode cX8_meetingOf 79 = .ok (.aload_n 0, 1) := by decide +kernel
theorem dX8_meetingOf_80 : decode cX8_meetingOf 80 = .ok (.getfield 10, 3) := by decide +kernel
theorem dX8_meetingOf_83 : decode cX8_meetingOf 83 = .ok (.getfield 62, 3) := by decide +kernel
theorem dX8_meetingOf_86 : decode cX8_meetingOf 86 = .ok (.getfield 172, 3) := by decide +kernel
theorem dX8_meetingOf_89 : decode cX8_meetingOf 89 = .ok (.iload_n 1, 1) := by decide +kernel
theorem dX8_meetingOf_90 : decode cX8_meetingOf 90 = .ok (.iaload, 1) := by decide +kernel
theorem dX8_meetingOf_91 : decode cX8_meetingOf 91 = .ok (.ireturn, 1) := by decide +kernel
theorem dX8_meetingOf_92 : decode cX8_meetingOf 92 = .ok (.aload_n 0, 1) := by decide +kernel
theorem dX8_meetingOf_93 : decode cX8_meetingOf 93 = .ok (.getfield 10, 3) := by decide +kernel
theorem dX8_meetingOf_96 : decode cX8_meetingOf 96 = .ok (.getfield 62, 3) := by decide +kernel
theorem dX8_meetingOf_99 : decode cX8_meetingOf 99 = .ok (.getfield 175, 3) := by decide +kernel
theorem dX8_meetingOf_102 : decode cX8_meetingOf 102 = .ok (.iload_n 1, 1) := by decide +kernel
theorem dX8_meetingOf_103 : decode cX8_meetingOf 103 = .ok (.iaload, 1) := by decide +kernel
theorem dX8_meetingOf_104 : decode cX8_meetingOf 104 = .ok (.ireturn, 1) := by decide +kernel
theorem dX8_meetingOf_105 : decode cX8_meetingOf 105 = .ok (.new 112, 3) := by decide +kernel
theorem dX8_meetingOf_108 : decode cX8_meetingOf 108 = .ok (.dup, 1) := by decide +kernel
theorem dX8_meetingOf_109 : decode cX8_meetingOf 109 = .ok (.ldc 178, 2) := by decide +kernel
theorem dX8_meetingOf_111 : decode cX8_meetingOf 111 = .ok (.invokespecial 116, 3) := by decide +kernel
theorem dX8_meetingOf_114 : decode cX8_meetingOf 114 = .ok (.athrow, 1) := by decide +kernel
set_option maxRecDepth 20000 in
theorem ggX8_swapOf_X8_needSwap : GoodIn wsX8_swapOf wsX8_needSwap := goodIn_ca (goodIn_r _ [7, 8, 9, 1, 10, 11, 12, 13, 14, 15, 16, 17, 18, 19, 20, 21] (by decide +kernel) (by decide +kernel)) (goodIn_sub (fun _ h => List.mem_cons_of_mem _ (List.mem_append_right _ h)) (by decide +kernel))
set_option maxRecDepth 20000 in
theorem gX8_swapOf_X8_needSwap : GoodIn wsX8_swapOf (wsV RX8 127 RX8 yX8_needSwap wsX8_needSwap) := goodIn_app (goodIn_of _ (by decide +kernel)) ggX8_swapOf_X8_needSwap
theorem dX8_swapOf_0 : decode cX8_swapOf 0 = .ok (.aload_n 0, 1) := by decide +kernel
theorem dX8_swapOf_1 : decode cX8_swapOf 1 = .ok (.iload_n 1, 1) := by decide +kernel
theorem dX8_swapOf_2 : decode cX8_swapOf 2 = .ok (.invokevirtual 127, 3) := by decide +kernel
theorem dX8_swapOf_5 : decode cX8_swapOf 5 = .ok (.aload_n 0, 1) := by decide +kernel
theorem dX8_swapOf_6 : decode cX8_swapOf 6 = .ok (.getfield 29, 3) := by decide +kernel
theorem dX8_swapOf_9 : decode cX8_swapOf 9 = .ok (.getfield 130, 3) := by decide +kernel
theorem dX8_swapOf_12 : decode cX8_swapOf 12 = .ok (.iload_n 1, 1) := by decide +kernel
theorem dX8_swapOf_13 : decode cX8_swapOf 13 = .ok (.iaload, 1) := by decide +kernel
theorem dX8_swapOf_14 : decode cX8_swapOf 14 = .ok (.ireturn, 1) := by decide +kernel
set_option maxRecDepth 20000 in
theorem ggX8_buildOf_X8_needBuild : GoodIn wsX8_buildOf wsX8_needBuild := goodIn_ca (goodIn_r _ [13, 14, 15, 3, 4, 16, 17, 18, 19, 20, 21, 22, 23, 24, 25, 26, 27, 28, 29, 30, 31, 32, 33, 34, 35, 36, 37, 38, 39] (by decide +kernel) (by decide +kernel)) (goodIn_sub (fun _ h => List.mem_cons_of_mem _ (List.mem_append_right _ h)) (by decide +kernel))
set_option maxRecDepth 20000 in
theorem gX8_buildOf_X8_needBuild : GoodIn wsX8_buildOf (wsV RX8 159 RX8 yX8_needBuild wsX8_needBuild) := goodIn_app (goodIn_of _ (by decide +kernel)) ggX8_buildOf_X8_needBuild
theorem dX8_buildOf_0 : decode cX8_buildOf 0 = .ok (.aload_n 0, 1) := by decide +kernel
theorem dX8_buildOf_1 : decode cX8_buildOf 1 = .ok (.iload_n 1, 1) := by decide +kernel
theorem dX8_buildOf_2 : decode cX8_buildOf 2 = .ok (.invokevirtual 159, 3) := by decide +kernel
theorem dX8_buildOf_5 : decode cX8_buildOf 5 = .ok (.iload_n 2, 1) := by decide +kernel
theorem dX8_buildOf_6 : decode cX8_buildOf 6 = .ok (.tableswitch 82 0 3 #[30, 43, 56, 69], 30) := by decide +kernel
theorem dX8_buildOf_36 : decode cX8_buildOf 36 = .ok (.aload_n 0, 1) := by decide +kernel
theorem dX8_buildOf_37 : decode cX8_buildOf 37 = .ok (.getfield 10, 3) := by decide +kernel
theorem dX8_buildOf_40 : decode cX8_buildOf 40 = .ok (.getfield 152, 3) := by decide +kernel
theorem dX8_buildOf_43 : decode cX8_buildOf 43 = .ok (.getfield 162, 3) := by decide +kernel
theorem dX8_buildOf_46 : decode cX8_buildOf 46 = .ok (.iload_n 1, 1) := by decide +kernel
theorem dX8_buildOf_47 : decode cX8_buildOf 47 = .ok (.iaload, 1) := by decide +kernel
theorem dX8_buildOf_48 : decode cX8_buildOf 48 = .ok (.ireturn, 1) := by decide +kernel
theorem dX8_buildOf_49 : decode cX8_buildOf 49 = .ok (.aload_n 0, 1) := by decide +kernel
theorem dX8_buildOf_50 : decode cX8_buildOf 50 = .ok (.getfield 10, 3) := by decide +kernel
theorem dX8_buildOf_53 : decode cX8_buildOf 53 = .ok (.getfield 152, 3) := by decide +kernel
theorem dX8_buildOf_56 : decode cX8_buildOf 56 = .ok (.getfield 180, 3) := by decide +kernel
theorem dX8_buildOf_59 : decode cX8_buildOf 59 = .ok (.iload_n 1, 1) := by decide +kernel
theorem dX8_buildOf_60 : decode cX8_buildOf 60 = .ok (.iaload, 1) := by decide +kernel
theorem dX8_buildOf_61 : decode cX8_buildOf 61 = .ok (.ireturn, 1) := by decide +kernel
theorem dX8_buildOf_62 : decode cX8_buildOf 62 = .ok (.aload_n 0, 1) := by decide +kernel
theorem dX8_buildOf_63 : decode cX8_buildOf 63 = .ok (.getfield 10, 3) := by decide +kernel
theorem dX8_buildOf_66 : decode cX8_buildOf 66 = .ok (.getfield 152, 3) := by decide +kernel
theorem dX8_buildOf_69 : decode cX8_buildOf 69 = .ok (.getfield 181, 3) := by decide +kernel
theorem dX8_buildOf_72 : decode cX8_buildOf 72 = .ok (.iload_n 1, 1) := by decide +kernel
theorem dX8_buildOf_73 : decode cX8_buildOf 73 = .ok (.iaload, 1) := by decide +kernel
theorem dX8_buildOf_74 : decode cX8_buildOf 74 = .ok (.ireturn, 1) := by decide +kernel
theorem dX8_buildOf_75 : decode cX8_buildOf 75 = .ok (.aload_n 0, 1) := by decide +kernel
theorem dX8_buildOf_76 : decode cX8_buildOf 76 = .ok (.getfield 10, 3) := by decide +kernel
theorem dX8_buildOf_79 : decode cX8_buildOf 79 = .ok (.getfield 152, 3) := by decide +kernel
theorem dX8_buildOf_82 : decode cX8_buildOf 82 = .ok (.getfield 184, 3) := by decide +kernel
theorem dX8_buildOf_85 : decode cX8_buildOf 85 = .ok (.iload_n 1, 1) := by decide +kernel
theorem dX8_buildOf_86 : decode cX8_buildOf 86 = .ok (.iaload, 1) := by decide +kernel
theorem dX8_buildOf_87 : decode cX8_buildOf 87 = .ok (.ireturn, 1) := by decide +kernel
theorem dX8_buildOf_88 : decode cX8_buildOf 88 = .ok (.new 112, 3) := by decide +kernel
theorem dX8_buildOf_91 : decode cX8_buildOf 91 = .ok (.dup, 1) := by decide +kernel
theorem dX8_buildOf_92 : decode cX8_buildOf 92 = .ok (.ldc 187, 2) := by decide +kernel
theorem dX8_buildOf_94 : decode cX8_buildOf 94 = .ok (.invokespecial 116, 3) := by decide +kernel
theorem dX8_buildOf_97 : decode cX8_buildOf 97 = .ok (.athrow, 1) := by decide +kernel
set_option maxRecDepth 20000 in
theorem ggX8_beganAnew_X8_needBuild : GoodIn wsX8_beganAnew wsX8_needBuild := goodIn_ca (goodIn_r _ [8, 9, 10, 11, 2, 12, 13, 14, 15, 16, 17, 202, 203, 204, 205, 206, 207, 208, 209, 210, 211, 212, 213, 214, 215, 216, 217, 218, 219] (by decide +kernel) (by decide +kernel)) (goodIn_sub (fun _ h => List.mem_cons_of_mem _ (List.mem_append_right _ h)) (by decide +kernel))
set_option maxRecDepth 20000 in
theorem gX8_beganAnew_X8_needBuild : GoodIn wsX8_beganAnew (wsV RX8 159 RX8 yX8_needBuild wsX8_needBuild) := goodIn_app (goodIn_of _ (by decide +kernel)) ggX8_beganAnew_X8_needBuild
set_option maxRecDepth 20000 in
theorem ggX8_beganAnew_X8_planAgain : GoodIn wsX8_beganAnew wsX8_planAgain := goodIn_r _ [21, 1, 22, 23, 24, 25, 26, 27, 28, 29, 11, 30, 31, 32, 33, 34, 35, 36, 37, 38, 39, 40, 41, 42, 43, 44, 45, 46, 47, 48, 49, 50, 51, 52, 53, 54, 55, 56, 57, 58, 59, 60, 61, 62, 63, 64, 65, 66, 67, 68, 69, 70, 15, 71, 17, 72, 73, 74, 75, 76, 77, 78, 79, 80, 81, 82, 83, 84, 85, 86, 87, 7, 88, 89, 90, 91, 92, 93, 94, 95, 96, 97, 98, 99, 100, 101, 102, 103, 104, 105, 106, 107, 108, 109, 110, 111, 112, 113, 114, 115, 116, 117, 118, 119, 120, 121, 122, 123, 124, 125, 13, 14, 16, 126, 127, 128, 129, 130, 131, 132, 133, 134, 135, 136, 137, 138, 139, 140, 141, 142, 143, 144, 145, 146, 147, 148, 149, 150, 151, 152, 153, 154, 155, 156, 157, 158, 159, 160, 161, 162, 163, 164, 165, 166, 167, 168, 169, 170, 171, 172, 173, 174, 175, 176, 177, 178, 179, 180, 181, 182, 183, 184, 185, 186, 187, 188, 189, 190, 191, 192, 193, 194, 195, 196, 197, 198, 199, 200, 201, 202, 203, 204, 205, 220, 221, 222, 223, 224, 225, 226, 206, 207, 208, 209, 210, 211, 227, 228, 229, 230, 231, 232, 233, 234, 235, 236, 237, 238, 239, 240, 241, 242, 243, 244, 212, 213, 214, 215, 216, 217, 218, 219, 245] (by decide +kernel) (by decide +kernel)
set_option maxRecDepth 20000 in
theorem gX8_beganAnew_X8_planAgain : GoodIn wsX8_beganAnew (wsV RX8 189 RX8 yX8_planAgain wsX8_planAgain) := goodIn_app (goodIn_of _ (by decide +kernel)) ggX8_beganAnew_X8_planAgain
set_option maxRecDepth 20000 in
theorem ggX8_beganAnew_X0_knows : GoodIn wsX8_beganAnew wsX0_knows := goodIn_r _ [16, 17, 212, 213, 214, 215, 216, 217, 218, 219] (by decide +kernel) (by decide +kernel)
set_option maxRecDepth 20000 in
theorem gX8_beganAnew_X0_knows : GoodIn wsX8_beganAnew (wsV RX8 192 RX0 yX0_knows wsX0_knows) := goodIn_app (goodIn_of _ (by decide +kernel)) ggX8_beganAnew_X0_knows
theorem dX8_beganAnew_0 : decode cX8_beganAnew 0 = .ok (.aload_n 0, 1) := by decide +kernel
theorem dX8_beganAnew_1 : decode cX8_beganAnew 1 = .ok (.iload_n 1, 1) := by decide +kernel
theorem dX8_beganAnew_2 : decode cX8_beganAnew 2 = .ok (.invokevirtual 159, 3) := by decide +kernel
theorem dX8_beganAnew_5 : decode cX8_beganAnew 5 = .ok (.aload_n 0, 1) := by decide +kernel
theorem dX8_beganAnew_6 : decode cX8_beganAnew 6 = .ok (.invokevirtual 189, 3) := by decide +kernel
theorem dX8_beganAnew_9 : decode cX8_beganAnew 9 = .ok (.aload_n 0, 1) := by decide +kernel
theorem dX8_beganAnew_10 : decode cX8_beganAnew 10 = .ok (.getfield 16, 3) := by decide +kernel
theorem dX8_beganAnew_13 : decode cX8_beganAnew 13 = .ok (.getfield 152, 3) := by decide +kernel
theorem dX8_beganAnew_16 : decode cX8_beganAnew 16 = .ok (.iload_n 1, 1) := by decide +kernel
theorem dX8_beganAnew_17 : decode cX8_beganAnew 17 = .ok (.invokevirtual 192, 3) := by decide +kernel
theorem dX8_beganAnew_20 : decode cX8_beganAnew 20 = .ok (.ifCond .eq 18, 3) := by decide +kernel
theorem dX8_beganAnew_23 : decode cX8_beganAnew 23 = .ok (.aload_n 0, 1) := by decide +kernel
theorem dX8_beganAnew_24 : decode cX8_beganAnew 24 = .ok (.getfield 16, 3) := by decide +kernel
theorem dX8_beganAnew_27 : decode cX8_beganAnew 27 = .ok (.getfield 152, 3) := by decide +kernel
theorem dX8_beganAnew_30 : decode cX8_beganAnew 30 = .ok (.getfield 181, 3) := by decide +kernel
theorem dX8_beganAnew_33 : decode cX8_beganAnew 33 = .ok (.iload_n 1, 1) := by decide +kernel
theorem dX8_beganAnew_34 : decode cX8_beganAnew 34 = .ok (.iaload, 1) := by decide +kernel
theorem dX8_beganAnew_35 : decode cX8_beganAnew 35 = .ok (.goto 4, 3) := by decide +kernel
theorem dX8_beganAnew_38 : decode cX8_beganAnew 38 = .ok (.iconst (-1), 1) := by decide +kernel
theorem dX8_beganAnew_39 : decode cX8_beganAnew 39 = .ok (.ireturn, 1) := by decide +kernel
set_option maxRecDepth 20000 in
theorem ggX8_has_X8_needMachine : GoodIn wsX8_has wsX8_needMachine := goodIn_ca (goodIn_r _ [6, 7, 8, 1, 9, 10, 11, 12, 13, 14, 15, 40, 41, 42, 43, 44, 45, 46, 47, 48, 49, 50, 51, 52, 53, 54, 55] (by decide +kernel) (by decide +kernel)) (goodIn_sub (fun _ h => List.mem_cons_of_mem _ (List.mem_append_left _ (List.mem_append_right _ h))) (by decide +kernel))
set_option maxRecDepth 20000 in
theorem gX8_has_X8_needMachine : GoodIn wsX8_has (wsV RX8 76 RX8 yX8_needMachine wsX8_needMachine) := goodIn_app (goodIn_of _ (by decide +kernel)) ggX8_has_X8_needMachine
set_option maxRecDepth 20000 in
theorem ggX8_has_X8_needRange : GoodIn wsX8_has wsX8_needRange := goodIn_ca (goodIn_r _ [18, 19, 20] (by decide +kernel) (by decide +kernel)) (goodIn_sub (fun _ h => List.mem_cons_of_mem _ (List.mem_append_right _ h)) (by decide +kernel))
set_option maxRecDepth 20000 in
theorem gX8_has_X8_needRange : GoodIn wsX8_has (va_wsS RX8 37 yX8_needRange wsX8_needRange) := goodIn_app (goodIn_of _ (by decide +kernel)) ggX8_has_X8_needRange
set_option maxRecDepth 20000 in
theorem ggX8_has_X5_holder : GoodIn wsX8_has wsX5_holder := goodIn_r _ [25, 26, 27, 28, 29, 30, 31, 32, 33, 34, 35, 36, 37, 38, 39, 11, 12, 13, 14, 15, 44, 45, 46, 47, 48, 49, 50, 51, 52, 53, 54, 55, 56, 57, 58, 59, 60] (by decide +kernel) (by decide +kernel)
set_option maxRecDepth 20000 in
theorem gX8_has_X5_holder : GoodIn wsX8_has (wsV RX8 195 RX5 yX5_holder wsX5_holder) := goodIn_app (goodIn_of _ (by decide +kernel)) ggX8_has_X5_holder
theorem dX8_has_0 : decode cX8_has 0 = .ok (.aload_n 0, 1) := by decide +kernel
theorem dX8_has_1 : decode cX8_has 1 = .ok (.iload_n 1, 1) := by decide +kernel
theorem dX8_has_2 : decode cX8_has 2 = .ok (.invokevirtual 76, 3) := by decide +kernel
theorem dX8_has_5 : decode cX8_has 5 = .ok (.iload_n 2, 1) := by decide +kernel
theorem dX8_has_6 : decode cX8_has 6 = .ok (.iconst 0, 1) := by decide +kernel
theorem dX8_has_7 : decode cX8_has 7 = .ok (.sipush 399, 3) := by decide +kernel
theorem dX8_has_10 : decode cX8_has 10 = .ok (.invokestatic 37, 3) := by decide +kernel
theorem dX8_has_13 : decode cX8_has 13 = .ok (.aload_n 0, 1) := by decide +kernel
theorem dX8_has_14 : decode cX8_has 14 = .ok (.getfield 10, 3) := by decide +kernel
theorem dX8_has_17 : decode cX8_has 17 = .ok (.iload_n 1, 1) := by decide +kernel
theorem dX8_has_18 : decode cX8_has 18 = .ok (.iload_n 2, 1) := by decide +kernel
theorem dX8_has_19 : decode cX8_has 19 = .ok (.invokevirtual 195, 3) := by decide +kernel
theorem dX8_has_22 : decode cX8_has 22 = .ok (.ireturn, 1) := by decide +kernel
set_option maxRecDepth 20000 in
theorem ggX8_isFree_X8_needPerson : GoodIn wsX8_isFree wsX8_needPerson := goodIn_ca (goodIn_r _ [7, 8, 9] (by decide +kernel) (by decide +kernel)) (goodIn_sub (fun _ h => List.mem_cons_of_mem _ (List.mem_append_left _ (List.mem_append_right _ h))) (by decide +kernel))
set_option maxRecDepth 20000 in
theorem gX8_isFree_X8_needPerson : GoodIn wsX8_isFree (va_wsS RX8 33 yX8_needPerson wsX8_needPerson) := goodIn_app (goodIn_of _ (by decide +kernel)) ggX8_isFree_X8_needPerson
set_option maxRecDepth 20000 in
theorem ggX8_isFree_X8_needRange : GoodIn wsX8_isFree wsX8_needRange := goodIn_ca (goodIn_r _ [12, 13, 14] (by decide +kernel) (by decide +kernel)) (goodIn_sub (fun _ h => List.mem_cons_of_mem _ (List.mem_append_right _ h)) (by decide +kernel))
set_option maxRecDepth 20000 in
theorem gX8_isFree_X8_needRange : GoodIn wsX8_isFree (va_wsS RX8 37 yX8_needRange wsX8_needRange) := goodIn_app (goodIn_of _ (by decide +kernel)) ggX8_isFree_X8_needRange
set_option maxRecDepth 20000 in
theorem ggX8_isFree_X4_busyPeople : GoodIn wsX8_isFree wsX4_busyPeople := goodIn_r _ [19, 20, 21, 22, 23, 24, 25, 6, 26, 50, 51, 52, 53, 54, 55, 56] (by decide +kernel) (by decide +kernel)
set_option maxRecDepth 20000 in
theorem gX8_isFree_X4_busyPeople : GoodIn wsX8_isFree (wsV RX8 66 RX4 yX4_busyPeople wsX4_busyPeople) := goodIn_app (goodIn_of _ (by decide +kernel)) ggX8_isFree_X4_busyPeople
set_option maxRecDepth 20000 in
theorem ggX8_isFree_X1_peopleAway : GoodIn wsX8_isFree wsX1_peopleAway := goodIn_r _ [31, 32, 33, 34, 30, 35, 36, 57] (by decide +kernel) (by decide +kernel)
set_option maxRecDepth 20000 in
theorem gX8_isFree_X1_peopleAway : GoodIn wsX8_isFree (wsV RX8 203 RX1 yX1_peopleAway wsX1_peopleAway) := goodIn_app (goodIn_of _ (by decide +kernel)) ggX8_isFree_X1_peopleAway
set_option maxRecDepth 20000 in
theorem ggX8_isFree_X8_isIn : GoodIn wsX8_isFree wsX8_isIn := goodIn_r _ [39] (by decide +kernel) (by decide +kernel)
set_option maxRecDepth 20000 in
theorem gX8_isFree_X8_isIn : GoodIn wsX8_isFree (va_wsS RX8 72 yX8_isIn wsX8_isIn) := goodIn_app (goodIn_of _ (by decide +kernel)) ggX8_isFree_X8_isIn
theorem dX8_isFree_0 : decode cX8_isFree 0 = .ok (.iload_n 1, 1) := by decide +kernel
theorem dX8_isFree_1 : decode cX8_isFree 1 = .ok (.invokestatic 33, 3) := by decide +kernel
theorem dX8_isFree_4 : decode cX8_isFree 4 = .ok (.iload_n 2, 1) := by decide +kernel
theorem dX8_isFree_5 : decode cX8_isFree 5 = .ok (.iconst 0, 1) := by decide +kernel
theorem dX8_isFree_6 : decode cX8_isFree 6 = .ok (.sipush 399, 3) := by decide +kernel
theorem dX8_isFree_9 : decode cX8_isFree 9 = .ok (.invokestatic 37, 3) := by decide +kernel
theorem dX8_isFree_12 : decode cX8_isFree 12 = .ok (.iload_n 1, 1) := by decide +kernel
theorem dX8_isFree_13 : decode cX8_isFree 13 = .ok (.aload_n 0, 1) := by decide +kernel
theorem dX8_isFree_14 : decode cX8_isFree 14 = .ok (.getfield 10, 3) := by decide +kernel
theorem dX8_isFree_17 : decode cX8_isFree 17 = .ok (.getfield 62, 3) := by decide +kernel
theorem dX8_isFree_20 : decode cX8_isFree 20 = .ok (.iload_n 2, 1) := by decide +kernel
theorem dX8_isFree_21 : decode cX8_isFree 21 = .ok (.iconst 1, 1) := by decide +kernel
theorem dX8_isFree_22 : decode cX8_isFree 22 = .ok (.iconst (-1), 1) := by decide +kernel
theorem dX8_isFree_23 : decode cX8_isFree 23 = .ok (.invokevirtual 66, 3) := by decide +kernel
theorem dX8_isFree_26 : decode cX8_isFree 26 = .ok (.aload_n 0, 1) := by decide +kernel
theorem dX8_isFree_27 : decode cX8_isFree 27 = .ok (.getfield 10, 3) := by decide +kernel
theorem dX8_isFree_30 : decode cX8_isFree 30 = .ok (.getfield 199, 3) := by decide +kernel
theorem dX8_isFree_33 : decode cX8_isFree 33 = .ok (.iload_n 2, 1) := by decide +kernel
theorem dX8_isFree_34 : decode cX8_isFree 34 = .ok (.invokevirtual 203, 3) := by decide +kernel
theorem dX8_isFree_37 : decode cX8_isFree 37 = .ok (.ior, 1) := by decide +kernel
theorem dX8_isFree_38 : decode cX8_isFree 38 = .ok (.invokestatic 72, 3) := by decide +kernel
theorem dX8_isFree_41 : decode cX8_isFree 41 = .ok (.ifCond .ne 7, 3) := by decide +kernel
theorem dX8_isFree_44 : decode cX8_isFree 44 = .ok (.iconst 1, 1) := by decide +kernel
theorem dX8_isFree_45 : decode cX8_isFree 45 = .ok (.goto 4, 3) := by decide +kernel
theorem dX8_isFree_48 : decode cX8_isFree 48 = .ok (.iconst 0, 1) := by decide +kernel
theorem dX8_isFree_49 : decode cX8_isFree 49 = .ok (.ireturn, 1) := by decide +kernel
set_option maxRecDepth 20000 in
theorem ggX8_diary_X8_needMachine : GoodIn wsX8_diary wsX8_needMachine := goodIn_ca (goodIn_r _ [10, 1, 2, 3, 11, 12, 13, 14, 15, 16, 17, 65, 66, 67, 68, 69, 70, 71, 72, 73, 74, 75, 76, 77, 78, 79, 80] (by decide +kernel) (by decide +kernel)) (goodIn_sub (fun _ h => List.mem_cons_of_mem _ (List.mem_append_left _ (List.mem_append_right _ h))) (by decide +kernel))
set_option maxRecDepth 20000 in
theorem gX8_diary_X8_needMachine : GoodIn wsX8_diary (wsV RX8 76 RX8 yX8_needMachine wsX8_needMachine) := goodIn_app (goodIn_of _ (by decide +kernel)) ggX8_diary_X8_needMachine
set_option maxRecDepth 20000 in
theorem ggX8_diary_X8_needRange : GoodIn wsX8_diary wsX8_needRange := goodIn_ca (goodIn_r _ [20, 21, 22] (by decide +kernel) (by decide +kernel)) (goodIn_sub (fun _ h => List.mem_cons_of_mem _ (List.mem_append_right _ h)) (by decide +kernel))
set_option maxRecDepth 20000 in
theorem gX8_diary_X8_needRange : GoodIn wsX8_diary (va_wsS RX8 37 yX8_needRange wsX8_needRange) := goodIn_app (goodIn_of _ (by decide +kernel)) ggX8_diary_X8_needRange
set_option maxRecDepth 20000 in
theorem ggX8_diary_X5_sign : GoodIn wsX8_diary wsX5_sign := goodIn_r _ [27, 28, 29, 30, 31, 32, 33, 34, 35, 36, 37, 38, 39, 40, 41, 9, 42, 43, 44, 45, 26, 46, 47, 48, 49, 50, 51, 13, 14, 15, 16, 17, 52, 53, 54, 55, 56, 57, 58, 59, 60, 61, 62, 63, 64, 69, 70, 71, 72, 73, 74, 81, 82, 83, 84, 85, 86, 87, 75, 76, 77, 78, 79, 80, 88, 89, 90, 91, 92, 93, 94, 95] (by decide +kernel) (by decide +kernel)
set_option maxRecDepth 20000 in
theorem gX8_diary_X5_sign : GoodIn wsX8_diary (wsV RX8 213 RX5 yX5_sign wsX5_sign) := goodIn_app (goodIn_of _ (by decide +kernel)) ggX8_diary_X5_sign
theorem dX8_diary_0 : decode cX8_diary 0 = .ok (.aload_n 0, 1) := by decide +kernel
theorem dX8_diary_1 : decode cX8_diary 1 = .ok (.iload_n 1, 1) := by decide +kernel
theorem dX8_diary_2 : decode cX8_diary 2 = .ok (.invokevirtual 76, 3) := by decide +kernel
theorem dX8_diary_5 : decode cX8_diary 5 = .ok (.iload_n 3, 1) := by decide +kernel
theorem dX8_diary_6 : decode cX8_diary 6 = .ok (.ifCond .ge 13, 3) := by decide +kernel
theorem dX8_diary_9 : decode cX8_diary 9 = .ok (.new 208, 3) := by decide +kernel
theorem dX8_diary_12 : decode cX8_diary 12 = .ok (.dup, 1) := by decide +kernel
theorem dX8_diary_13 : decode cX8_diary 13 = .ok (.ldc 210, 2) := by decide +kernel
theorem dX8_diary_15 : decode cX8_diary 15 = .ok (.invokespecial 212, 3) := by decide +kernel
theorem dX8_diary_18 : decode cX8_diary 18 = .ok (.athrow, 1) := by decide +kernel
theorem dX8_diary_19 : decode cX8_diary 19 = .ok (.iload_n 2, 1) := by decide +kernel
theorem dX8_diary_20 : decode cX8_diary 20 = .ok (.iconst 0, 1) := by decide +kernel
theorem dX8_diary_21 : decode cX8_diary 21 = .ok (.bipush 49, 2) := by decide +kernel
theorem dX8_diary_23 : decode cX8_diary 23 = .ok (.invokestatic 37, 3) := by decide +kernel
theorem dX8_diary_26 : decode cX8_diary 26 = .ok (.iconst 0, 1) := by decide +kernel
theorem dX8_diary_27 : decode cX8_diary 27 = .ok (.istore 4, 2) := by decide +kernel
theorem dX8_diary_29 : decode cX8_diary 29 = .ok (.bipush 7, 2) := by decide +kernel
theorem dX8_diary_31 : decode cX8_diary 31 = .ok (.istore 5, 2) := by decide +kernel
theorem dX8_diary_33 : decode cX8_diary 33 = .ok (.iload 5, 2) := by decide +kernel
theorem dX8_diary_35 : decode cX8_diary 35 = .ok (.ifCond .lt 57, 3) := by decide +kernel
theorem dX8_diary_38 : decode cX8_diary 38 = .ok (.aload_n 0, 1) := by decide +kernel
theorem dX8_diary_39 : decode cX8_diary 39 = .ok (.getfield 10, 3) := by decide +kernel
theorem dX8_diary_42 : decode cX8_diary 42 = .ok (.iload_n 1, 1) := by decide +kernel
theorem dX8_diary_43 : decode cX8_diary 43 = .ok (.iload_n 2, 1) := by decide +kernel
theorem dX8_diary_44 : decode cX8_diary 44 = .ok (.bipush 8, 2) := by decide +kernel
theorem dX8_diary_46 : decode cX8_diary 46 = .ok (.imul, 1) := by decide +kernel
theorem dX8_diary_47 : decode cX8_diary 47 = .ok (.iload 5, 2) := by decide +kernel
theorem dX8_diary_49 : decode cX8_diary 49 = .ok (.iadd, 1) := by decide +kernel
theorem dX8_diary_50 : decode cX8_diary 50 = .ok (.invokevirtual 213, 3) := by decide +kernel
theorem dX8_diary_53 : decode cX8_diary 53 = .ok (.istore 6, 2) := by decide +kernel
theorem dX8_diary_55 : decode cX8_diary 55 = .ok (.iload 4, 2) := by decide +kernel
theorem dX8_diary_57 : decode cX8_diary 57 = .ok (.iload_n 3, 1) := by decide +kernel
theorem dX8_diary_58 : decode cX8_diary 58 = .ok (.if_icmp .ne 6, 3) := by decide +kernel
theorem dX8_diary_61 : decode cX8_diary 61 = .ok (.iload 6, 2) := by decide +kernel
theorem dX8_diary_63 : decode cX8_diary 63 = .ok (.ireturn, 1) := by decide +kernel
theorem dX8_diary_64 : decode cX8_diary 64 = .ok (.iinc 4 1, 3) := by decide +kernel
theorem dX8_diary_67 : decode cX8_diary 67 = .ok (.iload 6, 2) := by decide +kernel
theorem dX8_diary_69 : decode cX8_diary 69 = .ok (.ldc 217, 2) := by decide +kernel
theorem dX8_diary_71 : decode cX8_diary 71 = .ok (.if_icmp .ne 15, 3) := by decide +kernel
theorem dX8_diary_74 : decode cX8_diary 74 = .ok (.iload 4, 2) := by decide +kernel
theorem dX8_diary_76 : decode cX8_diary 76 = .ok (.iload_n 3, 1) := by decide +kernel
theorem dX8_diary_77 : decode cX8_diary 77 = .ok (.if_icmp .ne 6, 3) := by decide +kernel
theorem dX8_diary_80 : decode cX8_diary 80 = .ok (.ldc 218, 2) := by decide +kernel
theorem dX8_diary_82 : decode cX8_diary 82 = .ok (.ireturn, 1) := by decide +kernel
theorem dX8_diary_83 : decode cX8_diary 83 = .ok (.iinc 4 1, 3) := by decide +kernel
theorem dX8_diary_86 : decode cX8_diary 86 = .ok (.iinc 5 (-1), 3) := by decide +kernel
theorem dX8_diary_89 : decode cX8_diary 89 = .ok (.goto (-56), 3) := by decide +kernel
theorem dX8_diary_92 : decode cX8_diary 92 = .ok (.iconst 0, 1) := by decide +kernel
theorem dX8_diary_93 : decode cX8_diary 93 = .ok (.ireturn, 1) := by decide +kernel
theorem dX8_needRange_0 : decode cX8_needRange 0 = .ok (.iload_n 0, 1) := by decide +kernel
theorem dX8_needRange_1 : decode cX8_needRange 1 = .ok (.iload_n 1, 1) := by decide +kernel
theorem dX8_needRange_2 : decode cX8_needRange 2 = .ok (.if_icmp .lt 8, 3) := by decide +kernel
theorem dX8_needRange_5 : decode cX8_needRange 5 = .ok (.iload_n 0, 1) := by decide +kernel
theorem dX8_needRange_6 : decode cX8_needRange 6 = .ok (.iload_n 2, 1) := by decide +kernel
theorem dX8_needRange_7 : decode cX8_needRange 7 = .ok (.if_icmp .le 13, 3) := by decide +kernel
theorem dX8_needRange_10 : decode cX8_needRange 10 = .ok (.new 112, 3) := by decide +kernel
theorem dX8_needRange_13 : decode cX8_needRange 13 = .ok (.dup, 1) := by decide +kernel
theorem dX8_needRange_14 : decode cX8_needRange 14 = .ok (.ldc 219, 2) := by decide +kernel
theorem dX8_needRange_16 : decode cX8_needRange 16 = .ok (.invokespecial 116, 3) := by decide +kernel
theorem dX8_needRange_19 : decode cX8_needRange 19 = .ok (.athrow, 1) := by decide +kernel
theorem dX8_needRange_20 : decode cX8_needRange 20 = .ok (.return_, 1) := by decide +kernel
set_option maxRecDepth 20000 in
theorem ggX8_needOneDay_X8_isOneDay : GoodIn wsX8_needOneDay wsX8_isOneDay := goodIn_r _ [6] (by decide +kernel) (by decide +kernel)
set_option maxRecDepth 20000 in
theorem gX8_needOneDay_X8_isOneDay : GoodIn wsX8_needOneDay (va_wsS RX8 221 yX8_isOneDay wsX8_isOneDay) := goodIn_app (goodIn_of _ (by decide +kernel)) ggX8_needOneDay_X8_isOneDay
theorem dX8_needOneDay_0 : decode cX8_needOneDay 0 = .ok (.iload_n 0, 1) := by decide +kernel
theorem dX8_needOneDay_1 : decode cX8_needOneDay 1 = .ok (.iload_n 1, 1) := by decide +kernel
theorem dX8_needOneDay_2 : decode cX8_needOneDay 2 = .ok (.invokestatic 221, 3) := by decide +kernel
theorem dX8_needOneDay_5 : decode cX8_needOneDay 5 = .ok (.ifCond .ne 13, 3) := by decide +kernel
theorem dX8_needOneDay_8 : decode cX8_needOneDay 8 = .ok (.new 112, 3) := by decide +kernel
theorem dX8_needOneDay_11 : decode cX8_needOneDay 11 = .ok (.dup, 1) := by decide +kernel
theorem dX8_needOneDay_12 : decode cX8_needOneDay 12 = .ok (.ldc 224, 2) := by decide +kernel
theorem dX8_needOneDay_14 : decode cX8_needOneDay 14 = .ok (.invokespecial 116, 3) := by decide +kernel
theorem dX8_needOneDay_17 : decode cX8_needOneDay 17 = .ok (.athrow, 1) := by decide +kernel
theorem dX8_needOneDay_18 : decode cX8_needOneDay 18 = .ok (.return_, 1) := by decide +kernel
theorem dX8_needState_0 : decode cX8_needState 0 = .ok (.iload_n 0, 1) := by decide +kernel
theorem dX8_needState_1 : decode cX8_needState 1 = .ok (.ifCond .ne 13, 3) := by decide +kernel
theorem dX8_needState_4 : decode cX8_needState 4 = .ok (.new 226, 3) := by decide +kernel
theorem dX8_needState_7 : decode cX8_needState 7 = .ok (.dup, 1) := by decide +kernel
theorem dX8_needState_8 : decode cX8_needState 8 = .ok (.ldc 228, 2) := by decide +kernel
theorem dX8_needState_10 : decode cX8_needState 10 = .ok (.invokespecial 230, 3) := by decide +kernel
theorem dX8_needState_13 : decode cX8_needState 13 = .ok (.athrow, 1) := by decide +kernel
theorem dX8_needState_14 : decode cX8_needState 14 = .ok (.return_, 1) := by decide +kernel
theorem dX8_needPerson_0 : decode cX8_needPerson 0 = .ok (.iload_n 0, 1) := by decide +kernel
theorem dX8_needPerson_1 : decode cX8_needPerson 1 = .ok (.ifCond .lt 9, 3) := by decide +kernel
theorem dX8_needPerson_4 : decode cX8_needPerson 4 = .ok (.iload_n 0, 1) := by decide +kernel
theorem dX8_needPerson_5 : decode cX8_needPerson 5 = .ok (.bipush 10, 2) := by decide +kernel
theorem dX8_needPerson_7 : decode cX8_needPerson 7 = .ok (.if_icmp .lt 13, 3) := by decide +kernel
theorem dX8_needPerson_10 : decode cX8_needPerson 10 = .ok (.new 208, 3) := by decide +kernel
theorem dX8_needPerson_13 : decode cX8_needPerson 13 = .ok (.dup, 1) := by decide +kernel
theorem dX8_needPerson_14 : decode cX8_needPerson 14 = .ok (.ldc 231, 2) := by decide +kernel
theorem dX8_needPerson_16 : decode cX8_needPerson 16 = .ok (.invokespecial 212, 3) := by decide +kernel
theorem dX8_needPerson_19 : decode cX8_needPerson 19 = .ok (.athrow, 1) := by decide +kernel
theorem dX8_needPerson_20 : decode cX8_needPerson 20 = .ok (.return_, 1) := by decide +kernel
set_option maxRecDepth 20000 in
theorem ggX8_needMachine_X3_knows : GoodIn wsX8_needMachine wsX3_knows := goodIn_r _ [9, 10, 21, 22, 23, 24, 25, 26] (by decide +kernel) (by decide +kernel)
set_option maxRecDepth 20000 in
theorem gX8_needMachine_X3_knows : GoodIn wsX8_needMachine (wsV RX8 233 RX3 yX3_knows wsX3_knows) := goodIn_app (goodIn_of _ (by decide +kernel)) ggX8_needMachine_X3_knows
theorem dX8_needMachine_0 : decode cX8_needMachine 0 = .ok (.aload_n 0, 1) := by decide +kernel
theorem dX8_needMachine_1 : decode cX8_needMachine 1 = .ok (.getfield 10, 3) := by decide +kernel
theorem dX8_needMachine_4 : decode cX8_needMachine 4 = .ok (.getfield 41, 3) := by decide +kernel
theorem dX8_needMachine_7 : decode cX8_needMachine 7 = .ok (.iload_n 1, 1) := by decide +kernel
theorem dX8_needMachine_8 : decode cX8_needMachine 8 = .ok (.invokevirtual 233, 3) := by decide +kernel
theorem dX8_needMachine_11 : decode cX8_needMachine 11 = .ok (.ifCond .ne 13, 3) := by decide +kernel
theorem dX8_needMachine_14 : decode cX8_needMachine 14 = .ok (.new 208, 3) := by decide +kernel
theorem dX8_needMachine_17 : decode cX8_needMachine 17 = .ok (.dup, 1) := by decide +kernel
theorem dX8_needMachine_18 : decode cX8_needMachine 18 = .ok (.ldc 234, 2) := by decide +kernel
theorem dX8_needMachine_20 : decode cX8_needMachine 20 = .ok (.invokespecial 212, 3) := by decide +kernel
theorem dX8_needMachine_23 : decode cX8_needMachine 23 = .ok (.athrow, 1) := by decide +kernel
theorem dX8_needMachine_24 : decode cX8_needMachine 24 = .ok (.return_, 1) := by decide +kernel
set_option maxRecDepth 20000 in
theorem ggX8_needMeeting_X4_knows : GoodIn wsX8_needMeeting wsX4_knows := goodIn_r _ [9, 10, 21, 22, 23, 24, 25, 26, 27] (by decide +kernel) (by decide +kernel)
set_option maxRecDepth 20000 in
theorem gX8_needMeeting_X4_knows : GoodIn wsX8_needMeeting (wsV RX8 236 RX4 yX4_knows wsX4_knows) := goodIn_app (goodIn_of _ (by decide +kernel)) ggX8_needMeeting_X4_knows
theorem dX8_needMeeting_0 : decode cX8_needMeeting 0 = .ok (.aload_n 0, 1) := by decide +kernel
theorem dX8_needMeeting_1 : decode cX8_needMeeting 1 = .ok (.getfield 10, 3) := by decide +kernel
theorem dX8_needMeeting_4 : decode cX8_needMeeting 4 = .ok (.getfield 62, 3) := by decide +kernel
theorem dX8_needMeeting_7 : decode cX8_needMeeting 7 = .ok (.iload_n 1, 1) := by decide +kernel
theorem dX8_needMeeting_8 : decode cX8_needMeeting 8 = .ok (.invokevirtual 236, 3) := by decide +kernel
theorem dX8_needMeeting_11 : decode cX8_needMeeting 11 = .ok (.ifCond .ne 13, 3) := by decide +kernel
theorem dX8_needMeeting_14 : decode cX8_needMeeting 14 = .ok (.new 208, 3) := by decide +kernel
theorem dX8_needMeeting_17 : decode cX8_needMeeting 17 = .ok (.dup, 1) := by decide +kernel
theorem dX8_needMeeting_18 : decode cX8_needMeeting 18 = .ok (.ldc 237, 2) := by decide +kernel
theorem dX8_needMeeting_20 : decode cX8_needMeeting 20 = .ok (.invokespecial 212, 3) := by decide +kernel
theorem dX8_needMeeting_23 : decode cX8_needMeeting 23 = .ok (.athrow, 1) := by decide +kernel
theorem dX8_needMeeting_24 : decode cX8_needMeeting 24 = .ok (.return_, 1) := by decide +kernel
theorem dX8_needSwap_0 : decode cX8_needSwap 0 = .ok (.iload_n 1, 1) := by decide +kernel
theorem dX8_needSwap_1 : decode cX8_needSwap 1 = .ok (.ifCond .lt 14, 3) := by decide +kernel
theorem dX8_needSwap_4 : decode cX8_needSwap 4 = .ok (.iload_n 1, 1) := by decide +kernel
theorem dX8_needSwap_5 : decode cX8_needSwap 5 = .ok (.aload_n 0, 1) := by decide +kernel
theorem dX8_needSwap_6 : decode cX8_needSwap 6 = .ok (.getfield 29, 3) := by decide +kernel
theorem dX8_needSwap_9 : decode cX8_needSwap 9 = .ok (.getfield 119, 3) := by decide +kernel
theorem dX8_needSwap_12 : decode cX8_needSwap 12 = .ok (.if_icmp .lt 13, 3) := by decide +kernel
theorem dX8_needSwap_15 : decode cX8_needSwap 15 = .ok (.new 208, 3) := by decide +kernel
theorem dX8_needSwap_18 : decode cX8_needSwap 18 = .ok (.dup, 1) := by decide +kernel
theorem dX8_needSwap_19 : decode cX8_needSwap 19 = .ok (.ldc 239, 2) := by decide +kernel
theorem dX8_needSwap_21 : decode cX8_needSwap 21 = .ok (.invokespecial 212, 3) := by decide +kernel
theorem dX8_needSwap_24 : decode cX8_needSwap 24 = .ok (.athrow, 1) := by decide +kernel
theorem dX8_needSwap_25 : decode cX8_needSwap 25 = .ok (.return_, 1) := by decide +kernel
set_option maxRecDepth 20000 in
theorem ggX8_needBuild_X0_knows : GoodIn wsX8_needBuild wsX0_knows := goodIn_r _ [9, 10, 21, 22, 23, 24, 25, 26, 27, 28] (by decide +kernel) (by decide +kernel)
set_option maxRecDepth 20000 in
theorem gX8_needBuild_X0_knows : GoodIn wsX8_needBuild (wsV RX8 192 RX0 yX0_knows wsX0_knows) := goodIn_app (goodIn_of _ (by decide +kernel)) ggX8_needBuild_X0_knows
theorem dX8_needBuild_0 : decode cX8_needBuild 0 = .ok (.aload_n 0, 1) := by decide +kernel
theorem dX8_needBuild_1 : decode cX8_needBuild 1 = .ok (.getfield 10, 3) := by decide +kernel
theorem dX8_needBuild_4 : decode cX8_needBuild 4 = .ok (.getfield 152, 3) := by decide +kernel
theorem dX8_needBuild_7 : decode cX8_needBuild 7 = .ok (.iload_n 1, 1) := by decide +kernel
theorem dX8_needBuild_8 : decode cX8_needBuild 8 = .ok (.invokevirtual 192, 3) := by decide +kernel
theorem dX8_needBuild_11 : decode cX8_needBuild 11 = .ok (.ifCond .ne 13, 3) := by decide +kernel
theorem dX8_needBuild_14 : decode cX8_needBuild 14 = .ok (.new 208, 3) := by decide +kernel
theorem dX8_needBuild_17 : decode cX8_needBuild 17 = .ok (.dup, 1) := by decide +kernel
theorem dX8_needBuild_18 : decode cX8_needBuild 18 = .ok (.ldc 241, 2) := by decide +kernel
theorem dX8_needBuild_20 : decode cX8_needBuild 20 = .ok (.invokespecial 212, 3) := by decide +kernel
theorem dX8_needBuild_23 : decode cX8_needBuild 23 = .ok (.athrow, 1) := by decide +kernel
theorem dX8_needBuild_24 : decode cX8_needBuild 24 = .ok (.return_, 1) := by decide +kernel
theorem dX8_isIn_0 : decode cX8_isIn 0 = .ok (.iload_n 1, 1) := by decide +kernel
theorem dX8_isIn_1 : decode cX8_isIn 1 = .ok (.iload_n 0, 1) := by decide +kernel
theorem dX8_isIn_2 : decode cX8_isIn 2 = .ok (.ishr, 1) := by decide +kernel
theorem dX8_isIn_3 : decode cX8_isIn 3 = .ok (.iconst 1, 1) := by decide +kernel
theorem dX8_isIn_4 : decode cX8_isIn 4 = .ok (.iand, 1) := by decide +kernel
theorem dX8_isIn_5 : decode cX8_isIn 5 = .ok (.iconst 1, 1) := by decide +kernel
theorem dX8_isIn_6 : decode cX8_isIn 6 = .ok (.if_icmp .ne 7, 3) := by decide +kernel
theorem dX8_isIn_9 : decode cX8_isIn 9 = .ok (.iconst 1, 1) := by decide +kernel
theorem dX8_isIn_10 : decode cX8_isIn 10 = .ok (.goto 4, 3) := by decide +kernel
theorem dX8_isIn_13 : decode cX8_isIn 13 = .ok (.iconst 0, 1) := by decide +kernel
theorem dX8_isIn_14 : decode cX8_isIn 14 = .ok (.ireturn, 1) := by decide +kernel
theorem dX8_isOneDay_0 : decode cX8_isOneDay 0 = .ok (.iload_n 0, 1) := by decide +kernel
theorem dX8_isOneDay_1 : decode cX8_isOneDay 1 = .ok (.bipush 8, 2) := by decide +kernel
theorem dX8_isOneDay_3 : decode cX8_isOneDay 3 = .ok (.idiv, 1) := by decide +kernel
theorem dX8_isOneDay_4 : decode cX8_isOneDay 4 = .ok (.iload_n 0, 1) := by decide +kernel
theorem dX8_isOneDay_5 : decode cX8_isOneDay 5 = .ok (.iload_n 1, 1) := by decide +kernel
theorem dX8_isOneDay_6 : decode cX8_isOneDay 6 = .ok (.iadd, 1) := by decide +kernel
theorem dX8_isOneDay_7 : decode cX8_isOneDay 7 = .ok (.iconst 1, 1) := by decide +kernel
theorem dX8_isOneDay_8 : decode cX8_isOneDay 8 = .ok (.isub, 1) := by decide +kernel
theorem dX8_isOneDay_9 : decode cX8_isOneDay 9 = .ok (.bipush 8, 2) := by decide +kernel
theorem dX8_isOneDay_11 : decode cX8_isOneDay 11 = .ok (.idiv, 1) := by decide +kernel
theorem dX8_isOneDay_12 : decode cX8_isOneDay 12 = .ok (.if_icmp .ne 7, 3) := by decide +kernel
theorem dX8_isOneDay_15 : decode cX8_isOneDay 15 = .ok (.iconst 1, 1) := by decide +kernel
theorem dX8_isOneDay_16 : decode cX8_isOneDay 16 = .ok (.goto 4, 3) := by decide +kernel
theorem dX8_isOneDay_19 : decode cX8_isOneDay 19 = .ok (.iconst 0, 1) := by decide +kernel
theorem dX8_isOneDay_20 : decode cX8_isOneDay 20 = .ok (.ireturn, 1) := by decide +kernel
theorem dX8_overlap_0 : decode cX8_overlap 0 = .ok (.iload_n 0, 1) := by decide +kernel
theorem dX8_overlap_1 : decode cX8_overlap 1 = .ok (.iload_n 2, 1) := by decide +kernel
theorem dX8_overlap_2 : decode cX8_overlap 2 = .ok (.iload_n 3, 1) := by decide +kernel
theorem dX8_overlap_3 : decode cX8_overlap 3 = .ok (.iadd, 1) := by decide +kernel
theorem dX8_overlap_4 : decode cX8_overlap 4 = .ok (.if_icmp .ge 14, 3) := by decide +kernel
theorem dX8_overlap_7 : decode cX8_overlap 7 = .ok (.iload_n 2, 1) := by decide +kernel
theorem dX8_overlap_8 : decode cX8_overlap 8 = .ok (.iload_n 0, 1) := by decide +kernel
theorem dX8_overlap_9 : decode cX8_overlap 9 = .ok (.iload_n 1, 1) := by decide +kernel
theorem dX8_overlap_10 : decode cX8_overlap 10 = .ok (.iadd, 1) := by decide +kernel
theorem dX8_overlap_11 : decode cX8_overlap 11 = .ok (.if_icmp .ge 7, 3) := by decide +kernel
theorem dX8_overlap_14 : decode cX8_overlap 14 = .ok (.iconst 1, 1) := by decide +kernel
theorem dX8_overlap_15 : decode cX8_overlap 15 = .ok (.goto 4, 3) := by decide +kernel
theorem dX8_overlap_18 : decode cX8_overlap 18 = .ok (.iconst 0, 1) := by decide +kernel
theorem dX8_overlap_19 : decode cX8_overlap 19 = .ok (.ireturn, 1) := by decide +kernel
set_option maxRecDepth 20000 in
theorem ggX8_tell_X7_note : GoodIn wsX8_tell wsX7_note := goodIn_r _ [8, 9, 10, 11, 12, 13, 14, 15, 133, 134, 135, 136, 137, 138, 139] (by decide +kernel) (by decide +kernel)
set_option maxRecDepth 20000 in
theorem gX8_tell_X7_note : GoodIn wsX8_tell (wsV RX8 243 RX7 yX7_note wsX7_note) := goodIn_app (goodIn_of _ (by decide +kernel)) ggX8_tell_X7_note
set_option maxRecDepth 20000 in
theorem ggX8_tell_X5_take : GoodIn wsX8_tell wsX5_take := goodIn_r _ [20, 21, 22, 23, 24, 25, 26, 27, 28, 29, 30, 31, 32, 33, 34, 35, 36, 37, 38, 39, 40, 41, 42, 43, 44, 45, 46, 47, 48, 49, 50, 51, 52, 53, 54, 55, 19, 56, 57, 58, 59, 60, 61, 62, 63, 64, 65, 66, 67, 68, 69, 70, 71, 72, 73, 74, 75, 76, 77, 78, 79, 80, 81, 82, 83, 84, 85, 86, 87, 88, 89, 90, 91, 92, 93, 94, 95, 96, 97, 98, 99, 100, 101, 102, 103, 104, 105, 106, 107, 108, 109, 110, 111, 112, 113, 114, 115, 116, 117, 118, 119, 120, 121, 122, 127, 128, 129, 130, 131, 132, 140, 141, 142, 143, 144, 145, 146, 147, 148, 149, 150, 151, 152, 153, 154, 155, 156, 157, 158, 159, 160, 161, 162, 163, 164, 165, 166] (by decide +kernel) (by decide +kernel)
set_option maxRecDepth 20000 in
theorem gX8_tell_X5_take : GoodIn wsX8_tell (wsV RX8 247 RX5 yX5_take wsX5_take) := goodIn_app (goodIn_of _ (by decide +kernel)) ggX8_tell_X5_take
theorem dX8_tell_0 : decode cX8_tell 0 = .ok (.aload_n 0, 1) := by decide +kernel
theorem dX8_tell_1 : decode cX8_tell 1 = .ok (.getfield 22, 3) := by decide +kernel
theorem dX8_tell_4 : decode cX8_tell 4 = .ok (.iload_n 1, 1) := by decide +kernel
theorem dX8_tell_5 : decode cX8_tell 5 = .ok (.aload_n 0, 1) := by decide +kernel
theorem dX8_tell_6 : decode cX8_tell 6 = .ok (.getfield 10, 3) := by decide +kernel
theorem dX8_tell_9 : decode cX8_tell 9 = .ok (.getfield 59, 3) := by decide +kernel
theorem dX8_tell_12 : decode cX8_tell 12 = .ok (.iload_n 2, 1) := by decide +kernel
theorem dX8_tell_13 : decode cX8_tell 13 = .ok (.iload_n 3, 1) := by decide +kernel
theorem dX8_tell_14 : decode cX8_tell 14 = .ok (.iload 4, 2) := by decide +kernel
theorem dX8_tell_16 : decode cX8_tell 16 = .ok (.iload 5, 2) := by decide +kernel
theorem dX8_tell_18 : decode cX8_tell 18 = .ok (.invokevirtual 243, 3) := by decide +kernel
theorem dX8_tell_21 : decode cX8_tell 21 = .ok (.aload_n 0, 1) := by decide +kernel
theorem dX8_tell_22 : decode cX8_tell 22 = .ok (.getfield 10, 3) := by decide +kernel
theorem dX8_tell_25 : decode cX8_tell 25 = .ok (.iload_n 1, 1) := by decide +kernel
theorem dX8_tell_26 : decode cX8_tell 26 = .ok (.iload_n 2, 1) := by decide +kernel
theorem dX8_tell_27 : decode cX8_tell 27 = .ok (.iload_n 3, 1) := by decide +kernel
theorem dX8_tell_28 : decode cX8_tell 28 = .ok (.iload 4, 2) := by decide +kernel
theorem dX8_tell_30 : decode cX8_tell 30 = .ok (.iload 5, 2) := by decide +kernel
theorem dX8_tell_32 : decode cX8_tell 32 = .ok (.invokevirtual 247, 3) := by decide +kernel
theorem dX8_tell_35 : decode cX8_tell 35 = .ok (.return_, 1) := by decide +kernel
set_option maxRecDepth 20000 in
theorem ggX8_planAgain_X5_clear : GoodIn wsX8_planAgain wsX5_clear := goodIn_r _ [16, 17, 18, 19, 20, 21, 22, 23, 24, 25, 26, 27, 28, 29, 30, 31, 32, 200, 201, 202, 203, 204, 205, 206, 207, 208, 209, 210, 211, 212, 213, 214, 215, 216, 217, 218, 219, 220, 221, 222, 223, 224, 225, 226, 227, 228, 229, 230, 231, 232] (by decide +kernel) (by decide +kernel)
set_option maxRecDepth 20000 in
theorem gX8_planAgain_X5_clear : GoodIn wsX8_planAgain (wsV RX8 250 RX5 yX5_clear wsX5_clear) := goodIn_app (goodIn_of _ (by decide +kernel)) ggX8_planAgain_X5_clear
set_option maxRecDepth 20000 in
theorem ggX8_planAgain_X5_passTo : GoodIn wsX8_planAgain wsX5_passTo := goodIn_r _ [36, 26, 17, 18, 37, 38, 39, 15, 40, 41, 42, 24, 43, 44, 45, 46, 47, 48, 49, 50, 51, 52, 53, 54, 55, 56, 57, 58, 59, 60, 61, 62, 21, 22, 63, 64, 65, 66, 67, 68, 69, 70, 71, 72, 73, 74, 75, 76, 19, 77, 78, 79, 80, 81, 82, 83, 84, 85, 86, 87, 88, 89, 90, 30, 91, 32, 92, 93, 94, 95, 96, 97, 98, 99, 100, 101, 102, 103, 104, 105, 106, 107, 108, 109, 110, 111, 112, 113, 114, 115, 116, 117, 118, 119, 120, 121, 122, 123, 124, 200, 201, 202, 203, 204, 205, 206, 207, 208, 209, 210, 211, 224, 225, 226, 227, 228, 229, 230, 231, 212, 213, 214, 215, 216, 232, 217, 218, 219, 220, 221, 222, 223] (by decide +kernel) (by decide +kernel)
set_option maxRecDepth 20000 in
theorem gX8_planAgain_X5_passTo : GoodIn wsX8_planAgain (wsV RX8 166 RX5 yX5_passTo wsX5_passTo) := goodIn_app (goodIn_of _ (by decide +kernel)) ggX8_planAgain_X5_passTo
set_option maxRecDepth 20000 in
theorem ggX8_planAgain_X5_take : GoodIn wsX8_planAgain wsX5_take := goodIn_r _ [128, 17, 21, 19, 22, 24, 129, 130, 131, 46, 132, 48, 133, 134, 67, 68, 135, 136, 137, 138, 30, 139, 32, 140, 141, 142, 81, 143, 83, 84, 87, 85, 86, 144, 145, 146, 15, 147, 148, 26, 149, 41, 43, 44, 45, 47, 150, 151, 152, 52, 153, 55, 106, 107, 109, 110, 111, 112, 54, 154, 155, 156, 95, 157, 97, 158, 100, 101, 98, 99, 159, 160, 161, 162, 163, 164, 165, 166, 167, 168, 169, 170, 171, 172, 173, 174, 175, 176, 177, 178, 179, 180, 181, 182, 183, 56, 58, 57, 108, 184, 185, 186, 187, 188, 200, 201, 202, 203, 204, 205, 206, 207, 208, 209, 210, 211, 232, 212, 213, 214, 215, 216, 224, 225, 226, 227, 228, 229, 230, 231, 217, 218, 219, 220, 221, 222, 223] (by decide +kernel) (by decide +kernel)
set_option maxRecDepth 20000 in
theorem gX8_planAgain_X5_take : GoodIn wsX8_planAgain (wsV RX8 247 RX5 yX5_take wsX5_take) := goodIn_app (goodIn_of _ (by decide +kernel)) ggX8_planAgain_X5_take
theorem dX8_planAgain_0 : decode cX8_planAgain 0 = .ok (.aload_n 0, 1) := by decide +kernel
theorem dX8_planAgain_1 : decode cX8_planAgain 1 = .ok (.getfield 16, 3) := by decide +kernel
theorem dX8_planAgain_4 : decode cX8_planAgain 4 = .ok (.invokevirtual 250, 3) := by decide +kernel
theorem dX8_planAgain_7 : decode cX8_planAgain 7 = .ok (.iconst 0, 1) := by decide +kernel
theorem dX8_planAgain_8 : decode cX8_planAgain 8 = .ok (.istore_n 1, 1) := by decide +kernel
theorem dX8_planAgain_9 : decode cX8_planAgain 9 = .ok (.iload_n 1, 1) := by decide +kernel
theorem dX8_planAgain_10 : decode cX8_planAgain 10 = .ok (.aload_n 0, 1) := by decide +kernel
theorem dX8_planAgain_11 : decode cX8_planAgain 11 = .ok (.getfield 22, 3) := by decide +kernel
theorem dX8_planAgain_14 : decode cX8_planAgain 14 = .ok (.getfield 253, 3) := by decide +kernel
theorem dX8_planAgain_17 : decode cX8_planAgain 17 = .ok (.if_icmp .ge 77, 3) := by decide +kernel
theorem dX8_planAgain_20 : decode cX8_planAgain 20 = .ok (.aload_n 0, 1) := by decide +kernel
theorem dX8_planAgain_21 : decode cX8_planAgain 21 = .ok (.getfield 16, 3) := by decide +kernel
theorem dX8_planAgain_24 : decode cX8_planAgain 24 = .ok (.aload_n 0, 1) := by decide +kernel
theorem dX8_planAgain_25 : decode cX8_planAgain 25 = .ok (.getfield 22, 3) := by decide +kernel
theorem dX8_planAgain_28 : decode cX8_planAgain 28 = .ok (.getfield 254, 3) := by decide +kernel
theorem dX8_planAgain_31 : decode cX8_planAgain 31 = .ok (.iload_n 1, 1) := by decide +kernel
theorem dX8_planAgain_32 : decode cX8_planAgain 32 = .ok (.iaload, 1) := by decide +kernel
theorem dX8_planAgain_33 : decode cX8_planAgain 33 = .ok (.invokevirtual 166, 3) := by decide +kernel
theorem dX8_planAgain_36 : decode cX8_planAgain 36 = .ok (.aload_n 0, 1) := by decide +kernel
theorem dX8_planAgain_37 : decode cX8_planAgain 37 = .ok (.getfield 16, 3) := by decide +kernel
theorem dX8_planAgain_40 : decode cX8_planAgain 40 = .ok (.aload_n 0, 1) := by decide +kernel
theorem dX8_planAgain_41 : decode cX8_planAgain 41 = .ok (.getfield 22, 3) := by decide +kernel
theorem dX8_planAgain_44 : decode cX8_planAgain 44 = .ok (.getfield 257, 3) := by decide +kernel
theorem dX8_planAgain_47 : decode cX8_planAgain 47 = .ok (.iload_n 1, 1) := by decide +kernel
theorem dX8_planAgain_48 : decode cX8_planAgain 48 = .ok (.iaload, 1) := by decide +kernel
theorem dX8_planAgain_49 : decode cX8_planAgain 49 = .ok (.aload_n 0, 1) := by decide +kernel
theorem dX8_planAgain_50 : decode cX8_planAgain 50 = .ok (.getfield 22, 3) := by decide +kernel
theorem dX8_planAgain_53 : decode cX8_planAgain 53 = .ok (.getfield 260, 3) := by decide +kernel
theorem dX8_planAgain_56 : decode cX8_planAgain 56 = .ok (.iload_n 1, 1) := by decide +kernel
theorem dX8_planAgain_57 : decode cX8_planAgain 57 = .ok (.iaload, 1) := by decide +kernel
theorem dX8_planAgain_58 : decode cX8_planAgain 58 = .ok (.aload_n 0, 1) := by decide +kernel
theorem dX8_planAgain_59 : decode cX8_planAgain 59 = .ok (.getfield 22, 3) := by decide +kernel
theorem dX8_planAgain_62 : decode cX8_planAgain 62 = .ok (.getfield 263, 3) := by decide +kernel
theorem dX8_planAgain_65 : decode cX8_planAgain 65 = .ok (.iload_n 1, 1) := by decide +kernel
theorem dX8_planAgain_66 : decode cX8_planAgain 66 = .ok (.iaload, 1) := by decide +kernel
theorem dX8_planAgain_67 : decode cX8_planAgain 67 = .ok (.aload_n 0, 1) := by decide +kernel
theorem dX8_planAgain_68 : decode cX8_planAgain 68 = .ok (.getfield 22, 3) := by decide +kernel
theorem dX8_planAgain_71 : decode cX8_planAgain 71 = .ok (.getfield 266, 3) := by decide +kernel
theorem dX8_planAgain_74 : decode cX8_planAgain 74 = .ok (.iload_n 1, 1) := by decide +kernel
theorem dX8_planAgain_75 : decode cX8_planAgain 75 = .ok (.iaload, 1) := by decide +kernel
theorem dX8_planAgain_76 : decode cX8_planAgain 76 = .ok (.aload_n 0, 1) := by decide +kernel
theorem dX8_planAgain_77 : decode cX8_planAgain 77 = .ok (.getfield 22, 3) := by decide +kernel
theorem dX8_planAgain_80 : decode cX8_planAgain 80 = .ok (.getfield 269, 3) := by decide +kernel
theorem dX8_planAgain_83 : decode cX8_planAgain 83 = .ok (.iload_n 1, 1) := by decide +kernel
theorem dX8_planAgain_84 : decode cX8_planAgain 84 = .ok (.iaload, 1) := by decide +kernel
theorem dX8_planAgain_85 : decode cX8_planAgain 85 = .ok (.invokevirtual 247, 3) := by decide +kernel
theorem dX8_planAgain_88 : decode cX8_planAgain 88 = .ok (.iinc 1 1, 3) := by decide +kernel
theorem dX8_planAgain_91 : decode cX8_planAgain 91 = .ok (.goto (-82), 3) := by decide +kernel
theorem dX8_planAgain_94 : decode cX8_planAgain 94 = .ok (.aload_n 0, 1) := by decide +kernel
theorem dX8_planAgain_95 : decode cX8_planAgain 95 = .ok (.getfield 16, 3) := by decide +kernel
theorem dX8_planAgain_98 : decode cX8_planAgain 98 = .ok (.aload_n 0, 1) := by decide +kernel
theorem dX8_planAgain_99 : decode cX8_planAgain 99 = .ok (.getfield 10, 3) := by decide +kernel
theorem dX8_planAgain_102 : decode cX8_planAgain 102 = .ok (.getfield 59, 3) := by decide +kernel
theorem dX8_planAgain_105 : decode cX8_planAgain 105 = .ok (.invokevirtual 166, 3) := by decide +kernel
theorem dX8_planAgain_108 : decode cX8_planAgain 108 = .ok (.return_, 1) := by decide +kernel
set_option maxRecDepth 20000 in
theorem ggX8_holds_X5_isAhead : GoodIn wsX8_holds wsX5_isAhead := goodIn_r _ [13, 14, 15, 16, 17, 18, 19, 20, 21, 22, 23, 35, 36, 37, 38, 39, 40, 41, 42, 43, 44, 45, 46, 47] (by decide +kernel) (by decide +kernel)
set_option maxRecDepth 20000 in
theorem gX8_holds_X5_isAhead : GoodIn wsX8_holds (wsV RX8 105 RX5 yX5_isAhead wsX5_isAhead) := goodIn_app (goodIn_of _ (by decide +kernel)) ggX8_holds_X5_isAhead
theorem dX8_holds_0 : decode cX8_holds 0 = .ok (.aload_n 0, 1) := by decide +kernel
theorem dX8_holds_1 : decode cX8_holds 1 = .ok (.getfield 29, 3) := by decide +kernel
theorem dX8_holds_4 : decode cX8_holds 4 = .ok (.getfield 133, 3) := by decide +kernel
theorem dX8_holds_7 : decode cX8_holds 7 = .ok (.iload_n 1, 1) := by decide +kernel
theorem dX8_holds_8 : decode cX8_holds 8 = .ok (.iaload, 1) := by decide +kernel
theorem dX8_holds_9 : decode cX8_holds 9 = .ok (.istore_n 2, 1) := by decide +kernel
theorem dX8_holds_10 : decode cX8_holds 10 = .ok (.aload_n 0, 1) := by decide +kernel
theorem dX8_holds_11 : decode cX8_holds 11 = .ok (.getfield 29, 3) := by decide +kernel
theorem dX8_holds_14 : decode cX8_holds 14 = .ok (.getfield 140, 3) := by decide +kernel
theorem dX8_holds_17 : decode cX8_holds 17 = .ok (.iload_n 1, 1) := by decide +kernel
theorem dX8_holds_18 : decode cX8_holds 18 = .ok (.iaload, 1) := by decide +kernel
theorem dX8_holds_19 : decode cX8_holds 19 = .ok (.istore_n 3, 1) := by decide +kernel
theorem dX8_holds_20 : decode cX8_holds 20 = .ok (.aload_n 0, 1) := by decide +kernel
theorem dX8_holds_21 : decode cX8_holds 21 = .ok (.getfield 10, 3) := by decide +kernel
theorem dX8_holds_24 : decode cX8_holds 24 = .ok (.iload_n 2, 1) := by decide +kernel
theorem dX8_holds_25 : decode cX8_holds 25 = .ok (.invokevirtual 105, 3) := by decide +kernel
theorem dX8_holds_28 : decode cX8_holds 28 = .ok (.ifCond .eq 66, 3) := by decide +kernel
theorem dX8_holds_31 : decode cX8_holds 31 = .ok (.aload_n 0, 1) := by decide +kernel
theorem dX8_holds_32 : decode cX8_holds 32 = .ok (.getfield 10, 3) := by decide +kernel
theorem dX8_holds_35 : decode cX8_holds 35 = .ok (.iload_n 3, 1) := by decide +kernel
theorem dX8_holds_36 : decode cX8_holds 36 = .ok (.invokevirtual 105, 3) := by decide +kernel
theorem dX8_holds_39 : decode cX8_holds 39 = .ok (.ifCond .eq 55, 3) := by decide +kernel
theorem dX8_holds_42 : decode cX8_holds 42 = .ok (.aload_n 0, 1) := by decide +kernel
theorem dX8_holds_43 : decode cX8_holds 43 = .ok (.getfield 10, 3) := by decide +kernel
theorem dX8_holds_46 : decode cX8_holds 46 = .ok (.getfield 62, 3) := by decide +kernel
theorem dX8_holds_49 : decode cX8_holds 49 = .ok (.getfield 120, 3) := by decide +kernel
theorem dX8_holds_52 : decode cX8_holds 52 = .ok (.iload_n 2, 1) := by decide +kernel
theorem dX8_holds_53 : decode cX8_holds 53 = .ok (.iaload, 1) := by decide +kernel
theorem dX8_holds_54 : decode cX8_holds 54 = .ok (.aload_n 0, 1) := by decide +kernel
theorem dX8_holds_55 : decode cX8_holds 55 = .ok (.getfield 29, 3) := by decide +kernel
theorem dX8_holds_58 : decode cX8_holds 58 = .ok (.getfield 272, 3) := by decide +kernel
theorem dX8_holds_61 : decode cX8_holds 61 = .ok (.iload_n 1, 1) := by decide +kernel
theorem dX8_holds_62 : decode cX8_holds 62 = .ok (.iaload, 1) := by decide +kernel
theorem dX8_holds_63 : decode cX8_holds 63 = .ok (.if_icmp .ne 31, 3) := by decide +kernel
theorem dX8_holds_66 : decode cX8_holds 66 = .ok (.aload_n 0, 1) := by decide +kernel
theorem dX8_holds_67 : decode cX8_holds 67 = .ok (.getfield 10, 3) := by decide +kernel
theorem dX8_holds_70 : decode cX8_holds 70 = .ok (.getfield 62, 3) := by decide +kernel
theorem dX8_holds_73 : decode cX8_holds 73 = .ok (.getfield 120, 3) := by decide +kernel
theorem dX8_holds_76 : decode cX8_holds 76 = .ok (.iload_n 3, 1) := by decide +kernel
theorem dX8_holds_77 : decode cX8_holds 77 = .ok (.iaload, 1) := by decide +kernel
theorem dX8_holds_78 : decode cX8_holds 78 = .ok (.aload_n 0, 1) := by decide +kernel
theorem dX8_holds_79 : decode cX8_holds 79 = .ok (.getfield 29, 3) := by decide +kernel
theorem dX8_holds_82 : decode cX8_holds 82 = .ok (.getfield 275, 3) := by decide +kernel
theorem dX8_holds_85 : decode cX8_holds 85 = .ok (.iload_n 1, 1) := by decide +kernel
theorem dX8_holds_86 : decode cX8_holds 86 = .ok (.iaload, 1) := by decide +kernel
theorem dX8_holds_87 : decode cX8_holds 87 = .ok (.if_icmp .ne 7, 3) := by decide +kernel
theorem dX8_holds_90 : decode cX8_holds 90 = .ok (.iconst 1, 1) := by decide +kernel
theorem dX8_holds_91 : decode cX8_holds 91 = .ok (.goto 4, 3) := by decide +kernel
theorem dX8_holds_94 : decode cX8_holds 94 = .ok (.iconst 0, 1) := by decide +kernel
theorem dX8_holds_95 : decode cX8_holds 95 = .ok (.ireturn, 1) := by decide +kernel
set_option maxRecDepth 20000 in
theorem ggX8_settle_X5_canSwap : GoodIn wsX8_settle wsX5_canSwap := goodIn_r _ [10, 11, 12, 13, 14, 15, 16, 17, 18, 19, 20, 21, 22, 23, 24, 25, 26, 27, 9, 28, 29, 30, 31, 32, 33, 34, 35, 36, 37, 38, 39, 40, 41, 42, 43, 44, 45, 46, 47, 48, 49, 50, 51, 52, 53, 54, 55, 56, 57, 58, 59, 60, 61, 62, 63, 64, 65, 66, 67, 68, 69, 70, 71, 72, 73, 74, 75, 76, 77, 78, 79, 80, 81, 82, 83, 84, 85, 86, 87, 88, 89, 90, 91, 193, 194, 195, 196, 197, 198, 199, 200, 201, 202, 203, 204, 205, 206, 207, 208, 209, 210, 211, 212, 213, 214, 215, 216, 217, 218, 219, 220] (by decide +kernel) (by decide +kernel)
set_option maxRecDepth 20000 in
theorem gX8_settle_X5_canSwap : GoodIn wsX8_settle (wsV RX8 278 RX5 yX5_canSwap wsX5_canSwap) := goodIn_app (goodIn_of _ (by decide +kernel)) ggX8_settle_X5_canSwap
set_option maxRecDepth 20000 in
theorem ggX8_settle_X8_tell : GoodIn wsX8_settle wsX8_tell := goodIn_r _ [95, 96, 4, 97, 98, 99, 100, 101, 102, 103, 104, 105, 106, 107, 108, 109, 110, 111, 112, 9, 113, 40, 39, 114, 11, 70, 115, 116, 117, 76, 118, 78, 119, 120, 89, 90, 121, 122, 123, 124, 53, 125, 59, 126, 127, 128, 129, 130, 131, 132, 133, 134, 135, 136, 137, 138, 139, 140, 141, 142, 69, 73, 74, 75, 77, 143, 144, 145, 82, 146, 147, 148, 149, 150, 80, 81, 83, 84, 151, 152, 153, 16, 154, 18, 47, 23, 46, 64, 45, 155, 156, 157, 158, 159, 24, 14, 15, 17, 160, 161, 162, 163, 164, 165, 166, 167, 168, 20, 21, 22, 169, 170, 171, 172, 173, 174, 175, 176, 177, 178, 179, 180, 181, 182, 183, 184, 185, 193, 194, 195, 196, 197, 198, 221, 222, 223, 224, 225, 226, 227, 207, 208, 209, 210, 211, 212, 206, 228, 229, 230, 231, 232, 213, 214, 215, 216, 217, 218, 219, 220, 199, 200, 201, 202, 203, 204, 205] (by decide +kernel) (by decide +kernel)
set_option maxRecDepth 20000 in
theorem gX8_settle_X8_tell : GoodIn wsX8_settle (wsV RX8 55 RX8 yX8_tell wsX8_tell) := goodIn_app (goodIn_of _ (by decide +kernel)) ggX8_settle_X8_tell
theorem dX8_settle_0 : decode cX8_settle 0 = .ok (.aload_n 0, 1) := by decide +kernel
theorem dX8_settle_1 : decode cX8_settle 1 = .ok (.getfield 29, 3) := by decide +kernel
theorem dX8_settle_4 : decode cX8_settle 4 = .ok (.getfield 133, 3) := by decide +kernel
theorem dX8_settle_7 : decode cX8_settle 7 = .ok (.iload_n 1, 1) := by decide +kernel
theorem dX8_settle_8 : decode cX8_settle 8 = .ok (.iaload, 1) := by decide +kernel
theorem dX8_settle_9 : decode cX8_settle 9 = .ok (.istore_n 2, 1) := by decide +kernel
theorem dX8_settle_10 : decode cX8_settle 10 = .ok (.aload_n 0, 1) := by decide +kernel
theorem dX8_settle_11 : decode cX8_settle 11 = .ok (.getfield 29, 3) := by decide +kernel
theorem dX8_settle_14 : decode cX8_settle 14 = .ok (.getfield 140, 3) := by decide +kernel
theorem dX8_settle_17 : decode cX8_settle 17 = .ok (.iload_n 1, 1) := by decide +kernel
theorem dX8_settle_18 : decode cX8_settle 18 = .ok (.iaload, 1) := by decide +kernel
theorem dX8_settle_19 : decode cX8_settle 19 = .ok (.istore_n 3, 1) := by decide +kernel
theorem dX8_settle_20 : decode cX8_settle 20 = .ok (.aload_n 0, 1) := by decide +kernel
theorem dX8_settle_21 : decode cX8_settle 21 = .ok (.getfield 10, 3) := by decide +kernel
theorem dX8_settle_24 : decode cX8_settle 24 = .ok (.iload_n 2, 1) := by decide +kernel
theorem dX8_settle_25 : decode cX8_settle 25 = .ok (.iload_n 3, 1) := by decide +kernel
theorem dX8_settle_26 : decode cX8_settle 26 = .ok (.invokevirtual 278, 3) := by decide +kernel
theorem dX8_settle_29 : decode cX8_settle 29 = .ok (.ifCond .eq 26, 3) := by decide +kernel
theorem dX8_settle_32 : decode cX8_settle 32 = .ok (.aload_n 0, 1) := by decide +kernel
theorem dX8_settle_33 : decode cX8_settle 33 = .ok (.bipush 7, 2) := by decide +kernel
theorem dX8_settle_35 : decode cX8_settle 35 = .ok (.iload_n 2, 1) := by decide +kernel
theorem dX8_settle_36 : decode cX8_settle 36 = .ok (.iload_n 3, 1) := by decide +kernel
theorem dX8_settle_37 : decode cX8_settle 37 = .ok (.iconst 0, 1) := by decide +kernel
theorem dX8_settle_38 : decode cX8_settle 38 = .ok (.iconst 0, 1) := by decide +kernel
theorem dX8_settle_39 : decode cX8_settle 39 = .ok (.invokevirtual 55, 3) := by decide +kernel
theorem dX8_settle_42 : decode cX8_settle 42 = .ok (.aload_n 0, 1) := by decide +kernel
theorem dX8_settle_43 : decode cX8_settle 43 = .ok (.getfield 29, 3) := by decide +kernel
theorem dX8_settle_46 : decode cX8_settle 46 = .ok (.getfield 130, 3) := by decide +kernel
theorem dX8_settle_49 : decode cX8_settle 49 = .ok (.iload_n 1, 1) := by decide +kernel
theorem dX8_settle_50 : decode cX8_settle 50 = .ok (.iconst 1, 1) := by decide +kernel
theorem dX8_settle_51 : decode cX8_settle 51 = .ok (.iastore, 1) := by decide +kernel
theorem dX8_settle_52 : decode cX8_settle 52 = .ok (.goto 13, 3) := by decide +kernel
theorem dX8_settle_55 : decode cX8_settle 55 = .ok (.aload_n 0, 1) := by decide +kernel
theorem dX8_settle_56 : decode cX8_settle 56 = .ok (.getfield 29, 3) := by decide +kernel
theorem dX8_settle_59 : decode cX8_settle 59 = .ok (.getfield 130, 3) := by decide +kernel
theorem dX8_settle_62 : decode cX8_settle 62 = .ok (.iload_n 1, 1) := by decide +kernel
theorem dX8_settle_63 : decode cX8_settle 63 = .ok (.iconst 2, 1) := by decide +kernel
theorem dX8_settle_64 : decode cX8_settle 64 = .ok (.iastore, 1) := by decide +kernel
theorem dX8_settle_65 : decode cX8_settle 65 = .ok (.return_, 1) := by decide +kernel
