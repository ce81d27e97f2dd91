theorem dX0_init_0 : decode cX0_init 0 = .ok (.aload_n 0, 1) := by decide +kernel
theorem dX0_init_1 : decode cX0_init 1 = .ok (.invokespecial 1, 3) := by decide +kernel
theorem dX0_init_4 : decode cX0_init 4 = .ok (.aload_n 0, 1) := by decide +kernel
theorem dX0_init_5 : decode cX0_init 5 = .ok (.iconst 1, 1) := by decide +kernel
theorem dX0_init_6 : decode cX0_init 6 = .ok (.putfield 7, 3) := by decide +kernel
theorem dX0_init_9 : decode cX0_init 9 = .ok (.aload_n 0, 1) := by decide +kernel
theorem dX0_init_10 : decode cX0_init 10 = .ok (.iconst 0, 1) := by decide +kernel
theorem dX0_init_11 : decode cX0_init 11 = .ok (.putfield 13, 3) := by decide +kernel
theorem dX0_init_14 : decode cX0_init 14 = .ok (.aload_n 0, 1) := by decide +kernel
theorem dX0_init_15 : decode cX0_init 15 = .ok (.iload_n 1, 1) := by decide +kernel
theorem dX0_init_16 : decode cX0_init 16 = .ok (.putfield 17, 3) := by decide +kernel
theorem dX0_init_19 : decode cX0_init 19 = .ok (.return_, 1) := by decide +kernel
theorem dX1_init_0 : decode cX1_init 0 = .ok (.aload_n 0, 1) := by decide +kernel
theorem dX1_init_1 : decode cX1_init 1 = .ok (.invokespecial 1, 3) := by decide +kernel
theorem dX1_init_4 : decode cX1_init 4 = .ok (.aload_n 0, 1) := by decide +kernel
theorem dX1_init_5 : decode cX1_init 5 = .ok (.sipush 200, 3) := by decide +kernel
theorem dX1_init_8 : decode cX1_init 8 = .ok (.anewarray 9, 3) := by decide +kernel
theorem dX1_init_11 : decode cX1_init 11 = .ok (.putfield 11, 3) := by decide +kernel
theorem dX1_init_14 : decode cX1_init 14 = .ok (.aload_n 0, 1) := by decide +kernel
theorem dX1_init_15 : decode cX1_init 15 = .ok (.iconst 0, 1) := by decide +kernel
theorem dX1_init_16 : decode cX1_init 16 = .ok (.putfield 15, 3) := by decide +kernel
theorem dX1_init_19 : decode cX1_init 19 = .ok (.aload_n 0, 1) := by decide +kernel
theorem dX1_init_20 : decode cX1_init 20 = .ok (.iconst 4, 1) := by decide +kernel
theorem dX1_init_21 : decode cX1_init 21 = .ok (.newarray .int, 2) := by decide +kernel
theorem dX1_init_23 : decode cX1_init 23 = .ok (.putfield 19, 3) := by decide +kernel
theorem dX1_init_26 : decode cX1_init 26 = .ok (.aload_n 0, 1) := by decide +kernel
theorem dX1_init_27 : decode cX1_init 27 = .ok (.iconst 4, 1) := by decide +kernel
theorem dX1_init_28 : decode cX1_init 28 = .ok (.newarray .long, 2) := by decide +kernel
theorem dX1_init_30 : decode cX1_init 30 = .ok (.putfield 23, 3) := by decide +kernel
theorem dX1_init_33 : decode cX1_init 33 = .ok (.aload_n 0, 1) := by decide +kernel
theorem dX1_init_34 : decode cX1_init 34 = .ok (.bipush 32, 2) := by decide +kernel
theorem dX1_init_36 : decode cX1_init 36 = .ok (.newarray .long, 2) := by decide +kernel
theorem dX1_init_38 : decode cX1_init 38 = .ok (.putfield 27, 3) := by decide +kernel
theorem dX1_init_41 : decode cX1_init 41 = .ok (.aload_n 0, 1) := by decide +kernel
theorem dX1_init_42 : decode cX1_init 42 = .ok (.bipush 32, 2) := by decide +kernel
theorem dX1_init_44 : decode cX1_init 44 = .ok (.newarray .int, 2) := by decide +kernel
theorem dX1_init_46 : decode cX1_init 46 = .ok (.putfield 30, 3) := by decide +kernel
theorem dX1_init_49 : decode cX1_init 49 = .ok (.aload_n 0, 1) := by decide +kernel
theorem dX1_init_50 : decode cX1_init 50 = .ok (.iconst 0, 1) := by decide +kernel
theorem dX1_init_51 : decode cX1_init 51 = .ok (.putfield 33, 3) := by decide +kernel
theorem dX1_init_54 : decode cX1_init 54 = .ok (.aload_n 0, 1) := by decide +kernel
theorem dX1_init_55 : decode cX1_init 55 = .ok (.iconst 0, 1) := by decide +kernel
theorem dX1_init_56 : decode cX1_init 56 = .ok (.putfield 36, 3) := by decide +kernel
theorem dX1_init_59 : decode cX1_init 59 = .ok (.aload_n 0, 1) := by decide +kernel
theorem dX1_init_60 : decode cX1_init 60 = .ok (.iconst 0, 1) := by decide +kernel
theorem dX1_init_61 : decode cX1_init 61 = .ok (.putfield 39, 3) := by decide +kernel
theorem dX1_init_64 : decode cX1_init 64 = .ok (.aload_n 0, 1) := by decide +kernel
theorem dX1_init_65 : decode cX1_init 65 = .ok (.iconst 0, 1) := by decide +kernel
theorem dX1_init_66 : decode cX1_init 66 = .ok (.putfield 42, 3) := by decide +kernel
theorem dX1_init_69 : decode cX1_init 69 = .ok (.aload_n 0, 1) := by decide +kernel
theorem dX1_init_70 : decode cX1_init 70 = .ok (.iconst 0, 1) := by decide +kernel
theorem dX1_init_71 : decode cX1_init 71 = .ok (.putfield 45, 3) := by decide +kernel
theorem dX1_init_74 : decode cX1_init 74 = .ok (.aload_n 0, 1) := by decide +kernel
theorem dX1_init_75 : decode cX1_init 75 = .ok (.iconst 0, 1) := by decide +kernel
theorem dX1_init_76 : decode cX1_init 76 = .ok (.putfield 48, 3) := by decide +kernel
theorem dX1_init_79 : decode cX1_init 79 = .ok (.return_, 1) := by decide +kernel
set_option maxRecDepth 20000 in
theorem ggX1_collect_X1_isWithin : GoodIn wsX1_collect wsX1_isWithin := goodIn_r _ [6] (by decide +kernel) (by decide +kernel)
set_option maxRecDepth 20000 in
theorem gX1_collect_X1_isWithin : GoodIn wsX1_collect (va_wsS RX1 51 yX1_isWithin wsX1_isWithin) := goodIn_app (goodIn_of _ (by decide +kernel)) ggX1_collect_X1_isWithin
theorem dX1_collect_0 : decode cX1_collect 0 = .ok (.iload_n 1, 1) := by decide +kernel
theorem dX1_collect_1 : decode cX1_collect 1 = .ok (.iconst 4, 1) := by decide +kernel
theorem dX1_collect_2 : decode cX1_collect 2 = .ok (.invokestatic 51, 3) := by decide +kernel
theorem dX1_collect_5 : decode cX1_collect 5 = .ok (.ifCond .eq 14, 3) := by decide +kernel
theorem dX1_collect_8 : decode cX1_collect 8 = .ok (.aload_n 0, 1) := by decide +kernel
theorem dX1_collect_9 : decode cX1_collect 9 = .ok (.getfield 19, 3) := by decide +kernel
theorem dX1_collect_12 : decode cX1_collect 12 = .ok (.iload_n 1, 1) := by decide +kernel
theorem dX1_collect_13 : decode cX1_collect 13 = .ok (.iaload, 1) := by decide +kernel
theorem dX1_collect_14 : decode cX1_collect 14 = .ok (.bipush 50, 2) := by decide +kernel
theorem dX1_collect_16 : decode cX1_collect 16 = .ok (.if_icmp .lt 5, 3) := by decide +kernel
theorem dX1_collect_19 : decode cX1_collect 19 = .ok (.iconst (-1), 1) := by decide +kernel
theorem dX1_collect_20 : decode cX1_collect 20 = .ok (.ireturn, 1) := by decide +kernel
theorem dX1_collect_21 : decode cX1_collect 21 = .ok (.aload_n 0, 1) := by decide +kernel
theorem dX1_collect_22 : decode cX1_collect 22 = .ok (.getfield 19, 3) := by decide +kernel
theorem dX1_collect_25 : decode cX1_collect 25 = .ok (.iload_n 1, 1) := by decide +kernel
theorem dX1_collect_26 : decode cX1_collect 26 = .ok (.dup2, 1) := by decide +kernel
theorem dX1_collect_27 : decode cX1_collect 27 = .ok (.iaload, 1) := by decide +kernel
theorem dX1_collect_28 : decode cX1_collect 28 = .ok (.iconst 1, 1) := by decide +kernel
theorem dX1_collect_29 : decode cX1_collect 29 = .ok (.iadd, 1) := by decide +kernel
theorem dX1_collect_30 : decode cX1_collect 30 = .ok (.iastore, 1) := by decide +kernel
theorem dX1_collect_31 : decode cX1_collect 31 = .ok (.aload_n 0, 1) := by decide +kernel
theorem dX1_collect_32 : decode cX1_collect 32 = .ok (.getfield 23, 3) := by decide +kernel
theorem dX1_collect_35 : decode cX1_collect 35 = .ok (.iload_n 1, 1) := by decide +kernel
theorem dX1_collect_36 : decode cX1_collect 36 = .ok (.dup2, 1) := by decide +kernel
theorem dX1_collect_37 : decode cX1_collect 37 = .ok (.laload, 1) := by decide +kernel
theorem dX1_collect_38 : decode cX1_collect 38 = .ok (.lload_n 2, 1) := by decide +kernel
theorem dX1_collect_39 : decode cX1_collect 39 = .ok (.ladd, 1) := by decide +kernel
theorem dX1_collect_40 : decode cX1_collect 40 = .ok (.lastore, 1) := by decide +kernel
theorem dX1_collect_41 : decode cX1_collect 41 = .ok (.aload_n 0, 1) := by decide +kernel
theorem dX1_collect_42 : decode cX1_collect 42 = .ok (.getfield 19, 3) := by decide +kernel
theorem dX1_collect_45 : decode cX1_collect 45 = .ok (.iload_n 1, 1) := by decide +kernel
theorem dX1_collect_46 : decode cX1_collect 46 = .ok (.iaload, 1) := by decide +kernel
theorem dX1_collect_47 : decode cX1_collect 47 = .ok (.ireturn, 1) := by decide +kernel
set_option maxRecDepth 20000 in
theorem ggX1_answer_X1_isWithin : GoodIn wsX1_answer wsX1_isWithin := goodIn_r _ [5] (by decide +kernel) (by decide +kernel)
set_option maxRecDepth 20000 in
theorem gX1_answer_X1_isWithin : GoodIn wsX1_answer (va_wsS RX1 51 yX1_isWithin wsX1_isWithin) := goodIn_app (goodIn_of _ (by decide +kernel)) ggX1_answer_X1_isWithin
theorem dX1_answer_0 : decode cX1_answer 0 = .ok (.iload_n 1, 1) := by decide +kernel
theorem dX1_answer_1 : decode cX1_answer 1 = .ok (.bipush 32, 2) := by decide +kernel
theorem dX1_answer_3 : decode cX1_answer 3 = .ok (.invokestatic 51, 3) := by decide +kernel
theorem dX1_answer_6 : decode cX1_answer 6 = .ok (.ifCond .ne 5, 3) := by decide +kernel
theorem dX1_answer_9 : decode cX1_answer 9 = .ok (.iconst (-1), 1) := by decide +kernel
theorem dX1_answer_10 : decode cX1_answer 10 = .ok (.ireturn, 1) := by decide +kernel
theorem dX1_answer_11 : decode cX1_answer 11 = .ok (.aload_n 0, 1) := by decide +kernel
theorem dX1_answer_12 : decode cX1_answer 12 = .ok (.getfield 27, 3) := by decide +kernel
theorem dX1_answer_15 : decode cX1_answer 15 = .ok (.iload_n 1, 1) := by decide +kernel
theorem dX1_answer_16 : decode cX1_answer 16 = .ok (.lload_n 2, 1) := by decide +kernel
theorem dX1_answer_17 : decode cX1_answer 17 = .ok (.lastore, 1) := by decide +kernel
theorem dX1_answer_18 : decode cX1_answer 18 = .ok (.iconst 1, 1) := by decide +kernel
theorem dX1_answer_19 : decode cX1_answer 19 = .ok (.ireturn, 1) := by decide +kernel
set_option maxRecDepth 20000 in
theorem ggX1_fails_X1_isWithin : GoodIn wsX1_fails wsX1_isWithin := goodIn_r _ [5] (by decide +kernel) (by decide +kernel)
set_option maxRecDepth 20000 in
theorem gX1_fails_X1_isWithin : GoodIn wsX1_fails (va_wsS RX1 51 yX1_isWithin wsX1_isWithin) := goodIn_app (goodIn_of _ (by decide +kernel)) ggX1_fails_X1_isWithin
theorem dX1_fails_0 : decode cX1_fails 0 = .ok (.iload_n 1, 1) := by decide +kernel
theorem dX1_fails_1 : decode cX1_fails 1 = .ok (.bipush 32, 2) := by decide +kernel
theorem dX1_fails_3 : decode cX1_fails 3 = .ok (.invokestatic 51, 3) := by decide +kernel
theorem dX1_fails_6 : decode cX1_fails 6 = .ok (.ifCond .eq 13, 3) := by decide +kernel
theorem dX1_fails_9 : decode cX1_fails 9 = .ok (.iload_n 2, 1) := by decide +kernel
theorem dX1_fails_10 : decode cX1_fails 10 = .ok (.ifCond .lt 9, 3) := by decide +kernel
theorem dX1_fails_13 : decode cX1_fails 13 = .ok (.iload_n 2, 1) := by decide +kernel
theorem dX1_fails_14 : decode cX1_fails 14 = .ok (.bipush 6, 2) := by decide +kernel
theorem dX1_fails_16 : decode cX1_fails 16 = .ok (.if_icmp .le 5, 3) := by decide +kernel
theorem dX1_fails_19 : decode cX1_fails 19 = .ok (.iconst (-1), 1) := by decide +kernel
theorem dX1_fails_20 : decode cX1_fails 20 = .ok (.ireturn, 1) := by decide +kernel
theorem dX1_fails_21 : decode cX1_fails 21 = .ok (.aload_n 0, 1) := by decide +kernel
theorem dX1_fails_22 : decode cX1_fails 22 = .ok (.getfield 30, 3) := by decide +kernel
theorem dX1_fails_25 : decode cX1_fails 25 = .ok (.iload_n 1, 1) := by decide +kernel
theorem dX1_fails_26 : decode cX1_fails 26 = .ok (.iaload, 1) := by decide +kernel
theorem dX1_fails_27 : decode cX1_fails 27 = .ok (.istore_n 3, 1) := by decide +kernel
theorem dX1_fails_28 : decode cX1_fails 28 = .ok (.aload_n 0, 1) := by decide +kernel
theorem dX1_fails_29 : decode cX1_fails 29 = .ok (.getfield 30, 3) := by decide +kernel
theorem dX1_fails_32 : decode cX1_fails 32 = .ok (.iload_n 1, 1) := by decide +kernel
theorem dX1_fails_33 : decode cX1_fails 33 = .ok (.iload_n 2, 1) := by decide +kernel
theorem dX1_fails_34 : decode cX1_fails 34 = .ok (.iastore, 1) := by decide +kernel
theorem dX1_fails_35 : decode cX1_fails 35 = .ok (.iload_n 3, 1) := by decide +kernel
theorem dX1_fails_36 : decode cX1_fails 36 = .ok (.ireturn, 1) := by decide +kernel
set_option maxRecDepth 20000 in
theorem ggX1_make_X1_isWithin : GoodIn wsX1_make wsX1_isWithin := goodIn_r _ [9] (by decide +kernel) (by decide +kernel)
set_option maxRecDepth 20000 in
theorem gX1_make_X1_isWithin : GoodIn wsX1_make (va_wsS RX1 51 yX1_isWithin wsX1_isWithin) := goodIn_app (goodIn_of _ (by decide +kernel)) ggX1_make_X1_isWithin
set_option maxRecDepth 20000 in
theorem ggX1_make_X0_init : GoodIn wsX1_make wsX0_init := goodIn_r _ [11, 12, 13, 14, 15, 16, 17, 30, 31, 32] (by decide +kernel) (by decide +kernel)
set_option maxRecDepth 20000 in
theorem gX1_make_X0_init_n55 : GoodIn wsX1_make (wsX0_init) := ggX1_make_X0_init
theorem dX1_make_0 : decode cX1_make 0 = .ok (.iload_n 1, 1) := by decide +kernel
theorem dX1_make_1 : decode cX1_make 1 = .ok (.bipush 8, 2) := by decide +kernel
theorem dX1_make_3 : decode cX1_make 3 = .ok (.invokestatic 51, 3) := by decide +kernel
theorem dX1_make_6 : decode cX1_make 6 = .ok (.ifCond .eq 13, 3) := by decide +kernel
theorem dX1_make_9 : decode cX1_make 9 = .ok (.aload_n 0, 1) := by decide +kernel
theorem dX1_make_10 : decode cX1_make 10 = .ok (.getfield 15, 3) := by decide +kernel
theorem dX1_make_13 : decode cX1_make 13 = .ok (.sipush 200, 3) := by decide +kernel
theorem dX1_make_16 : decode cX1_make 16 = .ok (.if_icmp .lt 5, 3) := by decide +kernel
theorem dX1_make_19 : decode cX1_make 19 = .ok (.iconst (-1), 1) := by decide +kernel
theorem dX1_make_20 : decode cX1_make 20 = .ok (.ireturn, 1) := by decide +kernel
theorem dX1_make_21 : decode cX1_make 21 = .ok (.aload_n 0, 1) := by decide +kernel
theorem dX1_make_22 : decode cX1_make 22 = .ok (.getfield 11, 3) := by decide +kernel
theorem dX1_make_25 : decode cX1_make 25 = .ok (.aload_n 0, 1) := by decide +kernel
theorem dX1_make_26 : decode cX1_make 26 = .ok (.getfield 15, 3) := by decide +kernel
theorem dX1_make_29 : decode cX1_make 29 = .ok (.new 9, 3) := by decide +kernel
theorem dX1_make_32 : decode cX1_make 32 = .ok (.dup, 1) := by decide +kernel
theorem dX1_make_33 : decode cX1_make 33 = .ok (.iload_n 1, 1) := by decide +kernel
theorem dX1_make_34 : decode cX1_make 34 = .ok (.invokespecial 55, 3) := by decide +kernel
theorem dX1_make_37 : decode cX1_make 37 = .ok (.aastore, 1) := by decide +kernel
theorem dX1_make_38 : decode cX1_make 38 = .ok (.aload_n 0, 1) := by decide +kernel
theorem dX1_make_39 : decode cX1_make 39 = .ok (.dup, 1) := by decide +kernel
theorem dX1_make_40 : decode cX1_make 40 = .ok (.getfield 15, 3) := by decide +kernel
theorem dX1_make_43 : decode cX1_make 43 = .ok (.iconst 1, 1) := by decide +kernel
theorem dX1_make_44 : decode cX1_make 44 = .ok (.iadd, 1) := by decide +kernel
theorem dX1_make_45 : decode cX1_make 45 = .ok (.putfield 15, 3) := by decide +kernel
theorem dX1_make_48 : decode cX1_make 48 = .ok (.aload_n 0, 1) := by decide +kernel
theorem dX1_make_49 : decode cX1_make 49 = .ok (.getfield 15, 3) := by decide +kernel
theorem dX1_make_52 : decode cX1_make 52 = .ok (.ireturn, 1) := by decide +kernel
set_option maxRecDepth 20000 in
theorem ggX1_call_X1_find : GoodIn wsX1_call wsX1_find := goodIn_r _ [8, 9, 10, 44, 45, 46, 47, 48, 49, 50, 51, 52, 53, 54, 55] (by decide +kernel) (by decide +kernel)
set_option maxRecDepth 20000 in
theorem gX1_call_X1_find : GoodIn wsX1_call (wsV RX1 58 RX1 yX1_find wsX1_find) := goodIn_app (goodIn_of _ (by decide +kernel)) ggX1_call_X1_find
set_option maxRecDepth 20000 in
theorem ggX1_call_X1_refusalOf : GoodIn wsX1_call wsX1_refusalOf := goodIn_r _ [14, 15, 16, 17, 18, 7, 19, 20, 21, 22, 56, 57, 58, 44, 45, 46, 47, 48, 49, 50, 51, 52, 53, 54, 55] (by decide +kernel) (by decide +kernel)
set_option maxRecDepth 20000 in
theorem gX1_call_X1_refusalOf : GoodIn wsX1_call (wsV RX1 62 RX1 yX1_refusalOf wsX1_refusalOf) := goodIn_app (goodIn_of _ (by decide +kernel)) ggX1_call_X1_refusalOf
set_option maxRecDepth 20000 in
theorem ggX1_call_X1_outcomeOf : GoodIn wsX1_call wsX1_outcomeOf := goodIn_r _ [26, 2, 27, 28, 29, 30, 7, 31, 20, 21, 22, 44, 45, 46, 47, 48, 49, 50, 51, 52, 53, 54, 55, 56, 57, 58] (by decide +kernel) (by decide +kernel)
set_option maxRecDepth 20000 in
theorem gX1_call_X1_outcomeOf : GoodIn wsX1_call (wsV RX1 66 RX1 yX1_outcomeOf wsX1_outcomeOf) := goodIn_app (goodIn_of _ (by decide +kernel)) ggX1_call_X1_outcomeOf
set_option maxRecDepth 20000 in
theorem ggX1_call_X1_takeRow : GoodIn wsX1_call wsX1_takeRow := goodIn_r _ [35, 16, 28, 29, 30, 7, 31, 20, 21, 22, 44, 45, 46, 47, 48, 49, 50, 51, 52, 53, 54, 55] (by decide +kernel) (by decide +kernel)
set_option maxRecDepth 20000 in
theorem gX1_call_X1_takeRow : GoodIn wsX1_call (wsV RX1 70 RX1 yX1_takeRow wsX1_takeRow) := goodIn_app (goodIn_of _ (by decide +kernel)) ggX1_call_X1_takeRow
set_option maxRecDepth 20000 in
theorem ggX1_call_X1_tell : GoodIn wsX1_call wsX1_tell := goodIn_r _ [39, 2, 40, 41, 42, 43, 44, 45, 46, 47, 48, 49, 50, 51, 52, 53, 54, 55] (by decide +kernel) (by decide +kernel)
set_option maxRecDepth 20000 in
theorem gX1_call_X1_tell : GoodIn wsX1_call (wsV RX1 80 RX1 yX1_tell wsX1_tell) := goodIn_app (goodIn_of _ (by decide +kernel)) ggX1_call_X1_tell
theorem dX1_call_0 : decode cX1_call 0 = .ok (.aload_n 0, 1) := by decide +kernel
theorem dX1_call_1 : decode cX1_call 1 = .ok (.iload_n 2, 1) := by decide +kernel
theorem dX1_call_2 : decode cX1_call 2 = .ok (.invokevirtual 58, 3) := by decide +kernel
theorem dX1_call_5 : decode cX1_call 5 = .ok (.astore 5, 2) := by decide +kernel
theorem dX1_call_7 : decode cX1_call 7 = .ok (.aload_n 0, 1) := by decide +kernel
theorem dX1_call_8 : decode cX1_call 8 = .ok (.iload_n 1, 1) := by decide +kernel
theorem dX1_call_9 : decode cX1_call 9 = .ok (.aload 5, 2) := by decide +kernel
theorem dX1_call_11 : decode cX1_call 11 = .ok (.lload_n 3, 1) := by decide +kernel
theorem dX1_call_12 : decode cX1_call 12 = .ok (.invokevirtual 62, 3) := by decide +kernel
theorem dX1_call_15 : decode cX1_call 15 = .ok (.istore 6, 2) := by decide +kernel
theorem dX1_call_17 : decode cX1_call 17 = .ok (.iload 6, 2) := by decide +kernel
theorem dX1_call_19 : decode cX1_call 19 = .ok (.ifCond .eq 17, 3) := by decide +kernel
theorem dX1_call_22 : decode cX1_call 22 = .ok (.aload_n 0, 1) := by decide +kernel
theorem dX1_call_23 : decode cX1_call 23 = .ok (.dup, 1) := by decide +kernel
theorem dX1_call_24 : decode cX1_call 24 = .ok (.getfield 45, 3) := by decide +kernel
theorem dX1_call_27 : decode cX1_call 27 = .ok (.iconst 1, 1) := by decide +kernel
theorem dX1_call_28 : decode cX1_call 28 = .ok (.iadd, 1) := by decide +kernel
theorem dX1_call_29 : decode cX1_call 29 = .ok (.putfield 45, 3) := by decide +kernel
theorem dX1_call_32 : decode cX1_call 32 = .ok (.iload 6, 2) := by decide +kernel
theorem dX1_call_34 : decode cX1_call 34 = .ok (.i2l, 1) := by decide +kernel
theorem dX1_call_35 : decode cX1_call 35 = .ok (.lreturn, 1) := by decide +kernel
theorem dX1_call_36 : decode cX1_call 36 = .ok (.aload_n 0, 1) := by decide +kernel
theorem dX1_call_37 : decode cX1_call 37 = .ok (.iload_n 1, 1) := by decide +kernel
theorem dX1_call_38 : decode cX1_call 38 = .ok (.aload 5, 2) := by decide +kernel
theorem dX1_call_40 : decode cX1_call 40 = .ok (.lload_n 3, 1) := by decide +kernel
theorem dX1_call_41 : decode cX1_call 41 = .ok (.invokevirtual 66, 3) := by decide +kernel
theorem dX1_call_44 : decode cX1_call 44 = .ok (.lstore 7, 2) := by decide +kernel
theorem dX1_call_46 : decode cX1_call 46 = .ok (.aload_n 0, 1) := by decide +kernel
theorem dX1_call_47 : decode cX1_call 47 = .ok (.iload_n 1, 1) := by decide +kernel
theorem dX1_call_48 : decode cX1_call 48 = .ok (.invokevirtual 70, 3) := by decide +kernel
theorem dX1_call_51 : decode cX1_call 51 = .ok (.aload_n 0, 1) := by decide +kernel
theorem dX1_call_52 : decode cX1_call 52 = .ok (.getfield 30, 3) := by decide +kernel
theorem dX1_call_55 : decode cX1_call 55 = .ok (.iload_n 1, 1) := by decide +kernel
theorem dX1_call_56 : decode cX1_call 56 = .ok (.iaload, 1) := by decide +kernel
theorem dX1_call_57 : decode cX1_call 57 = .ok (.ifCond .ne 27, 3) := by decide +kernel
theorem dX1_call_60 : decode cX1_call 60 = .ok (.aload 5, 2) := by decide +kernel
theorem dX1_call_62 : decode cX1_call 62 = .ok (.dup, 1) := by decide +kernel
theorem dX1_call_63 : decode cX1_call 63 = .ok (.getfield 73, 3) := by decide +kernel
theorem dX1_call_66 : decode cX1_call 66 = .ok (.iconst 1, 1) := by decide +kernel
theorem dX1_call_67 : decode cX1_call 67 = .ok (.iadd, 1) := by decide +kernel
theorem dX1_call_68 : decode cX1_call 68 = .ok (.putfield 73, 3) := by decide +kernel
theorem dX1_call_71 : decode cX1_call 71 = .ok (.aload_n 0, 1) := by decide +kernel
theorem dX1_call_72 : decode cX1_call 72 = .ok (.dup, 1) := by decide +kernel
theorem dX1_call_73 : decode cX1_call 73 = .ok (.getfield 48, 3) := by decide +kernel
theorem dX1_call_76 : decode cX1_call 76 = .ok (.iconst 1, 1) := by decide +kernel
theorem dX1_call_77 : decode cX1_call 77 = .ok (.iadd, 1) := by decide +kernel
theorem dX1_call_78 : decode cX1_call 78 = .ok (.putfield 48, 3) := by decide +kernel
theorem dX1_call_81 : decode cX1_call 81 = .ok (.goto 15, 3) := by decide +kernel
theorem dX1_call_84 : decode cX1_call 84 = .ok (.aload 5, 2) := by decide +kernel
theorem dX1_call_86 : decode cX1_call 86 = .ok (.iconst 0, 1) := by decide +kernel
theorem dX1_call_87 : decode cX1_call 87 = .ok (.putfield 76, 3) := by decide +kernel
theorem dX1_call_90 : decode cX1_call 90 = .ok (.aload_n 0, 1) := by decide +kernel
theorem dX1_call_91 : decode cX1_call 91 = .ok (.iload_n 1, 1) := by decide +kernel
theorem dX1_call_92 : decode cX1_call 92 = .ok (.iload_n 2, 1) := by decide +kernel
theorem dX1_call_93 : decode cX1_call 93 = .ok (.invokevirtual 80, 3) := by decide +kernel
theorem dX1_call_96 : decode cX1_call 96 = .ok (.lload 7, 2) := by decide +kernel
theorem dX1_call_98 : decode cX1_call 98 = .ok (.lreturn, 1) := by decide +kernel
theorem dX1_told_0 : decode cX1_told 0 = .ok (.iload_n 1, 1) := by decide +kernel
theorem dX1_told_1 : decode cX1_told 1 = .ok (.tableswitch 69 0 5 #[39, 44, 49, 54, 59, 64], 39) := by decide +kernel
theorem dX1_told_40 : decode cX1_told 40 = .ok (.aload_n 0, 1) := by decide +kernel
theorem dX1_told_41 : decode cX1_told 41 = .ok (.getfield 33, 3) := by decide +kernel
theorem dX1_told_44 : decode cX1_told 44 = .ok (.ireturn, 1) := by decide +kernel
theorem dX1_told_45 : decode cX1_told 45 = .ok (.aload_n 0, 1) := by decide +kernel
theorem dX1_told_46 : decode cX1_told 46 = .ok (.getfield 36, 3) := by decide +kernel
theorem dX1_told_49 : decode cX1_told 49 = .ok (.ireturn, 1) := by decide +kernel
theorem dX1_told_50 : decode cX1_told 50 = .ok (.aload_n 0, 1) := by decide +kernel
theorem dX1_told_51 : decode cX1_told 51 = .ok (.getfield 39, 3) := by decide +kernel
theorem dX1_told_54 : decode cX1_told 54 = .ok (.ireturn, 1) := by decide +kernel
theorem dX1_told_55 : decode cX1_told 55 = .ok (.aload_n 0, 1) := by decide +kernel
theorem dX1_told_56 : decode cX1_told 56 = .ok (.getfield 42, 3) := by decide +kernel
theorem dX1_told_59 : decode cX1_told 59 = .ok (.ireturn, 1) := by decide +kernel
theorem dX1_told_60 : decode cX1_told 60 = .ok (.aload_n 0, 1) := by decide +kernel
theorem dX1_told_61 : decode cX1_told 61 = .ok (.getfield 45, 3) := by decide +kernel
theorem dX1_told_64 : decode cX1_told 64 = .ok (.ireturn, 1) := by decide +kernel
theorem dX1_told_65 : decode cX1_told 65 = .ok (.aload_n 0, 1) := by decide +kernel
theorem dX1_told_66 : decode cX1_told 66 = .ok (.getfield 48, 3) := by decide +kernel
theorem dX1_told_69 : decode cX1_told 69 = .ok (.ireturn, 1) := by decide +kernel
theorem dX1_told_70 : decode cX1_told 70 = .ok (.iconst (-1), 1) := by decide +kernel
theorem dX1_told_71 : decode cX1_told 71 = .ok (.ireturn, 1) := by decide +kernel
set_option maxRecDepth 20000 in
theorem ggX1_drop_X1_find : GoodIn wsX1_drop wsX1_find := goodIn_r _ [5, 6, 7, 11, 12, 13, 14, 15, 16, 17, 18, 19, 20, 21, 22] (by decide +kernel) (by decide +kernel)
set_option maxRecDepth 20000 in
theorem gX1_drop_X1_find : GoodIn wsX1_drop (wsV RX1 58 RX1 yX1_find wsX1_find) := goodIn_app (goodIn_of _ (by decide +kernel)) ggX1_drop_X1_find
theorem dX1_drop_0 : decode cX1_drop 0 = .ok (.aload_n 0, 1) := by decide +kernel
theorem dX1_drop_1 : decode cX1_drop 1 = .ok (.iload_n 1, 1) := by decide +kernel
theorem dX1_drop_2 : decode cX1_drop 2 = .ok (.invokevirtual 58, 3) := by decide +kernel
theorem dX1_drop_5 : decode cX1_drop 5 = .ok (.astore_n 2, 1) := by decide +kernel
theorem dX1_drop_6 : decode cX1_drop 6 = .ok (.aload_n 2, 1) := by decide +kernel
theorem dX1_drop_7 : decode cX1_drop 7 = .ok (.ifnull 10, 3) := by decide +kernel
theorem dX1_drop_10 : decode cX1_drop 10 = .ok (.aload_n 2, 1) := by decide +kernel
theorem dX1_drop_11 : decode cX1_drop 11 = .ok (.getfield 76, 3) := by decide +kernel
theorem dX1_drop_14 : decode cX1_drop 14 = .ok (.ifCond .ne 5, 3) := by decide +kernel
theorem dX1_drop_17 : decode cX1_drop 17 = .ok (.iconst 0, 1) := by decide +kernel
theorem dX1_drop_18 : decode cX1_drop 18 = .ok (.ireturn, 1) := by decide +kernel
theorem dX1_drop_19 : decode cX1_drop 19 = .ok (.aload_n 2, 1) := by decide +kernel
theorem dX1_drop_20 : decode cX1_drop 20 = .ok (.iconst 0, 1) := by decide +kernel
theorem dX1_drop_21 : decode cX1_drop 21 = .ok (.putfield 76, 3) := by decide +kernel
theorem dX1_drop_24 : decode cX1_drop 24 = .ok (.iconst 1, 1) := by decide +kernel
theorem dX1_drop_25 : decode cX1_drop 25 = .ok (.ireturn, 1) := by decide +kernel
set_option maxRecDepth 20000 in
theorem ggX1_numbers_X1_isWithin : GoodIn wsX1_numbers wsX1_isWithin := goodIn_r _ [5] (by decide +kernel) (by decide +kernel)
set_option maxRecDepth 20000 in
theorem gX1_numbers_X1_isWithin : GoodIn wsX1_numbers (va_wsS RX1 51 yX1_isWithin wsX1_isWithin) := goodIn_app (goodIn_of _ (by decide +kernel)) ggX1_numbers_X1_isWithin
set_option maxRecDepth 20000 in
theorem ggX1_numbers_X1_find : GoodIn wsX1_numbers wsX1_find := goodIn_r _ [9, 1, 10, 11, 12, 13, 14, 15, 16, 17, 18, 19, 20, 21, 22] (by decide +kernel) (by decide +kernel)
set_option maxRecDepth 20000 in
theorem gX1_numbers_X1_find : GoodIn wsX1_numbers (wsV RX1 58 RX1 yX1_find wsX1_find) := goodIn_app (goodIn_of _ (by decide +kernel)) ggX1_numbers_X1_find
theorem dX1_numbers_0 : decode cX1_numbers 0 = .ok (.iload_n 1, 1) := by decide +kernel
theorem dX1_numbers_1 : decode cX1_numbers 1 = .ok (.bipush 8, 2) := by decide +kernel
theorem dX1_numbers_3 : decode cX1_numbers 3 = .ok (.invokestatic 51, 3) := by decide +kernel
theorem dX1_numbers_6 : decode cX1_numbers 6 = .ok (.ifCond .ne 5, 3) := by decide +kernel
theorem dX1_numbers_9 : decode cX1_numbers 9 = .ok (.iconst (-1), 1) := by decide +kernel
theorem dX1_numbers_10 : decode cX1_numbers 10 = .ok (.ireturn, 1) := by decide +kernel
theorem dX1_numbers_11 : decode cX1_numbers 11 = .ok (.iconst 0, 1) := by decide +kernel
theorem dX1_numbers_12 : decode cX1_numbers 12 = .ok (.istore_n 2, 1) := by decide +kernel
theorem dX1_numbers_13 : decode cX1_numbers 13 = .ok (.iconst 1, 1) := by decide +kernel
theorem dX1_numbers_14 : decode cX1_numbers 14 = .ok (.istore_n 3, 1) := by decide +kernel
theorem dX1_numbers_15 : decode cX1_numbers 15 = .ok (.iload_n 3, 1) := by decide +kernel
theorem dX1_numbers_16 : decode cX1_numbers 16 = .ok (.aload_n 0, 1) := by decide +kernel
theorem dX1_numbers_17 : decode cX1_numbers 17 = .ok (.getfield 15, 3) := by decide +kernel
theorem dX1_numbers_20 : decode cX1_numbers 20 = .ok (.if_icmp .gt 41, 3) := by decide +kernel
theorem dX1_numbers_23 : decode cX1_numbers 23 = .ok (.aload_n 0, 1) := by decide +kernel
theorem dX1_numbers_24 : decode cX1_numbers 24 = .ok (.iload_n 3, 1) := by decide +kernel
theorem dX1_numbers_25 : decode cX1_numbers 25 = .ok (.invokevirtual 58, 3) := by decide +kernel
theorem dX1_numbers_28 : decode cX1_numbers 28 = .ok (.astore 4, 2) := by decide +kernel
theorem dX1_numbers_30 : decode cX1_numbers 30 = .ok (.aload 4, 2) := by decide +kernel
theorem dX1_numbers_32 : decode cX1_numbers 32 = .ok (.ifnull 23, 3) := by decide +kernel
theorem dX1_numbers_35 : decode cX1_numbers 35 = .ok (.aload 4, 2) := by decide +kernel
theorem dX1_numbers_37 : decode cX1_numbers 37 = .ok (.getfield 76, 3) := by decide +kernel
theorem dX1_numbers_40 : decode cX1_numbers 40 = .ok (.ifCond .eq 15, 3) := by decide +kernel
theorem dX1_numbers_43 : decode cX1_numbers 43 = .ok (.aload 4, 2) := by decide +kernel
theorem dX1_numbers_45 : decode cX1_numbers 45 = .ok (.getfield 84, 3) := by decide +kernel
theorem dX1_numbers_48 : decode cX1_numbers 48 = .ok (.iload_n 1, 1) := by decide +kernel
theorem dX1_numbers_49 : decode cX1_numbers 49 = .ok (.if_icmp .ne 6, 3) := by decide +kernel
theorem dX1_numbers_52 : decode cX1_numbers 52 = .ok (.iinc 2 1, 3) := by decide +kernel
theorem dX1_numbers_55 : decode cX1_numbers 55 = .ok (.iinc 3 1, 3) := by decide +kernel
theorem dX1_numbers_58 : decode cX1_numbers 58 = .ok (.goto (-43), 3) := by decide +kernel
theorem dX1_numbers_61 : decode cX1_numbers 61 = .ok (.iload_n 2, 1) := by decide +kernel
theorem dX1_numbers_62 : decode cX1_numbers 62 = .ok (.ireturn, 1) := by decide +kernel
set_option maxRecDepth 20000 in
theorem ggX1_again_X1_find : GoodIn wsX1_again wsX1_find := goodIn_r _ [5, 6, 7, 30, 31, 32, 33, 34, 35, 36, 37, 38, 39, 40, 41] (by decide +kernel) (by decide +kernel)
set_option maxRecDepth 20000 in
theorem gX1_again_X1_find : GoodIn wsX1_again (wsV RX1 58 RX1 yX1_find wsX1_find) := goodIn_app (goodIn_of _ (by decide +kernel)) ggX1_again_X1_find
set_option maxRecDepth 20000 in
theorem ggX1_again_X1_refusalOf : GoodIn wsX1_again wsX1_refusalOf := goodIn_r _ [11, 12, 13, 14, 15, 4, 16, 17, 18, 19, 42, 43, 44, 30, 31, 32, 33, 34, 35, 36, 37, 38, 39, 40, 41] (by decide +kernel) (by decide +kernel)
set_option maxRecDepth 20000 in
theorem gX1_again_X1_refusalOf : GoodIn wsX1_again (wsV RX1 62 RX1 yX1_refusalOf wsX1_refusalOf) := goodIn_app (goodIn_of _ (by decide +kernel)) ggX1_again_X1_refusalOf
set_option maxRecDepth 20000 in
theorem ggX1_again_X1_outcomeOf : GoodIn wsX1_again wsX1_outcomeOf := goodIn_r _ [23, 24, 25, 26, 27, 28, 4, 29, 17, 18, 19, 30, 31, 32, 33, 34, 35, 36, 37, 38, 39, 40, 41, 42, 43, 44] (by decide +kernel) (by decide +kernel)
set_option maxRecDepth 20000 in
theorem gX1_again_X1_outcomeOf : GoodIn wsX1_again (wsV RX1 66 RX1 yX1_outcomeOf wsX1_outcomeOf) := goodIn_app (goodIn_of _ (by decide +kernel)) ggX1_again_X1_outcomeOf
theorem dX1_again_0 : decode cX1_again 0 = .ok (.aload_n 0, 1) := by decide +kernel
theorem dX1_again_1 : decode cX1_again 1 = .ok (.iload_n 2, 1) := by decide +kernel
theorem dX1_again_2 : decode cX1_again 2 = .ok (.invokevirtual 58, 3) := by decide +kernel
theorem dX1_again_5 : decode cX1_again 5 = .ok (.astore 5, 2) := by decide +kernel
theorem dX1_again_7 : decode cX1_again 7 = .ok (.aload_n 0, 1) := by decide +kernel
theorem dX1_again_8 : decode cX1_again 8 = .ok (.iload_n 1, 1) := by decide +kernel
theorem dX1_again_9 : decode cX1_again 9 = .ok (.aload 5, 2) := by decide +kernel
theorem dX1_again_11 : decode cX1_again 11 = .ok (.lload_n 3, 1) := by decide +kernel
theorem dX1_again_12 : decode cX1_again 12 = .ok (.invokevirtual 62, 3) := by decide +kernel
theorem dX1_again_15 : decode cX1_again 15 = .ok (.istore 6, 2) := by decide +kernel
theorem dX1_again_17 : decode cX1_again 17 = .ok (.iload 6, 2) := by decide +kernel
theorem dX1_again_19 : decode cX1_again 19 = .ok (.ifCond .eq 9, 3) := by decide +kernel
theorem dX1_again_22 : decode cX1_again 22 = .ok (.iload 6, 2) := by decide +kernel
theorem dX1_again_24 : decode cX1_again 24 = .ok (.i2l, 1) := by decide +kernel
theorem dX1_again_25 : decode cX1_again 25 = .ok (.goto 11, 3) := by decide +kernel
theorem dX1_again_28 : decode cX1_again 28 = .ok (.aload_n 0, 1) := by decide +kernel
theorem dX1_again_29 : decode cX1_again 29 = .ok (.iload_n 1, 1) := by decide +kernel
theorem dX1_again_30 : decode cX1_again 30 = .ok (.aload 5, 2) := by decide +kernel
theorem dX1_again_32 : decode cX1_again 32 = .ok (.lload_n 3, 1) := by decide +kernel
theorem dX1_again_33 : decode cX1_again 33 = .ok (.invokevirtual 66, 3) := by decide +kernel
theorem dX1_again_36 : decode cX1_again 36 = .ok (.lreturn, 1) := by decide +kernel
theorem dX1_isWithin_0 : decode cX1_isWithin 0 = .ok (.iload_n 0, 1) := by decide +kernel
theorem dX1_isWithin_1 : decode cX1_isWithin 1 = .ok (.ifCond .lt 12, 3) := by decide +kernel
theorem dX1_isWithin_4 : decode cX1_isWithin 4 = .ok (.iload_n 0, 1) := by decide +kernel
theorem dX1_isWithin_5 : decode cX1_isWithin 5 = .ok (.iload_n 1, 1) := by decide +kernel
theorem dX1_isWithin_6 : decode cX1_isWithin 6 = .ok (.if_icmp .ge 7, 3) := by decide +kernel
theorem dX1_isWithin_9 : decode cX1_isWithin 9 = .ok (.iconst 1, 1) := by decide +kernel
theorem dX1_isWithin_10 : decode cX1_isWithin 10 = .ok (.goto 4, 3) := by decide +kernel
theorem dX1_isWithin_13 : decode cX1_isWithin 13 = .ok (.iconst 0, 1) := by decide +kernel
theorem dX1_isWithin_14 : decode cX1_isWithin 14 = .ok (.ireturn, 1) := by decide +kernel
theorem dX1_hasRow_0 : decode cX1_hasRow 0 = .ok (.iload_n 0, 1) := by decide +kernel
theorem dX1_hasRow_1 : decode cX1_hasRow 1 = .ok (.bipush 8, 2) := by decide +kernel
theorem dX1_hasRow_3 : decode cX1_hasRow 3 = .ok (.if_icmp .lt 7, 3) := by decide +kernel
theorem dX1_hasRow_6 : decode cX1_hasRow 6 = .ok (.iconst 1, 1) := by decide +kernel
theorem dX1_hasRow_7 : decode cX1_hasRow 7 = .ok (.goto 4, 3) := by decide +kernel
theorem dX1_hasRow_10 : decode cX1_hasRow 10 = .ok (.iconst 0, 1) := by decide +kernel
theorem dX1_hasRow_11 : decode cX1_hasRow 11 = .ok (.ireturn, 1) := by decide +kernel
theorem dX1_rowOf_0 : decode cX1_rowOf 0 = .ok (.iload_n 0, 1) := by decide +kernel
theorem dX1_rowOf_1 : decode cX1_rowOf 1 = .ok (.iconst 4, 1) := by decide +kernel
theorem dX1_rowOf_2 : decode cX1_rowOf 2 = .ok (.irem, 1) := by decide +kernel
theorem dX1_rowOf_3 : decode cX1_rowOf 3 = .ok (.ireturn, 1) := by decide +kernel
theorem dX1_find_0 : decode cX1_find 0 = .ok (.iload_n 1, 1) := by decide +kernel
theorem dX1_find_1 : decode cX1_find 1 = .ok (.iconst 1, 1) := by decide +kernel
theorem dX1_find_2 : decode cX1_find 2 = .ok (.if_icmp .lt 22, 3) := by decide +kernel
theorem dX1_find_5 : decode cX1_find 5 = .ok (.iload_n 1, 1) := by decide +kernel
theorem dX1_find_6 : decode cX1_find 6 = .ok (.aload_n 0, 1) := by decide +kernel
theorem dX1_find_7 : decode cX1_find 7 = .ok (.getfield 15, 3) := by decide +kernel
theorem dX1_find_10 : decode cX1_find 10 = .ok (.if_icmp .gt 14, 3) := by decide +kernel
theorem dX1_find_13 : decode cX1_find 13 = .ok (.aload_n 0, 1) := by decide +kernel
theorem dX1_find_14 : decode cX1_find 14 = .ok (.getfield 11, 3) := by decide +kernel
theorem dX1_find_17 : decode cX1_find 17 = .ok (.iload_n 1, 1) := by decide +kernel
theorem dX1_find_18 : decode cX1_find 18 = .ok (.iconst 1, 1) := by decide +kernel
theorem dX1_find_19 : decode cX1_find 19 = .ok (.isub, 1) := by decide +kernel
theorem dX1_find_20 : decode cX1_find 20 = .ok (.aaload, 1) := by decide +kernel
theorem dX1_find_21 : decode cX1_find 21 = .ok (.goto 4, 3) := by decide +kernel
theorem dX1_find_24 : decode cX1_find 24 = .ok (.aconst_null, 1) := by decide +kernel
theorem dX1_find_25 : decode cX1_find 25 = .ok (.areturn, 1) := by decide +kernel
set_option maxRecDepth 20000 in
theorem ggX1_refusalOf_X1_isWithin : GoodIn wsX1_refusalOf wsX1_isWithin := goodIn_r _ [6] (by decide +kernel) (by decide +kernel)
set_option maxRecDepth 20000 in
theorem gX1_refusalOf_X1_isWithin : GoodIn wsX1_refusalOf (va_wsS RX1 51 yX1_isWithin wsX1_isWithin) := goodIn_app (goodIn_of _ (by decide +kernel)) ggX1_refusalOf_X1_isWithin
set_option maxRecDepth 20000 in
theorem ggX1_refusalOf_X1_rowOf : GoodIn wsX1_refusalOf wsX1_rowOf := goodIn_r _ [9] (by decide +kernel) (by decide +kernel)
set_option maxRecDepth 20000 in
theorem gX1_refusalOf_X1_rowOf : GoodIn wsX1_refusalOf (va_wsS RX1 89 yX1_rowOf wsX1_rowOf) := goodIn_app (goodIn_of _ (by decide +kernel)) ggX1_refusalOf_X1_rowOf
theorem dX1_refusalOf_0 : decode cX1_refusalOf 0 = .ok (.iload_n 1, 1) := by decide +kernel
theorem dX1_refusalOf_1 : decode cX1_refusalOf 1 = .ok (.bipush 32, 2) := by decide +kernel
theorem dX1_refusalOf_3 : decode cX1_refusalOf 3 = .ok (.invokestatic 51, 3) := by decide +kernel
theorem dX1_refusalOf_6 : decode cX1_refusalOf 6 = .ok (.ifCond .eq 18, 3) := by decide +kernel
theorem dX1_refusalOf_9 : decode cX1_refusalOf 9 = .ok (.aload_n 2, 1) := by decide +kernel
theorem dX1_refusalOf_10 : decode cX1_refusalOf 10 = .ok (.ifnull 14, 3) := by decide +kernel
theorem dX1_refusalOf_13 : decode cX1_refusalOf 13 = .ok (.aload_n 2, 1) := by decide +kernel
theorem dX1_refusalOf_14 : decode cX1_refusalOf 14 = .ok (.getfield 84, 3) := by decide +kernel
theorem dX1_refusalOf_17 : decode cX1_refusalOf 17 = .ok (.iload_n 1, 1) := by decide +kernel
theorem dX1_refusalOf_18 : decode cX1_refusalOf 18 = .ok (.bipush 8, 2) := by decide +kernel
theorem dX1_refusalOf_20 : decode cX1_refusalOf 20 = .ok (.irem, 1) := by decide +kernel
theorem dX1_refusalOf_21 : decode cX1_refusalOf 21 = .ok (.if_icmp .eq 6, 3) := by decide +kernel
theorem dX1_refusalOf_24 : decode cX1_refusalOf 24 = .ok (.bipush (-2), 2) := by decide +kernel
theorem dX1_refusalOf_26 : decode cX1_refusalOf 26 = .ok (.ireturn, 1) := by decide +kernel
theorem dX1_refusalOf_27 : decode cX1_refusalOf 27 = .ok (.lload_n 3, 1) := by decide +kernel
theorem dX1_refusalOf_28 : decode cX1_refusalOf 28 = .ok (.lconst 0, 1) := by decide +kernel
theorem dX1_refusalOf_29 : decode cX1_refusalOf 29 = .ok (.lcmp, 1) := by decide +kernel
theorem dX1_refusalOf_30 : decode cX1_refusalOf 30 = .ok (.ifCond .lt 11, 3) := by decide +kernel
theorem dX1_refusalOf_33 : decode cX1_refusalOf 33 = .ok (.lload_n 3, 1) := by decide +kernel
theorem dX1_refusalOf_34 : decode cX1_refusalOf 34 = .ok (.ldc2_w 87, 3) := by decide +kernel
theorem dX1_refusalOf_37 : decode cX1_refusalOf 37 = .ok (.lcmp, 1) := by decide +kernel
theorem dX1_refusalOf_38 : decode cX1_refusalOf 38 = .ok (.ifCond .le 6, 3) := by decide +kernel
theorem dX1_refusalOf_41 : decode cX1_refusalOf 41 = .ok (.bipush (-4), 2) := by decide +kernel
theorem dX1_refusalOf_43 : decode cX1_refusalOf 43 = .ok (.ireturn, 1) := by decide +kernel
theorem dX1_refusalOf_44 : decode cX1_refusalOf 44 = .ok (.iload_n 1, 1) := by decide +kernel
theorem dX1_refusalOf_45 : decode cX1_refusalOf 45 = .ok (.bipush 24, 2) := by decide +kernel
theorem dX1_refusalOf_47 : decode cX1_refusalOf 47 = .ok (.if_icmp .lt 19, 3) := by decide +kernel
theorem dX1_refusalOf_50 : decode cX1_refusalOf 50 = .ok (.aload_n 0, 1) := by decide +kernel
theorem dX1_refusalOf_51 : decode cX1_refusalOf 51 = .ok (.getfield 19, 3) := by decide +kernel
theorem dX1_refusalOf_54 : decode cX1_refusalOf 54 = .ok (.iload_n 1, 1) := by decide +kernel
theorem dX1_refusalOf_55 : decode cX1_refusalOf 55 = .ok (.invokestatic 89, 3) := by decide +kernel
theorem dX1_refusalOf_58 : decode cX1_refusalOf 58 = .ok (.iaload, 1) := by decide +kernel
theorem dX1_refusalOf_59 : decode cX1_refusalOf 59 = .ok (.ifCond .ne 7, 3) := by decide +kernel
theorem dX1_refusalOf_62 : decode cX1_refusalOf 62 = .ok (.iconst 1, 1) := by decide +kernel
theorem dX1_refusalOf_63 : decode cX1_refusalOf 63 = .ok (.goto 4, 3) := by decide +kernel
theorem dX1_refusalOf_66 : decode cX1_refusalOf 66 = .ok (.iconst 0, 1) := by decide +kernel
theorem dX1_refusalOf_67 : decode cX1_refusalOf 67 = .ok (.istore 5, 2) := by decide +kernel
theorem dX1_refusalOf_69 : decode cX1_refusalOf 69 = .ok (.aload_n 2, 1) := by decide +kernel
theorem dX1_refusalOf_70 : decode cX1_refusalOf 70 = .ok (.getfield 76, 3) := by decide +kernel
theorem dX1_refusalOf_73 : decode cX1_refusalOf 73 = .ok (.ifCond .eq 8, 3) := by decide +kernel
theorem dX1_refusalOf_76 : decode cX1_refusalOf 76 = .ok (.iload 5, 2) := by decide +kernel
theorem dX1_refusalOf_78 : decode cX1_refusalOf 78 = .ok (.ifCond .eq 8, 3) := by decide +kernel
theorem dX1_refusalOf_81 : decode cX1_refusalOf 81 = .ok (.bipush (-5), 2) := by decide +kernel
theorem dX1_refusalOf_83 : decode cX1_refusalOf 83 = .ok (.goto 4, 3) := by decide +kernel
theorem dX1_refusalOf_86 : decode cX1_refusalOf 86 = .ok (.iconst 0, 1) := by decide +kernel
theorem dX1_refusalOf_87 : decode cX1_refusalOf 87 = .ok (.ireturn, 1) := by decide +kernel
set_option maxRecDepth 20000 in
theorem ggX1_outcomeOf_X1_hasRow : GoodIn wsX1_outcomeOf wsX1_hasRow := goodIn_r _ [7] (by decide +kernel) (by decide +kernel)
set_option maxRecDepth 20000 in
theorem gX1_outcomeOf_X1_hasRow : GoodIn wsX1_outcomeOf (va_wsS RX1 93 yX1_hasRow wsX1_hasRow) := goodIn_app (goodIn_of _ (by decide +kernel)) ggX1_outcomeOf_X1_hasRow
set_option maxRecDepth 20000 in
theorem ggX1_outcomeOf_X1_rowOf : GoodIn wsX1_outcomeOf wsX1_rowOf := goodIn_r _ [10] (by decide +kernel) (by decide +kernel)
set_option maxRecDepth 20000 in
theorem gX1_outcomeOf_X1_rowOf : GoodIn wsX1_outcomeOf (va_wsS RX1 89 yX1_rowOf wsX1_rowOf) := goodIn_app (goodIn_of _ (by decide +kernel)) ggX1_outcomeOf_X1_rowOf
theorem dX1_outcomeOf_0 : decode cX1_outcomeOf 0 = .ok (.aload_n 0, 1) := by decide +kernel
theorem dX1_outcomeOf_1 : decode cX1_outcomeOf 1 = .ok (.getfield 30, 3) := by decide +kernel
theorem dX1_outcomeOf_4 : decode cX1_outcomeOf 4 = .ok (.iload_n 1, 1) := by decide +kernel
theorem dX1_outcomeOf_5 : decode cX1_outcomeOf 5 = .ok (.iaload, 1) := by decide +kernel
theorem dX1_outcomeOf_6 : decode cX1_outcomeOf 6 = .ok (.ifCond .eq 14, 3) := by decide +kernel
theorem dX1_outcomeOf_9 : decode cX1_outcomeOf 9 = .ok (.bipush (-10), 2) := by decide +kernel
theorem dX1_outcomeOf_11 : decode cX1_outcomeOf 11 = .ok (.aload_n 0, 1) := by decide +kernel
theorem dX1_outcomeOf_12 : decode cX1_outcomeOf 12 = .ok (.getfield 30, 3) := by decide +kernel
theorem dX1_outcomeOf_15 : decode cX1_outcomeOf 15 = .ok (.iload_n 1, 1) := by decide +kernel
theorem dX1_outcomeOf_16 : decode cX1_outcomeOf 16 = .ok (.iaload, 1) := by decide +kernel
theorem dX1_outcomeOf_17 : decode cX1_outcomeOf 17 = .ok (.isub, 1) := by decide +kernel
theorem dX1_outcomeOf_18 : decode cX1_outcomeOf 18 = .ok (.i2l, 1) := by decide +kernel
theorem dX1_outcomeOf_19 : decode cX1_outcomeOf 19 = .ok (.lreturn, 1) := by decide +kernel
theorem dX1_outcomeOf_20 : decode cX1_outcomeOf 20 = .ok (.aload_n 0, 1) := by decide +kernel
theorem dX1_outcomeOf_21 : decode cX1_outcomeOf 21 = .ok (.getfield 27, 3) := by decide +kernel
theorem dX1_outcomeOf_24 : decode cX1_outcomeOf 24 = .ok (.iload_n 1, 1) := by decide +kernel
theorem dX1_outcomeOf_25 : decode cX1_outcomeOf 25 = .ok (.laload, 1) := by decide +kernel
theorem dX1_outcomeOf_26 : decode cX1_outcomeOf 26 = .ok (.lload_n 3, 1) := by decide +kernel
theorem dX1_outcomeOf_27 : decode cX1_outcomeOf 27 = .ok (.ladd, 1) := by decide +kernel
theorem dX1_outcomeOf_28 : decode cX1_outcomeOf 28 = .ok (.lstore 5, 2) := by decide +kernel
theorem dX1_outcomeOf_30 : decode cX1_outcomeOf 30 = .ok (.iload_n 1, 1) := by decide +kernel
theorem dX1_outcomeOf_31 : decode cX1_outcomeOf 31 = .ok (.invokestatic 93, 3) := by decide +kernel
theorem dX1_outcomeOf_34 : decode cX1_outcomeOf 34 = .ok (.ifCond .eq 17, 3) := by decide +kernel
theorem dX1_outcomeOf_37 : decode cX1_outcomeOf 37 = .ok (.lload 5, 2) := by decide +kernel
theorem dX1_outcomeOf_39 : decode cX1_outcomeOf 39 = .ok (.aload_n 0, 1) := by decide +kernel
theorem dX1_outcomeOf_40 : decode cX1_outcomeOf 40 = .ok (.getfield 23, 3) := by decide +kernel
theorem dX1_outcomeOf_43 : decode cX1_outcomeOf 43 = .ok (.iload_n 1, 1) := by decide +kernel
theorem dX1_outcomeOf_44 : decode cX1_outcomeOf 44 = .ok (.invokestatic 89, 3) := by decide +kernel
theorem dX1_outcomeOf_47 : decode cX1_outcomeOf 47 = .ok (.laload, 1) := by decide +kernel
theorem dX1_outcomeOf_48 : decode cX1_outcomeOf 48 = .ok (.ladd, 1) := by decide +kernel
theorem dX1_outcomeOf_49 : decode cX1_outcomeOf 49 = .ok (.lstore 5, 2) := by decide +kernel
theorem dX1_outcomeOf_51 : decode cX1_outcomeOf 51 = .ok (.aload_n 2, 1) := by decide +kernel
theorem dX1_outcomeOf_52 : decode cX1_outcomeOf 52 = .ok (.getfield 84, 3) := by decide +kernel
theorem dX1_outcomeOf_55 : decode cX1_outcomeOf 55 = .ok (.iconst 3, 1) := by decide +kernel
theorem dX1_outcomeOf_56 : decode cX1_outcomeOf 56 = .ok (.if_icmp .ne 13, 3) := by decide +kernel
theorem dX1_outcomeOf_59 : decode cX1_outcomeOf 59 = .ok (.lload 5, 2) := by decide +kernel
theorem dX1_outcomeOf_61 : decode cX1_outcomeOf 61 = .ok (.aload_n 2, 1) := by decide +kernel
theorem dX1_outcomeOf_62 : decode cX1_outcomeOf 62 = .ok (.getfield 73, 3) := by decide +kernel
theorem dX1_outcomeOf_65 : decode cX1_outcomeOf 65 = .ok (.i2l, 1) := by decide +kernel
theorem dX1_outcomeOf_66 : decode cX1_outcomeOf 66 = .ok (.ladd, 1) := by decide +kernel
theorem dX1_outcomeOf_67 : decode cX1_outcomeOf 67 = .ok (.lstore 5, 2) := by decide +kernel
theorem dX1_outcomeOf_69 : decode cX1_outcomeOf 69 = .ok (.lload 5, 2) := by decide +kernel
theorem dX1_outcomeOf_71 : decode cX1_outcomeOf 71 = .ok (.lreturn, 1) := by decide +kernel
set_option maxRecDepth 20000 in
theorem ggX1_takeRow_X1_hasRow : GoodIn wsX1_takeRow wsX1_hasRow := goodIn_r _ [6] (by decide +kernel) (by decide +kernel)
set_option maxRecDepth 20000 in
theorem gX1_takeRow_X1_hasRow : GoodIn wsX1_takeRow (va_wsS RX1 93 yX1_hasRow wsX1_hasRow) := goodIn_app (goodIn_of _ (by decide +kernel)) ggX1_takeRow_X1_hasRow
set_option maxRecDepth 20000 in
theorem ggX1_takeRow_X1_rowOf : GoodIn wsX1_takeRow wsX1_rowOf := goodIn_r _ [9] (by decide +kernel) (by decide +kernel)
set_option maxRecDepth 20000 in
theorem gX1_takeRow_X1_rowOf : GoodIn wsX1_takeRow (va_wsS RX1 89 yX1_rowOf wsX1_rowOf) := goodIn_app (goodIn_of _ (by decide +kernel)) ggX1_takeRow_X1_rowOf
theorem dX1_takeRow_0 : decode cX1_takeRow 0 = .ok (.iload_n 1, 1) := by decide +kernel
theorem dX1_takeRow_1 : decode cX1_takeRow 1 = .ok (.invokestatic 93, 3) := by decide +kernel
theorem dX1_takeRow_4 : decode cX1_takeRow 4 = .ok (.ifCond .eq 23, 3) := by decide +kernel
theorem dX1_takeRow_7 : decode cX1_takeRow 7 = .ok (.aload_n 0, 1) := by decide +kernel
theorem dX1_takeRow_8 : decode cX1_takeRow 8 = .ok (.getfield 19, 3) := by decide +kernel
theorem dX1_takeRow_11 : decode cX1_takeRow 11 = .ok (.iload_n 1, 1) := by decide +kernel
theorem dX1_takeRow_12 : decode cX1_takeRow 12 = .ok (.invokestatic 89, 3) := by decide +kernel
theorem dX1_takeRow_15 : decode cX1_takeRow 15 = .ok (.iconst 0, 1) := by decide +kernel
theorem dX1_takeRow_16 : decode cX1_takeRow 16 = .ok (.iastore, 1) := by decide +kernel
theorem dX1_takeRow_17 : decode cX1_takeRow 17 = .ok (.aload_n 0, 1) := by decide +kernel
theorem dX1_takeRow_18 : decode cX1_takeRow 18 = .ok (.getfield 23, 3) := by decide +kernel
theorem dX1_takeRow_21 : decode cX1_takeRow 21 = .ok (.iload_n 1, 1) := by decide +kernel
theorem dX1_takeRow_22 : decode cX1_takeRow 22 = .ok (.invokestatic 89, 3) := by decide +kernel
theorem dX1_takeRow_25 : decode cX1_takeRow 25 = .ok (.lconst 0, 1) := by decide +kernel
theorem dX1_takeRow_26 : decode cX1_takeRow 26 = .ok (.lastore, 1) := by decide +kernel
theorem dX1_takeRow_27 : decode cX1_takeRow 27 = .ok (.return_, 1) := by decide +kernel
theorem dX1_tell_0 : decode cX1_tell 0 = .ok (.aload_n 0, 1) := by decide +kernel
theorem dX1_tell_1 : decode cX1_tell 1 = .ok (.aload_n 0, 1) := by decide +kernel
theorem dX1_tell_2 : decode cX1_tell 2 = .ok (.getfield 30, 3) := by decide +kernel
theorem dX1_tell_5 : decode cX1_tell 5 = .ok (.iload_n 1, 1) := by decide +kernel
theorem dX1_tell_6 : decode cX1_tell 6 = .ok (.iaload, 1) := by decide +kernel
theorem dX1_tell_7 : decode cX1_tell 7 = .ok (.putfield 33, 3) := by decide +kernel
theorem dX1_tell_10 : decode cX1_tell 10 = .ok (.aload_n 0, 1) := by decide +kernel
theorem dX1_tell_11 : decode cX1_tell 11 = .ok (.iload_n 1, 1) := by decide +kernel
theorem dX1_tell_12 : decode cX1_tell 12 = .ok (.putfield 36, 3) := by decide +kernel
theorem dX1_tell_15 : decode cX1_tell 15 = .ok (.aload_n 0, 1) := by decide +kernel
theorem dX1_tell_16 : decode cX1_tell 16 = .ok (.iload_n 2, 1) := by decide +kernel
theorem dX1_tell_17 : decode cX1_tell 17 = .ok (.putfield 39, 3) := by decide +kernel
theorem dX1_tell_20 : decode cX1_tell 20 = .ok (.aload_n 0, 1) := by decide +kernel
theorem dX1_tell_21 : decode cX1_tell 21 = .ok (.dup, 1) := by decide +kernel
theorem dX1_tell_22 : decode cX1_tell 22 = .ok (.getfield 42, 3) := by decide +kernel
theorem dX1_tell_25 : decode cX1_tell 25 = .ok (.iconst 1, 1) := by decide +kernel
theorem dX1_tell_26 : decode cX1_tell 26 = .ok (.iadd, 1) := by decide +kernel
theorem dX1_tell_27 : decode cX1_tell 27 = .ok (.putfield 42, 3) := by decide +kernel
theorem dX1_tell_30 : decode cX1_tell 30 = .ok (.return_, 1) := by decide +kernel
