theorem dX2_init_0 : decode cX2_init 0 = .ok (.aload_n 0, 1) := by decide +kernel
theorem dX2_init_1 : decode cX2_init 1 = .ok (.invokespecial 1, 3) := by decide +kernel
theorem dX2_init_4 : decode cX2_init 4 = .ok (.aload_n 0, 1) := by decide +kernel
theorem dX2_init_5 : decode cX2_init 5 = .ok (.iconst 4, 1) := by decide +kernel
theorem dX2_init_6 : decode cX2_init 6 = .ok (.newarray .long, 2) := by decide +kernel
theorem dX2_init_8 : decode cX2_init 8 = .ok (.putfield 7, 3) := by decide +kernel
theorem dX2_init_11 : decode cX2_init 11 = .ok (.aload_n 0, 1) := by decide +kernel
theorem dX2_init_12 : decode cX2_init 12 = .ok (.iconst 4, 1) := by decide +kernel
theorem dX2_init_13 : decode cX2_init 13 = .ok (.newarray .int, 2) := by decide +kernel
theorem dX2_init_15 : decode cX2_init 15 = .ok (.putfield 13, 3) := by decide +kernel
theorem dX2_init_18 : decode cX2_init 18 = .ok (.aload_n 0, 1) := by decide +kernel
theorem dX2_init_19 : decode cX2_init 19 = .ok (.bipush 32, 2) := by decide +kernel
theorem dX2_init_21 : decode cX2_init 21 = .ok (.newarray .long, 2) := by decide +kernel
theorem dX2_init_23 : decode cX2_init 23 = .ok (.putfield 17, 3) := by decide +kernel
theorem dX2_init_26 : decode cX2_init 26 = .ok (.aload_n 0, 1) := by decide +kernel
theorem dX2_init_27 : decode cX2_init 27 = .ok (.bipush 32, 2) := by decide +kernel
theorem dX2_init_29 : decode cX2_init 29 = .ok (.newarray .int, 2) := by decide +kernel
theorem dX2_init_31 : decode cX2_init 31 = .ok (.putfield 20, 3) := by decide +kernel
theorem dX2_init_34 : decode cX2_init 34 = .ok (.aload_n 0, 1) := by decide +kernel
theorem dX2_init_35 : decode cX2_init 35 = .ok (.sipush 200, 3) := by decide +kernel
theorem dX2_init_38 : decode cX2_init 38 = .ok (.newarray .int, 2) := by decide +kernel
theorem dX2_init_40 : decode cX2_init 40 = .ok (.putfield 23, 3) := by decide +kernel
theorem dX2_init_43 : decode cX2_init 43 = .ok (.aload_n 0, 1) := by decide +kernel
theorem dX2_init_44 : decode cX2_init 44 = .ok (.sipush 200, 3) := by decide +kernel
theorem dX2_init_47 : decode cX2_init 47 = .ok (.newarray .boolean, 2) := by decide +kernel
theorem dX2_init_49 : decode cX2_init 49 = .ok (.putfield 26, 3) := by decide +kernel
theorem dX2_init_52 : decode cX2_init 52 = .ok (.aload_n 0, 1) := by decide +kernel
theorem dX2_init_53 : decode cX2_init 53 = .ok (.sipush 200, 3) := by decide +kernel
theorem dX2_init_56 : decode cX2_init 56 = .ok (.newarray .long, 2) := by decide +kernel
theorem dX2_init_58 : decode cX2_init 58 = .ok (.putfield 30, 3) := by decide +kernel
theorem dX2_init_61 : decode cX2_init 61 = .ok (.return_, 1) := by decide +kernel
theorem dX2_below_0 : decode cX2_below 0 = .ok (.iload_n 0, 1) := by decide +kernel
theorem dX2_below_1 : decode cX2_below 1 = .ok (.ifCond .lt 12, 3) := by decide +kernel
theorem dX2_below_4 : decode cX2_below 4 = .ok (.iload_n 0, 1) := by decide +kernel
theorem dX2_below_5 : decode cX2_below 5 = .ok (.iload_n 1, 1) := by decide +kernel
theorem dX2_below_6 : decode cX2_below 6 = .ok (.if_icmp .ge 7, 3) := by decide +kernel
theorem dX2_below_9 : decode cX2_below 9 = .ok (.iconst 1, 1) := by decide +kernel
theorem dX2_below_10 : decode cX2_below 10 = .ok (.goto 4, 3) := by decide +kernel
theorem dX2_below_13 : decode cX2_below 13 = .ok (.iconst 0, 1) := by decide +kernel
theorem dX2_below_14 : decode cX2_below 14 = .ok (.ireturn, 1) := by decide +kernel
set_option maxRecDepth 20000 in
theorem ggX2_collect_X2_below : GoodIn wsX2_collect wsX2_below := goodIn_r _ [7] (by decide +kernel) (by decide +kernel)
set_option maxRecDepth 20000 in
theorem gX2_collect_X2_below : GoodIn wsX2_collect (va_wsS RX2 37 yX2_below wsX2_below) := goodIn_app (goodIn_of _ (by decide +kernel)) ggX2_collect_X2_below
theorem dX2_collect_0 : decode cX2_collect 0 = .ok (.aload_n 0, 1) := by decide +kernel
theorem dX2_collect_1 : decode cX2_collect 1 = .ok (.iconst 0, 1) := by decide +kernel
theorem dX2_collect_2 : decode cX2_collect 2 = .ok (.putfield 33, 3) := by decide +kernel
theorem dX2_collect_5 : decode cX2_collect 5 = .ok (.iload_n 1, 1) := by decide +kernel
theorem dX2_collect_6 : decode cX2_collect 6 = .ok (.iconst 4, 1) := by decide +kernel
theorem dX2_collect_7 : decode cX2_collect 7 = .ok (.invokestatic 37, 3) := by decide +kernel
theorem dX2_collect_10 : decode cX2_collect 10 = .ok (.ifCond .eq 14, 3) := by decide +kernel
theorem dX2_collect_13 : decode cX2_collect 13 = .ok (.aload_n 0, 1) := by decide +kernel
theorem dX2_collect_14 : decode cX2_collect 14 = .ok (.getfield 13, 3) := by decide +kernel
theorem dX2_collect_17 : decode cX2_collect 17 = .ok (.iload_n 1, 1) := by decide +kernel
theorem dX2_collect_18 : decode cX2_collect 18 = .ok (.iaload, 1) := by decide +kernel
theorem dX2_collect_19 : decode cX2_collect 19 = .ok (.bipush 50, 2) := by decide +kernel
theorem dX2_collect_21 : decode cX2_collect 21 = .ok (.if_icmp .ne 5, 3) := by decide +kernel
theorem dX2_collect_24 : decode cX2_collect 24 = .ok (.iconst (-1), 1) := by decide +kernel
theorem dX2_collect_25 : decode cX2_collect 25 = .ok (.ireturn, 1) := by decide +kernel
theorem dX2_collect_26 : decode cX2_collect 26 = .ok (.aload_n 0, 1) := by decide +kernel
theorem dX2_collect_27 : decode cX2_collect 27 = .ok (.getfield 7, 3) := by decide +kernel
theorem dX2_collect_30 : decode cX2_collect 30 = .ok (.iload_n 1, 1) := by decide +kernel
theorem dX2_collect_31 : decode cX2_collect 31 = .ok (.dup2, 1) := by decide +kernel
theorem dX2_collect_32 : decode cX2_collect 32 = .ok (.laload, 1) := by decide +kernel
theorem dX2_collect_33 : decode cX2_collect 33 = .ok (.lload_n 2, 1) := by decide +kernel
theorem dX2_collect_34 : decode cX2_collect 34 = .ok (.ladd, 1) := by decide +kernel
theorem dX2_collect_35 : decode cX2_collect 35 = .ok (.lastore, 1) := by decide +kernel
theorem dX2_collect_36 : decode cX2_collect 36 = .ok (.aload_n 0, 1) := by decide +kernel
theorem dX2_collect_37 : decode cX2_collect 37 = .ok (.getfield 13, 3) := by decide +kernel
theorem dX2_collect_40 : decode cX2_collect 40 = .ok (.iload_n 1, 1) := by decide +kernel
theorem dX2_collect_41 : decode cX2_collect 41 = .ok (.dup2, 1) := by decide +kernel
theorem dX2_collect_42 : decode cX2_collect 42 = .ok (.iaload, 1) := by decide +kernel
theorem dX2_collect_43 : decode cX2_collect 43 = .ok (.iconst 1, 1) := by decide +kernel
theorem dX2_collect_44 : decode cX2_collect 44 = .ok (.iadd, 1) := by decide +kernel
theorem dX2_collect_45 : decode cX2_collect 45 = .ok (.iastore, 1) := by decide +kernel
theorem dX2_collect_46 : decode cX2_collect 46 = .ok (.aload_n 0, 1) := by decide +kernel
theorem dX2_collect_47 : decode cX2_collect 47 = .ok (.getfield 13, 3) := by decide +kernel
theorem dX2_collect_50 : decode cX2_collect 50 = .ok (.iload_n 1, 1) := by decide +kernel
theorem dX2_collect_51 : decode cX2_collect 51 = .ok (.iaload, 1) := by decide +kernel
theorem dX2_collect_52 : decode cX2_collect 52 = .ok (.ireturn, 1) := by decide +kernel
set_option maxRecDepth 20000 in
theorem ggX2_answer_X2_below : GoodIn wsX2_answer wsX2_below := goodIn_r _ [6] (by decide +kernel) (by decide +kernel)
set_option maxRecDepth 20000 in
theorem gX2_answer_X2_below : GoodIn wsX2_answer (va_wsS RX2 37 yX2_below wsX2_below) := goodIn_app (goodIn_of _ (by decide +kernel)) ggX2_answer_X2_below
theorem dX2_answer_0 : decode cX2_answer 0 = .ok (.aload_n 0, 1) := by decide +kernel
theorem dX2_answer_1 : decode cX2_answer 1 = .ok (.iconst 0, 1) := by decide +kernel
theorem dX2_answer_2 : decode cX2_answer 2 = .ok (.putfield 33, 3) := by decide +kernel
theorem dX2_answer_5 : decode cX2_answer 5 = .ok (.iload_n 1, 1) := by decide +kernel
theorem dX2_answer_6 : decode cX2_answer 6 = .ok (.bipush 32, 2) := by decide +kernel
theorem dX2_answer_8 : decode cX2_answer 8 = .ok (.invokestatic 37, 3) := by decide +kernel
theorem dX2_answer_11 : decode cX2_answer 11 = .ok (.ifCond .ne 5, 3) := by decide +kernel
theorem dX2_answer_14 : decode cX2_answer 14 = .ok (.iconst (-1), 1) := by decide +kernel
theorem dX2_answer_15 : decode cX2_answer 15 = .ok (.ireturn, 1) := by decide +kernel
theorem dX2_answer_16 : decode cX2_answer 16 = .ok (.aload_n 0, 1) := by decide +kernel
theorem dX2_answer_17 : decode cX2_answer 17 = .ok (.getfield 17, 3) := by decide +kernel
theorem dX2_answer_20 : decode cX2_answer 20 = .ok (.iload_n 1, 1) := by decide +kernel
theorem dX2_answer_21 : decode cX2_answer 21 = .ok (.lload_n 2, 1) := by decide +kernel
theorem dX2_answer_22 : decode cX2_answer 22 = .ok (.lastore, 1) := by decide +kernel
theorem dX2_answer_23 : decode cX2_answer 23 = .ok (.iconst 1, 1) := by decide +kernel
theorem dX2_answer_24 : decode cX2_answer 24 = .ok (.ireturn, 1) := by decide +kernel
set_option maxRecDepth 20000 in
theorem ggX2_fails_X2_below : GoodIn wsX2_fails wsX2_below := goodIn_r _ [6] (by decide +kernel) (by decide +kernel)
set_option maxRecDepth 20000 in
theorem gX2_fails_X2_below : GoodIn wsX2_fails (va_wsS RX2 37 yX2_below wsX2_below) := goodIn_app (goodIn_of _ (by decide +kernel)) ggX2_fails_X2_below
theorem dX2_fails_0 : decode cX2_fails 0 = .ok (.aload_n 0, 1) := by decide +kernel
theorem dX2_fails_1 : decode cX2_fails 1 = .ok (.iconst 0, 1) := by decide +kernel
theorem dX2_fails_2 : decode cX2_fails 2 = .ok (.putfield 33, 3) := by decide +kernel
theorem dX2_fails_5 : decode cX2_fails 5 = .ok (.iload_n 1, 1) := by decide +kernel
theorem dX2_fails_6 : decode cX2_fails 6 = .ok (.bipush 32, 2) := by decide +kernel
theorem dX2_fails_8 : decode cX2_fails 8 = .ok (.invokestatic 37, 3) := by decide +kernel
theorem dX2_fails_11 : decode cX2_fails 11 = .ok (.ifCond .eq 12, 3) := by decide +kernel
theorem dX2_fails_14 : decode cX2_fails 14 = .ok (.iload_n 2, 1) := by decide +kernel
theorem dX2_fails_15 : decode cX2_fails 15 = .ok (.bipush 7, 2) := by decide +kernel
theorem dX2_fails_17 : decode cX2_fails 17 = .ok (.invokestatic 37, 3) := by decide +kernel
theorem dX2_fails_20 : decode cX2_fails 20 = .ok (.ifCond .ne 5, 3) := by decide +kernel
theorem dX2_fails_23 : decode cX2_fails 23 = .ok (.iconst (-1), 1) := by decide +kernel
theorem dX2_fails_24 : decode cX2_fails 24 = .ok (.ireturn, 1) := by decide +kernel
theorem dX2_fails_25 : decode cX2_fails 25 = .ok (.aload_n 0, 1) := by decide +kernel
theorem dX2_fails_26 : decode cX2_fails 26 = .ok (.getfield 20, 3) := by decide +kernel
theorem dX2_fails_29 : decode cX2_fails 29 = .ok (.iload_n 1, 1) := by decide +kernel
theorem dX2_fails_30 : decode cX2_fails 30 = .ok (.iaload, 1) := by decide +kernel
theorem dX2_fails_31 : decode cX2_fails 31 = .ok (.istore_n 3, 1) := by decide +kernel
theorem dX2_fails_32 : decode cX2_fails 32 = .ok (.aload_n 0, 1) := by decide +kernel
theorem dX2_fails_33 : decode cX2_fails 33 = .ok (.getfield 20, 3) := by decide +kernel
theorem dX2_fails_36 : decode cX2_fails 36 = .ok (.iload_n 1, 1) := by decide +kernel
theorem dX2_fails_37 : decode cX2_fails 37 = .ok (.iload_n 2, 1) := by decide +kernel
theorem dX2_fails_38 : decode cX2_fails 38 = .ok (.iastore, 1) := by decide +kernel
theorem dX2_fails_39 : decode cX2_fails 39 = .ok (.iload_n 3, 1) := by decide +kernel
theorem dX2_fails_40 : decode cX2_fails 40 = .ok (.ireturn, 1) := by decide +kernel
set_option maxRecDepth 20000 in
theorem ggX2_make_X2_below : GoodIn wsX2_make wsX2_below := goodIn_r _ [9] (by decide +kernel) (by decide +kernel)
set_option maxRecDepth 20000 in
theorem gX2_make_X2_below : GoodIn wsX2_make (va_wsS RX2 37 yX2_below wsX2_below) := goodIn_app (goodIn_of _ (by decide +kernel)) ggX2_make_X2_below
theorem dX2_make_0 : decode cX2_make 0 = .ok (.aload_n 0, 1) := by decide +kernel
theorem dX2_make_1 : decode cX2_make 1 = .ok (.iconst 0, 1) := by decide +kernel
theorem dX2_make_2 : decode cX2_make 2 = .ok (.putfield 33, 3) := by decide +kernel
theorem dX2_make_5 : decode cX2_make 5 = .ok (.iload_n 1, 1) := by decide +kernel
theorem dX2_make_6 : decode cX2_make 6 = .ok (.bipush 8, 2) := by decide +kernel
theorem dX2_make_8 : decode cX2_make 8 = .ok (.invokestatic 37, 3) := by decide +kernel
theorem dX2_make_11 : decode cX2_make 11 = .ok (.ifCond .eq 13, 3) := by decide +kernel
theorem dX2_make_14 : decode cX2_make 14 = .ok (.aload_n 0, 1) := by decide +kernel
theorem dX2_make_15 : decode cX2_make 15 = .ok (.getfield 41, 3) := by decide +kernel
theorem dX2_make_18 : decode cX2_make 18 = .ok (.sipush 200, 3) := by decide +kernel
theorem dX2_make_21 : decode cX2_make 21 = .ok (.if_icmp .ne 5, 3) := by decide +kernel
theorem dX2_make_24 : decode cX2_make 24 = .ok (.iconst (-1), 1) := by decide +kernel
theorem dX2_make_25 : decode cX2_make 25 = .ok (.ireturn, 1) := by decide +kernel
theorem dX2_make_26 : decode cX2_make 26 = .ok (.aload_n 0, 1) := by decide +kernel
theorem dX2_make_27 : decode cX2_make 27 = .ok (.getfield 23, 3) := by decide +kernel
theorem dX2_make_30 : decode cX2_make 30 = .ok (.aload_n 0, 1) := by decide +kernel
theorem dX2_make_31 : decode cX2_make 31 = .ok (.getfield 41, 3) := by decide +kernel
theorem dX2_make_34 : decode cX2_make 34 = .ok (.iload_n 1, 1) := by decide +kernel
theorem dX2_make_35 : decode cX2_make 35 = .ok (.iastore, 1) := by decide +kernel
theorem dX2_make_36 : decode cX2_make 36 = .ok (.aload_n 0, 1) := by decide +kernel
theorem dX2_make_37 : decode cX2_make 37 = .ok (.getfield 26, 3) := by decide +kernel
theorem dX2_make_40 : decode cX2_make 40 = .ok (.aload_n 0, 1) := by decide +kernel
theorem dX2_make_41 : decode cX2_make 41 = .ok (.getfield 41, 3) := by decide +kernel
theorem dX2_make_44 : decode cX2_make 44 = .ok (.iconst 1, 1) := by decide +kernel
theorem dX2_make_45 : decode cX2_make 45 = .ok (.bastore, 1) := by decide +kernel
theorem dX2_make_46 : decode cX2_make 46 = .ok (.aload_n 0, 1) := by decide +kernel
theorem dX2_make_47 : decode cX2_make 47 = .ok (.getfield 30, 3) := by decide +kernel
theorem dX2_make_50 : decode cX2_make 50 = .ok (.aload_n 0, 1) := by decide +kernel
theorem dX2_make_51 : decode cX2_make 51 = .ok (.getfield 41, 3) := by decide +kernel
theorem dX2_make_54 : decode cX2_make 54 = .ok (.lconst 0, 1) := by decide +kernel
theorem dX2_make_55 : decode cX2_make 55 = .ok (.lastore, 1) := by decide +kernel
theorem dX2_make_56 : decode cX2_make 56 = .ok (.aload_n 0, 1) := by decide +kernel
theorem dX2_make_57 : decode cX2_make 57 = .ok (.dup, 1) := by decide +kernel
theorem dX2_make_58 : decode cX2_make 58 = .ok (.getfield 41, 3) := by decide +kernel
theorem dX2_make_61 : decode cX2_make 61 = .ok (.iconst 1, 1) := by decide +kernel
theorem dX2_make_62 : decode cX2_make 62 = .ok (.iadd, 1) := by decide +kernel
theorem dX2_make_63 : decode cX2_make 63 = .ok (.putfield 41, 3) := by decide +kernel
theorem dX2_make_66 : decode cX2_make 66 = .ok (.aload_n 0, 1) := by decide +kernel
theorem dX2_make_67 : decode cX2_make 67 = .ok (.getfield 41, 3) := by decide +kernel
theorem dX2_make_70 : decode cX2_make 70 = .ok (.ireturn, 1) := by decide +kernel
theorem dX2_rowOf_0 : decode cX2_rowOf 0 = .ok (.iload_n 0, 1) := by decide +kernel
theorem dX2_rowOf_1 : decode cX2_rowOf 1 = .ok (.bipush 8, 2) := by decide +kernel
theorem dX2_rowOf_3 : decode cX2_rowOf 3 = .ok (.if_icmp .ge 7, 3) := by decide +kernel
theorem dX2_rowOf_6 : decode cX2_rowOf 6 = .ok (.iconst (-1), 1) := by decide +kernel
theorem dX2_rowOf_7 : decode cX2_rowOf 7 = .ok (.goto 6, 3) := by decide +kernel
theorem dX2_rowOf_10 : decode cX2_rowOf 10 = .ok (.iload_n 0, 1) := by decide +kernel
theorem dX2_rowOf_11 : decode cX2_rowOf 11 = .ok (.iconst 4, 1) := by decide +kernel
theorem dX2_rowOf_12 : decode cX2_rowOf 12 = .ok (.irem, 1) := by decide +kernel
theorem dX2_rowOf_13 : decode cX2_rowOf 13 = .ok (.ireturn, 1) := by decide +kernel
set_option maxRecDepth 20000 in
theorem ggX2_refusal_X2_below : GoodIn wsX2_refusal wsX2_below := goodIn_r _ [9] (by decide +kernel) (by decide +kernel)
set_option maxRecDepth 20000 in
theorem gX2_refusal_X2_below : GoodIn wsX2_refusal (va_wsS RX2 37 yX2_below wsX2_below) := goodIn_app (goodIn_of _ (by decide +kernel)) ggX2_refusal_X2_below
set_option maxRecDepth 20000 in
theorem ggX2_refusal_X2_rowOf : GoodIn wsX2_refusal wsX2_rowOf := goodIn_r _ [12] (by decide +kernel) (by decide +kernel)
set_option maxRecDepth 20000 in
theorem gX2_refusal_X2_rowOf : GoodIn wsX2_refusal (va_wsS RX2 46 yX2_rowOf wsX2_rowOf) := goodIn_app (goodIn_of _ (by decide +kernel)) ggX2_refusal_X2_rowOf
theorem dX2_refusal_0 : decode cX2_refusal 0 = .ok (.iload_n 1, 1) := by decide +kernel
theorem dX2_refusal_1 : decode cX2_refusal 1 = .ok (.bipush 32, 2) := by decide +kernel
theorem dX2_refusal_3 : decode cX2_refusal 3 = .ok (.invokestatic 37, 3) := by decide +kernel
theorem dX2_refusal_6 : decode cX2_refusal 6 = .ok (.ifCond .eq 31, 3) := by decide +kernel
theorem dX2_refusal_9 : decode cX2_refusal 9 = .ok (.iload_n 2, 1) := by decide +kernel
theorem dX2_refusal_10 : decode cX2_refusal 10 = .ok (.iconst 1, 1) := by decide +kernel
theorem dX2_refusal_11 : decode cX2_refusal 11 = .ok (.if_icmp .lt 26, 3) := by decide +kernel
theorem dX2_refusal_14 : decode cX2_refusal 14 = .ok (.iload_n 2, 1) := by decide +kernel
theorem dX2_refusal_15 : decode cX2_refusal 15 = .ok (.aload_n 0, 1) := by decide +kernel
theorem dX2_refusal_16 : decode cX2_refusal 16 = .ok (.getfield 41, 3) := by decide +kernel
theorem dX2_refusal_19 : decode cX2_refusal 19 = .ok (.if_icmp .gt 18, 3) := by decide +kernel
theorem dX2_refusal_22 : decode cX2_refusal 22 = .ok (.aload_n 0, 1) := by decide +kernel
theorem dX2_refusal_23 : decode cX2_refusal 23 = .ok (.getfield 23, 3) := by decide +kernel
theorem dX2_refusal_26 : decode cX2_refusal 26 = .ok (.iload_n 2, 1) := by decide +kernel
theorem dX2_refusal_27 : decode cX2_refusal 27 = .ok (.iconst 1, 1) := by decide +kernel
theorem dX2_refusal_28 : decode cX2_refusal 28 = .ok (.isub, 1) := by decide +kernel
theorem dX2_refusal_29 : decode cX2_refusal 29 = .ok (.iaload, 1) := by decide +kernel
theorem dX2_refusal_30 : decode cX2_refusal 30 = .ok (.iload_n 1, 1) := by decide +kernel
theorem dX2_refusal_31 : decode cX2_refusal 31 = .ok (.bipush 8, 2) := by decide +kernel
theorem dX2_refusal_33 : decode cX2_refusal 33 = .ok (.irem, 1) := by decide +kernel
theorem dX2_refusal_34 : decode cX2_refusal 34 = .ok (.if_icmp .eq 6, 3) := by decide +kernel
theorem dX2_refusal_37 : decode cX2_refusal 37 = .ok (.bipush (-2), 2) := by decide +kernel
theorem dX2_refusal_39 : decode cX2_refusal 39 = .ok (.ireturn, 1) := by decide +kernel
theorem dX2_refusal_40 : decode cX2_refusal 40 = .ok (.lload_n 3, 1) := by decide +kernel
theorem dX2_refusal_41 : decode cX2_refusal 41 = .ok (.lconst 0, 1) := by decide +kernel
theorem dX2_refusal_42 : decode cX2_refusal 42 = .ok (.lcmp, 1) := by decide +kernel
theorem dX2_refusal_43 : decode cX2_refusal 43 = .ok (.ifCond .lt 11, 3) := by decide +kernel
theorem dX2_refusal_46 : decode cX2_refusal 46 = .ok (.lload_n 3, 1) := by decide +kernel
theorem dX2_refusal_47 : decode cX2_refusal 47 = .ok (.ldc2_w 44, 3) := by decide +kernel
theorem dX2_refusal_50 : decode cX2_refusal 50 = .ok (.lcmp, 1) := by decide +kernel
theorem dX2_refusal_51 : decode cX2_refusal 51 = .ok (.ifCond .le 6, 3) := by decide +kernel
theorem dX2_refusal_54 : decode cX2_refusal 54 = .ok (.bipush (-4), 2) := by decide +kernel
theorem dX2_refusal_56 : decode cX2_refusal 56 = .ok (.ireturn, 1) := by decide +kernel
theorem dX2_refusal_57 : decode cX2_refusal 57 = .ok (.aload_n 0, 1) := by decide +kernel
theorem dX2_refusal_58 : decode cX2_refusal 58 = .ok (.getfield 26, 3) := by decide +kernel
theorem dX2_refusal_61 : decode cX2_refusal 61 = .ok (.iload_n 2, 1) := by decide +kernel
theorem dX2_refusal_62 : decode cX2_refusal 62 = .ok (.iconst 1, 1) := by decide +kernel
theorem dX2_refusal_63 : decode cX2_refusal 63 = .ok (.isub, 1) := by decide +kernel
theorem dX2_refusal_64 : decode cX2_refusal 64 = .ok (.baload, 1) := by decide +kernel
theorem dX2_refusal_65 : decode cX2_refusal 65 = .ok (.ifCond .eq 21, 3) := by decide +kernel
theorem dX2_refusal_68 : decode cX2_refusal 68 = .ok (.iload_n 1, 1) := by decide +kernel
theorem dX2_refusal_69 : decode cX2_refusal 69 = .ok (.bipush 24, 2) := by decide +kernel
theorem dX2_refusal_71 : decode cX2_refusal 71 = .ok (.if_icmp .lt 20, 3) := by decide +kernel
theorem dX2_refusal_74 : decode cX2_refusal 74 = .ok (.aload_n 0, 1) := by decide +kernel
theorem dX2_refusal_75 : decode cX2_refusal 75 = .ok (.getfield 13, 3) := by decide +kernel
theorem dX2_refusal_78 : decode cX2_refusal 78 = .ok (.iload_n 1, 1) := by decide +kernel
theorem dX2_refusal_79 : decode cX2_refusal 79 = .ok (.invokestatic 46, 3) := by decide +kernel
theorem dX2_refusal_82 : decode cX2_refusal 82 = .ok (.iaload, 1) := by decide +kernel
theorem dX2_refusal_83 : decode cX2_refusal 83 = .ok (.ifCond .ne 8, 3) := by decide +kernel
theorem dX2_refusal_86 : decode cX2_refusal 86 = .ok (.bipush (-5), 2) := by decide +kernel
theorem dX2_refusal_88 : decode cX2_refusal 88 = .ok (.goto 4, 3) := by decide +kernel
theorem dX2_refusal_91 : decode cX2_refusal 91 = .ok (.iconst 0, 1) := by decide +kernel
theorem dX2_refusal_92 : decode cX2_refusal 92 = .ok (.ireturn, 1) := by decide +kernel
set_option maxRecDepth 20000 in
theorem ggX2_reckoned_X2_refusal : GoodIn wsX2_reckoned wsX2_refusal := goodIn_r _ [11, 12, 5, 13, 14, 15, 16, 17, 10, 18, 19, 20, 21, 22, 23, 24, 25, 26, 27, 28, 29, 30, 31, 32, 33, 34, 35, 36, 37] (by decide +kernel) (by decide +kernel)
set_option maxRecDepth 20000 in
theorem gX2_reckoned_X2_refusal : GoodIn wsX2_reckoned (wsV RX2 50 RX2 yX2_refusal wsX2_refusal) := goodIn_app (goodIn_of _ (by decide +kernel)) ggX2_reckoned_X2_refusal
set_option maxRecDepth 20000 in
theorem ggX2_reckoned_X2_rowOf : GoodIn wsX2_reckoned wsX2_rowOf := goodIn_r _ [21] (by decide +kernel) (by decide +kernel)
set_option maxRecDepth 20000 in
theorem gX2_reckoned_X2_rowOf : GoodIn wsX2_reckoned (va_wsS RX2 46 yX2_rowOf wsX2_rowOf) := goodIn_app (goodIn_of _ (by decide +kernel)) ggX2_reckoned_X2_rowOf
theorem dX2_reckoned_0 : decode cX2_reckoned 0 = .ok (.aload_n 0, 1) := by decide +kernel
theorem dX2_reckoned_1 : decode cX2_reckoned 1 = .ok (.iload_n 1, 1) := by decide +kernel
theorem dX2_reckoned_2 : decode cX2_reckoned 2 = .ok (.iload_n 2, 1) := by decide +kernel
theorem dX2_reckoned_3 : decode cX2_reckoned 3 = .ok (.lload_n 3, 1) := by decide +kernel
theorem dX2_reckoned_4 : decode cX2_reckoned 4 = .ok (.invokevirtual 50, 3) := by decide +kernel
theorem dX2_reckoned_7 : decode cX2_reckoned 7 = .ok (.istore 5, 2) := by decide +kernel
theorem dX2_reckoned_9 : decode cX2_reckoned 9 = .ok (.aload_n 0, 1) := by decide +kernel
theorem dX2_reckoned_10 : decode cX2_reckoned 10 = .ok (.iload 5, 2) := by decide +kernel
theorem dX2_reckoned_12 : decode cX2_reckoned 12 = .ok (.ifCond .eq 7, 3) := by decide +kernel
theorem dX2_reckoned_15 : decode cX2_reckoned 15 = .ok (.iconst 2, 1) := by decide +kernel
theorem dX2_reckoned_16 : decode cX2_reckoned 16 = .ok (.goto 17, 3) := by decide +kernel
theorem dX2_reckoned_19 : decode cX2_reckoned 19 = .ok (.aload_n 0, 1) := by decide +kernel
theorem dX2_reckoned_20 : decode cX2_reckoned 20 = .ok (.getfield 20, 3) := by decide +kernel
theorem dX2_reckoned_23 : decode cX2_reckoned 23 = .ok (.iload_n 1, 1) := by decide +kernel
theorem dX2_reckoned_24 : decode cX2_reckoned 24 = .ok (.iaload, 1) := by decide +kernel
theorem dX2_reckoned_25 : decode cX2_reckoned 25 = .ok (.ifCond .eq 7, 3) := by decide +kernel
theorem dX2_reckoned_28 : decode cX2_reckoned 28 = .ok (.iconst 1, 1) := by decide +kernel
theorem dX2_reckoned_29 : decode cX2_reckoned 29 = .ok (.goto 4, 3) := by decide +kernel
theorem dX2_reckoned_32 : decode cX2_reckoned 32 = .ok (.iconst 0, 1) := by decide +kernel
theorem dX2_reckoned_33 : decode cX2_reckoned 33 = .ok (.putfield 54, 3) := by decide +kernel
theorem dX2_reckoned_36 : decode cX2_reckoned 36 = .ok (.aload_n 0, 1) := by decide +kernel
theorem dX2_reckoned_37 : decode cX2_reckoned 37 = .ok (.getfield 54, 3) := by decide +kernel
theorem dX2_reckoned_40 : decode cX2_reckoned 40 = .ok (.iconst 2, 1) := by decide +kernel
theorem dX2_reckoned_41 : decode cX2_reckoned 41 = .ok (.if_icmp .ne 7, 3) := by decide +kernel
theorem dX2_reckoned_44 : decode cX2_reckoned 44 = .ok (.iload 5, 2) := by decide +kernel
theorem dX2_reckoned_46 : decode cX2_reckoned 46 = .ok (.i2l, 1) := by decide +kernel
theorem dX2_reckoned_47 : decode cX2_reckoned 47 = .ok (.lreturn, 1) := by decide +kernel
theorem dX2_reckoned_48 : decode cX2_reckoned 48 = .ok (.aload_n 0, 1) := by decide +kernel
theorem dX2_reckoned_49 : decode cX2_reckoned 49 = .ok (.getfield 54, 3) := by decide +kernel
theorem dX2_reckoned_52 : decode cX2_reckoned 52 = .ok (.iconst 1, 1) := by decide +kernel
theorem dX2_reckoned_53 : decode cX2_reckoned 53 = .ok (.if_icmp .ne 14, 3) := by decide +kernel
theorem dX2_reckoned_56 : decode cX2_reckoned 56 = .ok (.bipush (-10), 2) := by decide +kernel
theorem dX2_reckoned_58 : decode cX2_reckoned 58 = .ok (.aload_n 0, 1) := by decide +kernel
theorem dX2_reckoned_59 : decode cX2_reckoned 59 = .ok (.getfield 20, 3) := by decide +kernel
theorem dX2_reckoned_62 : decode cX2_reckoned 62 = .ok (.iload_n 1, 1) := by decide +kernel
theorem dX2_reckoned_63 : decode cX2_reckoned 63 = .ok (.iaload, 1) := by decide +kernel
theorem dX2_reckoned_64 : decode cX2_reckoned 64 = .ok (.isub, 1) := by decide +kernel
theorem dX2_reckoned_65 : decode cX2_reckoned 65 = .ok (.i2l, 1) := by decide +kernel
theorem dX2_reckoned_66 : decode cX2_reckoned 66 = .ok (.lreturn, 1) := by decide +kernel
theorem dX2_reckoned_67 : decode cX2_reckoned 67 = .ok (.iload_n 1, 1) := by decide +kernel
theorem dX2_reckoned_68 : decode cX2_reckoned 68 = .ok (.invokestatic 46, 3) := by decide +kernel
theorem dX2_reckoned_71 : decode cX2_reckoned 71 = .ok (.istore 6, 2) := by decide +kernel
theorem dX2_reckoned_73 : decode cX2_reckoned 73 = .ok (.aload_n 0, 1) := by decide +kernel
theorem dX2_reckoned_74 : decode cX2_reckoned 74 = .ok (.getfield 17, 3) := by decide +kernel
theorem dX2_reckoned_77 : decode cX2_reckoned 77 = .ok (.iload_n 1, 1) := by decide +kernel
theorem dX2_reckoned_78 : decode cX2_reckoned 78 = .ok (.laload, 1) := by decide +kernel
theorem dX2_reckoned_79 : decode cX2_reckoned 79 = .ok (.lload_n 3, 1) := by decide +kernel
theorem dX2_reckoned_80 : decode cX2_reckoned 80 = .ok (.ladd, 1) := by decide +kernel
theorem dX2_reckoned_81 : decode cX2_reckoned 81 = .ok (.iload 6, 2) := by decide +kernel
theorem dX2_reckoned_83 : decode cX2_reckoned 83 = .ok (.iconst (-1), 1) := by decide +kernel
theorem dX2_reckoned_84 : decode cX2_reckoned 84 = .ok (.if_icmp .ne 7, 3) := by decide +kernel
theorem dX2_reckoned_87 : decode cX2_reckoned 87 = .ok (.lconst 0, 1) := by decide +kernel
theorem dX2_reckoned_88 : decode cX2_reckoned 88 = .ok (.goto 10, 3) := by decide +kernel
theorem dX2_reckoned_91 : decode cX2_reckoned 91 = .ok (.aload_n 0, 1) := by decide +kernel
theorem dX2_reckoned_92 : decode cX2_reckoned 92 = .ok (.getfield 7, 3) := by decide +kernel
theorem dX2_reckoned_95 : decode cX2_reckoned 95 = .ok (.iload 6, 2) := by decide +kernel
theorem dX2_reckoned_97 : decode cX2_reckoned 97 = .ok (.laload, 1) := by decide +kernel
theorem dX2_reckoned_98 : decode cX2_reckoned 98 = .ok (.ladd, 1) := by decide +kernel
theorem dX2_reckoned_99 : decode cX2_reckoned 99 = .ok (.aload_n 0, 1) := by decide +kernel
theorem dX2_reckoned_100 : decode cX2_reckoned 100 = .ok (.getfield 23, 3) := by decide +kernel
theorem dX2_reckoned_103 : decode cX2_reckoned 103 = .ok (.iload_n 2, 1) := by decide +kernel
theorem dX2_reckoned_104 : decode cX2_reckoned 104 = .ok (.iconst 1, 1) := by decide +kernel
theorem dX2_reckoned_105 : decode cX2_reckoned 105 = .ok (.isub, 1) := by decide +kernel
theorem dX2_reckoned_106 : decode cX2_reckoned 106 = .ok (.iaload, 1) := by decide +kernel
theorem dX2_reckoned_107 : decode cX2_reckoned 107 = .ok (.iconst 3, 1) := by decide +kernel
theorem dX2_reckoned_108 : decode cX2_reckoned 108 = .ok (.if_icmp .ne 14, 3) := by decide +kernel
theorem dX2_reckoned_111 : decode cX2_reckoned 111 = .ok (.aload_n 0, 1) := by decide +kernel
theorem dX2_reckoned_112 : decode cX2_reckoned 112 = .ok (.getfield 30, 3) := by decide +kernel
theorem dX2_reckoned_115 : decode cX2_reckoned 115 = .ok (.iload_n 2, 1) := by decide +kernel
theorem dX2_reckoned_116 : decode cX2_reckoned 116 = .ok (.iconst 1, 1) := by decide +kernel
theorem dX2_reckoned_117 : decode cX2_reckoned 117 = .ok (.isub, 1) := by decide +kernel
theorem dX2_reckoned_118 : decode cX2_reckoned 118 = .ok (.laload, 1) := by decide +kernel
theorem dX2_reckoned_119 : decode cX2_reckoned 119 = .ok (.goto 4, 3) := by decide +kernel
theorem dX2_reckoned_122 : decode cX2_reckoned 122 = .ok (.lconst 0, 1) := by decide +kernel
theorem dX2_reckoned_123 : decode cX2_reckoned 123 = .ok (.ladd, 1) := by decide +kernel
theorem dX2_reckoned_124 : decode cX2_reckoned 124 = .ok (.lreturn, 1) := by decide +kernel
set_option maxRecDepth 20000 in
theorem ggX2_again_X2_reckoned : GoodIn wsX2_again wsX2_reckoned := goodIn_r _ [6, 7, 8, 9, 10, 11, 12, 13, 14, 15, 5, 16, 17, 18, 19, 20, 21, 22, 23, 24, 25, 26, 27, 28, 29, 30, 31, 32, 33, 34, 35, 36, 37, 38, 39, 40, 41, 42] (by decide +kernel) (by decide +kernel)
set_option maxRecDepth 20000 in
theorem gX2_again_X2_reckoned : GoodIn wsX2_again (wsV RX2 57 RX2 yX2_reckoned wsX2_reckoned) := goodIn_app (goodIn_of _ (by decide +kernel)) ggX2_again_X2_reckoned
theorem dX2_again_0 : decode cX2_again 0 = .ok (.aload_n 0, 1) := by decide +kernel
theorem dX2_again_1 : decode cX2_again 1 = .ok (.iconst 0, 1) := by decide +kernel
theorem dX2_again_2 : decode cX2_again 2 = .ok (.putfield 33, 3) := by decide +kernel
theorem dX2_again_5 : decode cX2_again 5 = .ok (.aload_n 0, 1) := by decide +kernel
theorem dX2_again_6 : decode cX2_again 6 = .ok (.iload_n 1, 1) := by decide +kernel
theorem dX2_again_7 : decode cX2_again 7 = .ok (.iload_n 2, 1) := by decide +kernel
theorem dX2_again_8 : decode cX2_again 8 = .ok (.lload_n 3, 1) := by decide +kernel
theorem dX2_again_9 : decode cX2_again 9 = .ok (.invokevirtual 57, 3) := by decide +kernel
theorem dX2_again_12 : decode cX2_again 12 = .ok (.lreturn, 1) := by decide +kernel
set_option maxRecDepth 20000 in
theorem ggX2_call_X2_reckoned : GoodIn wsX2_call wsX2_reckoned := goodIn_r _ [18, 9, 2, 19, 4, 20, 6, 21, 22, 23, 17, 24, 25, 26, 8, 5, 27, 28, 29, 30, 31, 32, 33, 34, 35, 36, 37, 38, 39, 40, 41, 42, 43, 44, 45, 46, 47, 48] (by decide +kernel) (by decide +kernel)
set_option maxRecDepth 20000 in
theorem gX2_call_X2_reckoned : GoodIn wsX2_call (wsV RX2 57 RX2 yX2_reckoned wsX2_reckoned) := goodIn_app (goodIn_of _ (by decide +kernel)) ggX2_call_X2_reckoned
set_option maxRecDepth 20000 in
theorem ggX2_call_X2_rowOf : GoodIn wsX2_call wsX2_rowOf := goodIn_r _ [32] (by decide +kernel) (by decide +kernel)
set_option maxRecDepth 20000 in
theorem gX2_call_X2_rowOf : GoodIn wsX2_call (va_wsS RX2 46 yX2_rowOf wsX2_rowOf) := goodIn_app (goodIn_of _ (by decide +kernel)) ggX2_call_X2_rowOf
theorem dX2_call_0 : decode cX2_call 0 = .ok (.aload_n 0, 1) := by decide +kernel
theorem dX2_call_1 : decode cX2_call 1 = .ok (.iconst 0, 1) := by decide +kernel
theorem dX2_call_2 : decode cX2_call 2 = .ok (.putfield 33, 3) := by decide +kernel
theorem dX2_call_5 : decode cX2_call 5 = .ok (.aload_n 0, 1) := by decide +kernel
theorem dX2_call_6 : decode cX2_call 6 = .ok (.iload_n 1, 1) := by decide +kernel
theorem dX2_call_7 : decode cX2_call 7 = .ok (.iload_n 2, 1) := by decide +kernel
theorem dX2_call_8 : decode cX2_call 8 = .ok (.lload_n 3, 1) := by decide +kernel
theorem dX2_call_9 : decode cX2_call 9 = .ok (.invokevirtual 57, 3) := by decide +kernel
theorem dX2_call_12 : decode cX2_call 12 = .ok (.lstore 5, 2) := by decide +kernel
theorem dX2_call_14 : decode cX2_call 14 = .ok (.aload_n 0, 1) := by decide +kernel
theorem dX2_call_15 : decode cX2_call 15 = .ok (.getfield 54, 3) := by decide +kernel
theorem dX2_call_18 : decode cX2_call 18 = .ok (.iconst 2, 1) := by decide +kernel
theorem dX2_call_19 : decode cX2_call 19 = .ok (.if_icmp .ne 16, 3) := by decide +kernel
theorem dX2_call_22 : decode cX2_call 22 = .ok (.aload_n 0, 1) := by decide +kernel
theorem dX2_call_23 : decode cX2_call 23 = .ok (.dup, 1) := by decide +kernel
theorem dX2_call_24 : decode cX2_call 24 = .ok (.getfield 61, 3) := by decide +kernel
theorem dX2_call_27 : decode cX2_call 27 = .ok (.iconst 1, 1) := by decide +kernel
theorem dX2_call_28 : decode cX2_call 28 = .ok (.iadd, 1) := by decide +kernel
theorem dX2_call_29 : decode cX2_call 29 = .ok (.putfield 61, 3) := by decide +kernel
theorem dX2_call_32 : decode cX2_call 32 = .ok (.lload 5, 2) := by decide +kernel
theorem dX2_call_34 : decode cX2_call 34 = .ok (.lreturn, 1) := by decide +kernel
theorem dX2_call_35 : decode cX2_call 35 = .ok (.iload_n 1, 1) := by decide +kernel
theorem dX2_call_36 : decode cX2_call 36 = .ok (.invokestatic 46, 3) := by decide +kernel
theorem dX2_call_39 : decode cX2_call 39 = .ok (.istore 7, 2) := by decide +kernel
theorem dX2_call_41 : decode cX2_call 41 = .ok (.iload 7, 2) := by decide +kernel
theorem dX2_call_43 : decode cX2_call 43 = .ok (.iconst (-1), 1) := by decide +kernel
theorem dX2_call_44 : decode cX2_call 44 = .ok (.if_icmp .eq 19, 3) := by decide +kernel
theorem dX2_call_47 : decode cX2_call 47 = .ok (.aload_n 0, 1) := by decide +kernel
theorem dX2_call_48 : decode cX2_call 48 = .ok (.getfield 7, 3) := by decide +kernel
theorem dX2_call_51 : decode cX2_call 51 = .ok (.iload 7, 2) := by decide +kernel
theorem dX2_call_53 : decode cX2_call 53 = .ok (.lconst 0, 1) := by decide +kernel
theorem dX2_call_54 : decode cX2_call 54 = .ok (.lastore, 1) := by decide +kernel
theorem dX2_call_55 : decode cX2_call 55 = .ok (.aload_n 0, 1) := by decide +kernel
theorem dX2_call_56 : decode cX2_call 56 = .ok (.getfield 13, 3) := by decide +kernel
theorem dX2_call_59 : decode cX2_call 59 = .ok (.iload 7, 2) := by decide +kernel
theorem dX2_call_61 : decode cX2_call 61 = .ok (.iconst 0, 1) := by decide +kernel
theorem dX2_call_62 : decode cX2_call 62 = .ok (.iastore, 1) := by decide +kernel
theorem dX2_call_63 : decode cX2_call 63 = .ok (.aload_n 0, 1) := by decide +kernel
theorem dX2_call_64 : decode cX2_call 64 = .ok (.getfield 54, 3) := by decide +kernel
theorem dX2_call_67 : decode cX2_call 67 = .ok (.ifCond .ne 28, 3) := by decide +kernel
theorem dX2_call_70 : decode cX2_call 70 = .ok (.aload_n 0, 1) := by decide +kernel
theorem dX2_call_71 : decode cX2_call 71 = .ok (.getfield 30, 3) := by decide +kernel
theorem dX2_call_74 : decode cX2_call 74 = .ok (.iload_n 2, 1) := by decide +kernel
theorem dX2_call_75 : decode cX2_call 75 = .ok (.iconst 1, 1) := by decide +kernel
theorem dX2_call_76 : decode cX2_call 76 = .ok (.isub, 1) := by decide +kernel
theorem dX2_call_77 : decode cX2_call 77 = .ok (.dup2, 1) := by decide +kernel
theorem dX2_call_78 : decode cX2_call 78 = .ok (.laload, 1) := by decide +kernel
theorem dX2_call_79 : decode cX2_call 79 = .ok (.lconst 1, 1) := by decide +kernel
theorem dX2_call_80 : decode cX2_call 80 = .ok (.ladd, 1) := by decide +kernel
theorem dX2_call_81 : decode cX2_call 81 = .ok (.lastore, 1) := by decide +kernel
theorem dX2_call_82 : decode cX2_call 82 = .ok (.aload_n 0, 1) := by decide +kernel
theorem dX2_call_83 : decode cX2_call 83 = .ok (.dup, 1) := by decide +kernel
theorem dX2_call_84 : decode cX2_call 84 = .ok (.getfield 64, 3) := by decide +kernel
theorem dX2_call_87 : decode cX2_call 87 = .ok (.iconst 1, 1) := by decide +kernel
theorem dX2_call_88 : decode cX2_call 88 = .ok (.iadd, 1) := by decide +kernel
theorem dX2_call_89 : decode cX2_call 89 = .ok (.putfield 64, 3) := by decide +kernel
theorem dX2_call_92 : decode cX2_call 92 = .ok (.goto 42, 3) := by decide +kernel
theorem dX2_call_95 : decode cX2_call 95 = .ok (.aload_n 0, 1) := by decide +kernel
theorem dX2_call_96 : decode cX2_call 96 = .ok (.getfield 26, 3) := by decide +kernel
theorem dX2_call_99 : decode cX2_call 99 = .ok (.iload_n 2, 1) := by decide +kernel
theorem dX2_call_100 : decode cX2_call 100 = .ok (.iconst 1, 1) := by decide +kernel
theorem dX2_call_101 : decode cX2_call 101 = .ok (.isub, 1) := by decide +kernel
theorem dX2_call_102 : decode cX2_call 102 = .ok (.iconst 0, 1) := by decide +kernel
theorem dX2_call_103 : decode cX2_call 103 = .ok (.bastore, 1) := by decide +kernel
theorem dX2_call_104 : decode cX2_call 104 = .ok (.aload_n 0, 1) := by decide +kernel
theorem dX2_call_105 : decode cX2_call 105 = .ok (.aload_n 0, 1) := by decide +kernel
theorem dX2_call_106 : decode cX2_call 106 = .ok (.getfield 20, 3) := by decide +kernel
theorem dX2_call_109 : decode cX2_call 109 = .ok (.iload_n 1, 1) := by decide +kernel
theorem dX2_call_110 : decode cX2_call 110 = .ok (.iaload, 1) := by decide +kernel
theorem dX2_call_111 : decode cX2_call 111 = .ok (.putfield 67, 3) := by decide +kernel
theorem dX2_call_114 : decode cX2_call 114 = .ok (.aload_n 0, 1) := by decide +kernel
theorem dX2_call_115 : decode cX2_call 115 = .ok (.iload_n 1, 1) := by decide +kernel
theorem dX2_call_116 : decode cX2_call 116 = .ok (.putfield 70, 3) := by decide +kernel
theorem dX2_call_119 : decode cX2_call 119 = .ok (.aload_n 0, 1) := by decide +kernel
theorem dX2_call_120 : decode cX2_call 120 = .ok (.iload_n 2, 1) := by decide +kernel
theorem dX2_call_121 : decode cX2_call 121 = .ok (.putfield 73, 3) := by decide +kernel
theorem dX2_call_124 : decode cX2_call 124 = .ok (.aload_n 0, 1) := by decide +kernel
theorem dX2_call_125 : decode cX2_call 125 = .ok (.dup, 1) := by decide +kernel
theorem dX2_call_126 : decode cX2_call 126 = .ok (.getfield 76, 3) := by decide +kernel
theorem dX2_call_129 : decode cX2_call 129 = .ok (.iconst 1, 1) := by decide +kernel
theorem dX2_call_130 : decode cX2_call 130 = .ok (.iadd, 1) := by decide +kernel
theorem dX2_call_131 : decode cX2_call 131 = .ok (.putfield 76, 3) := by decide +kernel
theorem dX2_call_134 : decode cX2_call 134 = .ok (.lload 5, 2) := by decide +kernel
theorem dX2_call_136 : decode cX2_call 136 = .ok (.lreturn, 1) := by decide +kernel
theorem dX2_told_0 : decode cX2_told 0 = .ok (.aload_n 0, 1) := by decide +kernel
theorem dX2_told_1 : decode cX2_told 1 = .ok (.iconst 0, 1) := by decide +kernel
theorem dX2_told_2 : decode cX2_told 2 = .ok (.putfield 33, 3) := by decide +kernel
theorem dX2_told_5 : decode cX2_told 5 = .ok (.iload_n 1, 1) := by decide +kernel
theorem dX2_told_6 : decode cX2_told 6 = .ok (.tableswitch 68 0 5 #[38, 43, 48, 53, 58, 63], 38) := by decide +kernel
theorem dX2_told_44 : decode cX2_told 44 = .ok (.aload_n 0, 1) := by decide +kernel
theorem dX2_told_45 : decode cX2_told 45 = .ok (.getfield 67, 3) := by decide +kernel
theorem dX2_told_48 : decode cX2_told 48 = .ok (.ireturn, 1) := by decide +kernel
theorem dX2_told_49 : decode cX2_told 49 = .ok (.aload_n 0, 1) := by decide +kernel
theorem dX2_told_50 : decode cX2_told 50 = .ok (.getfield 70, 3) := by decide +kernel
theorem dX2_told_53 : decode cX2_told 53 = .ok (.ireturn, 1) := by decide +kernel
theorem dX2_told_54 : decode cX2_told 54 = .ok (.aload_n 0, 1) := by decide +kernel
theorem dX2_told_55 : decode cX2_told 55 = .ok (.getfield 73, 3) := by decide +kernel
theorem dX2_told_58 : decode cX2_told 58 = .ok (.ireturn, 1) := by decide +kernel
theorem dX2_told_59 : decode cX2_told 59 = .ok (.aload_n 0, 1) := by decide +kernel
theorem dX2_told_60 : decode cX2_told 60 = .ok (.getfield 76, 3) := by decide +kernel
theorem dX2_told_63 : decode cX2_told 63 = .ok (.ireturn, 1) := by decide +kernel
theorem dX2_told_64 : decode cX2_told 64 = .ok (.aload_n 0, 1) := by decide +kernel
theorem dX2_told_65 : decode cX2_told 65 = .ok (.getfield 61, 3) := by decide +kernel
theorem dX2_told_68 : decode cX2_told 68 = .ok (.ireturn, 1) := by decide +kernel
theorem dX2_told_69 : decode cX2_told 69 = .ok (.aload_n 0, 1) := by decide +kernel
theorem dX2_told_70 : decode cX2_told 70 = .ok (.getfield 64, 3) := by decide +kernel
theorem dX2_told_73 : decode cX2_told 73 = .ok (.ireturn, 1) := by decide +kernel
theorem dX2_told_74 : decode cX2_told 74 = .ok (.iconst (-1), 1) := by decide +kernel
theorem dX2_told_75 : decode cX2_told 75 = .ok (.ireturn, 1) := by decide +kernel
theorem dX2_drop_0 : decode cX2_drop 0 = .ok (.aload_n 0, 1) := by decide +kernel
theorem dX2_drop_1 : decode cX2_drop 1 = .ok (.iconst 0, 1) := by decide +kernel
theorem dX2_drop_2 : decode cX2_drop 2 = .ok (.putfield 33, 3) := by decide +kernel
theorem dX2_drop_5 : decode cX2_drop 5 = .ok (.iload_n 1, 1) := by decide +kernel
theorem dX2_drop_6 : decode cX2_drop 6 = .ok (.iconst 1, 1) := by decide +kernel
theorem dX2_drop_7 : decode cX2_drop 7 = .ok (.if_icmp .lt 22, 3) := by decide +kernel
theorem dX2_drop_10 : decode cX2_drop 10 = .ok (.iload_n 1, 1) := by decide +kernel
theorem dX2_drop_11 : decode cX2_drop 11 = .ok (.aload_n 0, 1) := by decide +kernel
theorem dX2_drop_12 : decode cX2_drop 12 = .ok (.getfield 41, 3) := by decide +kernel
theorem dX2_drop_15 : decode cX2_drop 15 = .ok (.if_icmp .gt 14, 3) := by decide +kernel
theorem dX2_drop_18 : decode cX2_drop 18 = .ok (.aload_n 0, 1) := by decide +kernel
theorem dX2_drop_19 : decode cX2_drop 19 = .ok (.getfield 26, 3) := by decide +kernel
theorem dX2_drop_22 : decode cX2_drop 22 = .ok (.iload_n 1, 1) := by decide +kernel
theorem dX2_drop_23 : decode cX2_drop 23 = .ok (.iconst 1, 1) := by decide +kernel
theorem dX2_drop_24 : decode cX2_drop 24 = .ok (.isub, 1) := by decide +kernel
theorem dX2_drop_25 : decode cX2_drop 25 = .ok (.baload, 1) := by decide +kernel
theorem dX2_drop_26 : decode cX2_drop 26 = .ok (.ifCond .ne 5, 3) := by decide +kernel
theorem dX2_drop_29 : decode cX2_drop 29 = .ok (.iconst 0, 1) := by decide +kernel
theorem dX2_drop_30 : decode cX2_drop 30 = .ok (.ireturn, 1) := by decide +kernel
theorem dX2_drop_31 : decode cX2_drop 31 = .ok (.aload_n 0, 1) := by decide +kernel
theorem dX2_drop_32 : decode cX2_drop 32 = .ok (.getfield 26, 3) := by decide +kernel
theorem dX2_drop_35 : decode cX2_drop 35 = .ok (.iload_n 1, 1) := by decide +kernel
theorem dX2_drop_36 : decode cX2_drop 36 = .ok (.iconst 1, 1) := by decide +kernel
theorem dX2_drop_37 : decode cX2_drop 37 = .ok (.isub, 1) := by decide +kernel
theorem dX2_drop_38 : decode cX2_drop 38 = .ok (.iconst 0, 1) := by decide +kernel
theorem dX2_drop_39 : decode cX2_drop 39 = .ok (.bastore, 1) := by decide +kernel
theorem dX2_drop_40 : decode cX2_drop 40 = .ok (.iconst 1, 1) := by decide +kernel
theorem dX2_drop_41 : decode cX2_drop 41 = .ok (.ireturn, 1) := by decide +kernel
set_option maxRecDepth 20000 in
theorem ggX2_numbers_X2_below : GoodIn wsX2_numbers wsX2_below := goodIn_r _ [8] (by decide +kernel) (by decide +kernel)
set_option maxRecDepth 20000 in
theorem gX2_numbers_X2_below : GoodIn wsX2_numbers (va_wsS RX2 37 yX2_below wsX2_below) := goodIn_app (goodIn_of _ (by decide +kernel)) ggX2_numbers_X2_below
theorem dX2_numbers_0 : decode cX2_numbers 0 = .ok (.aload_n 0, 1) := by decide +kernel
theorem dX2_numbers_1 : decode cX2_numbers 1 = .ok (.iconst 0, 1) := by decide +kernel
theorem dX2_numbers_2 : decode cX2_numbers 2 = .ok (.putfield 33, 3) := by decide +kernel
theorem dX2_numbers_5 : decode cX2_numbers 5 = .ok (.iload_n 1, 1) := by decide +kernel
theorem dX2_numbers_6 : decode cX2_numbers 6 = .ok (.bipush 8, 2) := by decide +kernel
theorem dX2_numbers_8 : decode cX2_numbers 8 = .ok (.invokestatic 37, 3) := by decide +kernel
theorem dX2_numbers_11 : decode cX2_numbers 11 = .ok (.ifCond .ne 5, 3) := by decide +kernel
theorem dX2_numbers_14 : decode cX2_numbers 14 = .ok (.iconst (-1), 1) := by decide +kernel
theorem dX2_numbers_15 : decode cX2_numbers 15 = .ok (.ireturn, 1) := by decide +kernel
theorem dX2_numbers_16 : decode cX2_numbers 16 = .ok (.iconst 0, 1) := by decide +kernel
theorem dX2_numbers_17 : decode cX2_numbers 17 = .ok (.istore_n 2, 1) := by decide +kernel
theorem dX2_numbers_18 : decode cX2_numbers 18 = .ok (.iconst 0, 1) := by decide +kernel
theorem dX2_numbers_19 : decode cX2_numbers 19 = .ok (.istore_n 3, 1) := by decide +kernel
theorem dX2_numbers_20 : decode cX2_numbers 20 = .ok (.iload_n 3, 1) := by decide +kernel
theorem dX2_numbers_21 : decode cX2_numbers 21 = .ok (.aload_n 0, 1) := by decide +kernel
theorem dX2_numbers_22 : decode cX2_numbers 22 = .ok (.getfield 41, 3) := by decide +kernel
theorem dX2_numbers_25 : decode cX2_numbers 25 = .ok (.if_icmp .ge 31, 3) := by decide +kernel
theorem dX2_numbers_28 : decode cX2_numbers 28 = .ok (.aload_n 0, 1) := by decide +kernel
theorem dX2_numbers_29 : decode cX2_numbers 29 = .ok (.getfield 26, 3) := by decide +kernel
theorem dX2_numbers_32 : decode cX2_numbers 32 = .ok (.iload_n 3, 1) := by decide +kernel
theorem dX2_numbers_33 : decode cX2_numbers 33 = .ok (.baload, 1) := by decide +kernel
theorem dX2_numbers_34 : decode cX2_numbers 34 = .ok (.ifCond .eq 16, 3) := by decide +kernel
theorem dX2_numbers_37 : decode cX2_numbers 37 = .ok (.aload_n 0, 1) := by decide +kernel
theorem dX2_numbers_38 : decode cX2_numbers 38 = .ok (.getfield 23, 3) := by decide +kernel
theorem dX2_numbers_41 : decode cX2_numbers 41 = .ok (.iload_n 3, 1) := by decide +kernel
theorem dX2_numbers_42 : decode cX2_numbers 42 = .ok (.iaload, 1) := by decide +kernel
theorem dX2_numbers_43 : decode cX2_numbers 43 = .ok (.iload_n 1, 1) := by decide +kernel
theorem dX2_numbers_44 : decode cX2_numbers 44 = .ok (.if_icmp .ne 6, 3) := by decide +kernel
theorem dX2_numbers_47 : decode cX2_numbers 47 = .ok (.iinc 2 1, 3) := by decide +kernel
theorem dX2_numbers_50 : decode cX2_numbers 50 = .ok (.iinc 3 1, 3) := by decide +kernel
theorem dX2_numbers_53 : decode cX2_numbers 53 = .ok (.goto (-33), 3) := by decide +kernel
theorem dX2_numbers_56 : decode cX2_numbers 56 = .ok (.iload_n 2, 1) := by decide +kernel
theorem dX2_numbers_57 : decode cX2_numbers 57 = .ok (.ireturn, 1) := by decide +kernel
