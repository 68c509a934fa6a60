theorem dX0_init_0 : decode cX0_init 0 = .ok (.aload_n 0, 1) := by decide +kernel
theorem dX0_init_1 : decode cX0_init 1 = .ok (.invokespecial 3, 3) := by decide +kernel
theorem dX0_init_4 : decode cX0_init 4 = .ok (.return_, 1) := by decide +kernel
theorem dX0_fill_0 : decode cX0_fill 0 = .ok (.aload_n 0, 1) := by decide +kernel
theorem dX0_fill_1 : decode cX0_fill 1 = .ok (.iload_n 1, 1) := by decide +kernel
theorem dX0_fill_2 : decode cX0_fill 2 = .ok (.putfield 9, 3) := by decide +kernel
theorem dX0_fill_5 : decode cX0_fill 5 = .ok (.aload_n 0, 1) := by decide +kernel
theorem dX0_fill_6 : decode cX0_fill 6 = .ok (.iload_n 2, 1) := by decide +kernel
theorem dX0_fill_7 : decode cX0_fill 7 = .ok (.putfield 15, 3) := by decide +kernel
theorem dX0_fill_10 : decode cX0_fill 10 = .ok (.aload_n 0, 1) := by decide +kernel
theorem dX0_fill_11 : decode cX0_fill 11 = .ok (.iload_n 3, 1) := by decide +kernel
theorem dX0_fill_12 : decode cX0_fill 12 = .ok (.putfield 18, 3) := by decide +kernel
theorem dX0_fill_15 : decode cX0_fill 15 = .ok (.aload_n 0, 1) := by decide +kernel
theorem dX0_fill_16 : decode cX0_fill 16 = .ok (.iload 4, 2) := by decide +kernel
theorem dX0_fill_18 : decode cX0_fill 18 = .ok (.putfield 21, 3) := by decide +kernel
theorem dX0_fill_21 : decode cX0_fill 21 = .ok (.return_, 1) := by decide +kernel
set_option maxRecDepth 20000 in
theorem ggX0_copyFrom_X0_fill : GoodIn wsX0_copyFrom wsX0_fill := goodIn_r _ [9, 1, 2, 3, 4, 10, 11, 12, 13] (by decide +kernel) (by decide +kernel)
set_option maxRecDepth 20000 in
theorem gX0_copyFrom_X0_fill : GoodIn wsX0_copyFrom (wsV RX0 24 RX0 yX0_fill wsX0_fill) := goodIn_app (goodIn_of _ (by decide +kernel)) ggX0_copyFrom_X0_fill
theorem dX0_copyFrom_0 : decode cX0_copyFrom 0 = .ok (.aload_n 0, 1) := by decide +kernel
theorem dX0_copyFrom_1 : decode cX0_copyFrom 1 = .ok (.aload_n 1, 1) := by decide +kernel
theorem dX0_copyFrom_2 : decode cX0_copyFrom 2 = .ok (.getfield 9, 3) := by decide +kernel
theorem dX0_copyFrom_5 : decode cX0_copyFrom 5 = .ok (.aload_n 1, 1) := by decide +kernel
theorem dX0_copyFrom_6 : decode cX0_copyFrom 6 = .ok (.getfield 15, 3) := by decide +kernel
theorem dX0_copyFrom_9 : decode cX0_copyFrom 9 = .ok (.aload_n 1, 1) := by decide +kernel
theorem dX0_copyFrom_10 : decode cX0_copyFrom 10 = .ok (.getfield 18, 3) := by decide +kernel
theorem dX0_copyFrom_13 : decode cX0_copyFrom 13 = .ok (.aload_n 1, 1) := by decide +kernel
theorem dX0_copyFrom_14 : decode cX0_copyFrom 14 = .ok (.getfield 21, 3) := by decide +kernel
theorem dX0_copyFrom_17 : decode cX0_copyFrom 17 = .ok (.invokevirtual 24, 3) := by decide +kernel
theorem dX0_copyFrom_20 : decode cX0_copyFrom 20 = .ok (.return_, 1) := by decide +kernel
theorem dX0_at_0 : decode cX0_at 0 = .ok (.iload_n 1, 1) := by decide +kernel
theorem dX0_at_1 : decode cX0_at 1 = .ok (.tableswitch 42 0 2 #[27, 32, 37], 27) := by decide +kernel
theorem dX0_at_28 : decode cX0_at 28 = .ok (.aload_n 0, 1) := by decide +kernel
theorem dX0_at_29 : decode cX0_at 29 = .ok (.getfield 9, 3) := by decide +kernel
theorem dX0_at_32 : decode cX0_at 32 = .ok (.ireturn, 1) := by decide +kernel
theorem dX0_at_33 : decode cX0_at 33 = .ok (.aload_n 0, 1) := by decide +kernel
theorem dX0_at_34 : decode cX0_at 34 = .ok (.getfield 15, 3) := by decide +kernel
theorem dX0_at_37 : decode cX0_at 37 = .ok (.ireturn, 1) := by decide +kernel
theorem dX0_at_38 : decode cX0_at 38 = .ok (.aload_n 0, 1) := by decide +kernel
theorem dX0_at_39 : decode cX0_at 39 = .ok (.getfield 18, 3) := by decide +kernel
theorem dX0_at_42 : decode cX0_at 42 = .ok (.ireturn, 1) := by decide +kernel
theorem dX0_at_43 : decode cX0_at 43 = .ok (.aload_n 0, 1) := by decide +kernel
theorem dX0_at_44 : decode cX0_at 44 = .ok (.getfield 21, 3) := by decide +kernel
theorem dX0_at_47 : decode cX0_at 47 = .ok (.ireturn, 1) := by decide +kernel
theorem dX0_put_0 : decode cX0_put 0 = .ok (.iload_n 1, 1) := by decide +kernel
theorem dX0_put_1 : decode cX0_put 1 = .ok (.tableswitch 51 0 2 #[27, 35, 43], 27) := by decide +kernel
theorem dX0_put_28 : decode cX0_put 28 = .ok (.aload_n 0, 1) := by decide +kernel
theorem dX0_put_29 : decode cX0_put 29 = .ok (.iload_n 2, 1) := by decide +kernel
theorem dX0_put_30 : decode cX0_put 30 = .ok (.putfield 9, 3) := by decide +kernel
theorem dX0_put_33 : decode cX0_put 33 = .ok (.goto 24, 3) := by decide +kernel
theorem dX0_put_36 : decode cX0_put 36 = .ok (.aload_n 0, 1) := by decide +kernel
theorem dX0_put_37 : decode cX0_put 37 = .ok (.iload_n 2, 1) := by decide +kernel
theorem dX0_put_38 : decode cX0_put 38 = .ok (.putfield 15, 3) := by decide +kernel
theorem dX0_put_41 : decode cX0_put 41 = .ok (.goto 16, 3) := by decide +kernel
theorem dX0_put_44 : decode cX0_put 44 = .ok (.aload_n 0, 1) := by decide +kernel
theorem dX0_put_45 : decode cX0_put 45 = .ok (.iload_n 2, 1) := by decide +kernel
theorem dX0_put_46 : decode cX0_put 46 = .ok (.putfield 18, 3) := by decide +kernel
theorem dX0_put_49 : decode cX0_put 49 = .ok (.goto 8, 3) := by decide +kernel
theorem dX0_put_52 : decode cX0_put 52 = .ok (.aload_n 0, 1) := by decide +kernel
theorem dX0_put_53 : decode cX0_put 53 = .ok (.iload_n 2, 1) := by decide +kernel
theorem dX0_put_54 : decode cX0_put 54 = .ok (.putfield 21, 3) := by decide +kernel
theorem dX0_put_57 : decode cX0_put 57 = .ok (.return_, 1) := by decide +kernel
theorem dX0_isAs_0 : decode cX0_isAs 0 = .ok (.aload_n 0, 1) := by decide +kernel
theorem dX0_isAs_1 : decode cX0_isAs 1 = .ok (.getfield 9, 3) := by decide +kernel
theorem dX0_isAs_4 : decode cX0_isAs 4 = .ok (.aload_n 1, 1) := by decide +kernel
theorem dX0_isAs_5 : decode cX0_isAs 5 = .ok (.getfield 9, 3) := by decide +kernel
theorem dX0_isAs_8 : decode cX0_isAs 8 = .ok (.if_icmp .ne 40, 3) := by decide +kernel
theorem dX0_isAs_11 : decode cX0_isAs 11 = .ok (.aload_n 0, 1) := by decide +kernel
theorem dX0_isAs_12 : decode cX0_isAs 12 = .ok (.getfield 15, 3) := by decide +kernel
theorem dX0_isAs_15 : decode cX0_isAs 15 = .ok (.aload_n 1, 1) := by decide +kernel
theorem dX0_isAs_16 : decode cX0_isAs 16 = .ok (.getfield 15, 3) := by decide +kernel
theorem dX0_isAs_19 : decode cX0_isAs 19 = .ok (.if_icmp .ne 29, 3) := by decide +kernel
theorem dX0_isAs_22 : decode cX0_isAs 22 = .ok (.aload_n 0, 1) := by decide +kernel
theorem dX0_isAs_23 : decode cX0_isAs 23 = .ok (.getfield 18, 3) := by decide +kernel
theorem dX0_isAs_26 : decode cX0_isAs 26 = .ok (.aload_n 1, 1) := by decide +kernel
theorem dX0_isAs_27 : decode cX0_isAs 27 = .ok (.getfield 18, 3) := by decide +kernel
theorem dX0_isAs_30 : decode cX0_isAs 30 = .ok (.if_icmp .ne 18, 3) := by decide +kernel
theorem dX0_isAs_33 : decode cX0_isAs 33 = .ok (.aload_n 0, 1) := by decide +kernel
theorem dX0_isAs_34 : decode cX0_isAs 34 = .ok (.getfield 21, 3) := by decide +kernel
theorem dX0_isAs_37 : decode cX0_isAs 37 = .ok (.aload_n 1, 1) := by decide +kernel
theorem dX0_isAs_38 : decode cX0_isAs 38 = .ok (.getfield 21, 3) := by decide +kernel
theorem dX0_isAs_41 : decode cX0_isAs 41 = .ok (.if_icmp .ne 7, 3) := by decide +kernel
theorem dX0_isAs_44 : decode cX0_isAs 44 = .ok (.iconst 1, 1) := by decide +kernel
theorem dX0_isAs_45 : decode cX0_isAs 45 = .ok (.goto 4, 3) := by decide +kernel
theorem dX0_isAs_48 : decode cX0_isAs 48 = .ok (.iconst 0, 1) := by decide +kernel
theorem dX0_isAs_49 : decode cX0_isAs 49 = .ok (.ireturn, 1) := by decide +kernel
set_option maxRecDepth 20000 in
theorem ggX0_determinant_X1_times : GoodIn wsX0_determinant wsX1_times := goodIn_r _ [8, 9, 10, 7, 11] (by decide +kernel) (by decide +kernel)
set_option maxRecDepth 20000 in
theorem gX0_determinant_X1_times : GoodIn wsX0_determinant (va_wsS RX0 28 yX1_times wsX1_times) := goodIn_app (goodIn_of _ (by decide +kernel)) ggX0_determinant_X1_times
set_option maxRecDepth 20000 in
theorem ggX0_determinant_X1_minus : GoodIn wsX0_determinant wsX1_minus := goodIn_r _ [14, 9, 10, 7, 11] (by decide +kernel) (by decide +kernel)
set_option maxRecDepth 20000 in
theorem gX0_determinant_X1_minus : GoodIn wsX0_determinant (va_wsS RX0 34 yX1_minus wsX1_minus) := goodIn_app (goodIn_of _ (by decide +kernel)) ggX0_determinant_X1_minus
theorem dX0_determinant_0 : decode cX0_determinant 0 = .ok (.aload_n 0, 1) := by decide +kernel
theorem dX0_determinant_1 : decode cX0_determinant 1 = .ok (.getfield 9, 3) := by decide +kernel
theorem dX0_determinant_4 : decode cX0_determinant 4 = .ok (.aload_n 0, 1) := by decide +kernel
theorem dX0_determinant_5 : decode cX0_determinant 5 = .ok (.getfield 21, 3) := by decide +kernel
theorem dX0_determinant_8 : decode cX0_determinant 8 = .ok (.invokestatic 28, 3) := by decide +kernel
theorem dX0_determinant_11 : decode cX0_determinant 11 = .ok (.aload_n 0, 1) := by decide +kernel
theorem dX0_determinant_12 : decode cX0_determinant 12 = .ok (.getfield 15, 3) := by decide +kernel
theorem dX0_determinant_15 : decode cX0_determinant 15 = .ok (.aload_n 0, 1) := by decide +kernel
theorem dX0_determinant_16 : decode cX0_determinant 16 = .ok (.getfield 18, 3) := by decide +kernel
theorem dX0_determinant_19 : decode cX0_determinant 19 = .ok (.invokestatic 28, 3) := by decide +kernel
theorem dX0_determinant_22 : decode cX0_determinant 22 = .ok (.invokestatic 34, 3) := by decide +kernel
theorem dX0_determinant_25 : decode cX0_determinant 25 = .ok (.ireturn, 1) := by decide +kernel
set_option maxRecDepth 20000 in
theorem ggX0_divideBy_X1_over : GoodIn wsX0_divideBy wsX1_over := goodIn_r _ [8, 9, 10, 7, 11, 12, 13, 14] (by decide +kernel) (by decide +kernel)
set_option maxRecDepth 20000 in
theorem gX0_divideBy_X1_over : GoodIn wsX0_divideBy (va_wsS RX0 37 yX1_over wsX1_over) := goodIn_app (goodIn_of _ (by decide +kernel)) ggX0_divideBy_X1_over
set_option maxRecDepth 20000 in
theorem ggX0_divideBy_X1_times : GoodIn wsX0_divideBy wsX1_times := goodIn_r _ [17, 12, 13, 7, 14] (by decide +kernel) (by decide +kernel)
set_option maxRecDepth 20000 in
theorem gX0_divideBy_X1_times : GoodIn wsX0_divideBy (va_wsS RX0 28 yX1_times wsX1_times) := goodIn_app (goodIn_of _ (by decide +kernel)) ggX0_divideBy_X1_times
set_option maxRecDepth 20000 in
theorem ggX0_divideBy_X0_fill : GoodIn wsX0_divideBy wsX0_fill := goodIn_r _ [22, 1, 2, 3, 4, 23, 24, 25, 26] (by decide +kernel) (by decide +kernel)
set_option maxRecDepth 20000 in
theorem gX0_divideBy_X0_fill : GoodIn wsX0_divideBy (wsV RX0 24 RX0 yX0_fill wsX0_fill) := goodIn_app (goodIn_of _ (by decide +kernel)) ggX0_divideBy_X0_fill
theorem dX0_divideBy_0 : decode cX0_divideBy 0 = .ok (.sipush 10007, 3) := by decide +kernel
theorem dX0_divideBy_3 : decode cX0_divideBy 3 = .ok (.iload_n 1, 1) := by decide +kernel
theorem dX0_divideBy_4 : decode cX0_divideBy 4 = .ok (.invokestatic 37, 3) := by decide +kernel
theorem dX0_divideBy_7 : decode cX0_divideBy 7 = .ok (.istore_n 2, 1) := by decide +kernel
theorem dX0_divideBy_8 : decode cX0_divideBy 8 = .ok (.aload_n 0, 1) := by decide +kernel
theorem dX0_divideBy_9 : decode cX0_divideBy 9 = .ok (.aload_n 0, 1) := by decide +kernel
theorem dX0_divideBy_10 : decode cX0_divideBy 10 = .ok (.getfield 9, 3) := by decide +kernel
theorem dX0_divideBy_13 : decode cX0_divideBy 13 = .ok (.iload_n 2, 1) := by decide +kernel
theorem dX0_divideBy_14 : decode cX0_divideBy 14 = .ok (.invokestatic 28, 3) := by decide +kernel
theorem dX0_divideBy_17 : decode cX0_divideBy 17 = .ok (.aload_n 0, 1) := by decide +kernel
theorem dX0_divideBy_18 : decode cX0_divideBy 18 = .ok (.getfield 15, 3) := by decide +kernel
theorem dX0_divideBy_21 : decode cX0_divideBy 21 = .ok (.iload_n 2, 1) := by decide +kernel
theorem dX0_divideBy_22 : decode cX0_divideBy 22 = .ok (.invokestatic 28, 3) := by decide +kernel
theorem dX0_divideBy_25 : decode cX0_divideBy 25 = .ok (.aload_n 0, 1) := by decide +kernel
theorem dX0_divideBy_26 : decode cX0_divideBy 26 = .ok (.getfield 18, 3) := by decide +kernel
theorem dX0_divideBy_29 : decode cX0_divideBy 29 = .ok (.iload_n 2, 1) := by decide +kernel
theorem dX0_divideBy_30 : decode cX0_divideBy 30 = .ok (.invokestatic 28, 3) := by decide +kernel
theorem dX0_divideBy_33 : decode cX0_divideBy 33 = .ok (.aload_n 0, 1) := by decide +kernel
theorem dX0_divideBy_34 : decode cX0_divideBy 34 = .ok (.getfield 21, 3) := by decide +kernel
theorem dX0_divideBy_37 : decode cX0_divideBy 37 = .ok (.iload_n 2, 1) := by decide +kernel
theorem dX0_divideBy_38 : decode cX0_divideBy 38 = .ok (.invokestatic 28, 3) := by decide +kernel
theorem dX0_divideBy_41 : decode cX0_divideBy 41 = .ok (.invokevirtual 24, 3) := by decide +kernel
theorem dX0_divideBy_44 : decode cX0_divideBy 44 = .ok (.return_, 1) := by decide +kernel
set_option maxRecDepth 20000 in
theorem ggX0_becomeProduct_X1_pairs : GoodIn wsX0_becomeProduct wsX1_pairs := goodIn_r _ [8, 9, 10, 7, 11, 12, 13, 14, 15, 16, 17] (by decide +kernel) (by decide +kernel)
set_option maxRecDepth 20000 in
theorem gX0_becomeProduct_X1_pairs : GoodIn wsX0_becomeProduct (va_wsS RX0 40 yX1_pairs wsX1_pairs) := goodIn_app (goodIn_of _ (by decide +kernel)) ggX0_becomeProduct_X1_pairs
set_option maxRecDepth 20000 in
theorem ggX0_becomeProduct_X0_fill : GoodIn wsX0_becomeProduct wsX0_fill := goodIn_r _ [22, 1, 2, 3, 4, 23, 24, 25, 26] (by decide +kernel) (by decide +kernel)
set_option maxRecDepth 20000 in
theorem gX0_becomeProduct_X0_fill : GoodIn wsX0_becomeProduct (wsV RX0 24 RX0 yX0_fill wsX0_fill) := goodIn_app (goodIn_of _ (by decide +kernel)) ggX0_becomeProduct_X0_fill
theorem dX0_becomeProduct_0 : decode cX0_becomeProduct 0 = .ok (.aload_n 0, 1) := by decide +kernel
theorem dX0_becomeProduct_1 : decode cX0_becomeProduct 1 = .ok (.aload_n 1, 1) := by decide +kernel
theorem dX0_becomeProduct_2 : decode cX0_becomeProduct 2 = .ok (.getfield 9, 3) := by decide +kernel
theorem dX0_becomeProduct_5 : decode cX0_becomeProduct 5 = .ok (.aload_n 2, 1) := by decide +kernel
theorem dX0_becomeProduct_6 : decode cX0_becomeProduct 6 = .ok (.getfield 9, 3) := by decide +kernel
theorem dX0_becomeProduct_9 : decode cX0_becomeProduct 9 = .ok (.aload_n 1, 1) := by decide +kernel
theorem dX0_becomeProduct_10 : decode cX0_becomeProduct 10 = .ok (.getfield 15, 3) := by decide +kernel
theorem dX0_becomeProduct_13 : decode cX0_becomeProduct 13 = .ok (.aload_n 2, 1) := by decide +kernel
theorem dX0_becomeProduct_14 : decode cX0_becomeProduct 14 = .ok (.getfield 18, 3) := by decide +kernel
theorem dX0_becomeProduct_17 : decode cX0_becomeProduct 17 = .ok (.invokestatic 40, 3) := by decide +kernel
theorem dX0_becomeProduct_20 : decode cX0_becomeProduct 20 = .ok (.aload_n 1, 1) := by decide +kernel
theorem dX0_becomeProduct_21 : decode cX0_becomeProduct 21 = .ok (.getfield 9, 3) := by decide +kernel
theorem dX0_becomeProduct_24 : decode cX0_becomeProduct 24 = .ok (.aload_n 2, 1) := by decide +kernel
theorem dX0_becomeProduct_25 : decode cX0_becomeProduct 25 = .ok (.getfield 15, 3) := by decide +kernel
theorem dX0_becomeProduct_28 : decode cX0_becomeProduct 28 = .ok (.aload_n 1, 1) := by decide +kernel
theorem dX0_becomeProduct_29 : decode cX0_becomeProduct 29 = .ok (.getfield 15, 3) := by decide +kernel
theorem dX0_becomeProduct_32 : decode cX0_becomeProduct 32 = .ok (.aload_n 2, 1) := by decide +kernel
theorem dX0_becomeProduct_33 : decode cX0_becomeProduct 33 = .ok (.getfield 21, 3) := by decide +kernel
theorem dX0_becomeProduct_36 : decode cX0_becomeProduct 36 = .ok (.invokestatic 40, 3) := by decide +kernel
theorem dX0_becomeProduct_39 : decode cX0_becomeProduct 39 = .ok (.aload_n 1, 1) := by decide +kernel
theorem dX0_becomeProduct_40 : decode cX0_becomeProduct 40 = .ok (.getfield 18, 3) := by decide +kernel
theorem dX0_becomeProduct_43 : decode cX0_becomeProduct 43 = .ok (.aload_n 2, 1) := by decide +kernel
theorem dX0_becomeProduct_44 : decode cX0_becomeProduct 44 = .ok (.getfield 9, 3) := by decide +kernel
theorem dX0_becomeProduct_47 : decode cX0_becomeProduct 47 = .ok (.aload_n 1, 1) := by decide +kernel
theorem dX0_becomeProduct_48 : decode cX0_becomeProduct 48 = .ok (.getfield 21, 3) := by decide +kernel
theorem dX0_becomeProduct_51 : decode cX0_becomeProduct 51 = .ok (.aload_n 2, 1) := by decide +kernel
theorem dX0_becomeProduct_52 : decode cX0_becomeProduct 52 = .ok (.getfield 18, 3) := by decide +kernel
theorem dX0_becomeProduct_55 : decode cX0_becomeProduct 55 = .ok (.invokestatic 40, 3) := by decide +kernel
theorem dX0_becomeProduct_58 : decode cX0_becomeProduct 58 = .ok (.aload_n 1, 1) := by decide +kernel
theorem dX0_becomeProduct_59 : decode cX0_becomeProduct 59 = .ok (.getfield 18, 3) := by decide +kernel
theorem dX0_becomeProduct_62 : decode cX0_becomeProduct 62 = .ok (.aload_n 2, 1) := by decide +kernel
theorem dX0_becomeProduct_63 : decode cX0_becomeProduct 63 = .ok (.getfield 15, 3) := by decide +kernel
theorem dX0_becomeProduct_66 : decode cX0_becomeProduct 66 = .ok (.aload_n 1, 1) := by decide +kernel
theorem dX0_becomeProduct_67 : decode cX0_becomeProduct 67 = .ok (.getfield 21, 3) := by decide +kernel
theorem dX0_becomeProduct_70 : decode cX0_becomeProduct 70 = .ok (.aload_n 2, 1) := by decide +kernel
theorem dX0_becomeProduct_71 : decode cX0_becomeProduct 71 = .ok (.getfield 21, 3) := by decide +kernel
theorem dX0_becomeProduct_74 : decode cX0_becomeProduct 74 = .ok (.invokestatic 40, 3) := by decide +kernel
theorem dX0_becomeProduct_77 : decode cX0_becomeProduct 77 = .ok (.invokevirtual 24, 3) := by decide +kernel
theorem dX0_becomeProduct_80 : decode cX0_becomeProduct 80 = .ok (.return_, 1) := by decide +kernel
set_option maxRecDepth 20000 in
theorem ggX0_invert_X0_determinant : GoodIn wsX0_invert wsX0_determinant := goodIn_r _ [9, 4, 1, 2, 3, 10, 11, 12, 13, 14, 15, 16, 17, 18, 19, 34, 35, 36, 37] (by decide +kernel) (by decide +kernel)
set_option maxRecDepth 20000 in
theorem gX0_invert_X0_determinant : GoodIn wsX0_invert (wsV RX0 44 RX0 yX0_determinant wsX0_determinant) := goodIn_app (goodIn_of _ (by decide +kernel)) ggX0_invert_X0_determinant
set_option maxRecDepth 20000 in
theorem ggX0_invert_X1_minus : GoodIn wsX0_invert wsX1_minus := goodIn_r _ [19, 14, 15, 12, 16] (by decide +kernel) (by decide +kernel)
set_option maxRecDepth 20000 in
theorem gX0_invert_X1_minus : GoodIn wsX0_invert (va_wsS RX0 34 yX1_minus wsX1_minus) := goodIn_app (goodIn_of _ (by decide +kernel)) ggX0_invert_X1_minus
set_option maxRecDepth 20000 in
theorem ggX0_invert_X0_fill : GoodIn wsX0_invert wsX0_fill := goodIn_r _ [23, 4, 2, 3, 1, 34, 35, 36, 37] (by decide +kernel) (by decide +kernel)
set_option maxRecDepth 20000 in
theorem gX0_invert_X0_fill : GoodIn wsX0_invert (wsV RX0 24 RX0 yX0_fill wsX0_fill) := goodIn_app (goodIn_of _ (by decide +kernel)) ggX0_invert_X0_fill
set_option maxRecDepth 20000 in
theorem ggX0_invert_X0_divideBy : GoodIn wsX0_invert wsX0_divideBy := goodIn_r _ [27, 4, 2, 3, 1, 28, 29, 12, 30, 31, 32, 33, 14, 15, 16, 10, 11, 13, 20, 21, 22, 8, 23, 34, 35, 36, 37] (by decide +kernel) (by decide +kernel)
set_option maxRecDepth 20000 in
theorem gX0_invert_X0_divideBy : GoodIn wsX0_invert (wsV RX0 48 RX0 yX0_divideBy wsX0_divideBy) := goodIn_app (goodIn_of _ (by decide +kernel)) ggX0_invert_X0_divideBy
theorem dX0_invert_0 : decode cX0_invert 0 = .ok (.aload_n 0, 1) := by decide +kernel
theorem dX0_invert_1 : decode cX0_invert 1 = .ok (.invokevirtual 44, 3) := by decide +kernel
theorem dX0_invert_4 : decode cX0_invert 4 = .ok (.istore_n 1, 1) := by decide +kernel
theorem dX0_invert_5 : decode cX0_invert 5 = .ok (.iload_n 1, 1) := by decide +kernel
theorem dX0_invert_6 : decode cX0_invert 6 = .ok (.ifCond .ne 5, 3) := by decide +kernel
theorem dX0_invert_9 : decode cX0_invert 9 = .ok (.iconst 0, 1) := by decide +kernel
theorem dX0_invert_10 : decode cX0_invert 10 = .ok (.ireturn, 1) := by decide +kernel
theorem dX0_invert_11 : decode cX0_invert 11 = .ok (.aload_n 0, 1) := by decide +kernel
theorem dX0_invert_12 : decode cX0_invert 12 = .ok (.aload_n 0, 1) := by decide +kernel
theorem dX0_invert_13 : decode cX0_invert 13 = .ok (.getfield 21, 3) := by decide +kernel
theorem dX0_invert_16 : decode cX0_invert 16 = .ok (.iconst 0, 1) := by decide +kernel
theorem dX0_invert_17 : decode cX0_invert 17 = .ok (.aload_n 0, 1) := by decide +kernel
theorem dX0_invert_18 : decode cX0_invert 18 = .ok (.getfield 15, 3) := by decide +kernel
theorem dX0_invert_21 : decode cX0_invert 21 = .ok (.invokestatic 34, 3) := by decide +kernel
theorem dX0_invert_24 : decode cX0_invert 24 = .ok (.iconst 0, 1) := by decide +kernel
theorem dX0_invert_25 : decode cX0_invert 25 = .ok (.aload_n 0, 1) := by decide +kernel
theorem dX0_invert_26 : decode cX0_invert 26 = .ok (.getfield 18, 3) := by decide +kernel
theorem dX0_invert_29 : decode cX0_invert 29 = .ok (.invokestatic 34, 3) := by decide +kernel
theorem dX0_invert_32 : decode cX0_invert 32 = .ok (.aload_n 0, 1) := by decide +kernel
theorem dX0_invert_33 : decode cX0_invert 33 = .ok (.getfield 9, 3) := by decide +kernel
theorem dX0_invert_36 : decode cX0_invert 36 = .ok (.invokevirtual 24, 3) := by decide +kernel
theorem dX0_invert_39 : decode cX0_invert 39 = .ok (.aload_n 0, 1) := by decide +kernel
theorem dX0_invert_40 : decode cX0_invert 40 = .ok (.iload_n 1, 1) := by decide +kernel
theorem dX0_invert_41 : decode cX0_invert 41 = .ok (.invokevirtual 48, 3) := by decide +kernel
theorem dX0_invert_44 : decode cX0_invert 44 = .ok (.iconst 1, 1) := by decide +kernel
theorem dX0_invert_45 : decode cX0_invert 45 = .ok (.ireturn, 1) := by decide +kernel
set_option maxRecDepth 20000 in
theorem ggX0_becomeTransfer_X0_determinant : GoodIn wsX0_becomeTransfer wsX0_determinant := goodIn_r _ [8, 2, 3, 9, 1, 10, 11, 12, 13, 14, 15, 16, 17, 18, 19, 34, 35, 36, 37] (by decide +kernel) (by decide +kernel)
set_option maxRecDepth 20000 in
theorem gX0_becomeTransfer_X0_determinant : GoodIn wsX0_becomeTransfer (wsV RX0 44 RX0 yX0_determinant wsX0_determinant) := goodIn_app (goodIn_of _ (by decide +kernel)) ggX0_becomeTransfer_X0_determinant
set_option maxRecDepth 20000 in
theorem ggX0_becomeTransfer_X1_minus : GoodIn wsX0_becomeTransfer wsX1_minus := goodIn_r _ [19, 14, 15, 12, 16] (by decide +kernel) (by decide +kernel)
set_option maxRecDepth 20000 in
theorem gX0_becomeTransfer_X1_minus : GoodIn wsX0_becomeTransfer (va_wsS RX0 34 yX1_minus wsX1_minus) := goodIn_app (goodIn_of _ (by decide +kernel)) ggX0_becomeTransfer_X1_minus
set_option maxRecDepth 20000 in
theorem ggX0_becomeTransfer_X0_fill : GoodIn wsX0_becomeTransfer wsX0_fill := goodIn_r _ [23, 2, 9, 1, 3, 34, 35, 36, 37] (by decide +kernel) (by decide +kernel)
set_option maxRecDepth 20000 in
theorem gX0_becomeTransfer_X0_fill : GoodIn wsX0_becomeTransfer (wsV RX0 24 RX0 yX0_fill wsX0_fill) := goodIn_app (goodIn_of _ (by decide +kernel)) ggX0_becomeTransfer_X0_fill
set_option maxRecDepth 20000 in
theorem ggX0_becomeTransfer_X0_divideBy : GoodIn wsX0_becomeTransfer wsX0_divideBy := goodIn_r _ [27, 2, 9, 1, 3, 28, 29, 12, 30, 31, 32, 33, 14, 15, 16, 10, 11, 13, 20, 21, 22, 7, 23, 34, 35, 36, 37] (by decide +kernel) (by decide +kernel)
set_option maxRecDepth 20000 in
theorem gX0_becomeTransfer_X0_divideBy : GoodIn wsX0_becomeTransfer (wsV RX0 48 RX0 yX0_divideBy wsX0_divideBy) := goodIn_app (goodIn_of _ (by decide +kernel)) ggX0_becomeTransfer_X0_divideBy
theorem dX0_becomeTransfer_0 : decode cX0_becomeTransfer 0 = .ok (.aload_n 1, 1) := by decide +kernel
theorem dX0_becomeTransfer_1 : decode cX0_becomeTransfer 1 = .ok (.getfield 18, 3) := by decide +kernel
theorem dX0_becomeTransfer_4 : decode cX0_becomeTransfer 4 = .ok (.ifCond .ne 5, 3) := by decide +kernel
theorem dX0_becomeTransfer_7 : decode cX0_becomeTransfer 7 = .ok (.iconst 0, 1) := by decide +kernel
theorem dX0_becomeTransfer_8 : decode cX0_becomeTransfer 8 = .ok (.ireturn, 1) := by decide +kernel
theorem dX0_becomeTransfer_9 : decode cX0_becomeTransfer 9 = .ok (.aload_n 1, 1) := by decide +kernel
theorem dX0_becomeTransfer_10 : decode cX0_becomeTransfer 10 = .ok (.getfield 18, 3) := by decide +kernel
theorem dX0_becomeTransfer_13 : decode cX0_becomeTransfer 13 = .ok (.istore_n 2, 1) := by decide +kernel
theorem dX0_becomeTransfer_14 : decode cX0_becomeTransfer 14 = .ok (.aload_n 0, 1) := by decide +kernel
theorem dX0_becomeTransfer_15 : decode cX0_becomeTransfer 15 = .ok (.iconst 0, 1) := by decide +kernel
theorem dX0_becomeTransfer_16 : decode cX0_becomeTransfer 16 = .ok (.aload_n 1, 1) := by decide +kernel
theorem dX0_becomeTransfer_17 : decode cX0_becomeTransfer 17 = .ok (.invokevirtual 44, 3) := by decide +kernel
theorem dX0_becomeTransfer_20 : decode cX0_becomeTransfer 20 = .ok (.invokestatic 34, 3) := by decide +kernel
theorem dX0_becomeTransfer_23 : decode cX0_becomeTransfer 23 = .ok (.aload_n 1, 1) := by decide +kernel
theorem dX0_becomeTransfer_24 : decode cX0_becomeTransfer 24 = .ok (.getfield 9, 3) := by decide +kernel
theorem dX0_becomeTransfer_27 : decode cX0_becomeTransfer 27 = .ok (.iconst 0, 1) := by decide +kernel
theorem dX0_becomeTransfer_28 : decode cX0_becomeTransfer 28 = .ok (.aload_n 1, 1) := by decide +kernel
theorem dX0_becomeTransfer_29 : decode cX0_becomeTransfer 29 = .ok (.getfield 21, 3) := by decide +kernel
theorem dX0_becomeTransfer_32 : decode cX0_becomeTransfer 32 = .ok (.invokestatic 34, 3) := by decide +kernel
theorem dX0_becomeTransfer_35 : decode cX0_becomeTransfer 35 = .ok (.sipush 10007, 3) := by decide +kernel
theorem dX0_becomeTransfer_38 : decode cX0_becomeTransfer 38 = .ok (.invokevirtual 24, 3) := by decide +kernel
theorem dX0_becomeTransfer_41 : decode cX0_becomeTransfer 41 = .ok (.aload_n 0, 1) := by decide +kernel
theorem dX0_becomeTransfer_42 : decode cX0_becomeTransfer 42 = .ok (.iload_n 2, 1) := by decide +kernel
theorem dX0_becomeTransfer_43 : decode cX0_becomeTransfer 43 = .ok (.invokevirtual 48, 3) := by decide +kernel
theorem dX0_becomeTransfer_46 : decode cX0_becomeTransfer 46 = .ok (.iconst 1, 1) := by decide +kernel
theorem dX0_becomeTransfer_47 : decode cX0_becomeTransfer 47 = .ok (.ireturn, 1) := by decide +kernel
set_option maxRecDepth 20000 in
theorem ggX0_becomeBoxOf_X0_determinant : GoodIn wsX0_becomeBoxOf wsX0_determinant := goodIn_r _ [8, 9, 1, 2, 3, 10, 11, 12, 13, 14, 15, 16, 17, 18, 19, 34, 35, 36, 37] (by decide +kernel) (by decide +kernel)
set_option maxRecDepth 20000 in
theorem gX0_becomeBoxOf_X0_determinant : GoodIn wsX0_becomeBoxOf (wsV RX0 44 RX0 yX0_determinant wsX0_determinant) := goodIn_app (goodIn_of _ (by decide +kernel)) ggX0_becomeBoxOf_X0_determinant
set_option maxRecDepth 20000 in
theorem ggX0_becomeBoxOf_X1_minus : GoodIn wsX0_becomeBoxOf wsX1_minus := goodIn_r _ [19, 14, 15, 12, 16] (by decide +kernel) (by decide +kernel)
set_option maxRecDepth 20000 in
theorem gX0_becomeBoxOf_X1_minus : GoodIn wsX0_becomeBoxOf (va_wsS RX0 34 yX1_minus wsX1_minus) := goodIn_app (goodIn_of _ (by decide +kernel)) ggX0_becomeBoxOf_X1_minus
set_option maxRecDepth 20000 in
theorem ggX0_becomeBoxOf_X0_fill : GoodIn wsX0_becomeBoxOf wsX0_fill := goodIn_r _ [23, 9, 2, 3, 1, 34, 35, 36, 37] (by decide +kernel) (by decide +kernel)
set_option maxRecDepth 20000 in
theorem gX0_becomeBoxOf_X0_fill : GoodIn wsX0_becomeBoxOf (wsV RX0 24 RX0 yX0_fill wsX0_fill) := goodIn_app (goodIn_of _ (by decide +kernel)) ggX0_becomeBoxOf_X0_fill
set_option maxRecDepth 20000 in
theorem ggX0_becomeBoxOf_X0_divideBy : GoodIn wsX0_becomeBoxOf wsX0_divideBy := goodIn_r _ [27, 9, 2, 3, 1, 28, 29, 12, 30, 31, 32, 33, 14, 15, 16, 10, 11, 13, 20, 21, 22, 7, 23, 34, 35, 36, 37] (by decide +kernel) (by decide +kernel)
set_option maxRecDepth 20000 in
theorem gX0_becomeBoxOf_X0_divideBy : GoodIn wsX0_becomeBoxOf (wsV RX0 48 RX0 yX0_divideBy wsX0_divideBy) := goodIn_app (goodIn_of _ (by decide +kernel)) ggX0_becomeBoxOf_X0_divideBy
theorem dX0_becomeBoxOf_0 : decode cX0_becomeBoxOf 0 = .ok (.aload_n 1, 1) := by decide +kernel
theorem dX0_becomeBoxOf_1 : decode cX0_becomeBoxOf 1 = .ok (.getfield 21, 3) := by decide +kernel
theorem dX0_becomeBoxOf_4 : decode cX0_becomeBoxOf 4 = .ok (.ifCond .ne 5, 3) := by decide +kernel
theorem dX0_becomeBoxOf_7 : decode cX0_becomeBoxOf 7 = .ok (.iconst 0, 1) := by decide +kernel
theorem dX0_becomeBoxOf_8 : decode cX0_becomeBoxOf 8 = .ok (.ireturn, 1) := by decide +kernel
theorem dX0_becomeBoxOf_9 : decode cX0_becomeBoxOf 9 = .ok (.aload_n 1, 1) := by decide +kernel
theorem dX0_becomeBoxOf_10 : decode cX0_becomeBoxOf 10 = .ok (.getfield 21, 3) := by decide +kernel
theorem dX0_becomeBoxOf_13 : decode cX0_becomeBoxOf 13 = .ok (.istore_n 2, 1) := by decide +kernel
theorem dX0_becomeBoxOf_14 : decode cX0_becomeBoxOf 14 = .ok (.aload_n 0, 1) := by decide +kernel
theorem dX0_becomeBoxOf_15 : decode cX0_becomeBoxOf 15 = .ok (.aload_n 1, 1) := by decide +kernel
theorem dX0_becomeBoxOf_16 : decode cX0_becomeBoxOf 16 = .ok (.getfield 15, 3) := by decide +kernel
theorem dX0_becomeBoxOf_19 : decode cX0_becomeBoxOf 19 = .ok (.aload_n 1, 1) := by decide +kernel
theorem dX0_becomeBoxOf_20 : decode cX0_becomeBoxOf 20 = .ok (.invokevirtual 44, 3) := by decide +kernel
theorem dX0_becomeBoxOf_23 : decode cX0_becomeBoxOf 23 = .ok (.sipush 10007, 3) := by decide +kernel
theorem dX0_becomeBoxOf_26 : decode cX0_becomeBoxOf 26 = .ok (.iconst 0, 1) := by decide +kernel
theorem dX0_becomeBoxOf_27 : decode cX0_becomeBoxOf 27 = .ok (.aload_n 1, 1) := by decide +kernel
theorem dX0_becomeBoxOf_28 : decode cX0_becomeBoxOf 28 = .ok (.getfield 18, 3) := by decide +kernel
theorem dX0_becomeBoxOf_31 : decode cX0_becomeBoxOf 31 = .ok (.invokestatic 34, 3) := by decide +kernel
theorem dX0_becomeBoxOf_34 : decode cX0_becomeBoxOf 34 = .ok (.invokevirtual 24, 3) := by decide +kernel
theorem dX0_becomeBoxOf_37 : decode cX0_becomeBoxOf 37 = .ok (.aload_n 0, 1) := by decide +kernel
theorem dX0_becomeBoxOf_38 : decode cX0_becomeBoxOf 38 = .ok (.iload_n 2, 1) := by decide +kernel
theorem dX0_becomeBoxOf_39 : decode cX0_becomeBoxOf 39 = .ok (.invokevirtual 48, 3) := by decide +kernel
theorem dX0_becomeBoxOf_42 : decode cX0_becomeBoxOf 42 = .ok (.iconst 1, 1) := by decide +kernel
theorem dX0_becomeBoxOf_43 : decode cX0_becomeBoxOf 43 = .ok (.ireturn, 1) := by decide +kernel
set_option maxRecDepth 20000 in
theorem ggX0_becomeSecondForm_X1_minus : GoodIn wsX0_becomeSecondForm wsX1_minus := goodIn_r _ [8, 9, 10, 7, 11] (by decide +kernel) (by decide +kernel)
set_option maxRecDepth 20000 in
theorem gX0_becomeSecondForm_X1_minus : GoodIn wsX0_becomeSecondForm (va_wsS RX0 34 yX1_minus wsX1_minus) := goodIn_app (goodIn_of _ (by decide +kernel)) ggX0_becomeSecondForm_X1_minus
set_option maxRecDepth 20000 in
theorem ggX0_becomeSecondForm_X1_plus : GoodIn wsX0_becomeSecondForm wsX1_plus := goodIn_r _ [14, 9, 10, 7, 11] (by decide +kernel) (by decide +kernel)
set_option maxRecDepth 20000 in
theorem gX0_becomeSecondForm_X1_plus : GoodIn wsX0_becomeSecondForm (va_wsS RX0 52 yX1_plus wsX1_plus) := goodIn_app (goodIn_of _ (by decide +kernel)) ggX0_becomeSecondForm_X1_plus
set_option maxRecDepth 20000 in
theorem ggX0_becomeSecondForm_X1_times : GoodIn wsX0_becomeSecondForm wsX1_times := goodIn_r _ [17, 9, 10, 7, 11] (by decide +kernel) (by decide +kernel)
set_option maxRecDepth 20000 in
theorem gX0_becomeSecondForm_X1_times : GoodIn wsX0_becomeSecondForm (va_wsS RX0 28 yX1_times wsX1_times) := goodIn_app (goodIn_of _ (by decide +kernel)) ggX0_becomeSecondForm_X1_times
set_option maxRecDepth 20000 in
theorem ggX0_becomeSecondForm_X0_fill : GoodIn wsX0_becomeSecondForm wsX0_fill := goodIn_r _ [22, 1, 3, 4, 2, 33, 34, 35, 36] (by decide +kernel) (by decide +kernel)
set_option maxRecDepth 20000 in
theorem gX0_becomeSecondForm_X0_fill : GoodIn wsX0_becomeSecondForm (wsV RX0 24 RX0 yX0_fill wsX0_fill) := goodIn_app (goodIn_of _ (by decide +kernel)) ggX0_becomeSecondForm_X0_fill
set_option maxRecDepth 20000 in
theorem ggX0_becomeSecondForm_X0_divideBy : GoodIn wsX0_becomeSecondForm wsX0_divideBy := goodIn_r _ [26, 1, 3, 4, 2, 27, 28, 7, 29, 30, 31, 32, 9, 10, 11, 15, 16, 17, 18, 19, 20, 21, 22, 33, 34, 35, 36] (by decide +kernel) (by decide +kernel)
set_option maxRecDepth 20000 in
theorem gX0_becomeSecondForm_X0_divideBy : GoodIn wsX0_becomeSecondForm (wsV RX0 48 RX0 yX0_divideBy wsX0_divideBy) := goodIn_app (goodIn_of _ (by decide +kernel)) ggX0_becomeSecondForm_X0_divideBy
theorem dX0_becomeSecondForm_0 : decode cX0_becomeSecondForm 0 = .ok (.sipush 10007, 3) := by decide +kernel
theorem dX0_becomeSecondForm_3 : decode cX0_becomeSecondForm 3 = .ok (.aload_n 1, 1) := by decide +kernel
theorem dX0_becomeSecondForm_4 : decode cX0_becomeSecondForm 4 = .ok (.getfield 9, 3) := by decide +kernel
theorem dX0_becomeSecondForm_7 : decode cX0_becomeSecondForm 7 = .ok (.invokestatic 34, 3) := by decide +kernel
theorem dX0_becomeSecondForm_10 : decode cX0_becomeSecondForm 10 = .ok (.istore_n 2, 1) := by decide +kernel
theorem dX0_becomeSecondForm_11 : decode cX0_becomeSecondForm 11 = .ok (.sipush 10007, 3) := by decide +kernel
theorem dX0_becomeSecondForm_14 : decode cX0_becomeSecondForm 14 = .ok (.aload_n 1, 1) := by decide +kernel
theorem dX0_becomeSecondForm_15 : decode cX0_becomeSecondForm 15 = .ok (.getfield 21, 3) := by decide +kernel
theorem dX0_becomeSecondForm_18 : decode cX0_becomeSecondForm 18 = .ok (.invokestatic 34, 3) := by decide +kernel
theorem dX0_becomeSecondForm_21 : decode cX0_becomeSecondForm 21 = .ok (.istore_n 3, 1) := by decide +kernel
theorem dX0_becomeSecondForm_22 : decode cX0_becomeSecondForm 22 = .ok (.sipush 10007, 3) := by decide +kernel
theorem dX0_becomeSecondForm_25 : decode cX0_becomeSecondForm 25 = .ok (.aload_n 1, 1) := by decide +kernel
theorem dX0_becomeSecondForm_26 : decode cX0_becomeSecondForm 26 = .ok (.getfield 9, 3) := by decide +kernel
theorem dX0_becomeSecondForm_29 : decode cX0_becomeSecondForm 29 = .ok (.invokestatic 52, 3) := by decide +kernel
theorem dX0_becomeSecondForm_32 : decode cX0_becomeSecondForm 32 = .ok (.istore 4, 2) := by decide +kernel
theorem dX0_becomeSecondForm_34 : decode cX0_becomeSecondForm 34 = .ok (.sipush 10007, 3) := by decide +kernel
theorem dX0_becomeSecondForm_37 : decode cX0_becomeSecondForm 37 = .ok (.aload_n 1, 1) := by decide +kernel
theorem dX0_becomeSecondForm_38 : decode cX0_becomeSecondForm 38 = .ok (.getfield 21, 3) := by decide +kernel
theorem dX0_becomeSecondForm_41 : decode cX0_becomeSecondForm 41 = .ok (.invokestatic 52, 3) := by decide +kernel
theorem dX0_becomeSecondForm_44 : decode cX0_becomeSecondForm 44 = .ok (.istore 5, 2) := by decide +kernel
theorem dX0_becomeSecondForm_46 : decode cX0_becomeSecondForm 46 = .ok (.aload_n 1, 1) := by decide +kernel
theorem dX0_becomeSecondForm_47 : decode cX0_becomeSecondForm 47 = .ok (.getfield 15, 3) := by decide +kernel
theorem dX0_becomeSecondForm_50 : decode cX0_becomeSecondForm 50 = .ok (.aload_n 1, 1) := by decide +kernel
theorem dX0_becomeSecondForm_51 : decode cX0_becomeSecondForm 51 = .ok (.getfield 18, 3) := by decide +kernel
theorem dX0_becomeSecondForm_54 : decode cX0_becomeSecondForm 54 = .ok (.invokestatic 28, 3) := by decide +kernel
theorem dX0_becomeSecondForm_57 : decode cX0_becomeSecondForm 57 = .ok (.istore 6, 2) := by decide +kernel
theorem dX0_becomeSecondForm_59 : decode cX0_becomeSecondForm 59 = .ok (.iload_n 2, 1) := by decide +kernel
theorem dX0_becomeSecondForm_60 : decode cX0_becomeSecondForm 60 = .ok (.iload_n 3, 1) := by decide +kernel
theorem dX0_becomeSecondForm_61 : decode cX0_becomeSecondForm 61 = .ok (.invokestatic 28, 3) := by decide +kernel
theorem dX0_becomeSecondForm_64 : decode cX0_becomeSecondForm 64 = .ok (.iload 6, 2) := by decide +kernel
theorem dX0_becomeSecondForm_66 : decode cX0_becomeSecondForm 66 = .ok (.invokestatic 34, 3) := by decide +kernel
theorem dX0_becomeSecondForm_69 : decode cX0_becomeSecondForm 69 = .ok (.istore 7, 2) := by decide +kernel
theorem dX0_becomeSecondForm_71 : decode cX0_becomeSecondForm 71 = .ok (.iload 7, 2) := by decide +kernel
theorem dX0_becomeSecondForm_73 : decode cX0_becomeSecondForm 73 = .ok (.ifCond .ne 5, 3) := by decide +kernel
theorem dX0_becomeSecondForm_76 : decode cX0_becomeSecondForm 76 = .ok (.iconst 0, 1) := by decide +kernel
theorem dX0_becomeSecondForm_77 : decode cX0_becomeSecondForm 77 = .ok (.ireturn, 1) := by decide +kernel
theorem dX0_becomeSecondForm_78 : decode cX0_becomeSecondForm 78 = .ok (.aload_n 0, 1) := by decide +kernel
theorem dX0_becomeSecondForm_79 : decode cX0_becomeSecondForm 79 = .ok (.iload 4, 2) := by decide +kernel
theorem dX0_becomeSecondForm_81 : decode cX0_becomeSecondForm 81 = .ok (.iload_n 3, 1) := by decide +kernel
theorem dX0_becomeSecondForm_82 : decode cX0_becomeSecondForm 82 = .ok (.invokestatic 28, 3) := by decide +kernel
theorem dX0_becomeSecondForm_85 : decode cX0_becomeSecondForm 85 = .ok (.iload 6, 2) := by decide +kernel
theorem dX0_becomeSecondForm_87 : decode cX0_becomeSecondForm 87 = .ok (.invokestatic 52, 3) := by decide +kernel
theorem dX0_becomeSecondForm_90 : decode cX0_becomeSecondForm 90 = .ok (.sipush 20014, 3) := by decide +kernel
theorem dX0_becomeSecondForm_93 : decode cX0_becomeSecondForm 93 = .ok (.aload_n 1, 1) := by decide +kernel
theorem dX0_becomeSecondForm_94 : decode cX0_becomeSecondForm 94 = .ok (.getfield 15, 3) := by decide +kernel
theorem dX0_becomeSecondForm_97 : decode cX0_becomeSecondForm 97 = .ok (.invokestatic 28, 3) := by decide +kernel
theorem dX0_becomeSecondForm_100 : decode cX0_becomeSecondForm 100 = .ok (.sipush 20014, 3) := by decide +kernel
theorem dX0_becomeSecondForm_103 : decode cX0_becomeSecondForm 103 = .ok (.aload_n 1, 1) := by decide +kernel
theorem dX0_becomeSecondForm_104 : decode cX0_becomeSecondForm 104 = .ok (.getfield 18, 3) := by decide +kernel
theorem dX0_becomeSecondForm_107 : decode cX0_becomeSecondForm 107 = .ok (.invokestatic 28, 3) := by decide +kernel
theorem dX0_becomeSecondForm_110 : decode cX0_becomeSecondForm 110 = .ok (.iload_n 2, 1) := by decide +kernel
theorem dX0_becomeSecondForm_111 : decode cX0_becomeSecondForm 111 = .ok (.iload 5, 2) := by decide +kernel
theorem dX0_becomeSecondForm_113 : decode cX0_becomeSecondForm 113 = .ok (.invokestatic 28, 3) := by decide +kernel
theorem dX0_becomeSecondForm_116 : decode cX0_becomeSecondForm 116 = .ok (.iload 6, 2) := by decide +kernel
theorem dX0_becomeSecondForm_118 : decode cX0_becomeSecondForm 118 = .ok (.invokestatic 52, 3) := by decide +kernel
theorem dX0_becomeSecondForm_121 : decode cX0_becomeSecondForm 121 = .ok (.invokevirtual 24, 3) := by decide +kernel
theorem dX0_becomeSecondForm_124 : decode cX0_becomeSecondForm 124 = .ok (.aload_n 0, 1) := by decide +kernel
theorem dX0_becomeSecondForm_125 : decode cX0_becomeSecondForm 125 = .ok (.iload 7, 2) := by decide +kernel
theorem dX0_becomeSecondForm_127 : decode cX0_becomeSecondForm 127 = .ok (.invokevirtual 48, 3) := by decide +kernel
theorem dX0_becomeSecondForm_130 : decode cX0_becomeSecondForm 130 = .ok (.iconst 1, 1) := by decide +kernel
theorem dX0_becomeSecondForm_131 : decode cX0_becomeSecondForm 131 = .ok (.ireturn, 1) := by decide +kernel
set_option maxRecDepth 20000 in
theorem ggX1_isGiven_X5_isBelow : GoodIn wsX1_isGiven wsX5_isBelow := goodIn_r _ [3] (by decide +kernel) (by decide +kernel)
set_option maxRecDepth 20000 in
theorem gX1_isGiven_X5_isBelow_n9 : GoodIn wsX1_isGiven (wsX5_isBelow) := ggX1_isGiven_X5_isBelow
theorem dX1_isGiven_0 : decode cX1_isGiven 0 = .ok (.iload_n 0, 1) := by decide +kernel
theorem dX1_isGiven_1 : decode cX1_isGiven 1 = .ok (.sipush 10007, 3) := by decide +kernel
theorem dX1_isGiven_4 : decode cX1_isGiven 4 = .ok (.invokestatic 9, 3) := by decide +kernel
theorem dX1_isGiven_7 : decode cX1_isGiven 7 = .ok (.ifCond .eq 17, 3) := by decide +kernel
theorem dX1_isGiven_10 : decode cX1_isGiven 10 = .ok (.iload_n 1, 1) := by decide +kernel
theorem dX1_isGiven_11 : decode cX1_isGiven 11 = .ok (.sipush 10007, 3) := by decide +kernel
theorem dX1_isGiven_14 : decode cX1_isGiven 14 = .ok (.invokestatic 9, 3) := by decide +kernel
theorem dX1_isGiven_17 : decode cX1_isGiven 17 = .ok (.ifCond .eq 7, 3) := by decide +kernel
theorem dX1_isGiven_20 : decode cX1_isGiven 20 = .ok (.iconst 1, 1) := by decide +kernel
theorem dX1_isGiven_21 : decode cX1_isGiven 21 = .ok (.goto 4, 3) := by decide +kernel
theorem dX1_isGiven_24 : decode cX1_isGiven 24 = .ok (.iconst 0, 1) := by decide +kernel
theorem dX1_isGiven_25 : decode cX1_isGiven 25 = .ok (.ireturn, 1) := by decide +kernel
theorem dX1_made_0 : decode cX1_made 0 = .ok (.iload_n 0, 1) := by decide +kernel
theorem dX1_made_1 : decode cX1_made 1 = .ok (.sipush 10007, 3) := by decide +kernel
theorem dX1_made_4 : decode cX1_made 4 = .ok (.irem, 1) := by decide +kernel
theorem dX1_made_5 : decode cX1_made 5 = .ok (.istore_n 2, 1) := by decide +kernel
theorem dX1_made_6 : decode cX1_made 6 = .ok (.iload_n 1, 1) := by decide +kernel
theorem dX1_made_7 : decode cX1_made 7 = .ok (.sipush 10007, 3) := by decide +kernel
theorem dX1_made_10 : decode cX1_made 10 = .ok (.irem, 1) := by decide +kernel
theorem dX1_made_11 : decode cX1_made 11 = .ok (.istore_n 3, 1) := by decide +kernel
theorem dX1_made_12 : decode cX1_made 12 = .ok (.sipush 10007, 3) := by decide +kernel
theorem dX1_made_15 : decode cX1_made 15 = .ok (.iload_n 2, 1) := by decide +kernel
theorem dX1_made_16 : decode cX1_made 16 = .ok (.ifCond .ge 11, 3) := by decide +kernel
theorem dX1_made_19 : decode cX1_made 19 = .ok (.iload_n 2, 1) := by decide +kernel
theorem dX1_made_20 : decode cX1_made 20 = .ok (.sipush 10007, 3) := by decide +kernel
theorem dX1_made_23 : decode cX1_made 23 = .ok (.iadd, 1) := by decide +kernel
theorem dX1_made_24 : decode cX1_made 24 = .ok (.goto 4, 3) := by decide +kernel
theorem dX1_made_27 : decode cX1_made 27 = .ok (.iload_n 2, 1) := by decide +kernel
theorem dX1_made_28 : decode cX1_made 28 = .ok (.imul, 1) := by decide +kernel
theorem dX1_made_29 : decode cX1_made 29 = .ok (.iload_n 3, 1) := by decide +kernel
theorem dX1_made_30 : decode cX1_made 30 = .ok (.ifCond .ge 11, 3) := by decide +kernel
theorem dX1_made_33 : decode cX1_made 33 = .ok (.iload_n 3, 1) := by decide +kernel
theorem dX1_made_34 : decode cX1_made 34 = .ok (.sipush 10007, 3) := by decide +kernel
theorem dX1_made_37 : decode cX1_made 37 = .ok (.iadd, 1) := by decide +kernel
theorem dX1_made_38 : decode cX1_made 38 = .ok (.goto 4, 3) := by decide +kernel
theorem dX1_made_41 : decode cX1_made 41 = .ok (.iload_n 3, 1) := by decide +kernel
theorem dX1_made_42 : decode cX1_made 42 = .ok (.iadd, 1) := by decide +kernel
theorem dX1_made_43 : decode cX1_made 43 = .ok (.ireturn, 1) := by decide +kernel
set_option maxRecDepth 20000 in
theorem ggX1_plus_X1_made : GoodIn wsX1_plus wsX1_made := goodIn_r _ [4] (by decide +kernel) (by decide +kernel)
set_option maxRecDepth 20000 in
theorem gX1_plus_X1_made : GoodIn wsX1_plus (va_wsS RX1 13 yX1_made wsX1_made) := goodIn_app (goodIn_of _ (by decide +kernel)) ggX1_plus_X1_made
theorem dX1_plus_0 : decode cX1_plus 0 = .ok (.iload_n 0, 1) := by decide +kernel
theorem dX1_plus_1 : decode cX1_plus 1 = .ok (.sipush 10007, 3) := by decide +kernel
theorem dX1_plus_4 : decode cX1_plus 4 = .ok (.idiv, 1) := by decide +kernel
theorem dX1_plus_5 : decode cX1_plus 5 = .ok (.iload_n 1, 1) := by decide +kernel
theorem dX1_plus_6 : decode cX1_plus 6 = .ok (.sipush 10007, 3) := by decide +kernel
theorem dX1_plus_9 : decode cX1_plus 9 = .ok (.idiv, 1) := by decide +kernel
theorem dX1_plus_10 : decode cX1_plus 10 = .ok (.iadd, 1) := by decide +kernel
theorem dX1_plus_11 : decode cX1_plus 11 = .ok (.iload_n 0, 1) := by decide +kernel
theorem dX1_plus_12 : decode cX1_plus 12 = .ok (.sipush 10007, 3) := by decide +kernel
theorem dX1_plus_15 : decode cX1_plus 15 = .ok (.irem, 1) := by decide +kernel
theorem dX1_plus_16 : decode cX1_plus 16 = .ok (.iload_n 1, 1) := by decide +kernel
theorem dX1_plus_17 : decode cX1_plus 17 = .ok (.sipush 10007, 3) := by decide +kernel
theorem dX1_plus_20 : decode cX1_plus 20 = .ok (.irem, 1) := by decide +kernel
theorem dX1_plus_21 : decode cX1_plus 21 = .ok (.iadd, 1) := by decide +kernel
theorem dX1_plus_22 : decode cX1_plus 22 = .ok (.invokestatic 13, 3) := by decide +kernel
theorem dX1_plus_25 : decode cX1_plus 25 = .ok (.ireturn, 1) := by decide +kernel
set_option maxRecDepth 20000 in
theorem ggX1_minus_X1_made : GoodIn wsX1_minus wsX1_made := goodIn_r _ [4] (by decide +kernel) (by decide +kernel)
set_option maxRecDepth 20000 in
theorem gX1_minus_X1_made : GoodIn wsX1_minus (va_wsS RX1 13 yX1_made wsX1_made) := goodIn_app (goodIn_of _ (by decide +kernel)) ggX1_minus_X1_made
theorem dX1_minus_0 : decode cX1_minus 0 = .ok (.iload_n 0, 1) := by decide +kernel
theorem dX1_minus_1 : decode cX1_minus 1 = .ok (.sipush 10007, 3) := by decide +kernel
theorem dX1_minus_4 : decode cX1_minus 4 = .ok (.idiv, 1) := by decide +kernel
theorem dX1_minus_5 : decode cX1_minus 5 = .ok (.iload_n 1, 1) := by decide +kernel
theorem dX1_minus_6 : decode cX1_minus 6 = .ok (.sipush 10007, 3) := by decide +kernel
theorem dX1_minus_9 : decode cX1_minus 9 = .ok (.idiv, 1) := by decide +kernel
theorem dX1_minus_10 : decode cX1_minus 10 = .ok (.isub, 1) := by decide +kernel
theorem dX1_minus_11 : decode cX1_minus 11 = .ok (.iload_n 0, 1) := by decide +kernel
theorem dX1_minus_12 : decode cX1_minus 12 = .ok (.sipush 10007, 3) := by decide +kernel
theorem dX1_minus_15 : decode cX1_minus 15 = .ok (.irem, 1) := by decide +kernel
theorem dX1_minus_16 : decode cX1_minus 16 = .ok (.iload_n 1, 1) := by decide +kernel
theorem dX1_minus_17 : decode cX1_minus 17 = .ok (.sipush 10007, 3) := by decide +kernel
theorem dX1_minus_20 : decode cX1_minus 20 = .ok (.irem, 1) := by decide +kernel
theorem dX1_minus_21 : decode cX1_minus 21 = .ok (.isub, 1) := by decide +kernel
theorem dX1_minus_22 : decode cX1_minus 22 = .ok (.invokestatic 13, 3) := by decide +kernel
theorem dX1_minus_25 : decode cX1_minus 25 = .ok (.ireturn, 1) := by decide +kernel
set_option maxRecDepth 20000 in
theorem ggX1_times_X1_made : GoodIn wsX1_times wsX1_made := goodIn_r _ [4] (by decide +kernel) (by decide +kernel)
set_option maxRecDepth 20000 in
theorem gX1_times_X1_made : GoodIn wsX1_times (va_wsS RX1 13 yX1_made wsX1_made) := goodIn_app (goodIn_of _ (by decide +kernel)) ggX1_times_X1_made
theorem dX1_times_0 : decode cX1_times 0 = .ok (.iload_n 0, 1) := by decide +kernel
theorem dX1_times_1 : decode cX1_times 1 = .ok (.sipush 10007, 3) := by decide +kernel
theorem dX1_times_4 : decode cX1_times 4 = .ok (.idiv, 1) := by decide +kernel
theorem dX1_times_5 : decode cX1_times 5 = .ok (.istore_n 2, 1) := by decide +kernel
theorem dX1_times_6 : decode cX1_times 6 = .ok (.iload_n 0, 1) := by decide +kernel
theorem dX1_times_7 : decode cX1_times 7 = .ok (.sipush 10007, 3) := by decide +kernel
theorem dX1_times_10 : decode cX1_times 10 = .ok (.irem, 1) := by decide +kernel
theorem dX1_times_11 : decode cX1_times 11 = .ok (.istore_n 3, 1) := by decide +kernel
theorem dX1_times_12 : decode cX1_times 12 = .ok (.iload_n 1, 1) := by decide +kernel
theorem dX1_times_13 : decode cX1_times 13 = .ok (.sipush 10007, 3) := by decide +kernel
theorem dX1_times_16 : decode cX1_times 16 = .ok (.idiv, 1) := by decide +kernel
theorem dX1_times_17 : decode cX1_times 17 = .ok (.istore 4, 2) := by decide +kernel
theorem dX1_times_19 : decode cX1_times 19 = .ok (.iload_n 1, 1) := by decide +kernel
theorem dX1_times_20 : decode cX1_times 20 = .ok (.sipush 10007, 3) := by decide +kernel
theorem dX1_times_23 : decode cX1_times 23 = .ok (.irem, 1) := by decide +kernel
theorem dX1_times_24 : decode cX1_times 24 = .ok (.istore 5, 2) := by decide +kernel
theorem dX1_times_26 : decode cX1_times 26 = .ok (.iload_n 2, 1) := by decide +kernel
theorem dX1_times_27 : decode cX1_times 27 = .ok (.iload 4, 2) := by decide +kernel
theorem dX1_times_29 : decode cX1_times 29 = .ok (.imul, 1) := by decide +kernel
theorem dX1_times_30 : decode cX1_times 30 = .ok (.iload_n 3, 1) := by decide +kernel
theorem dX1_times_31 : decode cX1_times 31 = .ok (.iload 5, 2) := by decide +kernel
theorem dX1_times_33 : decode cX1_times 33 = .ok (.imul, 1) := by decide +kernel
theorem dX1_times_34 : decode cX1_times 34 = .ok (.isub, 1) := by decide +kernel
theorem dX1_times_35 : decode cX1_times 35 = .ok (.iload_n 2, 1) := by decide +kernel
theorem dX1_times_36 : decode cX1_times 36 = .ok (.iload 5, 2) := by decide +kernel
theorem dX1_times_38 : decode cX1_times 38 = .ok (.imul, 1) := by decide +kernel
theorem dX1_times_39 : decode cX1_times 39 = .ok (.iload_n 3, 1) := by decide +kernel
theorem dX1_times_40 : decode cX1_times 40 = .ok (.iload 4, 2) := by decide +kernel
theorem dX1_times_42 : decode cX1_times 42 = .ok (.imul, 1) := by decide +kernel
theorem dX1_times_43 : decode cX1_times 43 = .ok (.iadd, 1) := by decide +kernel
theorem dX1_times_44 : decode cX1_times 44 = .ok (.invokestatic 13, 3) := by decide +kernel
theorem dX1_times_47 : decode cX1_times 47 = .ok (.ireturn, 1) := by decide +kernel
set_option maxRecDepth 20000 in
theorem ggX1_other_X1_made : GoodIn wsX1_other wsX1_made := goodIn_r _ [4] (by decide +kernel) (by decide +kernel)
set_option maxRecDepth 20000 in
theorem gX1_other_X1_made : GoodIn wsX1_other (va_wsS RX1 13 yX1_made wsX1_made) := goodIn_app (goodIn_of _ (by decide +kernel)) ggX1_other_X1_made
theorem dX1_other_0 : decode cX1_other 0 = .ok (.iload_n 0, 1) := by decide +kernel
theorem dX1_other_1 : decode cX1_other 1 = .ok (.sipush 10007, 3) := by decide +kernel
theorem dX1_other_4 : decode cX1_other 4 = .ok (.idiv, 1) := by decide +kernel
theorem dX1_other_5 : decode cX1_other 5 = .ok (.iload_n 0, 1) := by decide +kernel
theorem dX1_other_6 : decode cX1_other 6 = .ok (.sipush 10007, 3) := by decide +kernel
theorem dX1_other_9 : decode cX1_other 9 = .ok (.irem, 1) := by decide +kernel
theorem dX1_other_10 : decode cX1_other 10 = .ok (.ineg, 1) := by decide +kernel
theorem dX1_other_11 : decode cX1_other 11 = .ok (.invokestatic 13, 3) := by decide +kernel
theorem dX1_other_14 : decode cX1_other 14 = .ok (.ireturn, 1) := by decide +kernel
set_option maxRecDepth 20000 in
theorem ggX1_pairs_X1_times : GoodIn wsX1_pairs wsX1_times := goodIn_r _ [4, 5, 6, 3, 7] (by decide +kernel) (by decide +kernel)
set_option maxRecDepth 20000 in
theorem gX1_pairs_X1_times : GoodIn wsX1_pairs (va_wsS RX1 19 yX1_times wsX1_times) := goodIn_app (goodIn_of _ (by decide +kernel)) ggX1_pairs_X1_times
set_option maxRecDepth 20000 in
theorem ggX1_pairs_X1_plus : GoodIn wsX1_pairs wsX1_plus := goodIn_r _ [10, 5, 6, 3, 7] (by decide +kernel) (by decide +kernel)
set_option maxRecDepth 20000 in
theorem gX1_pairs_X1_plus : GoodIn wsX1_pairs (va_wsS RX1 22 yX1_plus wsX1_plus) := goodIn_app (goodIn_of _ (by decide +kernel)) ggX1_pairs_X1_plus
theorem dX1_pairs_0 : decode cX1_pairs 0 = .ok (.iload_n 0, 1) := by decide +kernel
theorem dX1_pairs_1 : decode cX1_pairs 1 = .ok (.iload_n 1, 1) := by decide +kernel
theorem dX1_pairs_2 : decode cX1_pairs 2 = .ok (.invokestatic 19, 3) := by decide +kernel
theorem dX1_pairs_5 : decode cX1_pairs 5 = .ok (.iload_n 2, 1) := by decide +kernel
theorem dX1_pairs_6 : decode cX1_pairs 6 = .ok (.iload_n 3, 1) := by decide +kernel
theorem dX1_pairs_7 : decode cX1_pairs 7 = .ok (.invokestatic 19, 3) := by decide +kernel
theorem dX1_pairs_10 : decode cX1_pairs 10 = .ok (.invokestatic 22, 3) := by decide +kernel
theorem dX1_pairs_13 : decode cX1_pairs 13 = .ok (.ireturn, 1) := by decide +kernel
set_option maxRecDepth 20000 in
theorem ggX1_over_X1_inverted : GoodIn wsX1_over wsX1_inverted := goodIn_r _ [4] (by decide +kernel) (by decide +kernel)
set_option maxRecDepth 20000 in
theorem gX1_over_X1_inverted : GoodIn wsX1_over (va_wsS RX1 25 yX1_inverted wsX1_inverted) := goodIn_app (goodIn_of _ (by decide +kernel)) ggX1_over_X1_inverted
set_option maxRecDepth 20000 in
theorem ggX1_over_X1_made : GoodIn wsX1_over wsX1_made := goodIn_r _ [7] (by decide +kernel) (by decide +kernel)
set_option maxRecDepth 20000 in
theorem gX1_over_X1_made : GoodIn wsX1_over (va_wsS RX1 13 yX1_made wsX1_made) := goodIn_app (goodIn_of _ (by decide +kernel)) ggX1_over_X1_made
theorem dX1_over_0 : decode cX1_over 0 = .ok (.iload_n 1, 1) := by decide +kernel
theorem dX1_over_1 : decode cX1_over 1 = .ok (.sipush 10007, 3) := by decide +kernel
theorem dX1_over_4 : decode cX1_over 4 = .ok (.idiv, 1) := by decide +kernel
theorem dX1_over_5 : decode cX1_over 5 = .ok (.istore_n 2, 1) := by decide +kernel
theorem dX1_over_6 : decode cX1_over 6 = .ok (.iload_n 1, 1) := by decide +kernel
theorem dX1_over_7 : decode cX1_over 7 = .ok (.sipush 10007, 3) := by decide +kernel
theorem dX1_over_10 : decode cX1_over 10 = .ok (.irem, 1) := by decide +kernel
theorem dX1_over_11 : decode cX1_over 11 = .ok (.istore_n 3, 1) := by decide +kernel
theorem dX1_over_12 : decode cX1_over 12 = .ok (.iload_n 2, 1) := by decide +kernel
theorem dX1_over_13 : decode cX1_over 13 = .ok (.iload_n 2, 1) := by decide +kernel
theorem dX1_over_14 : decode cX1_over 14 = .ok (.imul, 1) := by decide +kernel
theorem dX1_over_15 : decode cX1_over 15 = .ok (.iload_n 3, 1) := by decide +kernel
theorem dX1_over_16 : decode cX1_over 16 = .ok (.iload_n 3, 1) := by decide +kernel
theorem dX1_over_17 : decode cX1_over 17 = .ok (.imul, 1) := by decide +kernel
theorem dX1_over_18 : decode cX1_over 18 = .ok (.iadd, 1) := by decide +kernel
theorem dX1_over_19 : decode cX1_over 19 = .ok (.sipush 10007, 3) := by decide +kernel
theorem dX1_over_22 : decode cX1_over 22 = .ok (.irem, 1) := by decide +kernel
theorem dX1_over_23 : decode cX1_over 23 = .ok (.invokestatic 25, 3) := by decide +kernel
theorem dX1_over_26 : decode cX1_over 26 = .ok (.istore 4, 2) := by decide +kernel
theorem dX1_over_28 : decode cX1_over 28 = .ok (.iload_n 2, 1) := by decide +kernel
theorem dX1_over_29 : decode cX1_over 29 = .ok (.iload 4, 2) := by decide +kernel
theorem dX1_over_31 : decode cX1_over 31 = .ok (.imul, 1) := by decide +kernel
theorem dX1_over_32 : decode cX1_over 32 = .ok (.sipush 10007, 3) := by decide +kernel
theorem dX1_over_35 : decode cX1_over 35 = .ok (.irem, 1) := by decide +kernel
theorem dX1_over_36 : decode cX1_over 36 = .ok (.istore 5, 2) := by decide +kernel
theorem dX1_over_38 : decode cX1_over 38 = .ok (.iload_n 3, 1) := by decide +kernel
theorem dX1_over_39 : decode cX1_over 39 = .ok (.iload 4, 2) := by decide +kernel
theorem dX1_over_41 : decode cX1_over 41 = .ok (.imul, 1) := by decide +kernel
theorem dX1_over_42 : decode cX1_over 42 = .ok (.sipush 10007, 3) := by decide +kernel
theorem dX1_over_45 : decode cX1_over 45 = .ok (.irem, 1) := by decide +kernel
theorem dX1_over_46 : decode cX1_over 46 = .ok (.istore 6, 2) := by decide +kernel
theorem dX1_over_48 : decode cX1_over 48 = .ok (.iload_n 0, 1) := by decide +kernel
theorem dX1_over_49 : decode cX1_over 49 = .ok (.sipush 10007, 3) := by decide +kernel
theorem dX1_over_52 : decode cX1_over 52 = .ok (.idiv, 1) := by decide +kernel
theorem dX1_over_53 : decode cX1_over 53 = .ok (.istore 7, 2) := by decide +kernel
theorem dX1_over_55 : decode cX1_over 55 = .ok (.iload_n 0, 1) := by decide +kernel
theorem dX1_over_56 : decode cX1_over 56 = .ok (.sipush 10007, 3) := by decide +kernel
theorem dX1_over_59 : decode cX1_over 59 = .ok (.irem, 1) := by decide +kernel
theorem dX1_over_60 : decode cX1_over 60 = .ok (.istore 8, 2) := by decide +kernel
theorem dX1_over_62 : decode cX1_over 62 = .ok (.iload 7, 2) := by decide +kernel
theorem dX1_over_64 : decode cX1_over 64 = .ok (.iload 5, 2) := by decide +kernel
theorem dX1_over_66 : decode cX1_over 66 = .ok (.imul, 1) := by decide +kernel
theorem dX1_over_67 : decode cX1_over 67 = .ok (.iload 8, 2) := by decide +kernel
theorem dX1_over_69 : decode cX1_over 69 = .ok (.iload 6, 2) := by decide +kernel
theorem dX1_over_71 : decode cX1_over 71 = .ok (.imul, 1) := by decide +kernel
theorem dX1_over_72 : decode cX1_over 72 = .ok (.iadd, 1) := by decide +kernel
theorem dX1_over_73 : decode cX1_over 73 = .ok (.iload 8, 2) := by decide +kernel
theorem dX1_over_75 : decode cX1_over 75 = .ok (.iload 5, 2) := by decide +kernel
theorem dX1_over_77 : decode cX1_over 77 = .ok (.imul, 1) := by decide +kernel
theorem dX1_over_78 : decode cX1_over 78 = .ok (.iload 7, 2) := by decide +kernel
theorem dX1_over_80 : decode cX1_over 80 = .ok (.iload 6, 2) := by decide +kernel
theorem dX1_over_82 : decode cX1_over 82 = .ok (.imul, 1) := by decide +kernel
theorem dX1_over_83 : decode cX1_over 83 = .ok (.isub, 1) := by decide +kernel
theorem dX1_over_84 : decode cX1_over 84 = .ok (.invokestatic 13, 3) := by decide +kernel
theorem dX1_over_87 : decode cX1_over 87 = .ok (.ireturn, 1) := by decide +kernel
theorem dX1_inverted_0 : decode cX1_inverted 0 = .ok (.iload_n 0, 1) := by decide +kernel
theorem dX1_inverted_1 : decode cX1_inverted 1 = .ok (.istore_n 1, 1) := by decide +kernel
theorem dX1_inverted_2 : decode cX1_inverted 2 = .ok (.iconst 1, 1) := by decide +kernel
theorem dX1_inverted_3 : decode cX1_inverted 3 = .ok (.istore_n 2, 1) := by decide +kernel
theorem dX1_inverted_4 : decode cX1_inverted 4 = .ok (.sipush 10005, 3) := by decide +kernel
theorem dX1_inverted_7 : decode cX1_inverted 7 = .ok (.istore_n 3, 1) := by decide +kernel
theorem dX1_inverted_8 : decode cX1_inverted 8 = .ok (.iload_n 3, 1) := by decide +kernel
theorem dX1_inverted_9 : decode cX1_inverted 9 = .ok (.ifCond .le 33, 3) := by decide +kernel
theorem dX1_inverted_12 : decode cX1_inverted 12 = .ok (.iload_n 3, 1) := by decide +kernel
theorem dX1_inverted_13 : decode cX1_inverted 13 = .ok (.iconst 2, 1) := by decide +kernel
theorem dX1_inverted_14 : decode cX1_inverted 14 = .ok (.irem, 1) := by decide +kernel
theorem dX1_inverted_15 : decode cX1_inverted 15 = .ok (.iconst 1, 1) := by decide +kernel
theorem dX1_inverted_16 : decode cX1_inverted 16 = .ok (.if_icmp .ne 11, 3) := by decide +kernel
theorem dX1_inverted_19 : decode cX1_inverted 19 = .ok (.iload_n 2, 1) := by decide +kernel
theorem dX1_inverted_20 : decode cX1_inverted 20 = .ok (.iload_n 1, 1) := by decide +kernel
theorem dX1_inverted_21 : decode cX1_inverted 21 = .ok (.imul, 1) := by decide +kernel
theorem dX1_inverted_22 : decode cX1_inverted 22 = .ok (.sipush 10007, 3) := by decide +kernel
theorem dX1_inverted_25 : decode cX1_inverted 25 = .ok (.irem, 1) := by decide +kernel
theorem dX1_inverted_26 : decode cX1_inverted 26 = .ok (.istore_n 2, 1) := by decide +kernel
theorem dX1_inverted_27 : decode cX1_inverted 27 = .ok (.iload_n 1, 1) := by decide +kernel
theorem dX1_inverted_28 : decode cX1_inverted 28 = .ok (.iload_n 1, 1) := by decide +kernel
theorem dX1_inverted_29 : decode cX1_inverted 29 = .ok (.imul, 1) := by decide +kernel
theorem dX1_inverted_30 : decode cX1_inverted 30 = .ok (.sipush 10007, 3) := by decide +kernel
theorem dX1_inverted_33 : decode cX1_inverted 33 = .ok (.irem, 1) := by decide +kernel
theorem dX1_inverted_34 : decode cX1_inverted 34 = .ok (.istore_n 1, 1) := by decide +kernel
theorem dX1_inverted_35 : decode cX1_inverted 35 = .ok (.iload_n 3, 1) := by decide +kernel
theorem dX1_inverted_36 : decode cX1_inverted 36 = .ok (.iconst 2, 1) := by decide +kernel
theorem dX1_inverted_37 : decode cX1_inverted 37 = .ok (.idiv, 1) := by decide +kernel
theorem dX1_inverted_38 : decode cX1_inverted 38 = .ok (.istore_n 3, 1) := by decide +kernel
theorem dX1_inverted_39 : decode cX1_inverted 39 = .ok (.goto (-31), 3) := by decide +kernel
theorem dX1_inverted_42 : decode cX1_inverted 42 = .ok (.iload_n 2, 1) := by decide +kernel
theorem dX1_inverted_43 : decode cX1_inverted 43 = .ok (.ireturn, 1) := by decide +kernel
set_option maxRecDepth 20000 in
theorem ggX2_init_X0_init : GoodIn wsX2_init wsX0_init := goodIn_r _ [12, 13, 2, 3] (by decide +kernel) (by decide +kernel)
set_option maxRecDepth 20000 in
theorem gX2_init_X0_init_n17 : GoodIn wsX2_init (wsX0_init) := ggX2_init_X0_init
theorem dX2_init_0 : decode cX2_init 0 = .ok (.aload_n 0, 1) := by decide +kernel
theorem dX2_init_1 : decode cX2_init 1 = .ok (.invokespecial 3, 3) := by decide +kernel
theorem dX2_init_4 : decode cX2_init 4 = .ok (.aload_n 0, 1) := by decide +kernel
theorem dX2_init_5 : decode cX2_init 5 = .ok (.bipush 8, 2) := by decide +kernel
theorem dX2_init_7 : decode cX2_init 7 = .ok (.anewarray 9, 3) := by decide +kernel
theorem dX2_init_10 : decode cX2_init 10 = .ok (.putfield 11, 3) := by decide +kernel
theorem dX2_init_13 : decode cX2_init 13 = .ok (.iconst 0, 1) := by decide +kernel
theorem dX2_init_14 : decode cX2_init 14 = .ok (.istore_n 1, 1) := by decide +kernel
theorem dX2_init_15 : decode cX2_init 15 = .ok (.iload_n 1, 1) := by decide +kernel
theorem dX2_init_16 : decode cX2_init 16 = .ok (.bipush 8, 2) := by decide +kernel
theorem dX2_init_18 : decode cX2_init 18 = .ok (.if_icmp .ge 22, 3) := by decide +kernel
theorem dX2_init_21 : decode cX2_init 21 = .ok (.aload_n 0, 1) := by decide +kernel
theorem dX2_init_22 : decode cX2_init 22 = .ok (.getfield 11, 3) := by decide +kernel
theorem dX2_init_25 : decode cX2_init 25 = .ok (.iload_n 1, 1) := by decide +kernel
theorem dX2_init_26 : decode cX2_init 26 = .ok (.new 9, 3) := by decide +kernel
theorem dX2_init_29 : decode cX2_init 29 = .ok (.dup, 1) := by decide +kernel
theorem dX2_init_30 : decode cX2_init 30 = .ok (.invokespecial 17, 3) := by decide +kernel
theorem dX2_init_33 : decode cX2_init 33 = .ok (.aastore, 1) := by decide +kernel
theorem dX2_init_34 : decode cX2_init 34 = .ok (.iinc 1 1, 3) := by decide +kernel
theorem dX2_init_37 : decode cX2_init 37 = .ok (.goto (-22), 3) := by decide +kernel
theorem dX2_init_40 : decode cX2_init 40 = .ok (.aload_n 0, 1) := by decide +kernel
theorem dX2_init_41 : decode cX2_init 41 = .ok (.bipush 12, 2) := by decide +kernel
theorem dX2_init_43 : decode cX2_init 43 = .ok (.newarray .int, 2) := by decide +kernel
theorem dX2_init_45 : decode cX2_init 45 = .ok (.putfield 18, 3) := by decide +kernel
theorem dX2_init_48 : decode cX2_init 48 = .ok (.iconst 2, 1) := by decide +kernel
theorem dX2_init_49 : decode cX2_init 49 = .ok (.istore_n 1, 1) := by decide +kernel
theorem dX2_init_50 : decode cX2_init 50 = .ok (.iload_n 1, 1) := by decide +kernel
theorem dX2_init_51 : decode cX2_init 51 = .ok (.bipush 12, 2) := by decide +kernel
theorem dX2_init_53 : decode cX2_init 53 = .ok (.if_icmp .ge 18, 3) := by decide +kernel
theorem dX2_init_56 : decode cX2_init 56 = .ok (.aload_n 0, 1) := by decide +kernel
theorem dX2_init_57 : decode cX2_init 57 = .ok (.getfield 18, 3) := by decide +kernel
theorem dX2_init_60 : decode cX2_init 60 = .ok (.iload_n 1, 1) := by decide +kernel
theorem dX2_init_61 : decode cX2_init 61 = .ok (.sipush 10007, 3) := by decide +kernel
theorem dX2_init_64 : decode cX2_init 64 = .ok (.iastore, 1) := by decide +kernel
theorem dX2_init_65 : decode cX2_init 65 = .ok (.iinc 1 3, 3) := by decide +kernel
theorem dX2_init_68 : decode cX2_init 68 = .ok (.goto (-18), 3) := by decide +kernel
theorem dX2_init_71 : decode cX2_init 71 = .ok (.aload_n 0, 1) := by decide +kernel
theorem dX2_init_72 : decode cX2_init 72 = .ok (.bipush 12, 2) := by decide +kernel
theorem dX2_init_74 : decode cX2_init 74 = .ok (.newarray .int, 2) := by decide +kernel
theorem dX2_init_76 : decode cX2_init 76 = .ok (.putfield 22, 3) := by decide +kernel
theorem dX2_init_79 : decode cX2_init 79 = .ok (.return_, 1) := by decide +kernel
set_option maxRecDepth 20000 in
theorem ggX2_copyFrom_X0_copyFrom : GoodIn wsX2_copyFrom wsX0_copyFrom := goodIn_r _ [14, 15, 16, 17, 18, 19, 20, 21, 13, 22, 28, 29, 30, 31] (by decide +kernel) (by decide +kernel)
set_option maxRecDepth 20000 in
theorem gX2_copyFrom_X0_copyFrom : GoodIn wsX2_copyFrom (wsV RX2 25 RX0 yX0_copyFrom wsX0_copyFrom) := goodIn_app (goodIn_of _ (by decide +kernel)) ggX2_copyFrom_X0_copyFrom
theorem dX2_copyFrom_0 : decode cX2_copyFrom 0 = .ok (.iconst 0, 1) := by decide +kernel
theorem dX2_copyFrom_1 : decode cX2_copyFrom 1 = .ok (.istore_n 2, 1) := by decide +kernel
theorem dX2_copyFrom_2 : decode cX2_copyFrom 2 = .ok (.iload_n 2, 1) := by decide +kernel
theorem dX2_copyFrom_3 : decode cX2_copyFrom 3 = .ok (.bipush 8, 2) := by decide +kernel
theorem dX2_copyFrom_5 : decode cX2_copyFrom 5 = .ok (.if_icmp .ge 24, 3) := by decide +kernel
theorem dX2_copyFrom_8 : decode cX2_copyFrom 8 = .ok (.aload_n 0, 1) := by decide +kernel
theorem dX2_copyFrom_9 : decode cX2_copyFrom 9 = .ok (.getfield 11, 3) := by decide +kernel
theorem dX2_copyFrom_12 : decode cX2_copyFrom 12 = .ok (.iload_n 2, 1) := by decide +kernel
theorem dX2_copyFrom_13 : decode cX2_copyFrom 13 = .ok (.aaload, 1) := by decide +kernel
theorem dX2_copyFrom_14 : decode cX2_copyFrom 14 = .ok (.aload_n 1, 1) := by decide +kernel
theorem dX2_copyFrom_15 : decode cX2_copyFrom 15 = .ok (.getfield 11, 3) := by decide +kernel
theorem dX2_copyFrom_18 : decode cX2_copyFrom 18 = .ok (.iload_n 2, 1) := by decide +kernel
theorem dX2_copyFrom_19 : decode cX2_copyFrom 19 = .ok (.aaload, 1) := by decide +kernel
theorem dX2_copyFrom_20 : decode cX2_copyFrom 20 = .ok (.invokevirtual 25, 3) := by decide +kernel
theorem dX2_copyFrom_23 : decode cX2_copyFrom 23 = .ok (.iinc 2 1, 3) := by decide +kernel
theorem dX2_copyFrom_26 : decode cX2_copyFrom 26 = .ok (.goto (-24), 3) := by decide +kernel
theorem dX2_copyFrom_29 : decode cX2_copyFrom 29 = .ok (.aload_n 1, 1) := by decide +kernel
theorem dX2_copyFrom_30 : decode cX2_copyFrom 30 = .ok (.getfield 18, 3) := by decide +kernel
theorem dX2_copyFrom_33 : decode cX2_copyFrom 33 = .ok (.iconst 0, 1) := by decide +kernel
theorem dX2_copyFrom_34 : decode cX2_copyFrom 34 = .ok (.aload_n 0, 1) := by decide +kernel
theorem dX2_copyFrom_35 : decode cX2_copyFrom 35 = .ok (.getfield 18, 3) := by decide +kernel
theorem dX2_copyFrom_38 : decode cX2_copyFrom 38 = .ok (.iconst 0, 1) := by decide +kernel
theorem dX2_copyFrom_39 : decode cX2_copyFrom 39 = .ok (.bipush 12, 2) := by decide +kernel
theorem dX2_copyFrom_41 : decode cX2_copyFrom 41 = .ok (.invokestatic 29, 3) := by decide +kernel
theorem dX2_copyFrom_44 : decode cX2_copyFrom 44 = .ok (.aload_n 1, 1) := by decide +kernel
theorem dX2_copyFrom_45 : decode cX2_copyFrom 45 = .ok (.getfield 22, 3) := by decide +kernel
theorem dX2_copyFrom_48 : decode cX2_copyFrom 48 = .ok (.iconst 0, 1) := by decide +kernel
theorem dX2_copyFrom_49 : decode cX2_copyFrom 49 = .ok (.aload_n 0, 1) := by decide +kernel
theorem dX2_copyFrom_50 : decode cX2_copyFrom 50 = .ok (.getfield 22, 3) := by decide +kernel
theorem dX2_copyFrom_53 : decode cX2_copyFrom 53 = .ok (.iconst 0, 1) := by decide +kernel
theorem dX2_copyFrom_54 : decode cX2_copyFrom 54 = .ok (.bipush 12, 2) := by decide +kernel
theorem dX2_copyFrom_56 : decode cX2_copyFrom 56 = .ok (.invokestatic 29, 3) := by decide +kernel
theorem dX2_copyFrom_59 : decode cX2_copyFrom 59 = .ok (.aload_n 0, 1) := by decide +kernel
theorem dX2_copyFrom_60 : decode cX2_copyFrom 60 = .ok (.aload_n 1, 1) := by decide +kernel
theorem dX2_copyFrom_61 : decode cX2_copyFrom 61 = .ok (.getfield 35, 3) := by decide +kernel
theorem dX2_copyFrom_64 : decode cX2_copyFrom 64 = .ok (.putfield 35, 3) := by decide +kernel
theorem dX2_copyFrom_67 : decode cX2_copyFrom 67 = .ok (.aload_n 0, 1) := by decide +kernel
theorem dX2_copyFrom_68 : decode cX2_copyFrom 68 = .ok (.aload_n 1, 1) := by decide +kernel
theorem dX2_copyFrom_69 : decode cX2_copyFrom 69 = .ok (.getfield 39, 3) := by decide +kernel
theorem dX2_copyFrom_72 : decode cX2_copyFrom 72 = .ok (.putfield 39, 3) := by decide +kernel
theorem dX2_copyFrom_75 : decode cX2_copyFrom 75 = .ok (.return_, 1) := by decide +kernel
set_option maxRecDepth 20000 in
theorem ggX2_hasBox_X5_isBelow : GoodIn wsX2_hasBox wsX5_isBelow := goodIn_r _ [4] (by decide +kernel) (by decide +kernel)
set_option maxRecDepth 20000 in
theorem gX2_hasBox_X5_isBelow_n43 : GoodIn wsX2_hasBox (wsX5_isBelow) := ggX2_hasBox_X5_isBelow
theorem dX2_hasBox_0 : decode cX2_hasBox 0 = .ok (.iload_n 1, 1) := by decide +kernel
theorem dX2_hasBox_1 : decode cX2_hasBox 1 = .ok (.aload_n 0, 1) := by decide +kernel
theorem dX2_hasBox_2 : decode cX2_hasBox 2 = .ok (.getfield 35, 3) := by decide +kernel
theorem dX2_hasBox_5 : decode cX2_hasBox 5 = .ok (.invokestatic 43, 3) := by decide +kernel
theorem dX2_hasBox_8 : decode cX2_hasBox 8 = .ok (.ifCond .eq 13, 3) := by decide +kernel
theorem dX2_hasBox_11 : decode cX2_hasBox 11 = .ok (.iload_n 1, 1) := by decide +kernel
theorem dX2_hasBox_12 : decode cX2_hasBox 12 = .ok (.bipush 8, 2) := by decide +kernel
theorem dX2_hasBox_14 : decode cX2_hasBox 14 = .ok (.if_icmp .ge 7, 3) := by decide +kernel
theorem dX2_hasBox_17 : decode cX2_hasBox 17 = .ok (.iconst 1, 1) := by decide +kernel
theorem dX2_hasBox_18 : decode cX2_hasBox 18 = .ok (.goto 4, 3) := by decide +kernel
theorem dX2_hasBox_21 : decode cX2_hasBox 21 = .ok (.iconst 0, 1) := by decide +kernel
theorem dX2_hasBox_22 : decode cX2_hasBox 22 = .ok (.ireturn, 1) := by decide +kernel
set_option maxRecDepth 20000 in
theorem ggX2_addBox_X5_isBelow : GoodIn wsX2_addBox wsX5_isBelow := goodIn_r _ [5] (by decide +kernel) (by decide +kernel)
set_option maxRecDepth 20000 in
theorem gX2_addBox_X5_isBelow_n43 : GoodIn wsX2_addBox (wsX5_isBelow) := ggX2_addBox_X5_isBelow
set_option maxRecDepth 20000 in
theorem ggX2_addBox_X0_copyFrom : GoodIn wsX2_addBox wsX0_copyFrom := goodIn_r _ [10, 11, 12, 13, 14, 15, 16, 17, 9, 18, 24, 25, 26, 27] (by decide +kernel) (by decide +kernel)
set_option maxRecDepth 20000 in
theorem gX2_addBox_X0_copyFrom : GoodIn wsX2_addBox (wsV RX2 25 RX0 yX0_copyFrom wsX0_copyFrom) := goodIn_app (goodIn_of _ (by decide +kernel)) ggX2_addBox_X0_copyFrom
theorem dX2_addBox_0 : decode cX2_addBox 0 = .ok (.aload_n 0, 1) := by decide +kernel
theorem dX2_addBox_1 : decode cX2_addBox 1 = .ok (.getfield 35, 3) := by decide +kernel
theorem dX2_addBox_4 : decode cX2_addBox 4 = .ok (.bipush 8, 2) := by decide +kernel
theorem dX2_addBox_6 : decode cX2_addBox 6 = .ok (.invokestatic 43, 3) := by decide +kernel
theorem dX2_addBox_9 : decode cX2_addBox 9 = .ok (.ifCond .ne 6, 3) := by decide +kernel
theorem dX2_addBox_12 : decode cX2_addBox 12 = .ok (.bipush (-4), 2) := by decide +kernel
theorem dX2_addBox_14 : decode cX2_addBox 14 = .ok (.ireturn, 1) := by decide +kernel
theorem dX2_addBox_15 : decode cX2_addBox 15 = .ok (.aload_n 0, 1) := by decide +kernel
theorem dX2_addBox_16 : decode cX2_addBox 16 = .ok (.getfield 11, 3) := by decide +kernel
theorem dX2_addBox_19 : decode cX2_addBox 19 = .ok (.aload_n 0, 1) := by decide +kernel
theorem dX2_addBox_20 : decode cX2_addBox 20 = .ok (.getfield 35, 3) := by decide +kernel
theorem dX2_addBox_23 : decode cX2_addBox 23 = .ok (.aaload, 1) := by decide +kernel
theorem dX2_addBox_24 : decode cX2_addBox 24 = .ok (.aload_n 1, 1) := by decide +kernel
theorem dX2_addBox_25 : decode cX2_addBox 25 = .ok (.invokevirtual 25, 3) := by decide +kernel
theorem dX2_addBox_28 : decode cX2_addBox 28 = .ok (.aload_n 0, 1) := by decide +kernel
theorem dX2_addBox_29 : decode cX2_addBox 29 = .ok (.dup, 1) := by decide +kernel
theorem dX2_addBox_30 : decode cX2_addBox 30 = .ok (.getfield 35, 3) := by decide +kernel
theorem dX2_addBox_33 : decode cX2_addBox 33 = .ok (.iconst 1, 1) := by decide +kernel
theorem dX2_addBox_34 : decode cX2_addBox 34 = .ok (.iadd, 1) := by decide +kernel
theorem dX2_addBox_35 : decode cX2_addBox 35 = .ok (.putfield 35, 3) := by decide +kernel
theorem dX2_addBox_38 : decode cX2_addBox 38 = .ok (.aload_n 0, 1) := by decide +kernel
theorem dX2_addBox_39 : decode cX2_addBox 39 = .ok (.getfield 35, 3) := by decide +kernel
theorem dX2_addBox_42 : decode cX2_addBox 42 = .ok (.iconst 1, 1) := by decide +kernel
theorem dX2_addBox_43 : decode cX2_addBox 43 = .ok (.isub, 1) := by decide +kernel
theorem dX2_addBox_44 : decode cX2_addBox 44 = .ok (.ireturn, 1) := by decide +kernel
set_option maxRecDepth 20000 in
theorem ggX2_removeBox_X2_hasBox : GoodIn wsX2_removeBox wsX2_hasBox := goodIn_r _ [7, 2, 8, 9, 10, 24, 25, 26, 27, 28] (by decide +kernel) (by decide +kernel)
set_option maxRecDepth 20000 in
theorem gX2_removeBox_X2_hasBox : GoodIn wsX2_removeBox (wsV RX2 47 RX2 yX2_hasBox wsX2_hasBox) := goodIn_app (goodIn_of _ (by decide +kernel)) ggX2_removeBox_X2_hasBox
set_option maxRecDepth 20000 in
theorem ggX2_removeBox_X0_copyFrom : GoodIn wsX2_removeBox wsX0_copyFrom := goodIn_r _ [15, 16, 17, 18, 19, 20, 21, 22, 14, 23, 29, 30, 31, 32] (by decide +kernel) (by decide +kernel)
set_option maxRecDepth 20000 in
theorem gX2_removeBox_X0_copyFrom : GoodIn wsX2_removeBox (wsV RX2 25 RX0 yX0_copyFrom wsX0_copyFrom) := goodIn_app (goodIn_of _ (by decide +kernel)) ggX2_removeBox_X0_copyFrom
theorem dX2_removeBox_0 : decode cX2_removeBox 0 = .ok (.aload_n 0, 1) := by decide +kernel
theorem dX2_removeBox_1 : decode cX2_removeBox 1 = .ok (.iload_n 1, 1) := by decide +kernel
theorem dX2_removeBox_2 : decode cX2_removeBox 2 = .ok (.invokevirtual 47, 3) := by decide +kernel
theorem dX2_removeBox_5 : decode cX2_removeBox 5 = .ok (.ifCond .ne 6, 3) := by decide +kernel
theorem dX2_removeBox_8 : decode cX2_removeBox 8 = .ok (.bipush (-2), 2) := by decide +kernel
theorem dX2_removeBox_10 : decode cX2_removeBox 10 = .ok (.ireturn, 1) := by decide +kernel
theorem dX2_removeBox_11 : decode cX2_removeBox 11 = .ok (.iload_n 1, 1) := by decide +kernel
theorem dX2_removeBox_12 : decode cX2_removeBox 12 = .ok (.iconst 1, 1) := by decide +kernel
theorem dX2_removeBox_13 : decode cX2_removeBox 13 = .ok (.iadd, 1) := by decide +kernel
theorem dX2_removeBox_14 : decode cX2_removeBox 14 = .ok (.istore_n 2, 1) := by decide +kernel
theorem dX2_removeBox_15 : decode cX2_removeBox 15 = .ok (.iload_n 2, 1) := by decide +kernel
theorem dX2_removeBox_16 : decode cX2_removeBox 16 = .ok (.bipush 8, 2) := by decide +kernel
theorem dX2_removeBox_18 : decode cX2_removeBox 18 = .ok (.if_icmp .ge 26, 3) := by decide +kernel
theorem dX2_removeBox_21 : decode cX2_removeBox 21 = .ok (.aload_n 0, 1) := by decide +kernel
theorem dX2_removeBox_22 : decode cX2_removeBox 22 = .ok (.getfield 11, 3) := by decide +kernel
theorem dX2_removeBox_25 : decode cX2_removeBox 25 = .ok (.iload_n 2, 1) := by decide +kernel
theorem dX2_removeBox_26 : decode cX2_removeBox 26 = .ok (.iconst 1, 1) := by decide +kernel
theorem dX2_removeBox_27 : decode cX2_removeBox 27 = .ok (.isub, 1) := by decide +kernel
theorem dX2_removeBox_28 : decode cX2_removeBox 28 = .ok (.aaload, 1) := by decide +kernel
theorem dX2_removeBox_29 : decode cX2_removeBox 29 = .ok (.aload_n 0, 1) := by decide +kernel
theorem dX2_removeBox_30 : decode cX2_removeBox 30 = .ok (.getfield 11, 3) := by decide +kernel
theorem dX2_removeBox_33 : decode cX2_removeBox 33 = .ok (.iload_n 2, 1) := by decide +kernel
theorem dX2_removeBox_34 : decode cX2_removeBox 34 = .ok (.aaload, 1) := by decide +kernel
theorem dX2_removeBox_35 : decode cX2_removeBox 35 = .ok (.invokevirtual 25, 3) := by decide +kernel
theorem dX2_removeBox_38 : decode cX2_removeBox 38 = .ok (.iinc 2 1, 3) := by decide +kernel
theorem dX2_removeBox_41 : decode cX2_removeBox 41 = .ok (.goto (-26), 3) := by decide +kernel
theorem dX2_removeBox_44 : decode cX2_removeBox 44 = .ok (.aload_n 0, 1) := by decide +kernel
theorem dX2_removeBox_45 : decode cX2_removeBox 45 = .ok (.dup, 1) := by decide +kernel
theorem dX2_removeBox_46 : decode cX2_removeBox 46 = .ok (.getfield 35, 3) := by decide +kernel
theorem dX2_removeBox_49 : decode cX2_removeBox 49 = .ok (.iconst 1, 1) := by decide +kernel
theorem dX2_removeBox_50 : decode cX2_removeBox 50 = .ok (.isub, 1) := by decide +kernel
theorem dX2_removeBox_51 : decode cX2_removeBox 51 = .ok (.putfield 35, 3) := by decide +kernel
theorem dX2_removeBox_54 : decode cX2_removeBox 54 = .ok (.aload_n 0, 1) := by decide +kernel
theorem dX2_removeBox_55 : decode cX2_removeBox 55 = .ok (.getfield 35, 3) := by decide +kernel
theorem dX2_removeBox_58 : decode cX2_removeBox 58 = .ok (.ireturn, 1) := by decide +kernel
set_option maxRecDepth 20000 in
theorem ggX2_putNumber_X2_hasBox : GoodIn wsX2_putNumber wsX2_hasBox := goodIn_r _ [6, 7, 8, 9, 10, 31, 32, 33, 34, 35] (by decide +kernel) (by decide +kernel)
set_option maxRecDepth 20000 in
theorem gX2_putNumber_X2_hasBox : GoodIn wsX2_putNumber (wsV RX2 47 RX2 yX2_hasBox wsX2_hasBox) := goodIn_app (goodIn_of _ (by decide +kernel)) ggX2_putNumber_X2_hasBox
set_option maxRecDepth 20000 in
theorem ggX2_putNumber_X5_isBelow : GoodIn wsX2_putNumber wsX5_isBelow := goodIn_r _ [10] (by decide +kernel) (by decide +kernel)
set_option maxRecDepth 20000 in
theorem gX2_putNumber_X5_isBelow_n43 : GoodIn wsX2_putNumber (wsX5_isBelow) := ggX2_putNumber_X5_isBelow
set_option maxRecDepth 20000 in
theorem ggX2_putNumber_X1_isGiven : GoodIn wsX2_putNumber wsX1_isGiven := goodIn_r _ [14, 8, 9, 10] (by decide +kernel) (by decide +kernel)
set_option maxRecDepth 20000 in
theorem gX2_putNumber_X1_isGiven : GoodIn wsX2_putNumber (va_wsS RX2 51 yX1_isGiven wsX1_isGiven) := goodIn_app (goodIn_of _ (by decide +kernel)) ggX2_putNumber_X1_isGiven
set_option maxRecDepth 20000 in
theorem ggX2_putNumber_X0_at : GoodIn wsX2_putNumber wsX0_at := goodIn_r _ [19, 20, 21, 22, 23, 36, 37, 38, 39] (by decide +kernel) (by decide +kernel)
set_option maxRecDepth 20000 in
theorem gX2_putNumber_X0_at : GoodIn wsX2_putNumber (wsV RX2 56 RX0 yX0_at wsX0_at) := goodIn_app (goodIn_of _ (by decide +kernel)) ggX2_putNumber_X0_at
set_option maxRecDepth 20000 in
theorem ggX2_putNumber_X1_made : GoodIn wsX2_putNumber wsX1_made := goodIn_r _ [26] (by decide +kernel) (by decide +kernel)
set_option maxRecDepth 20000 in
theorem gX2_putNumber_X1_made : GoodIn wsX2_putNumber (va_wsS RX2 60 yX1_made wsX1_made) := goodIn_app (goodIn_of _ (by decide +kernel)) ggX2_putNumber_X1_made
set_option maxRecDepth 20000 in
theorem ggX2_putNumber_X0_put : GoodIn wsX2_putNumber wsX0_put := goodIn_r _ [30, 20, 21, 22, 23, 36, 37, 38, 39] (by decide +kernel) (by decide +kernel)
set_option maxRecDepth 20000 in
theorem gX2_putNumber_X0_put : GoodIn wsX2_putNumber (wsV RX2 64 RX0 yX0_put wsX0_put) := goodIn_app (goodIn_of _ (by decide +kernel)) ggX2_putNumber_X0_put
theorem dX2_putNumber_0 : decode cX2_putNumber 0 = .ok (.aload_n 0, 1) := by decide +kernel
theorem dX2_putNumber_1 : decode cX2_putNumber 1 = .ok (.iload_n 1, 1) := by decide +kernel
theorem dX2_putNumber_2 : decode cX2_putNumber 2 = .ok (.invokevirtual 47, 3) := by decide +kernel
theorem dX2_putNumber_5 : decode cX2_putNumber 5 = .ok (.ifCond .eq 20, 3) := by decide +kernel
theorem dX2_putNumber_8 : decode cX2_putNumber 8 = .ok (.iload_n 2, 1) := by decide +kernel
theorem dX2_putNumber_9 : decode cX2_putNumber 9 = .ok (.iconst 4, 1) := by decide +kernel
theorem dX2_putNumber_10 : decode cX2_putNumber 10 = .ok (.invokestatic 43, 3) := by decide +kernel
theorem dX2_putNumber_13 : decode cX2_putNumber 13 = .ok (.ifCond .eq 12, 3) := by decide +kernel
theorem dX2_putNumber_16 : decode cX2_putNumber 16 = .ok (.iload_n 3, 1) := by decide +kernel
theorem dX2_putNumber_17 : decode cX2_putNumber 17 = .ok (.iload 4, 2) := by decide +kernel
theorem dX2_putNumber_19 : decode cX2_putNumber 19 = .ok (.invokestatic 51, 3) := by decide +kernel
theorem dX2_putNumber_22 : decode cX2_putNumber 22 = .ok (.ifCond .ne 6, 3) := by decide +kernel
theorem dX2_putNumber_25 : decode cX2_putNumber 25 = .ok (.bipush (-2), 2) := by decide +kernel
theorem dX2_putNumber_27 : decode cX2_putNumber 27 = .ok (.ireturn, 1) := by decide +kernel
theorem dX2_putNumber_28 : decode cX2_putNumber 28 = .ok (.aload_n 0, 1) := by decide +kernel
theorem dX2_putNumber_29 : decode cX2_putNumber 29 = .ok (.getfield 11, 3) := by decide +kernel
theorem dX2_putNumber_32 : decode cX2_putNumber 32 = .ok (.iload_n 1, 1) := by decide +kernel
theorem dX2_putNumber_33 : decode cX2_putNumber 33 = .ok (.aaload, 1) := by decide +kernel
theorem dX2_putNumber_34 : decode cX2_putNumber 34 = .ok (.iload_n 2, 1) := by decide +kernel
theorem dX2_putNumber_35 : decode cX2_putNumber 35 = .ok (.invokevirtual 56, 3) := by decide +kernel
theorem dX2_putNumber_38 : decode cX2_putNumber 38 = .ok (.istore 5, 2) := by decide +kernel
theorem dX2_putNumber_40 : decode cX2_putNumber 40 = .ok (.aload_n 0, 1) := by decide +kernel
theorem dX2_putNumber_41 : decode cX2_putNumber 41 = .ok (.getfield 11, 3) := by decide +kernel
theorem dX2_putNumber_44 : decode cX2_putNumber 44 = .ok (.iload_n 1, 1) := by decide +kernel
theorem dX2_putNumber_45 : decode cX2_putNumber 45 = .ok (.aaload, 1) := by decide +kernel
theorem dX2_putNumber_46 : decode cX2_putNumber 46 = .ok (.iload_n 2, 1) := by decide +kernel
theorem dX2_putNumber_47 : decode cX2_putNumber 47 = .ok (.iload_n 3, 1) := by decide +kernel
theorem dX2_putNumber_48 : decode cX2_putNumber 48 = .ok (.iload 4, 2) := by decide +kernel
theorem dX2_putNumber_50 : decode cX2_putNumber 50 = .ok (.invokestatic 60, 3) := by decide +kernel
theorem dX2_putNumber_53 : decode cX2_putNumber 53 = .ok (.invokevirtual 64, 3) := by decide +kernel
theorem dX2_putNumber_56 : decode cX2_putNumber 56 = .ok (.iload 5, 2) := by decide +kernel
theorem dX2_putNumber_58 : decode cX2_putNumber 58 = .ok (.ireturn, 1) := by decide +kernel
set_option maxRecDepth 20000 in
theorem ggX2_putError_X5_isBelow : GoodIn wsX2_putError wsX5_isBelow := goodIn_r _ [4] (by decide +kernel) (by decide +kernel)
set_option maxRecDepth 20000 in
theorem gX2_putError_X5_isBelow_n43 : GoodIn wsX2_putError (wsX5_isBelow) := ggX2_putError_X5_isBelow
set_option maxRecDepth 20000 in
theorem ggX2_putError_X1_isGiven : GoodIn wsX2_putError wsX1_isGiven := goodIn_r _ [8, 2, 3, 4] (by decide +kernel) (by decide +kernel)
set_option maxRecDepth 20000 in
theorem gX2_putError_X1_isGiven : GoodIn wsX2_putError (va_wsS RX2 51 yX1_isGiven wsX1_isGiven) := goodIn_app (goodIn_of _ (by decide +kernel)) ggX2_putError_X1_isGiven
set_option maxRecDepth 20000 in
theorem ggX2_putError_X1_made : GoodIn wsX2_putError wsX1_made := goodIn_r _ [11] (by decide +kernel) (by decide +kernel)
set_option maxRecDepth 20000 in
theorem gX2_putError_X1_made : GoodIn wsX2_putError (va_wsS RX2 60 yX1_made wsX1_made) := goodIn_app (goodIn_of _ (by decide +kernel)) ggX2_putError_X1_made
theorem dX2_putError_0 : decode cX2_putError 0 = .ok (.iload_n 1, 1) := by decide +kernel
theorem dX2_putError_1 : decode cX2_putError 1 = .ok (.bipush 12, 2) := by decide +kernel
theorem dX2_putError_3 : decode cX2_putError 3 = .ok (.invokestatic 43, 3) := by decide +kernel
theorem dX2_putError_6 : decode cX2_putError 6 = .ok (.ifCond .eq 11, 3) := by decide +kernel
theorem dX2_putError_9 : decode cX2_putError 9 = .ok (.iload_n 2, 1) := by decide +kernel
theorem dX2_putError_10 : decode cX2_putError 10 = .ok (.iload_n 3, 1) := by decide +kernel
theorem dX2_putError_11 : decode cX2_putError 11 = .ok (.invokestatic 51, 3) := by decide +kernel
theorem dX2_putError_14 : decode cX2_putError 14 = .ok (.ifCond .ne 6, 3) := by decide +kernel
theorem dX2_putError_17 : decode cX2_putError 17 = .ok (.bipush (-2), 2) := by decide +kernel
theorem dX2_putError_19 : decode cX2_putError 19 = .ok (.ireturn, 1) := by decide +kernel
theorem dX2_putError_20 : decode cX2_putError 20 = .ok (.aload_n 0, 1) := by decide +kernel
theorem dX2_putError_21 : decode cX2_putError 21 = .ok (.getfield 18, 3) := by decide +kernel
theorem dX2_putError_24 : decode cX2_putError 24 = .ok (.iload_n 1, 1) := by decide +kernel
theorem dX2_putError_25 : decode cX2_putError 25 = .ok (.iaload, 1) := by decide +kernel
theorem dX2_putError_26 : decode cX2_putError 26 = .ok (.istore 4, 2) := by decide +kernel
theorem dX2_putError_28 : decode cX2_putError 28 = .ok (.aload_n 0, 1) := by decide +kernel
theorem dX2_putError_29 : decode cX2_putError 29 = .ok (.getfield 18, 3) := by decide +kernel
theorem dX2_putError_32 : decode cX2_putError 32 = .ok (.iload_n 1, 1) := by decide +kernel
theorem dX2_putError_33 : decode cX2_putError 33 = .ok (.iload_n 2, 1) := by decide +kernel
theorem dX2_putError_34 : decode cX2_putError 34 = .ok (.iload_n 3, 1) := by decide +kernel
theorem dX2_putError_35 : decode cX2_putError 35 = .ok (.invokestatic 60, 3) := by decide +kernel
theorem dX2_putError_38 : decode cX2_putError 38 = .ok (.iastore, 1) := by decide +kernel
theorem dX2_putError_39 : decode cX2_putError 39 = .ok (.iload 4, 2) := by decide +kernel
theorem dX2_putError_41 : decode cX2_putError 41 = .ok (.ireturn, 1) := by decide +kernel
set_option maxRecDepth 20000 in
theorem ggX2_leastAlike_X0_isAs : GoodIn wsX2_leastAlike wsX0_isAs := goodIn_r _ [6, 7, 8, 9, 10, 16, 17, 18, 19] (by decide +kernel) (by decide +kernel)
set_option maxRecDepth 20000 in
theorem gX2_leastAlike_X0_isAs : GoodIn wsX2_leastAlike (wsV RX2 68 RX0 yX0_isAs wsX0_isAs) := goodIn_app (goodIn_of _ (by decide +kernel)) ggX2_leastAlike_X0_isAs
theorem dX2_leastAlike_0 : decode cX2_leastAlike 0 = .ok (.iconst 0, 1) := by decide +kernel
theorem dX2_leastAlike_1 : decode cX2_leastAlike 1 = .ok (.istore_n 2, 1) := by decide +kernel
theorem dX2_leastAlike_2 : decode cX2_leastAlike 2 = .ok (.iload_n 2, 1) := by decide +kernel
theorem dX2_leastAlike_3 : decode cX2_leastAlike 3 = .ok (.iload_n 1, 1) := by decide +kernel
theorem dX2_leastAlike_4 : decode cX2_leastAlike 4 = .ok (.if_icmp .ge 29, 3) := by decide +kernel
theorem dX2_leastAlike_7 : decode cX2_leastAlike 7 = .ok (.aload_n 0, 1) := by decide +kernel
theorem dX2_leastAlike_8 : decode cX2_leastAlike 8 = .ok (.getfield 11, 3) := by decide +kernel
theorem dX2_leastAlike_11 : decode cX2_leastAlike 11 = .ok (.iload_n 2, 1) := by decide +kernel
theorem dX2_leastAlike_12 : decode cX2_leastAlike 12 = .ok (.aaload, 1) := by decide +kernel
theorem dX2_leastAlike_13 : decode cX2_leastAlike 13 = .ok (.aload_n 0, 1) := by decide +kernel
theorem dX2_leastAlike_14 : decode cX2_leastAlike 14 = .ok (.getfield 11, 3) := by decide +kernel
theorem dX2_leastAlike_17 : decode cX2_leastAlike 17 = .ok (.iload_n 1, 1) := by decide +kernel
theorem dX2_leastAlike_18 : decode cX2_leastAlike 18 = .ok (.aaload, 1) := by decide +kernel
theorem dX2_leastAlike_19 : decode cX2_leastAlike 19 = .ok (.invokevirtual 68, 3) := by decide +kernel
theorem dX2_leastAlike_22 : decode cX2_leastAlike 22 = .ok (.ifCond .eq 5, 3) := by decide +kernel
theorem dX2_leastAlike_25 : decode cX2_leastAlike 25 = .ok (.iload_n 2, 1) := by decide +kernel
theorem dX2_leastAlike_26 : decode cX2_leastAlike 26 = .ok (.ireturn, 1) := by decide +kernel
theorem dX2_leastAlike_27 : decode cX2_leastAlike 27 = .ok (.iinc 2 1, 3) := by decide +kernel
theorem dX2_leastAlike_30 : decode cX2_leastAlike 30 = .ok (.goto (-28), 3) := by decide +kernel
theorem dX2_leastAlike_33 : decode cX2_leastAlike 33 = .ok (.iload_n 1, 1) := by decide +kernel
theorem dX2_leastAlike_34 : decode cX2_leastAlike 34 = .ok (.ireturn, 1) := by decide +kernel
theorem dX3_init_0 : decode cX3_init 0 = .ok (.aload_n 0, 1) := by decide +kernel
theorem dX3_init_1 : decode cX3_init 1 = .ok (.invokespecial 3, 3) := by decide +kernel
theorem dX3_init_4 : decode cX3_init 4 = .ok (.aload_n 0, 1) := by decide +kernel
theorem dX3_init_5 : decode cX3_init 5 = .ok (.bipush 120, 2) := by decide +kernel
theorem dX3_init_7 : decode cX3_init 7 = .ok (.newarray .byte, 2) := by decide +kernel
theorem dX3_init_9 : decode cX3_init 9 = .ok (.putfield 9, 3) := by decide +kernel
theorem dX3_init_12 : decode cX3_init 12 = .ok (.aload_n 0, 1) := by decide +kernel
theorem dX3_init_13 : decode cX3_init 13 = .ok (.bipush 60, 2) := by decide +kernel
theorem dX3_init_15 : decode cX3_init 15 = .ok (.newarray .byte, 2) := by decide +kernel
theorem dX3_init_17 : decode cX3_init 17 = .ok (.putfield 15, 3) := by decide +kernel
theorem dX3_init_20 : decode cX3_init 20 = .ok (.aload_n 0, 1) := by decide +kernel
theorem dX3_init_21 : decode cX3_init 21 = .ok (.bipush 60, 2) := by decide +kernel
theorem dX3_init_23 : decode cX3_init 23 = .ok (.newarray .int, 2) := by decide +kernel
theorem dX3_init_25 : decode cX3_init 25 = .ok (.putfield 18, 3) := by decide +kernel
theorem dX3_init_28 : decode cX3_init 28 = .ok (.aload_n 0, 1) := by decide +kernel
theorem dX3_init_29 : decode cX3_init 29 = .ok (.bipush 120, 2) := by decide +kernel
theorem dX3_init_31 : decode cX3_init 31 = .ok (.newarray .int, 2) := by decide +kernel
theorem dX3_init_33 : decode cX3_init 33 = .ok (.putfield 22, 3) := by decide +kernel
theorem dX3_init_36 : decode cX3_init 36 = .ok (.return_, 1) := by decide +kernel
set_option maxRecDepth 20000 in
theorem ggX3_takeByte_X5_isBelow : GoodIn wsX3_takeByte wsX5_isBelow := goodIn_r _ [5] (by decide +kernel) (by decide +kernel)
set_option maxRecDepth 20000 in
theorem gX3_takeByte_X5_isBelow_n25 : GoodIn wsX3_takeByte (wsX5_isBelow) := ggX3_takeByte_X5_isBelow
theorem dX3_takeByte_0 : decode cX3_takeByte 0 = .ok (.iload_n 1, 1) := by decide +kernel
theorem dX3_takeByte_1 : decode cX3_takeByte 1 = .ok (.sipush 128, 3) := by decide +kernel
theorem dX3_takeByte_4 : decode cX3_takeByte 4 = .ok (.invokestatic 25, 3) := by decide +kernel
theorem dX3_takeByte_7 : decode cX3_takeByte 7 = .ok (.ifCond .ne 6, 3) := by decide +kernel
theorem dX3_takeByte_10 : decode cX3_takeByte 10 = .ok (.bipush (-2), 2) := by decide +kernel
theorem dX3_takeByte_12 : decode cX3_takeByte 12 = .ok (.ireturn, 1) := by decide +kernel
theorem dX3_takeByte_13 : decode cX3_takeByte 13 = .ok (.aload_n 0, 1) := by decide +kernel
theorem dX3_takeByte_14 : decode cX3_takeByte 14 = .ok (.getfield 29, 3) := by decide +kernel
theorem dX3_takeByte_17 : decode cX3_takeByte 17 = .ok (.bipush 120, 2) := by decide +kernel
theorem dX3_takeByte_19 : decode cX3_takeByte 19 = .ok (.invokestatic 25, 3) := by decide +kernel
theorem dX3_takeByte_22 : decode cX3_takeByte 22 = .ok (.ifCond .ne 6, 3) := by decide +kernel
theorem dX3_takeByte_25 : decode cX3_takeByte 25 = .ok (.bipush (-4), 2) := by decide +kernel
theorem dX3_takeByte_27 : decode cX3_takeByte 27 = .ok (.ireturn, 1) := by decide +kernel
theorem dX3_takeByte_28 : decode cX3_takeByte 28 = .ok (.aload_n 0, 1) := by decide +kernel
theorem dX3_takeByte_29 : decode cX3_takeByte 29 = .ok (.getfield 9, 3) := by decide +kernel
theorem dX3_takeByte_32 : decode cX3_takeByte 32 = .ok (.aload_n 0, 1) := by decide +kernel
theorem dX3_takeByte_33 : decode cX3_takeByte 33 = .ok (.getfield 29, 3) := by decide +kernel
theorem dX3_takeByte_36 : decode cX3_takeByte 36 = .ok (.iload_n 1, 1) := by decide +kernel
theorem dX3_takeByte_37 : decode cX3_takeByte 37 = .ok (.i2b, 1) := by decide +kernel
theorem dX3_takeByte_38 : decode cX3_takeByte 38 = .ok (.bastore, 1) := by decide +kernel
theorem dX3_takeByte_39 : decode cX3_takeByte 39 = .ok (.aload_n 0, 1) := by decide +kernel
theorem dX3_takeByte_40 : decode cX3_takeByte 40 = .ok (.dup, 1) := by decide +kernel
theorem dX3_takeByte_41 : decode cX3_takeByte 41 = .ok (.getfield 29, 3) := by decide +kernel
theorem dX3_takeByte_44 : decode cX3_takeByte 44 = .ok (.iconst 1, 1) := by decide +kernel
theorem dX3_takeByte_45 : decode cX3_takeByte 45 = .ok (.iadd, 1) := by decide +kernel
theorem dX3_takeByte_46 : decode cX3_takeByte 46 = .ok (.putfield 29, 3) := by decide +kernel
theorem dX3_takeByte_49 : decode cX3_takeByte 49 = .ok (.aload_n 0, 1) := by decide +kernel
theorem dX3_takeByte_50 : decode cX3_takeByte 50 = .ok (.getfield 29, 3) := by decide +kernel
theorem dX3_takeByte_53 : decode cX3_takeByte 53 = .ok (.ireturn, 1) := by decide +kernel
theorem dX3_empty_0 : decode cX3_empty 0 = .ok (.aload_n 0, 1) := by decide +kernel
theorem dX3_empty_1 : decode cX3_empty 1 = .ok (.getfield 29, 3) := by decide +kernel
theorem dX3_empty_4 : decode cX3_empty 4 = .ok (.istore_n 1, 1) := by decide +kernel
theorem dX3_empty_5 : decode cX3_empty 5 = .ok (.aload_n 0, 1) := by decide +kernel
theorem dX3_empty_6 : decode cX3_empty 6 = .ok (.iconst 0, 1) := by decide +kernel
theorem dX3_empty_7 : decode cX3_empty 7 = .ok (.putfield 29, 3) := by decide +kernel
theorem dX3_empty_10 : decode cX3_empty 10 = .ok (.iload_n 1, 1) := by decide +kernel
theorem dX3_empty_11 : decode cX3_empty 11 = .ok (.ireturn, 1) := by decide +kernel
set_option maxRecDepth 20000 in
theorem ggX3_letterOf_X5_isBelow : GoodIn wsX3_letterOf wsX5_isBelow := goodIn_r _ [4] (by decide +kernel) (by decide +kernel)
set_option maxRecDepth 20000 in
theorem gX3_letterOf_X5_isBelow_n25 : GoodIn wsX3_letterOf (wsX5_isBelow) := ggX3_letterOf_X5_isBelow
theorem dX3_letterOf_0 : decode cX3_letterOf 0 = .ok (.iload_n 1, 1) := by decide +kernel
theorem dX3_letterOf_1 : decode cX3_letterOf 1 = .ok (.bipush 60, 2) := by decide +kernel
theorem dX3_letterOf_3 : decode cX3_letterOf 3 = .ok (.invokestatic 25, 3) := by decide +kernel
theorem dX3_letterOf_6 : decode cX3_letterOf 6 = .ok (.ifCond .eq 12, 3) := by decide +kernel
theorem dX3_letterOf_9 : decode cX3_letterOf 9 = .ok (.aload_n 0, 1) := by decide +kernel
theorem dX3_letterOf_10 : decode cX3_letterOf 10 = .ok (.getfield 15, 3) := by decide +kernel
theorem dX3_letterOf_13 : decode cX3_letterOf 13 = .ok (.iload_n 1, 1) := by decide +kernel
theorem dX3_letterOf_14 : decode cX3_letterOf 14 = .ok (.baload, 1) := by decide +kernel
theorem dX3_letterOf_15 : decode cX3_letterOf 15 = .ok (.goto 4, 3) := by decide +kernel
theorem dX3_letterOf_18 : decode cX3_letterOf 18 = .ok (.iconst (-1), 1) := by decide +kernel
theorem dX3_letterOf_19 : decode cX3_letterOf 19 = .ok (.ireturn, 1) := by decide +kernel
set_option maxRecDepth 20000 in
theorem ggX3_numberOf_X5_isBelow : GoodIn wsX3_numberOf wsX5_isBelow := goodIn_r _ [5] (by decide +kernel) (by decide +kernel)
set_option maxRecDepth 20000 in
theorem gX3_numberOf_X5_isBelow_n25 : GoodIn wsX3_numberOf (wsX5_isBelow) := ggX3_numberOf_X5_isBelow
theorem dX3_numberOf_0 : decode cX3_numberOf 0 = .ok (.iload_n 1, 1) := by decide +kernel
theorem dX3_numberOf_1 : decode cX3_numberOf 1 = .ok (.bipush 60, 2) := by decide +kernel
theorem dX3_numberOf_3 : decode cX3_numberOf 3 = .ok (.invokestatic 25, 3) := by decide +kernel
theorem dX3_numberOf_6 : decode cX3_numberOf 6 = .ok (.ifCond .eq 12, 3) := by decide +kernel
theorem dX3_numberOf_9 : decode cX3_numberOf 9 = .ok (.iload_n 2, 1) := by decide +kernel
theorem dX3_numberOf_10 : decode cX3_numberOf 10 = .ok (.bipush 120, 2) := by decide +kernel
theorem dX3_numberOf_12 : decode cX3_numberOf 12 = .ok (.invokestatic 25, 3) := by decide +kernel
theorem dX3_numberOf_15 : decode cX3_numberOf 15 = .ok (.ifCond .ne 5, 3) := by decide +kernel
theorem dX3_numberOf_18 : decode cX3_numberOf 18 = .ok (.iconst (-1), 1) := by decide +kernel
theorem dX3_numberOf_19 : decode cX3_numberOf 19 = .ok (.ireturn, 1) := by decide +kernel
theorem dX3_numberOf_20 : decode cX3_numberOf 20 = .ok (.aload_n 0, 1) := by decide +kernel
theorem dX3_numberOf_21 : decode cX3_numberOf 21 = .ok (.getfield 18, 3) := by decide +kernel
theorem dX3_numberOf_24 : decode cX3_numberOf 24 = .ok (.iload_n 1, 1) := by decide +kernel
theorem dX3_numberOf_25 : decode cX3_numberOf 25 = .ok (.iaload, 1) := by decide +kernel
theorem dX3_numberOf_26 : decode cX3_numberOf 26 = .ok (.iload_n 2, 1) := by decide +kernel
theorem dX3_numberOf_27 : decode cX3_numberOf 27 = .ok (.iadd, 1) := by decide +kernel
theorem dX3_numberOf_28 : decode cX3_numberOf 28 = .ok (.istore_n 3, 1) := by decide +kernel
theorem dX3_numberOf_29 : decode cX3_numberOf 29 = .ok (.iload_n 3, 1) := by decide +kernel
theorem dX3_numberOf_30 : decode cX3_numberOf 30 = .ok (.bipush 120, 2) := by decide +kernel
theorem dX3_numberOf_32 : decode cX3_numberOf 32 = .ok (.invokestatic 25, 3) := by decide +kernel
theorem dX3_numberOf_35 : decode cX3_numberOf 35 = .ok (.ifCond .eq 12, 3) := by decide +kernel
theorem dX3_numberOf_38 : decode cX3_numberOf 38 = .ok (.aload_n 0, 1) := by decide +kernel
theorem dX3_numberOf_39 : decode cX3_numberOf 39 = .ok (.getfield 22, 3) := by decide +kernel
theorem dX3_numberOf_42 : decode cX3_numberOf 42 = .ok (.iload_n 3, 1) := by decide +kernel
theorem dX3_numberOf_43 : decode cX3_numberOf 43 = .ok (.iaload, 1) := by decide +kernel
theorem dX3_numberOf_44 : decode cX3_numberOf 44 = .ok (.goto 4, 3) := by decide +kernel
theorem dX3_numberOf_47 : decode cX3_numberOf 47 = .ok (.iconst (-1), 1) := by decide +kernel
theorem dX3_numberOf_48 : decode cX3_numberOf 48 = .ok (.ireturn, 1) := by decide +kernel
set_option maxRecDepth 20000 in
theorem ggX3_readOrders_X3_skipBlanks : GoodIn wsX3_readOrders wsX3_skipBlanks := goodIn_r _ [9, 3, 4, 10, 11, 12, 8, 13, 14, 15, 16, 17, 35, 36, 37, 38, 39, 40, 41, 42] (by decide +kernel) (by decide +kernel)
set_option maxRecDepth 20000 in
theorem gX3_readOrders_X3_skipBlanks : GoodIn wsX3_readOrders (wsV RX3 42 RX3 yX3_skipBlanks wsX3_skipBlanks) := goodIn_app (goodIn_of _ (by decide +kernel)) ggX3_readOrders_X3_skipBlanks
set_option maxRecDepth 20000 in
theorem ggX3_readOrders_X3_readOrder : GoodIn wsX3_readOrders wsX3_readOrder := goodIn_r _ [21, 1, 22, 23, 2, 3, 10, 11, 12, 8, 13, 4, 14, 15, 16, 17, 24, 25, 26, 5, 6, 7, 9, 27, 28, 29, 30, 31, 32, 33, 34, 35, 36, 37, 38, 39, 40, 41, 42] (by decide +kernel) (by decide +kernel)
set_option maxRecDepth 20000 in
theorem gX3_readOrders_X3_readOrder : GoodIn wsX3_readOrders (wsV RX3 45 RX3 yX3_readOrder wsX3_readOrder) := goodIn_app (goodIn_of _ (by decide +kernel)) ggX3_readOrders_X3_readOrder
theorem dX3_readOrders_0 : decode cX3_readOrders 0 = .ok (.aload_n 0, 1) := by decide +kernel
theorem dX3_readOrders_1 : decode cX3_readOrders 1 = .ok (.iconst 0, 1) := by decide +kernel
theorem dX3_readOrders_2 : decode cX3_readOrders 2 = .ok (.putfield 33, 3) := by decide +kernel
theorem dX3_readOrders_5 : decode cX3_readOrders 5 = .ok (.aload_n 0, 1) := by decide +kernel
theorem dX3_readOrders_6 : decode cX3_readOrders 6 = .ok (.iconst 0, 1) := by decide +kernel
theorem dX3_readOrders_7 : decode cX3_readOrders 7 = .ok (.putfield 36, 3) := by decide +kernel
theorem dX3_readOrders_10 : decode cX3_readOrders 10 = .ok (.aload_n 0, 1) := by decide +kernel
theorem dX3_readOrders_11 : decode cX3_readOrders 11 = .ok (.iconst 0, 1) := by decide +kernel
theorem dX3_readOrders_12 : decode cX3_readOrders 12 = .ok (.putfield 39, 3) := by decide +kernel
theorem dX3_readOrders_15 : decode cX3_readOrders 15 = .ok (.aload_n 0, 1) := by decide +kernel
theorem dX3_readOrders_16 : decode cX3_readOrders 16 = .ok (.invokevirtual 42, 3) := by decide +kernel
theorem dX3_readOrders_19 : decode cX3_readOrders 19 = .ok (.iconst 0, 1) := by decide +kernel
theorem dX3_readOrders_20 : decode cX3_readOrders 20 = .ok (.istore_n 1, 1) := by decide +kernel
theorem dX3_readOrders_21 : decode cX3_readOrders 21 = .ok (.iload_n 1, 1) := by decide +kernel
theorem dX3_readOrders_22 : decode cX3_readOrders 22 = .ok (.bipush 60, 2) := by decide +kernel
theorem dX3_readOrders_24 : decode cX3_readOrders 24 = .ok (.if_icmp .ge 38, 3) := by decide +kernel
theorem dX3_readOrders_27 : decode cX3_readOrders 27 = .ok (.aload_n 0, 1) := by decide +kernel
theorem dX3_readOrders_28 : decode cX3_readOrders 28 = .ok (.invokevirtual 45, 3) := by decide +kernel
theorem dX3_readOrders_31 : decode cX3_readOrders 31 = .ok (.ifCond .ne 8, 3) := by decide +kernel
theorem dX3_readOrders_34 : decode cX3_readOrders 34 = .ok (.aload_n 0, 1) := by decide +kernel
theorem dX3_readOrders_35 : decode cX3_readOrders 35 = .ok (.getfield 39, 3) := by decide +kernel
theorem dX3_readOrders_38 : decode cX3_readOrders 38 = .ok (.ireturn, 1) := by decide +kernel
theorem dX3_readOrders_39 : decode cX3_readOrders 39 = .ok (.aload_n 0, 1) := by decide +kernel
theorem dX3_readOrders_40 : decode cX3_readOrders 40 = .ok (.invokevirtual 42, 3) := by decide +kernel
theorem dX3_readOrders_43 : decode cX3_readOrders 43 = .ok (.aload_n 0, 1) := by decide +kernel
theorem dX3_readOrders_44 : decode cX3_readOrders 44 = .ok (.getfield 39, 3) := by decide +kernel
theorem dX3_readOrders_47 : decode cX3_readOrders 47 = .ok (.aload_n 0, 1) := by decide +kernel
theorem dX3_readOrders_48 : decode cX3_readOrders 48 = .ok (.getfield 29, 3) := by decide +kernel
theorem dX3_readOrders_51 : decode cX3_readOrders 51 = .ok (.if_icmp .lt 5, 3) := by decide +kernel
theorem dX3_readOrders_54 : decode cX3_readOrders 54 = .ok (.iconst (-1), 1) := by decide +kernel
theorem dX3_readOrders_55 : decode cX3_readOrders 55 = .ok (.ireturn, 1) := by decide +kernel
theorem dX3_readOrders_56 : decode cX3_readOrders 56 = .ok (.iinc 1 1, 3) := by decide +kernel
theorem dX3_readOrders_59 : decode cX3_readOrders 59 = .ok (.goto (-38), 3) := by decide +kernel
theorem dX3_readOrders_62 : decode cX3_readOrders 62 = .ok (.aload_n 0, 1) := by decide +kernel
theorem dX3_readOrders_63 : decode cX3_readOrders 63 = .ok (.getfield 39, 3) := by decide +kernel
theorem dX3_readOrders_66 : decode cX3_readOrders 66 = .ok (.ireturn, 1) := by decide +kernel
set_option maxRecDepth 20000 in
theorem ggX3_readOrder_X3_here : GoodIn wsX3_readOrder wsX3_here := goodIn_r _ [10, 5, 11, 12, 13, 14, 15, 31, 32, 33, 34, 35, 36, 37, 38] (by decide +kernel) (by decide +kernel)
set_option maxRecDepth 20000 in
theorem gX3_readOrder_X3_here : GoodIn wsX3_readOrder (wsV RX3 49 RX3 yX3_here wsX3_here) := goodIn_app (goodIn_of _ (by decide +kernel)) ggX3_readOrder_X3_here
set_option maxRecDepth 20000 in
theorem ggX3_readOrder_X3_numbersWanted : GoodIn wsX3_readOrder wsX3_numbersWanted := goodIn_r _ [18] (by decide +kernel) (by decide +kernel)
set_option maxRecDepth 20000 in
theorem gX3_readOrder_X3_numbersWanted : GoodIn wsX3_readOrder (va_wsS RX3 53 yX3_numbersWanted wsX3_numbersWanted) := goodIn_app (goodIn_of _ (by decide +kernel)) ggX3_readOrder_X3_numbersWanted
set_option maxRecDepth 20000 in
theorem ggX3_readOrder_X5_isBelow : GoodIn wsX3_readOrder wsX5_isBelow := goodIn_r _ [15] (by decide +kernel) (by decide +kernel)
set_option maxRecDepth 20000 in
theorem gX3_readOrder_X5_isBelow_n25 : GoodIn wsX3_readOrder (wsX5_isBelow) := ggX3_readOrder_X5_isBelow
set_option maxRecDepth 20000 in
theorem ggX3_readOrder_X3_skipBlanks : GoodIn wsX3_readOrder wsX3_skipBlanks := goodIn_r _ [22, 5, 11, 6, 7, 8, 9, 10, 12, 13, 14, 15, 31, 32, 33, 34, 35, 36, 37, 38] (by decide +kernel) (by decide +kernel)
set_option maxRecDepth 20000 in
theorem gX3_readOrder_X3_skipBlanks : GoodIn wsX3_readOrder (wsV RX3 42 RX3 yX3_skipBlanks wsX3_skipBlanks) := goodIn_app (goodIn_of _ (by decide +kernel)) ggX3_readOrder_X3_skipBlanks
set_option maxRecDepth 20000 in
theorem ggX3_readOrder_X3_readNumber : GoodIn wsX3_readOrder wsX3_readNumber := goodIn_r _ [26, 4, 5, 27, 6, 7, 8, 9, 10, 11, 12, 13, 14, 15, 28, 29, 30, 31, 32, 33, 34, 35, 36, 37, 38] (by decide +kernel) (by decide +kernel)
set_option maxRecDepth 20000 in
theorem gX3_readOrder_X3_readNumber : GoodIn wsX3_readOrder (wsV RX3 57 RX3 yX3_readNumber wsX3_readNumber) := goodIn_app (goodIn_of _ (by decide +kernel)) ggX3_readOrder_X3_readNumber
theorem dX3_readOrder_0 : decode cX3_readOrder 0 = .ok (.aload_n 0, 1) := by decide +kernel
theorem dX3_readOrder_1 : decode cX3_readOrder 1 = .ok (.invokevirtual 49, 3) := by decide +kernel
theorem dX3_readOrder_4 : decode cX3_readOrder 4 = .ok (.istore_n 1, 1) := by decide +kernel
theorem dX3_readOrder_5 : decode cX3_readOrder 5 = .ok (.iload_n 1, 1) := by decide +kernel
theorem dX3_readOrder_6 : decode cX3_readOrder 6 = .ok (.invokestatic 53, 3) := by decide +kernel
theorem dX3_readOrder_9 : decode cX3_readOrder 9 = .ok (.istore_n 2, 1) := by decide +kernel
theorem dX3_readOrder_10 : decode cX3_readOrder 10 = .ok (.iload_n 2, 1) := by decide +kernel
theorem dX3_readOrder_11 : decode cX3_readOrder 11 = .ok (.iconst (-1), 1) := by decide +kernel
theorem dX3_readOrder_12 : decode cX3_readOrder 12 = .ok (.if_icmp .eq 15, 3) := by decide +kernel
theorem dX3_readOrder_15 : decode cX3_readOrder 15 = .ok (.aload_n 0, 1) := by decide +kernel
theorem dX3_readOrder_16 : decode cX3_readOrder 16 = .ok (.getfield 33, 3) := by decide +kernel
theorem dX3_readOrder_19 : decode cX3_readOrder 19 = .ok (.bipush 60, 2) := by decide +kernel
theorem dX3_readOrder_21 : decode cX3_readOrder 21 = .ok (.invokestatic 25, 3) := by decide +kernel
theorem dX3_readOrder_24 : decode cX3_readOrder 24 = .ok (.ifCond .ne 5, 3) := by decide +kernel
theorem dX3_readOrder_27 : decode cX3_readOrder 27 = .ok (.iconst 0, 1) := by decide +kernel
theorem dX3_readOrder_28 : decode cX3_readOrder 28 = .ok (.ireturn, 1) := by decide +kernel
theorem dX3_readOrder_29 : decode cX3_readOrder 29 = .ok (.aload_n 0, 1) := by decide +kernel
theorem dX3_readOrder_30 : decode cX3_readOrder 30 = .ok (.getfield 15, 3) := by decide +kernel
theorem dX3_readOrder_33 : decode cX3_readOrder 33 = .ok (.aload_n 0, 1) := by decide +kernel
theorem dX3_readOrder_34 : decode cX3_readOrder 34 = .ok (.getfield 33, 3) := by decide +kernel
theorem dX3_readOrder_37 : decode cX3_readOrder 37 = .ok (.iload_n 1, 1) := by decide +kernel
theorem dX3_readOrder_38 : decode cX3_readOrder 38 = .ok (.i2b, 1) := by decide +kernel
theorem dX3_readOrder_39 : decode cX3_readOrder 39 = .ok (.bastore, 1) := by decide +kernel
theorem dX3_readOrder_40 : decode cX3_readOrder 40 = .ok (.aload_n 0, 1) := by decide +kernel
theorem dX3_readOrder_41 : decode cX3_readOrder 41 = .ok (.getfield 18, 3) := by decide +kernel
theorem dX3_readOrder_44 : decode cX3_readOrder 44 = .ok (.aload_n 0, 1) := by decide +kernel
theorem dX3_readOrder_45 : decode cX3_readOrder 45 = .ok (.getfield 33, 3) := by decide +kernel
theorem dX3_readOrder_48 : decode cX3_readOrder 48 = .ok (.aload_n 0, 1) := by decide +kernel
theorem dX3_readOrder_49 : decode cX3_readOrder 49 = .ok (.getfield 36, 3) := by decide +kernel
theorem dX3_readOrder_52 : decode cX3_readOrder 52 = .ok (.iastore, 1) := by decide +kernel
theorem dX3_readOrder_53 : decode cX3_readOrder 53 = .ok (.aload_n 0, 1) := by decide +kernel
theorem dX3_readOrder_54 : decode cX3_readOrder 54 = .ok (.dup, 1) := by decide +kernel
theorem dX3_readOrder_55 : decode cX3_readOrder 55 = .ok (.getfield 39, 3) := by decide +kernel
theorem dX3_readOrder_58 : decode cX3_readOrder 58 = .ok (.iconst 1, 1) := by decide +kernel
theorem dX3_readOrder_59 : decode cX3_readOrder 59 = .ok (.iadd, 1) := by decide +kernel
theorem dX3_readOrder_60 : decode cX3_readOrder 60 = .ok (.putfield 39, 3) := by decide +kernel
theorem dX3_readOrder_63 : decode cX3_readOrder 63 = .ok (.aload_n 0, 1) := by decide +kernel
theorem dX3_readOrder_64 : decode cX3_readOrder 64 = .ok (.invokevirtual 42, 3) := by decide +kernel
theorem dX3_readOrder_67 : decode cX3_readOrder 67 = .ok (.iconst 0, 1) := by decide +kernel
theorem dX3_readOrder_68 : decode cX3_readOrder 68 = .ok (.istore_n 3, 1) := by decide +kernel
theorem dX3_readOrder_69 : decode cX3_readOrder 69 = .ok (.iload_n 3, 1) := by decide +kernel
theorem dX3_readOrder_70 : decode cX3_readOrder 70 = .ok (.iload_n 2, 1) := by decide +kernel
theorem dX3_readOrder_71 : decode cX3_readOrder 71 = .ok (.if_icmp .ge 22, 3) := by decide +kernel
theorem dX3_readOrder_74 : decode cX3_readOrder 74 = .ok (.aload_n 0, 1) := by decide +kernel
theorem dX3_readOrder_75 : decode cX3_readOrder 75 = .ok (.invokevirtual 57, 3) := by decide +kernel
theorem dX3_readOrder_78 : decode cX3_readOrder 78 = .ok (.ifCond .ne 5, 3) := by decide +kernel
theorem dX3_readOrder_81 : decode cX3_readOrder 81 = .ok (.iconst 0, 1) := by decide +kernel
theorem dX3_readOrder_82 : decode cX3_readOrder 82 = .ok (.ireturn, 1) := by decide +kernel
theorem dX3_readOrder_83 : decode cX3_readOrder 83 = .ok (.aload_n 0, 1) := by decide +kernel
theorem dX3_readOrder_84 : decode cX3_readOrder 84 = .ok (.invokevirtual 42, 3) := by decide +kernel
theorem dX3_readOrder_87 : decode cX3_readOrder 87 = .ok (.iinc 3 1, 3) := by decide +kernel
theorem dX3_readOrder_90 : decode cX3_readOrder 90 = .ok (.goto (-21), 3) := by decide +kernel
theorem dX3_readOrder_93 : decode cX3_readOrder 93 = .ok (.aload_n 0, 1) := by decide +kernel
theorem dX3_readOrder_94 : decode cX3_readOrder 94 = .ok (.invokevirtual 49, 3) := by decide +kernel
theorem dX3_readOrder_97 : decode cX3_readOrder 97 = .ok (.bipush 59, 2) := by decide +kernel
theorem dX3_readOrder_99 : decode cX3_readOrder 99 = .ok (.if_icmp .eq 5, 3) := by decide +kernel
theorem dX3_readOrder_102 : decode cX3_readOrder 102 = .ok (.iconst 0, 1) := by decide +kernel
theorem dX3_readOrder_103 : decode cX3_readOrder 103 = .ok (.ireturn, 1) := by decide +kernel
theorem dX3_readOrder_104 : decode cX3_readOrder 104 = .ok (.aload_n 0, 1) := by decide +kernel
theorem dX3_readOrder_105 : decode cX3_readOrder 105 = .ok (.dup, 1) := by decide +kernel
theorem dX3_readOrder_106 : decode cX3_readOrder 106 = .ok (.getfield 39, 3) := by decide +kernel
theorem dX3_readOrder_109 : decode cX3_readOrder 109 = .ok (.iconst 1, 1) := by decide +kernel
theorem dX3_readOrder_110 : decode cX3_readOrder 110 = .ok (.iadd, 1) := by decide +kernel
theorem dX3_readOrder_111 : decode cX3_readOrder 111 = .ok (.putfield 39, 3) := by decide +kernel
theorem dX3_readOrder_114 : decode cX3_readOrder 114 = .ok (.aload_n 0, 1) := by decide +kernel
theorem dX3_readOrder_115 : decode cX3_readOrder 115 = .ok (.dup, 1) := by decide +kernel
theorem dX3_readOrder_116 : decode cX3_readOrder 116 = .ok (.getfield 33, 3) := by decide +kernel
theorem dX3_readOrder_119 : decode cX3_readOrder 119 = .ok (.iconst 1, 1) := by decide +kernel
theorem dX3_readOrder_120 : decode cX3_readOrder 120 = .ok (.iadd, 1) := by decide +kernel
theorem dX3_readOrder_121 : decode cX3_readOrder 121 = .ok (.putfield 33, 3) := by decide +kernel
theorem dX3_readOrder_124 : decode cX3_readOrder 124 = .ok (.iconst 1, 1) := by decide +kernel
theorem dX3_readOrder_125 : decode cX3_readOrder 125 = .ok (.ireturn, 1) := by decide +kernel
set_option maxRecDepth 20000 in
theorem ggX3_readNumber_X3_here : GoodIn wsX3_readNumber wsX3_here := goodIn_r _ [8, 2, 9, 10, 11, 12, 13, 17, 18, 19, 20, 21, 22, 23, 24] (by decide +kernel) (by decide +kernel)
set_option maxRecDepth 20000 in
theorem gX3_readNumber_X3_here : GoodIn wsX3_readNumber (wsV RX3 49 RX3 yX3_here wsX3_here) := goodIn_app (goodIn_of _ (by decide +kernel)) ggX3_readNumber_X3_here
set_option maxRecDepth 20000 in
theorem ggX3_readNumber_X3_isFigure : GoodIn wsX3_readNumber wsX3_isFigure := goodIn_r _ [16] (by decide +kernel) (by decide +kernel)
set_option maxRecDepth 20000 in
theorem gX3_readNumber_X3_isFigure : GoodIn wsX3_readNumber (va_wsS RX3 60 yX3_isFigure wsX3_isFigure) := goodIn_app (goodIn_of _ (by decide +kernel)) ggX3_readNumber_X3_isFigure
set_option maxRecDepth 20000 in
theorem ggX3_readNumber_X5_isBelow : GoodIn wsX3_readNumber wsX5_isBelow := goodIn_r _ [13] (by decide +kernel) (by decide +kernel)
set_option maxRecDepth 20000 in
theorem gX3_readNumber_X5_isBelow_n25 : GoodIn wsX3_readNumber (wsX5_isBelow) := ggX3_readNumber_X5_isBelow
theorem dX3_readNumber_0 : decode cX3_readNumber 0 = .ok (.aload_n 0, 1) := by decide +kernel
theorem dX3_readNumber_1 : decode cX3_readNumber 1 = .ok (.invokevirtual 49, 3) := by decide +kernel
theorem dX3_readNumber_4 : decode cX3_readNumber 4 = .ok (.invokestatic 60, 3) := by decide +kernel
theorem dX3_readNumber_7 : decode cX3_readNumber 7 = .ok (.ifCond .eq 15, 3) := by decide +kernel
theorem dX3_readNumber_10 : decode cX3_readNumber 10 = .ok (.aload_n 0, 1) := by decide +kernel
theorem dX3_readNumber_11 : decode cX3_readNumber 11 = .ok (.getfield 36, 3) := by decide +kernel
theorem dX3_readNumber_14 : decode cX3_readNumber 14 = .ok (.bipush 120, 2) := by decide +kernel
theorem dX3_readNumber_16 : decode cX3_readNumber 16 = .ok (.invokestatic 25, 3) := by decide +kernel
theorem dX3_readNumber_19 : decode cX3_readNumber 19 = .ok (.ifCond .ne 5, 3) := by decide +kernel
theorem dX3_readNumber_22 : decode cX3_readNumber 22 = .ok (.iconst 0, 1) := by decide +kernel
theorem dX3_readNumber_23 : decode cX3_readNumber 23 = .ok (.ireturn, 1) := by decide +kernel
theorem dX3_readNumber_24 : decode cX3_readNumber 24 = .ok (.iconst 0, 1) := by decide +kernel
theorem dX3_readNumber_25 : decode cX3_readNumber 25 = .ok (.istore_n 1, 1) := by decide +kernel
theorem dX3_readNumber_26 : decode cX3_readNumber 26 = .ok (.iconst 0, 1) := by decide +kernel
theorem dX3_readNumber_27 : decode cX3_readNumber 27 = .ok (.istore_n 2, 1) := by decide +kernel
theorem dX3_readNumber_28 : decode cX3_readNumber 28 = .ok (.iload_n 2, 1) := by decide +kernel
theorem dX3_readNumber_29 : decode cX3_readNumber 29 = .ok (.iconst 5, 1) := by decide +kernel
theorem dX3_readNumber_30 : decode cX3_readNumber 30 = .ok (.if_icmp .ge 42, 3) := by decide +kernel
theorem dX3_readNumber_33 : decode cX3_readNumber 33 = .ok (.aload_n 0, 1) := by decide +kernel
theorem dX3_readNumber_34 : decode cX3_readNumber 34 = .ok (.invokevirtual 49, 3) := by decide +kernel
theorem dX3_readNumber_37 : decode cX3_readNumber 37 = .ok (.invokestatic 60, 3) := by decide +kernel
theorem dX3_readNumber_40 : decode cX3_readNumber 40 = .ok (.ifCond .eq 32, 3) := by decide +kernel
theorem dX3_readNumber_43 : decode cX3_readNumber 43 = .ok (.bipush 10, 2) := by decide +kernel
theorem dX3_readNumber_45 : decode cX3_readNumber 45 = .ok (.iload_n 1, 1) := by decide +kernel
theorem dX3_readNumber_46 : decode cX3_readNumber 46 = .ok (.imul, 1) := by decide +kernel
theorem dX3_readNumber_47 : decode cX3_readNumber 47 = .ok (.aload_n 0, 1) := by decide +kernel
theorem dX3_readNumber_48 : decode cX3_readNumber 48 = .ok (.invokevirtual 49, 3) := by decide +kernel
theorem dX3_readNumber_51 : decode cX3_readNumber 51 = .ok (.bipush 48, 2) := by decide +kernel
theorem dX3_readNumber_53 : decode cX3_readNumber 53 = .ok (.isub, 1) := by decide +kernel
theorem dX3_readNumber_54 : decode cX3_readNumber 54 = .ok (.iadd, 1) := by decide +kernel
theorem dX3_readNumber_55 : decode cX3_readNumber 55 = .ok (.istore_n 1, 1) := by decide +kernel
theorem dX3_readNumber_56 : decode cX3_readNumber 56 = .ok (.aload_n 0, 1) := by decide +kernel
theorem dX3_readNumber_57 : decode cX3_readNumber 57 = .ok (.dup, 1) := by decide +kernel
theorem dX3_readNumber_58 : decode cX3_readNumber 58 = .ok (.getfield 39, 3) := by decide +kernel
theorem dX3_readNumber_61 : decode cX3_readNumber 61 = .ok (.iconst 1, 1) := by decide +kernel
theorem dX3_readNumber_62 : decode cX3_readNumber 62 = .ok (.iadd, 1) := by decide +kernel
theorem dX3_readNumber_63 : decode cX3_readNumber 63 = .ok (.putfield 39, 3) := by decide +kernel
theorem dX3_readNumber_66 : decode cX3_readNumber 66 = .ok (.iinc 2 1, 3) := by decide +kernel
theorem dX3_readNumber_69 : decode cX3_readNumber 69 = .ok (.goto (-41), 3) := by decide +kernel
theorem dX3_readNumber_72 : decode cX3_readNumber 72 = .ok (.aload_n 0, 1) := by decide +kernel
theorem dX3_readNumber_73 : decode cX3_readNumber 73 = .ok (.getfield 22, 3) := by decide +kernel
theorem dX3_readNumber_76 : decode cX3_readNumber 76 = .ok (.aload_n 0, 1) := by decide +kernel
theorem dX3_readNumber_77 : decode cX3_readNumber 77 = .ok (.getfield 36, 3) := by decide +kernel
theorem dX3_readNumber_80 : decode cX3_readNumber 80 = .ok (.iload_n 1, 1) := by decide +kernel
theorem dX3_readNumber_81 : decode cX3_readNumber 81 = .ok (.iastore, 1) := by decide +kernel
theorem dX3_readNumber_82 : decode cX3_readNumber 82 = .ok (.aload_n 0, 1) := by decide +kernel
theorem dX3_readNumber_83 : decode cX3_readNumber 83 = .ok (.dup, 1) := by decide +kernel
theorem dX3_readNumber_84 : decode cX3_readNumber 84 = .ok (.getfield 36, 3) := by decide +kernel
theorem dX3_readNumber_87 : decode cX3_readNumber 87 = .ok (.iconst 1, 1) := by decide +kernel
theorem dX3_readNumber_88 : decode cX3_readNumber 88 = .ok (.iadd, 1) := by decide +kernel
theorem dX3_readNumber_89 : decode cX3_readNumber 89 = .ok (.putfield 36, 3) := by decide +kernel
theorem dX3_readNumber_92 : decode cX3_readNumber 92 = .ok (.aload_n 0, 1) := by decide +kernel
theorem dX3_readNumber_93 : decode cX3_readNumber 93 = .ok (.invokevirtual 49, 3) := by decide +kernel
theorem dX3_readNumber_96 : decode cX3_readNumber 96 = .ok (.invokestatic 60, 3) := by decide +kernel
theorem dX3_readNumber_99 : decode cX3_readNumber 99 = .ok (.ifCond .ne 7, 3) := by decide +kernel
theorem dX3_readNumber_102 : decode cX3_readNumber 102 = .ok (.iconst 1, 1) := by decide +kernel
theorem dX3_readNumber_103 : decode cX3_readNumber 103 = .ok (.goto 4, 3) := by decide +kernel
theorem dX3_readNumber_106 : decode cX3_readNumber 106 = .ok (.iconst 0, 1) := by decide +kernel
theorem dX3_readNumber_107 : decode cX3_readNumber 107 = .ok (.ireturn, 1) := by decide +kernel
set_option maxRecDepth 20000 in
theorem ggX3_skipBlanks_X3_here : GoodIn wsX3_skipBlanks wsX3_here := goodIn_r _ [7, 1, 2, 8, 9, 10, 11, 12, 13, 14, 15, 16, 17, 18, 19] (by decide +kernel) (by decide +kernel)
set_option maxRecDepth 20000 in
theorem gX3_skipBlanks_X3_here : GoodIn wsX3_skipBlanks (wsV RX3 49 RX3 yX3_here wsX3_here) := goodIn_app (goodIn_of _ (by decide +kernel)) ggX3_skipBlanks_X3_here
theorem dX3_skipBlanks_0 : decode cX3_skipBlanks 0 = .ok (.aload_n 0, 1) := by decide +kernel
theorem dX3_skipBlanks_1 : decode cX3_skipBlanks 1 = .ok (.getfield 39, 3) := by decide +kernel
theorem dX3_skipBlanks_4 : decode cX3_skipBlanks 4 = .ok (.aload_n 0, 1) := by decide +kernel
theorem dX3_skipBlanks_5 : decode cX3_skipBlanks 5 = .ok (.getfield 29, 3) := by decide +kernel
theorem dX3_skipBlanks_8 : decode cX3_skipBlanks 8 = .ok (.if_icmp .ge 25, 3) := by decide +kernel
theorem dX3_skipBlanks_11 : decode cX3_skipBlanks 11 = .ok (.aload_n 0, 1) := by decide +kernel
theorem dX3_skipBlanks_12 : decode cX3_skipBlanks 12 = .ok (.invokevirtual 49, 3) := by decide +kernel
theorem dX3_skipBlanks_15 : decode cX3_skipBlanks 15 = .ok (.bipush 32, 2) := by decide +kernel
theorem dX3_skipBlanks_17 : decode cX3_skipBlanks 17 = .ok (.if_icmp .ne 16, 3) := by decide +kernel
theorem dX3_skipBlanks_20 : decode cX3_skipBlanks 20 = .ok (.aload_n 0, 1) := by decide +kernel
theorem dX3_skipBlanks_21 : decode cX3_skipBlanks 21 = .ok (.dup, 1) := by decide +kernel
theorem dX3_skipBlanks_22 : decode cX3_skipBlanks 22 = .ok (.getfield 39, 3) := by decide +kernel
theorem dX3_skipBlanks_25 : decode cX3_skipBlanks 25 = .ok (.iconst 1, 1) := by decide +kernel
theorem dX3_skipBlanks_26 : decode cX3_skipBlanks 26 = .ok (.iadd, 1) := by decide +kernel
theorem dX3_skipBlanks_27 : decode cX3_skipBlanks 27 = .ok (.putfield 39, 3) := by decide +kernel
theorem dX3_skipBlanks_30 : decode cX3_skipBlanks 30 = .ok (.goto (-30), 3) := by decide +kernel
theorem dX3_skipBlanks_33 : decode cX3_skipBlanks 33 = .ok (.return_, 1) := by decide +kernel
set_option maxRecDepth 20000 in
theorem ggX3_here_X5_isBelow : GoodIn wsX3_here wsX5_isBelow := goodIn_r _ [6] (by decide +kernel) (by decide +kernel)
set_option maxRecDepth 20000 in
theorem gX3_here_X5_isBelow_n25 : GoodIn wsX3_here (wsX5_isBelow) := ggX3_here_X5_isBelow
theorem dX3_here_0 : decode cX3_here 0 = .ok (.aload_n 0, 1) := by decide +kernel
theorem dX3_here_1 : decode cX3_here 1 = .ok (.getfield 39, 3) := by decide +kernel
theorem dX3_here_4 : decode cX3_here 4 = .ok (.aload_n 0, 1) := by decide +kernel
theorem dX3_here_5 : decode cX3_here 5 = .ok (.getfield 29, 3) := by decide +kernel
theorem dX3_here_8 : decode cX3_here 8 = .ok (.if_icmp .ge 27, 3) := by decide +kernel
theorem dX3_here_11 : decode cX3_here 11 = .ok (.aload_n 0, 1) := by decide +kernel
theorem dX3_here_12 : decode cX3_here 12 = .ok (.getfield 39, 3) := by decide +kernel
theorem dX3_here_15 : decode cX3_here 15 = .ok (.bipush 120, 2) := by decide +kernel
theorem dX3_here_17 : decode cX3_here 17 = .ok (.invokestatic 25, 3) := by decide +kernel
theorem dX3_here_20 : decode cX3_here 20 = .ok (.ifCond .eq 15, 3) := by decide +kernel
theorem dX3_here_23 : decode cX3_here 23 = .ok (.aload_n 0, 1) := by decide +kernel
theorem dX3_here_24 : decode cX3_here 24 = .ok (.getfield 9, 3) := by decide +kernel
theorem dX3_here_27 : decode cX3_here 27 = .ok (.aload_n 0, 1) := by decide +kernel
theorem dX3_here_28 : decode cX3_here 28 = .ok (.getfield 39, 3) := by decide +kernel
theorem dX3_here_31 : decode cX3_here 31 = .ok (.baload, 1) := by decide +kernel
theorem dX3_here_32 : decode cX3_here 32 = .ok (.goto 4, 3) := by decide +kernel
theorem dX3_here_35 : decode cX3_here 35 = .ok (.iconst (-1), 1) := by decide +kernel
theorem dX3_here_36 : decode cX3_here 36 = .ok (.ireturn, 1) := by decide +kernel
theorem dX3_isFigure_0 : decode cX3_isFigure 0 = .ok (.iload_n 0, 1) := by decide +kernel
theorem dX3_isFigure_1 : decode cX3_isFigure 1 = .ok (.bipush 48, 2) := by decide +kernel
theorem dX3_isFigure_3 : decode cX3_isFigure 3 = .ok (.if_icmp .lt 13, 3) := by decide +kernel
theorem dX3_isFigure_6 : decode cX3_isFigure 6 = .ok (.iload_n 0, 1) := by decide +kernel
theorem dX3_isFigure_7 : decode cX3_isFigure 7 = .ok (.bipush 57, 2) := by decide +kernel
theorem dX3_isFigure_9 : decode cX3_isFigure 9 = .ok (.if_icmp .gt 7, 3) := by decide +kernel
theorem dX3_isFigure_12 : decode cX3_isFigure 12 = .ok (.iconst 1, 1) := by decide +kernel
theorem dX3_isFigure_13 : decode cX3_isFigure 13 = .ok (.goto 4, 3) := by decide +kernel
theorem dX3_isFigure_16 : decode cX3_isFigure 16 = .ok (.iconst 0, 1) := by decide +kernel
theorem dX3_isFigure_17 : decode cX3_isFigure 17 = .ok (.ireturn, 1) := by decide +kernel
theorem dX3_numbersWanted_0 : decode cX3_numbersWanted 0 = .ok (.iload_n 0, 1) := by decide +kernel
theorem dX3_numbersWanted_1 : decode cX3_numbersWanted 1 = .ok (.lookupswitch 62 #[(98, 51), (99, 60), (101, 54), (108, 56), (114, 58)], 51) := by decide +kernel
theorem dX3_numbersWanted_52 : decode cX3_numbersWanted 52 = .ok (.bipush 8, 2) := by decide +kernel
theorem dX3_numbersWanted_54 : decode cX3_numbersWanted 54 = .ok (.ireturn, 1) := by decide +kernel
theorem dX3_numbersWanted_55 : decode cX3_numbersWanted 55 = .ok (.iconst 3, 1) := by decide +kernel
theorem dX3_numbersWanted_56 : decode cX3_numbersWanted 56 = .ok (.ireturn, 1) := by decide +kernel
theorem dX3_numbersWanted_57 : decode cX3_numbersWanted 57 = .ok (.iconst 0, 1) := by decide +kernel
theorem dX3_numbersWanted_58 : decode cX3_numbersWanted 58 = .ok (.ireturn, 1) := by decide +kernel
theorem dX3_numbersWanted_59 : decode cX3_numbersWanted 59 = .ok (.iconst 1, 1) := by decide +kernel
theorem dX3_numbersWanted_60 : decode cX3_numbersWanted 60 = .ok (.ireturn, 1) := by decide +kernel
theorem dX3_numbersWanted_61 : decode cX3_numbersWanted 61 = .ok (.iconst 2, 1) := by decide +kernel
theorem dX3_numbersWanted_62 : decode cX3_numbersWanted 62 = .ok (.ireturn, 1) := by decide +kernel
theorem dX3_numbersWanted_63 : decode cX3_numbersWanted 63 = .ok (.iconst (-1), 1) := by decide +kernel
theorem dX3_numbersWanted_64 : decode cX3_numbersWanted 64 = .ok (.ireturn, 1) := by decide +kernel
set_option maxRecDepth 20000 in
theorem ggX4_init_X0_init : GoodIn wsX4_init wsX0_init := goodIn_r _ [17, 18, 2, 3] (by decide +kernel) (by decide +kernel)
set_option maxRecDepth 20000 in
theorem gX4_init_X0_init_n11 : GoodIn wsX4_init (wsX0_init) := ggX4_init_X0_init
theorem dX4_init_0 : decode cX4_init 0 = .ok (.aload_n 0, 1) := by decide +kernel
theorem dX4_init_1 : decode cX4_init 1 = .ok (.invokespecial 3, 3) := by decide +kernel
theorem dX4_init_4 : decode cX4_init 4 = .ok (.aload_n 0, 1) := by decide +kernel
theorem dX4_init_5 : decode cX4_init 5 = .ok (.new 9, 3) := by decide +kernel
theorem dX4_init_8 : decode cX4_init 8 = .ok (.dup, 1) := by decide +kernel
theorem dX4_init_9 : decode cX4_init 9 = .ok (.invokespecial 11, 3) := by decide +kernel
theorem dX4_init_12 : decode cX4_init 12 = .ok (.putfield 12, 3) := by decide +kernel
theorem dX4_init_15 : decode cX4_init 15 = .ok (.aload_n 0, 1) := by decide +kernel
theorem dX4_init_16 : decode cX4_init 16 = .ok (.new 9, 3) := by decide +kernel
theorem dX4_init_19 : decode cX4_init 19 = .ok (.dup, 1) := by decide +kernel
theorem dX4_init_20 : decode cX4_init 20 = .ok (.invokespecial 11, 3) := by decide +kernel
theorem dX4_init_23 : decode cX4_init 23 = .ok (.putfield 18, 3) := by decide +kernel
theorem dX4_init_26 : decode cX4_init 26 = .ok (.aload_n 0, 1) := by decide +kernel
theorem dX4_init_27 : decode cX4_init 27 = .ok (.new 9, 3) := by decide +kernel
theorem dX4_init_30 : decode cX4_init 30 = .ok (.dup, 1) := by decide +kernel
theorem dX4_init_31 : decode cX4_init 31 = .ok (.invokespecial 11, 3) := by decide +kernel
theorem dX4_init_34 : decode cX4_init 34 = .ok (.putfield 21, 3) := by decide +kernel
theorem dX4_init_37 : decode cX4_init 37 = .ok (.aload_n 0, 1) := by decide +kernel
theorem dX4_init_38 : decode cX4_init 38 = .ok (.new 9, 3) := by decide +kernel
theorem dX4_init_41 : decode cX4_init 41 = .ok (.dup, 1) := by decide +kernel
theorem dX4_init_42 : decode cX4_init 42 = .ok (.invokespecial 11, 3) := by decide +kernel
theorem dX4_init_45 : decode cX4_init 45 = .ok (.putfield 24, 3) := by decide +kernel
theorem dX4_init_48 : decode cX4_init 48 = .ok (.aload_n 0, 1) := by decide +kernel
theorem dX4_init_49 : decode cX4_init 49 = .ok (.new 9, 3) := by decide +kernel
theorem dX4_init_52 : decode cX4_init 52 = .ok (.dup, 1) := by decide +kernel
theorem dX4_init_53 : decode cX4_init 53 = .ok (.invokespecial 11, 3) := by decide +kernel
theorem dX4_init_56 : decode cX4_init 56 = .ok (.putfield 27, 3) := by decide +kernel
theorem dX4_init_59 : decode cX4_init 59 = .ok (.aload_n 0, 1) := by decide +kernel
theorem dX4_init_60 : decode cX4_init 60 = .ok (.new 9, 3) := by decide +kernel
theorem dX4_init_63 : decode cX4_init 63 = .ok (.dup, 1) := by decide +kernel
theorem dX4_init_64 : decode cX4_init 64 = .ok (.invokespecial 11, 3) := by decide +kernel
theorem dX4_init_67 : decode cX4_init 67 = .ok (.putfield 30, 3) := by decide +kernel
theorem dX4_init_70 : decode cX4_init 70 = .ok (.aload_n 0, 1) := by decide +kernel
theorem dX4_init_71 : decode cX4_init 71 = .ok (.new 9, 3) := by decide +kernel
theorem dX4_init_74 : decode cX4_init 74 = .ok (.dup, 1) := by decide +kernel
theorem dX4_init_75 : decode cX4_init 75 = .ok (.invokespecial 11, 3) := by decide +kernel
theorem dX4_init_78 : decode cX4_init 78 = .ok (.putfield 33, 3) := by decide +kernel
theorem dX4_init_81 : decode cX4_init 81 = .ok (.aload_n 0, 1) := by decide +kernel
theorem dX4_init_82 : decode cX4_init 82 = .ok (.bipush 12, 2) := by decide +kernel
theorem dX4_init_84 : decode cX4_init 84 = .ok (.newarray .int, 2) := by decide +kernel
theorem dX4_init_86 : decode cX4_init 86 = .ok (.putfield 36, 3) := by decide +kernel
theorem dX4_init_89 : decode cX4_init 89 = .ok (.return_, 1) := by decide +kernel
set_option maxRecDepth 20000 in
theorem ggX4_addThrough_X0_fill : GoodIn wsX4_addThrough wsX0_fill := goodIn_r _ [6, 7, 8, 9, 10, 34, 35, 36, 37] (by decide +kernel) (by decide +kernel)
set_option maxRecDepth 20000 in
theorem gX4_addThrough_X0_fill : GoodIn wsX4_addThrough (wsV RX4 40 RX0 yX0_fill wsX0_fill) := goodIn_app (goodIn_of _ (by decide +kernel)) ggX4_addThrough_X0_fill
set_option maxRecDepth 20000 in
theorem ggX4_addThrough_X2_addBox : GoodIn wsX4_addThrough wsX2_addBox := goodIn_r _ [15, 16, 17, 18, 19, 20, 21, 22, 23, 5, 24, 7, 8, 9, 10, 25, 3, 4, 6, 38, 39, 40, 41, 42, 34, 35, 36, 37] (by decide +kernel) (by decide +kernel)
set_option maxRecDepth 20000 in
theorem gX4_addThrough_X2_addBox : GoodIn wsX4_addThrough (wsV RX4 44 RX2 yX2_addBox wsX2_addBox) := goodIn_app (goodIn_of _ (by decide +kernel)) ggX4_addThrough_X2_addBox
theorem dX4_addThrough_0 : decode cX4_addThrough 0 = .ok (.aload_n 0, 1) := by decide +kernel
theorem dX4_addThrough_1 : decode cX4_addThrough 1 = .ok (.getfield 33, 3) := by decide +kernel
theorem dX4_addThrough_4 : decode cX4_addThrough 4 = .ok (.iconst 0, 1) := by decide +kernel
theorem dX4_addThrough_5 : decode cX4_addThrough 5 = .ok (.sipush 10007, 3) := by decide +kernel
theorem dX4_addThrough_8 : decode cX4_addThrough 8 = .ok (.sipush 10007, 3) := by decide +kernel
theorem dX4_addThrough_11 : decode cX4_addThrough 11 = .ok (.iconst 0, 1) := by decide +kernel
theorem dX4_addThrough_12 : decode cX4_addThrough 12 = .ok (.invokevirtual 40, 3) := by decide +kernel
theorem dX4_addThrough_15 : decode cX4_addThrough 15 = .ok (.aload_n 1, 1) := by decide +kernel
theorem dX4_addThrough_16 : decode cX4_addThrough 16 = .ok (.aload_n 0, 1) := by decide +kernel
theorem dX4_addThrough_17 : decode cX4_addThrough 17 = .ok (.getfield 33, 3) := by decide +kernel
theorem dX4_addThrough_20 : decode cX4_addThrough 20 = .ok (.invokevirtual 44, 3) := by decide +kernel
theorem dX4_addThrough_23 : decode cX4_addThrough 23 = .ok (.ireturn, 1) := by decide +kernel
set_option maxRecDepth 20000 in
theorem ggX4_addGiven_X3_numberOf : GoodIn wsX4_addGiven wsX3_numberOf := goodIn_r _ [6, 7, 8, 9, 10, 11, 51, 52, 53, 54, 55, 56, 57, 58] (by decide +kernel) (by decide +kernel)
set_option maxRecDepth 20000 in
theorem gX4_addGiven_X3_numberOf : GoodIn wsX4_addGiven (wsV RX4 50 RX3 yX3_numberOf wsX3_numberOf) := goodIn_app (goodIn_of _ (by decide +kernel)) ggX4_addGiven_X3_numberOf
set_option maxRecDepth 20000 in
theorem ggX4_addGiven_X1_isGiven : GoodIn wsX4_addGiven wsX1_isGiven := goodIn_r _ [15, 9, 10, 11] (by decide +kernel) (by decide +kernel)
set_option maxRecDepth 20000 in
theorem gX4_addGiven_X1_isGiven : GoodIn wsX4_addGiven (va_wsS RX4 56 yX1_isGiven wsX1_isGiven) := goodIn_app (goodIn_of _ (by decide +kernel)) ggX4_addGiven_X1_isGiven
set_option maxRecDepth 20000 in
theorem ggX4_addGiven_X1_made : GoodIn wsX4_addGiven wsX1_made := goodIn_r _ [18] (by decide +kernel) (by decide +kernel)
set_option maxRecDepth 20000 in
theorem gX4_addGiven_X1_made : GoodIn wsX4_addGiven (va_wsS RX4 62 yX1_made wsX1_made) := goodIn_app (goodIn_of _ (by decide +kernel)) ggX4_addGiven_X1_made
set_option maxRecDepth 20000 in
theorem ggX4_addGiven_X0_put : GoodIn wsX4_addGiven wsX0_put := goodIn_r _ [23, 24, 25, 26, 27, 59, 60, 61, 62] (by decide +kernel) (by decide +kernel)
set_option maxRecDepth 20000 in
theorem gX4_addGiven_X0_put : GoodIn wsX4_addGiven (wsV RX4 65 RX0 yX0_put wsX0_put) := goodIn_app (goodIn_of _ (by decide +kernel)) ggX4_addGiven_X0_put
set_option maxRecDepth 20000 in
theorem ggX4_addGiven_X2_addBox : GoodIn wsX4_addGiven wsX2_addBox := goodIn_r _ [32, 33, 34, 9, 10, 11, 35, 36, 37, 22, 38, 24, 25, 26, 27, 39, 40, 41, 42, 63, 64, 65, 66, 67, 59, 60, 61, 62] (by decide +kernel) (by decide +kernel)
set_option maxRecDepth 20000 in
theorem gX4_addGiven_X2_addBox : GoodIn wsX4_addGiven (wsV RX4 44 RX2 yX2_addBox wsX2_addBox) := goodIn_app (goodIn_of _ (by decide +kernel)) ggX4_addGiven_X2_addBox
theorem dX4_addGiven_0 : decode cX4_addGiven 0 = .ok (.iconst 0, 1) := by decide +kernel
theorem dX4_addGiven_1 : decode cX4_addGiven 1 = .ok (.istore 4, 2) := by decide +kernel
theorem dX4_addGiven_3 : decode cX4_addGiven 3 = .ok (.iload 4, 2) := by decide +kernel
theorem dX4_addGiven_5 : decode cX4_addGiven 5 = .ok (.iconst 4, 1) := by decide +kernel
theorem dX4_addGiven_6 : decode cX4_addGiven 6 = .ok (.if_icmp .ge 62, 3) := by decide +kernel
theorem dX4_addGiven_9 : decode cX4_addGiven 9 = .ok (.aload_n 2, 1) := by decide +kernel
theorem dX4_addGiven_10 : decode cX4_addGiven 10 = .ok (.iload_n 3, 1) := by decide +kernel
theorem dX4_addGiven_11 : decode cX4_addGiven 11 = .ok (.iconst 2, 1) := by decide +kernel
theorem dX4_addGiven_12 : decode cX4_addGiven 12 = .ok (.iload 4, 2) := by decide +kernel
theorem dX4_addGiven_14 : decode cX4_addGiven 14 = .ok (.imul, 1) := by decide +kernel
theorem dX4_addGiven_15 : decode cX4_addGiven 15 = .ok (.invokevirtual 50, 3) := by decide +kernel
theorem dX4_addGiven_18 : decode cX4_addGiven 18 = .ok (.istore 5, 2) := by decide +kernel
theorem dX4_addGiven_20 : decode cX4_addGiven 20 = .ok (.aload_n 2, 1) := by decide +kernel
theorem dX4_addGiven_21 : decode cX4_addGiven 21 = .ok (.iload_n 3, 1) := by decide +kernel
theorem dX4_addGiven_22 : decode cX4_addGiven 22 = .ok (.iconst 2, 1) := by decide +kernel
theorem dX4_addGiven_23 : decode cX4_addGiven 23 = .ok (.iload 4, 2) := by decide +kernel
theorem dX4_addGiven_25 : decode cX4_addGiven 25 = .ok (.imul, 1) := by decide +kernel
theorem dX4_addGiven_26 : decode cX4_addGiven 26 = .ok (.iconst 1, 1) := by decide +kernel
theorem dX4_addGiven_27 : decode cX4_addGiven 27 = .ok (.iadd, 1) := by decide +kernel
theorem dX4_addGiven_28 : decode cX4_addGiven 28 = .ok (.invokevirtual 50, 3) := by decide +kernel
theorem dX4_addGiven_31 : decode cX4_addGiven 31 = .ok (.istore 6, 2) := by decide +kernel
theorem dX4_addGiven_33 : decode cX4_addGiven 33 = .ok (.iload 5, 2) := by decide +kernel
theorem dX4_addGiven_35 : decode cX4_addGiven 35 = .ok (.iload 6, 2) := by decide +kernel
theorem dX4_addGiven_37 : decode cX4_addGiven 37 = .ok (.invokestatic 56, 3) := by decide +kernel
theorem dX4_addGiven_40 : decode cX4_addGiven 40 = .ok (.ifCond .ne 6, 3) := by decide +kernel
theorem dX4_addGiven_43 : decode cX4_addGiven 43 = .ok (.bipush (-2), 2) := by decide +kernel
theorem dX4_addGiven_45 : decode cX4_addGiven 45 = .ok (.ireturn, 1) := by decide +kernel
theorem dX4_addGiven_46 : decode cX4_addGiven 46 = .ok (.aload_n 0, 1) := by decide +kernel
theorem dX4_addGiven_47 : decode cX4_addGiven 47 = .ok (.getfield 33, 3) := by decide +kernel
theorem dX4_addGiven_50 : decode cX4_addGiven 50 = .ok (.iload 4, 2) := by decide +kernel
theorem dX4_addGiven_52 : decode cX4_addGiven 52 = .ok (.iload 5, 2) := by decide +kernel
theorem dX4_addGiven_54 : decode cX4_addGiven 54 = .ok (.iload 6, 2) := by decide +kernel
theorem dX4_addGiven_56 : decode cX4_addGiven 56 = .ok (.invokestatic 62, 3) := by decide +kernel
theorem dX4_addGiven_59 : decode cX4_addGiven 59 = .ok (.invokevirtual 65, 3) := by decide +kernel
theorem dX4_addGiven_62 : decode cX4_addGiven 62 = .ok (.iinc 4 1, 3) := by decide +kernel
theorem dX4_addGiven_65 : decode cX4_addGiven 65 = .ok (.goto (-62), 3) := by decide +kernel
theorem dX4_addGiven_68 : decode cX4_addGiven 68 = .ok (.aload_n 1, 1) := by decide +kernel
theorem dX4_addGiven_69 : decode cX4_addGiven 69 = .ok (.aload_n 0, 1) := by decide +kernel
theorem dX4_addGiven_70 : decode cX4_addGiven 70 = .ok (.getfield 33, 3) := by decide +kernel
theorem dX4_addGiven_73 : decode cX4_addGiven 73 = .ok (.invokevirtual 44, 3) := by decide +kernel
theorem dX4_addGiven_76 : decode cX4_addGiven 76 = .ok (.ireturn, 1) := by decide +kernel
set_option maxRecDepth 20000 in
theorem ggX4_addTurned_X2_hasBox : GoodIn wsX4_addTurned wsX2_hasBox := goodIn_r _ [11, 12, 13, 14, 15, 35, 36, 37, 38, 39] (by decide +kernel) (by decide +kernel)
set_option maxRecDepth 20000 in
theorem gX4_addTurned_X2_hasBox : GoodIn wsX4_addTurned (wsV RX4 69 RX2 yX2_hasBox wsX2_hasBox) := goodIn_app (goodIn_of _ (by decide +kernel)) ggX4_addTurned_X2_hasBox
set_option maxRecDepth 20000 in
theorem ggX4_addTurned_X0_fill : GoodIn wsX4_addTurned wsX0_fill := goodIn_r _ [20, 21, 22, 23, 24, 48, 49, 50, 51] (by decide +kernel) (by decide +kernel)
set_option maxRecDepth 20000 in
theorem gX4_addTurned_X0_fill : GoodIn wsX4_addTurned (wsV RX4 40 RX0 yX0_fill wsX0_fill) := goodIn_app (goodIn_of _ (by decide +kernel)) ggX4_addTurned_X0_fill
set_option maxRecDepth 20000 in
theorem ggX4_addTurned_X2_addBox : GoodIn wsX4_addTurned wsX2_addBox := goodIn_r _ [28, 12, 29, 13, 14, 15, 30, 31, 32, 19, 33, 21, 22, 23, 24, 34, 17, 18, 20, 35, 36, 37, 38, 39, 48, 49, 50, 51] (by decide +kernel) (by decide +kernel)
set_option maxRecDepth 20000 in
theorem gX4_addTurned_X2_addBox : GoodIn wsX4_addTurned (wsV RX4 44 RX2 yX2_addBox wsX2_addBox) := goodIn_app (goodIn_of _ (by decide +kernel)) ggX4_addTurned_X2_addBox
theorem dX4_addTurned_0 : decode cX4_addTurned 0 = .ok (.aload_n 1, 1) := by decide +kernel
theorem dX4_addTurned_1 : decode cX4_addTurned 1 = .ok (.iload_n 2, 1) := by decide +kernel
theorem dX4_addTurned_2 : decode cX4_addTurned 2 = .ok (.invokevirtual 69, 3) := by decide +kernel
theorem dX4_addTurned_5 : decode cX4_addTurned 5 = .ok (.ifCond .ne 6, 3) := by decide +kernel
theorem dX4_addTurned_8 : decode cX4_addTurned 8 = .ok (.bipush (-2), 2) := by decide +kernel
theorem dX4_addTurned_10 : decode cX4_addTurned 10 = .ok (.ireturn, 1) := by decide +kernel
theorem dX4_addTurned_11 : decode cX4_addTurned 11 = .ok (.aload_n 1, 1) := by decide +kernel
theorem dX4_addTurned_12 : decode cX4_addTurned 12 = .ok (.getfield 73, 3) := by decide +kernel
theorem dX4_addTurned_15 : decode cX4_addTurned 15 = .ok (.iload_n 2, 1) := by decide +kernel
theorem dX4_addTurned_16 : decode cX4_addTurned 16 = .ok (.aaload, 1) := by decide +kernel
theorem dX4_addTurned_17 : decode cX4_addTurned 17 = .ok (.astore_n 3, 1) := by decide +kernel
theorem dX4_addTurned_18 : decode cX4_addTurned 18 = .ok (.aload_n 0, 1) := by decide +kernel
theorem dX4_addTurned_19 : decode cX4_addTurned 19 = .ok (.getfield 33, 3) := by decide +kernel
theorem dX4_addTurned_22 : decode cX4_addTurned 22 = .ok (.aload_n 3, 1) := by decide +kernel
theorem dX4_addTurned_23 : decode cX4_addTurned 23 = .ok (.getfield 77, 3) := by decide +kernel
theorem dX4_addTurned_26 : decode cX4_addTurned 26 = .ok (.aload_n 3, 1) := by decide +kernel
theorem dX4_addTurned_27 : decode cX4_addTurned 27 = .ok (.getfield 81, 3) := by decide +kernel
theorem dX4_addTurned_30 : decode cX4_addTurned 30 = .ok (.aload_n 3, 1) := by decide +kernel
theorem dX4_addTurned_31 : decode cX4_addTurned 31 = .ok (.getfield 84, 3) := by decide +kernel
theorem dX4_addTurned_34 : decode cX4_addTurned 34 = .ok (.aload_n 3, 1) := by decide +kernel
theorem dX4_addTurned_35 : decode cX4_addTurned 35 = .ok (.getfield 87, 3) := by decide +kernel
theorem dX4_addTurned_38 : decode cX4_addTurned 38 = .ok (.invokevirtual 40, 3) := by decide +kernel
theorem dX4_addTurned_41 : decode cX4_addTurned 41 = .ok (.aload_n 1, 1) := by decide +kernel
theorem dX4_addTurned_42 : decode cX4_addTurned 42 = .ok (.aload_n 0, 1) := by decide +kernel
theorem dX4_addTurned_43 : decode cX4_addTurned 43 = .ok (.getfield 33, 3) := by decide +kernel
theorem dX4_addTurned_46 : decode cX4_addTurned 46 = .ok (.invokevirtual 44, 3) := by decide +kernel
theorem dX4_addTurned_49 : decode cX4_addTurned 49 = .ok (.ireturn, 1) := by decide +kernel
set_option maxRecDepth 20000 in
theorem ggX4_addChain_X2_hasBox : GoodIn wsX4_addChain wsX2_hasBox := goodIn_r _ [10, 11, 12, 13, 14, 84, 85, 86, 87, 88] (by decide +kernel) (by decide +kernel)
set_option maxRecDepth 20000 in
theorem gX4_addChain_X2_hasBox : GoodIn wsX4_addChain (wsV RX4 69 RX2 yX2_hasBox wsX2_hasBox) := goodIn_app (goodIn_of _ (by decide +kernel)) ggX4_addChain_X2_hasBox
set_option maxRecDepth 20000 in
theorem ggX4_addChain_X0_becomeTransfer : GoodIn wsX4_addChain wsX0_becomeTransfer := goodIn_r _ [19, 20, 21, 22, 23, 24, 25, 18, 26, 27, 28, 29, 30, 31, 32, 33, 34, 35, 36, 37, 38, 39, 40, 41, 42, 43, 44, 45, 46, 47, 48, 49, 50, 51, 89, 90, 91, 92] (by decide +kernel) (by decide +kernel)
set_option maxRecDepth 20000 in
theorem gX4_addChain_X0_becomeTransfer : GoodIn wsX4_addChain (wsV RX4 90 RX0 yX0_becomeTransfer wsX0_becomeTransfer) := goodIn_app (goodIn_of _ (by decide +kernel)) ggX4_addChain_X0_becomeTransfer
set_option maxRecDepth 20000 in
theorem ggX4_addChain_X0_becomeProduct : GoodIn wsX4_addChain wsX0_becomeProduct := goodIn_r _ [55, 21, 27, 20, 22, 56, 57, 30, 58, 59, 29, 31, 32, 33, 34, 60, 61, 62, 38, 39, 40, 18, 41, 89, 90, 91, 92] (by decide +kernel) (by decide +kernel)
set_option maxRecDepth 20000 in
theorem gX4_addChain_X0_becomeProduct : GoodIn wsX4_addChain (wsV RX4 94 RX0 yX0_becomeProduct wsX0_becomeProduct) := goodIn_app (goodIn_of _ (by decide +kernel)) ggX4_addChain_X0_becomeProduct
set_option maxRecDepth 20000 in
theorem ggX4_addChain_X0_becomeBoxOf : GoodIn wsX4_addChain wsX0_becomeBoxOf := goodIn_r _ [66, 22, 27, 20, 23, 24, 25, 18, 26, 21, 28, 29, 30, 31, 32, 33, 34, 35, 36, 37, 38, 39, 40, 41, 42, 43, 44, 45, 46, 47, 48, 49, 50, 51, 89, 90, 91, 92] (by decide +kernel) (by decide +kernel)
set_option maxRecDepth 20000 in
theorem gX4_addChain_X0_becomeBoxOf : GoodIn wsX4_addChain (wsV RX4 98 RX0 yX0_becomeBoxOf wsX0_becomeBoxOf) := goodIn_app (goodIn_of _ (by decide +kernel)) ggX4_addChain_X0_becomeBoxOf
set_option maxRecDepth 20000 in
theorem ggX4_addChain_X2_addBox : GoodIn wsX4_addChain wsX2_addBox := goodIn_r _ [70, 11, 71, 12, 13, 14, 72, 73, 74, 18, 75, 21, 27, 20, 22, 38, 39, 40, 41, 84, 85, 86, 87, 88, 89, 90, 91, 92] (by decide +kernel) (by decide +kernel)
set_option maxRecDepth 20000 in
theorem gX4_addChain_X2_addBox : GoodIn wsX4_addChain (wsV RX4 44 RX2 yX2_addBox wsX2_addBox) := goodIn_app (goodIn_of _ (by decide +kernel)) ggX4_addChain_X2_addBox
theorem dX4_addChain_0 : decode cX4_addChain 0 = .ok (.aload_n 1, 1) := by decide +kernel
theorem dX4_addChain_1 : decode cX4_addChain 1 = .ok (.iload_n 2, 1) := by decide +kernel
theorem dX4_addChain_2 : decode cX4_addChain 2 = .ok (.invokevirtual 69, 3) := by decide +kernel
theorem dX4_addChain_5 : decode cX4_addChain 5 = .ok (.ifCond .eq 11, 3) := by decide +kernel
theorem dX4_addChain_8 : decode cX4_addChain 8 = .ok (.aload_n 1, 1) := by decide +kernel
theorem dX4_addChain_9 : decode cX4_addChain 9 = .ok (.iload_n 3, 1) := by decide +kernel
theorem dX4_addChain_10 : decode cX4_addChain 10 = .ok (.invokevirtual 69, 3) := by decide +kernel
theorem dX4_addChain_13 : decode cX4_addChain 13 = .ok (.ifCond .ne 6, 3) := by decide +kernel
theorem dX4_addChain_16 : decode cX4_addChain 16 = .ok (.bipush (-2), 2) := by decide +kernel
theorem dX4_addChain_18 : decode cX4_addChain 18 = .ok (.ireturn, 1) := by decide +kernel
theorem dX4_addChain_19 : decode cX4_addChain 19 = .ok (.aload_n 0, 1) := by decide +kernel
theorem dX4_addChain_20 : decode cX4_addChain 20 = .ok (.getfield 24, 3) := by decide +kernel
theorem dX4_addChain_23 : decode cX4_addChain 23 = .ok (.aload_n 1, 1) := by decide +kernel
theorem dX4_addChain_24 : decode cX4_addChain 24 = .ok (.getfield 73, 3) := by decide +kernel
theorem dX4_addChain_27 : decode cX4_addChain 27 = .ok (.iload_n 2, 1) := by decide +kernel
theorem dX4_addChain_28 : decode cX4_addChain 28 = .ok (.aaload, 1) := by decide +kernel
theorem dX4_addChain_29 : decode cX4_addChain 29 = .ok (.invokevirtual 90, 3) := by decide +kernel
theorem dX4_addChain_32 : decode cX4_addChain 32 = .ok (.ifCond .eq 19, 3) := by decide +kernel
theorem dX4_addChain_35 : decode cX4_addChain 35 = .ok (.aload_n 0, 1) := by decide +kernel
theorem dX4_addChain_36 : decode cX4_addChain 36 = .ok (.getfield 27, 3) := by decide +kernel
theorem dX4_addChain_39 : decode cX4_addChain 39 = .ok (.aload_n 1, 1) := by decide +kernel
theorem dX4_addChain_40 : decode cX4_addChain 40 = .ok (.getfield 73, 3) := by decide +kernel
theorem dX4_addChain_43 : decode cX4_addChain 43 = .ok (.iload_n 3, 1) := by decide +kernel
theorem dX4_addChain_44 : decode cX4_addChain 44 = .ok (.aaload, 1) := by decide +kernel
theorem dX4_addChain_45 : decode cX4_addChain 45 = .ok (.invokevirtual 90, 3) := by decide +kernel
theorem dX4_addChain_48 : decode cX4_addChain 48 = .ok (.ifCond .ne 6, 3) := by decide +kernel
theorem dX4_addChain_51 : decode cX4_addChain 51 = .ok (.bipush (-3), 2) := by decide +kernel
theorem dX4_addChain_53 : decode cX4_addChain 53 = .ok (.ireturn, 1) := by decide +kernel
theorem dX4_addChain_54 : decode cX4_addChain 54 = .ok (.aload_n 0, 1) := by decide +kernel
theorem dX4_addChain_55 : decode cX4_addChain 55 = .ok (.getfield 30, 3) := by decide +kernel
theorem dX4_addChain_58 : decode cX4_addChain 58 = .ok (.aload_n 0, 1) := by decide +kernel
theorem dX4_addChain_59 : decode cX4_addChain 59 = .ok (.getfield 24, 3) := by decide +kernel
theorem dX4_addChain_62 : decode cX4_addChain 62 = .ok (.aload_n 0, 1) := by decide +kernel
theorem dX4_addChain_63 : decode cX4_addChain 63 = .ok (.getfield 27, 3) := by decide +kernel
theorem dX4_addChain_66 : decode cX4_addChain 66 = .ok (.invokevirtual 94, 3) := by decide +kernel
theorem dX4_addChain_69 : decode cX4_addChain 69 = .ok (.aload_n 0, 1) := by decide +kernel
theorem dX4_addChain_70 : decode cX4_addChain 70 = .ok (.getfield 33, 3) := by decide +kernel
theorem dX4_addChain_73 : decode cX4_addChain 73 = .ok (.aload_n 0, 1) := by decide +kernel
theorem dX4_addChain_74 : decode cX4_addChain 74 = .ok (.getfield 30, 3) := by decide +kernel
theorem dX4_addChain_77 : decode cX4_addChain 77 = .ok (.invokevirtual 98, 3) := by decide +kernel
theorem dX4_addChain_80 : decode cX4_addChain 80 = .ok (.ifCond .eq 14, 3) := by decide +kernel
theorem dX4_addChain_83 : decode cX4_addChain 83 = .ok (.aload_n 1, 1) := by decide +kernel
theorem dX4_addChain_84 : decode cX4_addChain 84 = .ok (.aload_n 0, 1) := by decide +kernel
theorem dX4_addChain_85 : decode cX4_addChain 85 = .ok (.getfield 33, 3) := by decide +kernel
theorem dX4_addChain_88 : decode cX4_addChain 88 = .ok (.invokevirtual 44, 3) := by decide +kernel
theorem dX4_addChain_91 : decode cX4_addChain 91 = .ok (.goto 5, 3) := by decide +kernel
theorem dX4_addChain_94 : decode cX4_addChain 94 = .ok (.bipush (-3), 2) := by decide +kernel
theorem dX4_addChain_96 : decode cX4_addChain 96 = .ok (.ireturn, 1) := by decide +kernel
set_option maxRecDepth 20000 in
theorem ggX4_addPeeled_X2_hasBox : GoodIn wsX4_addPeeled wsX2_hasBox := goodIn_r _ [10, 11, 12, 13, 14, 88, 89, 90, 91, 92] (by decide +kernel) (by decide +kernel)
set_option maxRecDepth 20000 in
theorem gX4_addPeeled_X2_hasBox : GoodIn wsX4_addPeeled (wsV RX4 69 RX2 yX2_hasBox wsX2_hasBox) := goodIn_app (goodIn_of _ (by decide +kernel)) ggX4_addPeeled_X2_hasBox
set_option maxRecDepth 20000 in
theorem ggX4_addPeeled_X0_becomeTransfer : GoodIn wsX4_addPeeled wsX0_becomeTransfer := goodIn_r _ [19, 20, 21, 22, 23, 24, 25, 18, 26, 27, 28, 29, 30, 31, 32, 33, 34, 35, 36, 37, 38, 39, 40, 41, 42, 43, 44, 45, 46, 47, 48, 49, 50, 51, 93, 94, 95, 96] (by decide +kernel) (by decide +kernel)
set_option maxRecDepth 20000 in
theorem gX4_addPeeled_X0_becomeTransfer : GoodIn wsX4_addPeeled (wsV RX4 90 RX0 yX0_becomeTransfer wsX0_becomeTransfer) := goodIn_app (goodIn_of _ (by decide +kernel)) ggX4_addPeeled_X0_becomeTransfer
set_option maxRecDepth 20000 in
theorem ggX4_addPeeled_X0_invert : GoodIn wsX4_addPeeled wsX0_invert := goodIn_r _ [55, 22, 27, 20, 21, 23, 24, 25, 18, 26, 28, 29, 30, 31, 32, 33, 34, 35, 36, 37, 38, 39, 40, 41, 42, 43, 44, 45, 46, 47, 48, 49, 50, 51, 93, 94, 95, 96] (by decide +kernel) (by decide +kernel)
set_option maxRecDepth 20000 in
theorem gX4_addPeeled_X0_invert : GoodIn wsX4_addPeeled (wsV RX4 101 RX0 yX0_invert wsX0_invert) := goodIn_app (goodIn_of _ (by decide +kernel)) ggX4_addPeeled_X0_invert
set_option maxRecDepth 20000 in
theorem ggX4_addPeeled_X0_becomeProduct : GoodIn wsX4_addPeeled wsX0_becomeProduct := goodIn_r _ [59, 21, 27, 20, 22, 60, 61, 30, 62, 63, 29, 31, 32, 33, 34, 64, 65, 66, 38, 39, 40, 18, 41, 93, 94, 95, 96] (by decide +kernel) (by decide +kernel)
set_option maxRecDepth 20000 in
theorem gX4_addPeeled_X0_becomeProduct : GoodIn wsX4_addPeeled (wsV RX4 94 RX0 yX0_becomeProduct wsX0_becomeProduct) := goodIn_app (goodIn_of _ (by decide +kernel)) ggX4_addPeeled_X0_becomeProduct
set_option maxRecDepth 20000 in
theorem ggX4_addPeeled_X0_becomeBoxOf : GoodIn wsX4_addPeeled wsX0_becomeBoxOf := goodIn_r _ [70, 22, 27, 20, 23, 24, 25, 18, 26, 21, 28, 29, 30, 31, 32, 33, 34, 35, 36, 37, 38, 39, 40, 41, 42, 43, 44, 45, 46, 47, 48, 49, 50, 51, 93, 94, 95, 96] (by decide +kernel) (by decide +kernel)
set_option maxRecDepth 20000 in
theorem gX4_addPeeled_X0_becomeBoxOf : GoodIn wsX4_addPeeled (wsV RX4 98 RX0 yX0_becomeBoxOf wsX0_becomeBoxOf) := goodIn_app (goodIn_of _ (by decide +kernel)) ggX4_addPeeled_X0_becomeBoxOf
set_option maxRecDepth 20000 in
theorem ggX4_addPeeled_X2_addBox : GoodIn wsX4_addPeeled wsX2_addBox := goodIn_r _ [74, 11, 75, 12, 13, 14, 76, 77, 78, 18, 79, 21, 27, 20, 22, 38, 39, 40, 41, 88, 89, 90, 91, 92, 93, 94, 95, 96] (by decide +kernel) (by decide +kernel)
set_option maxRecDepth 20000 in
theorem gX4_addPeeled_X2_addBox : GoodIn wsX4_addPeeled (wsV RX4 44 RX2 yX2_addBox wsX2_addBox) := goodIn_app (goodIn_of _ (by decide +kernel)) ggX4_addPeeled_X2_addBox
theorem dX4_addPeeled_0 : decode cX4_addPeeled 0 = .ok (.aload_n 1, 1) := by decide +kernel
theorem dX4_addPeeled_1 : decode cX4_addPeeled 1 = .ok (.iload_n 2, 1) := by decide +kernel
theorem dX4_addPeeled_2 : decode cX4_addPeeled 2 = .ok (.invokevirtual 69, 3) := by decide +kernel
theorem dX4_addPeeled_5 : decode cX4_addPeeled 5 = .ok (.ifCond .eq 20, 3) := by decide +kernel
theorem dX4_addPeeled_8 : decode cX4_addPeeled 8 = .ok (.aload_n 1, 1) := by decide +kernel
theorem dX4_addPeeled_9 : decode cX4_addPeeled 9 = .ok (.iload_n 3, 1) := by decide +kernel
theorem dX4_addPeeled_10 : decode cX4_addPeeled 10 = .ok (.invokevirtual 69, 3) := by decide +kernel
theorem dX4_addPeeled_13 : decode cX4_addPeeled 13 = .ok (.ifCond .eq 12, 3) := by decide +kernel
theorem dX4_addPeeled_16 : decode cX4_addPeeled 16 = .ok (.aload_n 1, 1) := by decide +kernel
theorem dX4_addPeeled_17 : decode cX4_addPeeled 17 = .ok (.iload 4, 2) := by decide +kernel
theorem dX4_addPeeled_19 : decode cX4_addPeeled 19 = .ok (.invokevirtual 69, 3) := by decide +kernel
theorem dX4_addPeeled_22 : decode cX4_addPeeled 22 = .ok (.ifCond .ne 6, 3) := by decide +kernel
theorem dX4_addPeeled_25 : decode cX4_addPeeled 25 = .ok (.bipush (-2), 2) := by decide +kernel
theorem dX4_addPeeled_27 : decode cX4_addPeeled 27 = .ok (.ireturn, 1) := by decide +kernel
theorem dX4_addPeeled_28 : decode cX4_addPeeled 28 = .ok (.aload_n 0, 1) := by decide +kernel
theorem dX4_addPeeled_29 : decode cX4_addPeeled 29 = .ok (.getfield 30, 3) := by decide +kernel
theorem dX4_addPeeled_32 : decode cX4_addPeeled 32 = .ok (.aload_n 1, 1) := by decide +kernel
theorem dX4_addPeeled_33 : decode cX4_addPeeled 33 = .ok (.getfield 73, 3) := by decide +kernel
theorem dX4_addPeeled_36 : decode cX4_addPeeled 36 = .ok (.iload_n 2, 1) := by decide +kernel
theorem dX4_addPeeled_37 : decode cX4_addPeeled 37 = .ok (.aaload, 1) := by decide +kernel
theorem dX4_addPeeled_38 : decode cX4_addPeeled 38 = .ok (.invokevirtual 90, 3) := by decide +kernel
theorem dX4_addPeeled_41 : decode cX4_addPeeled 41 = .ok (.ifCond .eq 56, 3) := by decide +kernel
theorem dX4_addPeeled_44 : decode cX4_addPeeled 44 = .ok (.aload_n 0, 1) := by decide +kernel
theorem dX4_addPeeled_45 : decode cX4_addPeeled 45 = .ok (.getfield 24, 3) := by decide +kernel
theorem dX4_addPeeled_48 : decode cX4_addPeeled 48 = .ok (.aload_n 1, 1) := by decide +kernel
theorem dX4_addPeeled_49 : decode cX4_addPeeled 49 = .ok (.getfield 73, 3) := by decide +kernel
theorem dX4_addPeeled_52 : decode cX4_addPeeled 52 = .ok (.iload_n 3, 1) := by decide +kernel
theorem dX4_addPeeled_53 : decode cX4_addPeeled 53 = .ok (.aaload, 1) := by decide +kernel
theorem dX4_addPeeled_54 : decode cX4_addPeeled 54 = .ok (.invokevirtual 90, 3) := by decide +kernel
theorem dX4_addPeeled_57 : decode cX4_addPeeled 57 = .ok (.ifCond .eq 40, 3) := by decide +kernel
theorem dX4_addPeeled_60 : decode cX4_addPeeled 60 = .ok (.aload_n 0, 1) := by decide +kernel
theorem dX4_addPeeled_61 : decode cX4_addPeeled 61 = .ok (.getfield 27, 3) := by decide +kernel
theorem dX4_addPeeled_64 : decode cX4_addPeeled 64 = .ok (.aload_n 1, 1) := by decide +kernel
theorem dX4_addPeeled_65 : decode cX4_addPeeled 65 = .ok (.getfield 73, 3) := by decide +kernel
theorem dX4_addPeeled_68 : decode cX4_addPeeled 68 = .ok (.iload 4, 2) := by decide +kernel
theorem dX4_addPeeled_70 : decode cX4_addPeeled 70 = .ok (.aaload, 1) := by decide +kernel
theorem dX4_addPeeled_71 : decode cX4_addPeeled 71 = .ok (.invokevirtual 90, 3) := by decide +kernel
theorem dX4_addPeeled_74 : decode cX4_addPeeled 74 = .ok (.ifCond .eq 23, 3) := by decide +kernel
theorem dX4_addPeeled_77 : decode cX4_addPeeled 77 = .ok (.aload_n 0, 1) := by decide +kernel
theorem dX4_addPeeled_78 : decode cX4_addPeeled 78 = .ok (.getfield 24, 3) := by decide +kernel
theorem dX4_addPeeled_81 : decode cX4_addPeeled 81 = .ok (.invokevirtual 101, 3) := by decide +kernel
theorem dX4_addPeeled_84 : decode cX4_addPeeled 84 = .ok (.ifCond .eq 13, 3) := by decide +kernel
theorem dX4_addPeeled_87 : decode cX4_addPeeled 87 = .ok (.aload_n 0, 1) := by decide +kernel
theorem dX4_addPeeled_88 : decode cX4_addPeeled 88 = .ok (.getfield 27, 3) := by decide +kernel
theorem dX4_addPeeled_91 : decode cX4_addPeeled 91 = .ok (.invokevirtual 101, 3) := by decide +kernel
theorem dX4_addPeeled_94 : decode cX4_addPeeled 94 = .ok (.ifCond .ne 6, 3) := by decide +kernel
theorem dX4_addPeeled_97 : decode cX4_addPeeled 97 = .ok (.bipush (-3), 2) := by decide +kernel
theorem dX4_addPeeled_99 : decode cX4_addPeeled 99 = .ok (.ireturn, 1) := by decide +kernel
theorem dX4_addPeeled_100 : decode cX4_addPeeled 100 = .ok (.aload_n 0, 1) := by decide +kernel
theorem dX4_addPeeled_101 : decode cX4_addPeeled 101 = .ok (.getfield 30, 3) := by decide +kernel
theorem dX4_addPeeled_104 : decode cX4_addPeeled 104 = .ok (.aload_n 0, 1) := by decide +kernel
theorem dX4_addPeeled_105 : decode cX4_addPeeled 105 = .ok (.getfield 24, 3) := by decide +kernel
theorem dX4_addPeeled_108 : decode cX4_addPeeled 108 = .ok (.aload_n 0, 1) := by decide +kernel
theorem dX4_addPeeled_109 : decode cX4_addPeeled 109 = .ok (.getfield 30, 3) := by decide +kernel
theorem dX4_addPeeled_112 : decode cX4_addPeeled 112 = .ok (.invokevirtual 94, 3) := by decide +kernel
theorem dX4_addPeeled_115 : decode cX4_addPeeled 115 = .ok (.aload_n 0, 1) := by decide +kernel
theorem dX4_addPeeled_116 : decode cX4_addPeeled 116 = .ok (.getfield 30, 3) := by decide +kernel
theorem dX4_addPeeled_119 : decode cX4_addPeeled 119 = .ok (.aload_n 0, 1) := by decide +kernel
theorem dX4_addPeeled_120 : decode cX4_addPeeled 120 = .ok (.getfield 30, 3) := by decide +kernel
theorem dX4_addPeeled_123 : decode cX4_addPeeled 123 = .ok (.aload_n 0, 1) := by decide +kernel
theorem dX4_addPeeled_124 : decode cX4_addPeeled 124 = .ok (.getfield 27, 3) := by decide +kernel
theorem dX4_addPeeled_127 : decode cX4_addPeeled 127 = .ok (.invokevirtual 94, 3) := by decide +kernel
theorem dX4_addPeeled_130 : decode cX4_addPeeled 130 = .ok (.aload_n 0, 1) := by decide +kernel
theorem dX4_addPeeled_131 : decode cX4_addPeeled 131 = .ok (.getfield 33, 3) := by decide +kernel
theorem dX4_addPeeled_134 : decode cX4_addPeeled 134 = .ok (.aload_n 0, 1) := by decide +kernel
theorem dX4_addPeeled_135 : decode cX4_addPeeled 135 = .ok (.getfield 30, 3) := by decide +kernel
theorem dX4_addPeeled_138 : decode cX4_addPeeled 138 = .ok (.invokevirtual 98, 3) := by decide +kernel
theorem dX4_addPeeled_141 : decode cX4_addPeeled 141 = .ok (.ifCond .eq 14, 3) := by decide +kernel
theorem dX4_addPeeled_144 : decode cX4_addPeeled 144 = .ok (.aload_n 1, 1) := by decide +kernel
theorem dX4_addPeeled_145 : decode cX4_addPeeled 145 = .ok (.aload_n 0, 1) := by decide +kernel
theorem dX4_addPeeled_146 : decode cX4_addPeeled 146 = .ok (.getfield 33, 3) := by decide +kernel
theorem dX4_addPeeled_149 : decode cX4_addPeeled 149 = .ok (.invokevirtual 44, 3) := by decide +kernel
theorem dX4_addPeeled_152 : decode cX4_addPeeled 152 = .ok (.goto 5, 3) := by decide +kernel
theorem dX4_addPeeled_155 : decode cX4_addPeeled 155 = .ok (.bipush (-3), 2) := by decide +kernel
theorem dX4_addPeeled_157 : decode cX4_addPeeled 157 = .ok (.ireturn, 1) := by decide +kernel
set_option maxRecDepth 20000 in
theorem ggX4_formNumber_X2_hasBox : GoodIn wsX4_formNumber wsX2_hasBox := goodIn_r _ [7, 8, 9, 10, 11, 72, 73, 74, 75, 76] (by decide +kernel) (by decide +kernel)
set_option maxRecDepth 20000 in
theorem gX4_formNumber_X2_hasBox : GoodIn wsX4_formNumber (wsV RX4 69 RX2 yX2_hasBox wsX2_hasBox) := goodIn_app (goodIn_of _ (by decide +kernel)) ggX4_formNumber_X2_hasBox
set_option maxRecDepth 20000 in
theorem ggX4_formNumber_X5_isBelow : GoodIn wsX4_formNumber wsX5_isBelow := goodIn_r _ [11] (by decide +kernel) (by decide +kernel)
set_option maxRecDepth 20000 in
theorem gX4_formNumber_X5_isBelow_n105 : GoodIn wsX4_formNumber (wsX5_isBelow) := ggX4_formNumber_X5_isBelow
set_option maxRecDepth 20000 in
theorem ggX4_formNumber_X0_becomeTransfer : GoodIn wsX4_formNumber wsX0_becomeTransfer := goodIn_r _ [16, 17, 18, 19, 20, 21, 22, 15, 23, 24, 25, 26, 27, 28, 29, 30, 31, 32, 33, 34, 35, 36, 37, 38, 39, 40, 41, 42, 43, 44, 45, 46, 47, 48, 77, 78, 79, 80] (by decide +kernel) (by decide +kernel)
set_option maxRecDepth 20000 in
theorem gX4_formNumber_X0_becomeTransfer : GoodIn wsX4_formNumber (wsV RX4 90 RX0 yX0_becomeTransfer wsX0_becomeTransfer) := goodIn_app (goodIn_of _ (by decide +kernel)) ggX4_formNumber_X0_becomeTransfer
set_option maxRecDepth 20000 in
theorem ggX4_formNumber_X0_becomeSecondForm : GoodIn wsX4_formNumber wsX0_becomeSecondForm := goodIn_r _ [52, 18, 19, 24, 17, 32, 33, 27, 34, 29, 30, 31, 53, 54, 55, 25, 26, 28, 35, 36, 37, 15, 38, 39, 40, 41, 42, 43, 44, 45, 46, 47, 48, 77, 78, 79, 80] (by decide +kernel) (by decide +kernel)
set_option maxRecDepth 20000 in
theorem gX4_formNumber_X0_becomeSecondForm : GoodIn wsX4_formNumber (wsV RX4 108 RX0 yX0_becomeSecondForm wsX0_becomeSecondForm) := goodIn_app (goodIn_of _ (by decide +kernel)) ggX4_formNumber_X0_becomeSecondForm
set_option maxRecDepth 20000 in
theorem ggX4_formNumber_X0_invert : GoodIn wsX4_formNumber wsX0_invert := goodIn_r _ [59, 19, 24, 17, 18, 20, 21, 22, 15, 23, 25, 26, 27, 28, 29, 30, 31, 32, 33, 34, 35, 36, 37, 38, 39, 40, 41, 42, 43, 44, 45, 46, 47, 48, 77, 78, 79, 80] (by decide +kernel) (by decide +kernel)
set_option maxRecDepth 20000 in
theorem gX4_formNumber_X0_invert : GoodIn wsX4_formNumber (wsV RX4 101 RX0 yX0_invert wsX0_invert) := goodIn_app (goodIn_of _ (by decide +kernel)) ggX4_formNumber_X0_invert
set_option maxRecDepth 20000 in
theorem ggX4_formNumber_X0_at : GoodIn wsX4_formNumber wsX0_at := goodIn_r _ [63, 18, 24, 17, 19, 77, 78, 79, 80] (by decide +kernel) (by decide +kernel)
set_option maxRecDepth 20000 in
theorem gX4_formNumber_X0_at : GoodIn wsX4_formNumber (wsV RX4 111 RX0 yX0_at wsX0_at) := goodIn_app (goodIn_of _ (by decide +kernel)) ggX4_formNumber_X0_at
theorem dX4_formNumber_0 : decode cX4_formNumber 0 = .ok (.aload_n 1, 1) := by decide +kernel
theorem dX4_formNumber_1 : decode cX4_formNumber 1 = .ok (.iload_n 2, 1) := by decide +kernel
theorem dX4_formNumber_2 : decode cX4_formNumber 2 = .ok (.invokevirtual 69, 3) := by decide +kernel
theorem dX4_formNumber_5 : decode cX4_formNumber 5 = .ok (.ifCond .eq 22, 3) := by decide +kernel
theorem dX4_formNumber_8 : decode cX4_formNumber 8 = .ok (.iload 4, 2) := by decide +kernel
theorem dX4_formNumber_10 : decode cX4_formNumber 10 = .ok (.iconst 4, 1) := by decide +kernel
theorem dX4_formNumber_11 : decode cX4_formNumber 11 = .ok (.invokestatic 105, 3) := by decide +kernel
theorem dX4_formNumber_14 : decode cX4_formNumber 14 = .ok (.ifCond .eq 13, 3) := by decide +kernel
theorem dX4_formNumber_17 : decode cX4_formNumber 17 = .ok (.iload_n 3, 1) := by decide +kernel
theorem dX4_formNumber_18 : decode cX4_formNumber 18 = .ok (.iconst 1, 1) := by decide +kernel
theorem dX4_formNumber_19 : decode cX4_formNumber 19 = .ok (.if_icmp .lt 8, 3) := by decide +kernel
theorem dX4_formNumber_22 : decode cX4_formNumber 22 = .ok (.iload_n 3, 1) := by decide +kernel
theorem dX4_formNumber_23 : decode cX4_formNumber 23 = .ok (.iconst 3, 1) := by decide +kernel
theorem dX4_formNumber_24 : decode cX4_formNumber 24 = .ok (.if_icmp .le 6, 3) := by decide +kernel
theorem dX4_formNumber_27 : decode cX4_formNumber 27 = .ok (.bipush (-2), 2) := by decide +kernel
theorem dX4_formNumber_29 : decode cX4_formNumber 29 = .ok (.ireturn, 1) := by decide +kernel
theorem dX4_formNumber_30 : decode cX4_formNumber 30 = .ok (.iload_n 3, 1) := by decide +kernel
theorem dX4_formNumber_31 : decode cX4_formNumber 31 = .ok (.iconst 1, 1) := by decide +kernel
theorem dX4_formNumber_32 : decode cX4_formNumber 32 = .ok (.if_icmp .ne 21, 3) := by decide +kernel
theorem dX4_formNumber_35 : decode cX4_formNumber 35 = .ok (.aload_n 0, 1) := by decide +kernel
theorem dX4_formNumber_36 : decode cX4_formNumber 36 = .ok (.getfield 24, 3) := by decide +kernel
theorem dX4_formNumber_39 : decode cX4_formNumber 39 = .ok (.aload_n 1, 1) := by decide +kernel
theorem dX4_formNumber_40 : decode cX4_formNumber 40 = .ok (.getfield 73, 3) := by decide +kernel
theorem dX4_formNumber_43 : decode cX4_formNumber 43 = .ok (.iload_n 2, 1) := by decide +kernel
theorem dX4_formNumber_44 : decode cX4_formNumber 44 = .ok (.aaload, 1) := by decide +kernel
theorem dX4_formNumber_45 : decode cX4_formNumber 45 = .ok (.invokevirtual 90, 3) := by decide +kernel
theorem dX4_formNumber_48 : decode cX4_formNumber 48 = .ok (.istore 5, 2) := by decide +kernel
