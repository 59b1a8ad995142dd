theorem dX0_init_0 : decode cX0_init 0 = .ok (.aload_n 0, 1) := by decide +kernel
theorem dX0_init_1 : decode cX0_init 1 = .ok (.invokespecial 3, 3) := by decide +kernel
theorem dX0_init_4 : decode cX0_init 4 = .ok (.aload_n 0, 1) := by decide +kernel
theorem dX0_init_5 : decode cX0_init 5 = .ok (.bipush 6, 2) := by decide +kernel
theorem dX0_init_7 : decode cX0_init 7 = .ok (.newarray .int, 2) := by decide +kernel
theorem dX0_init_9 : decode cX0_init 9 = .ok (.putfield 11, 3) := by decide +kernel
theorem dX0_init_12 : decode cX0_init 12 = .ok (.aload_n 0, 1) := by decide +kernel
theorem dX0_init_13 : decode cX0_init 13 = .ok (.bipush 6, 2) := by decide +kernel
theorem dX0_init_15 : decode cX0_init 15 = .ok (.newarray .int, 2) := by decide +kernel
theorem dX0_init_17 : decode cX0_init 17 = .ok (.putfield 15, 3) := by decide +kernel
theorem dX0_init_20 : decode cX0_init 20 = .ok (.aload_n 0, 1) := by decide +kernel
theorem dX0_init_21 : decode cX0_init 21 = .ok (.bipush 6, 2) := by decide +kernel
theorem dX0_init_23 : decode cX0_init 23 = .ok (.newarray .int, 2) := by decide +kernel
theorem dX0_init_25 : decode cX0_init 25 = .ok (.putfield 18, 3) := by decide +kernel
theorem dX0_init_28 : decode cX0_init 28 = .ok (.aload_n 0, 1) := by decide +kernel
theorem dX0_init_29 : decode cX0_init 29 = .ok (.bipush 6, 2) := by decide +kernel
theorem dX0_init_31 : decode cX0_init 31 = .ok (.newarray .int, 2) := by decide +kernel
theorem dX0_init_33 : decode cX0_init 33 = .ok (.putfield 21, 3) := by decide +kernel
theorem dX0_init_36 : decode cX0_init 36 = .ok (.aload_n 0, 1) := by decide +kernel
theorem dX0_init_37 : decode cX0_init 37 = .ok (.bipush 96, 2) := by decide +kernel
theorem dX0_init_39 : decode cX0_init 39 = .ok (.newarray .int, 2) := by decide +kernel
theorem dX0_init_41 : decode cX0_init 41 = .ok (.putfield 24, 3) := by decide +kernel
theorem dX0_init_44 : decode cX0_init 44 = .ok (.aload_n 0, 1) := by decide +kernel
theorem dX0_init_45 : decode cX0_init 45 = .ok (.iconst 0, 1) := by decide +kernel
theorem dX0_init_46 : decode cX0_init 46 = .ok (.putfield 27, 3) := by decide +kernel
theorem dX0_init_49 : decode cX0_init 49 = .ok (.aload_n 0, 1) := by decide +kernel
theorem dX0_init_50 : decode cX0_init 50 = .ok (.iconst 0, 1) := by decide +kernel
theorem dX0_init_51 : decode cX0_init 51 = .ok (.putfield 31, 3) := by decide +kernel
theorem dX0_init_54 : decode cX0_init 54 = .ok (.return_, 1) := by decide +kernel
set_option maxRecDepth 20000 in
theorem ggX0_push_J9_floorMod_7cf53 : GoodIn wsX0_push wsJ9_floorMod_7cf53 := goodIn_r _ [14] (by decide +kernel) (by decide +kernel)
set_option maxRecDepth 20000 in
theorem gX0_push_J9_floorMod_7cf53 : GoodIn wsX0_push (va_wsS RX0 34 yJ9_floorMod_7cf53 wsJ9_floorMod_7cf53) := goodIn_app (goodIn_of _ (by decide +kernel)) ggX0_push_J9_floorMod_7cf53
theorem dX0_push_0 : decode cX0_push 0 = .ok (.aload_n 0, 1) := by decide +kernel
theorem dX0_push_1 : decode cX0_push 1 = .ok (.getfield 31, 3) := by decide +kernel
theorem dX0_push_4 : decode cX0_push 4 = .ok (.istore 5, 2) := by decide +kernel
theorem dX0_push_6 : decode cX0_push 6 = .ok (.aload_n 0, 1) := by decide +kernel
theorem dX0_push_7 : decode cX0_push 7 = .ok (.getfield 11, 3) := by decide +kernel
theorem dX0_push_10 : decode cX0_push 10 = .ok (.iload 5, 2) := by decide +kernel
theorem dX0_push_12 : decode cX0_push 12 = .ok (.iload_n 1, 1) := by decide +kernel
theorem dX0_push_13 : decode cX0_push 13 = .ok (.iastore, 1) := by decide +kernel
theorem dX0_push_14 : decode cX0_push 14 = .ok (.aload_n 0, 1) := by decide +kernel
theorem dX0_push_15 : decode cX0_push 15 = .ok (.getfield 15, 3) := by decide +kernel
theorem dX0_push_18 : decode cX0_push 18 = .ok (.iload 5, 2) := by decide +kernel
theorem dX0_push_20 : decode cX0_push 20 = .ok (.iload_n 2, 1) := by decide +kernel
theorem dX0_push_21 : decode cX0_push 21 = .ok (.iastore, 1) := by decide +kernel
theorem dX0_push_22 : decode cX0_push 22 = .ok (.aload_n 0, 1) := by decide +kernel
theorem dX0_push_23 : decode cX0_push 23 = .ok (.getfield 18, 3) := by decide +kernel
theorem dX0_push_26 : decode cX0_push 26 = .ok (.iload 5, 2) := by decide +kernel
theorem dX0_push_28 : decode cX0_push 28 = .ok (.iload_n 3, 1) := by decide +kernel
theorem dX0_push_29 : decode cX0_push 29 = .ok (.iastore, 1) := by decide +kernel
theorem dX0_push_30 : decode cX0_push 30 = .ok (.aload_n 0, 1) := by decide +kernel
theorem dX0_push_31 : decode cX0_push 31 = .ok (.getfield 21, 3) := by decide +kernel
theorem dX0_push_34 : decode cX0_push 34 = .ok (.iload 5, 2) := by decide +kernel
theorem dX0_push_36 : decode cX0_push 36 = .ok (.iload 4, 2) := by decide +kernel
theorem dX0_push_38 : decode cX0_push 38 = .ok (.iastore, 1) := by decide +kernel
theorem dX0_push_39 : decode cX0_push 39 = .ok (.aload_n 0, 1) := by decide +kernel
theorem dX0_push_40 : decode cX0_push 40 = .ok (.aload_n 0, 1) := by decide +kernel
theorem dX0_push_41 : decode cX0_push 41 = .ok (.getfield 31, 3) := by decide +kernel
theorem dX0_push_44 : decode cX0_push 44 = .ok (.iconst 1, 1) := by decide +kernel
theorem dX0_push_45 : decode cX0_push 45 = .ok (.iadd, 1) := by decide +kernel
theorem dX0_push_46 : decode cX0_push 46 = .ok (.bipush 6, 2) := by decide +kernel
theorem dX0_push_48 : decode cX0_push 48 = .ok (.invokestatic 34, 3) := by decide +kernel
theorem dX0_push_51 : decode cX0_push 51 = .ok (.putfield 31, 3) := by decide +kernel
theorem dX0_push_54 : decode cX0_push 54 = .ok (.aload_n 0, 1) := by decide +kernel
theorem dX0_push_55 : decode cX0_push 55 = .ok (.aload_n 0, 1) := by decide +kernel
theorem dX0_push_56 : decode cX0_push 56 = .ok (.getfield 27, 3) := by decide +kernel
theorem dX0_push_59 : decode cX0_push 59 = .ok (.iconst 1, 1) := by decide +kernel
theorem dX0_push_60 : decode cX0_push 60 = .ok (.iadd, 1) := by decide +kernel
theorem dX0_push_61 : decode cX0_push 61 = .ok (.bipush 6, 2) := by decide +kernel
theorem dX0_push_63 : decode cX0_push 63 = .ok (.invokestatic 40, 3) := by decide +kernel
theorem dX0_push_66 : decode cX0_push 66 = .ok (.putfield 27, 3) := by decide +kernel
theorem dX0_push_69 : decode cX0_push 69 = .ok (.iload 5, 2) := by decide +kernel
theorem dX0_push_71 : decode cX0_push 71 = .ok (.ireturn, 1) := by decide +kernel
set_option maxRecDepth 20000 in
theorem ggX0_pop_J9_floorMod_7cf53 : GoodIn wsX0_pop wsJ9_floorMod_7cf53 := goodIn_r _ [10] (by decide +kernel) (by decide +kernel)
set_option maxRecDepth 20000 in
theorem gX0_pop_J9_floorMod_7cf53 : GoodIn wsX0_pop (va_wsS RX0 34 yJ9_floorMod_7cf53 wsJ9_floorMod_7cf53) := goodIn_app (goodIn_of _ (by decide +kernel)) ggX0_pop_J9_floorMod_7cf53
theorem dX0_pop_0 : decode cX0_pop 0 = .ok (.aload_n 0, 1) := by decide +kernel
theorem dX0_pop_1 : decode cX0_pop 1 = .ok (.aload_n 0, 1) := by decide +kernel
theorem dX0_pop_2 : decode cX0_pop 2 = .ok (.getfield 31, 3) := by decide +kernel
theorem dX0_pop_5 : decode cX0_pop 5 = .ok (.iconst 1, 1) := by decide +kernel
theorem dX0_pop_6 : decode cX0_pop 6 = .ok (.isub, 1) := by decide +kernel
theorem dX0_pop_7 : decode cX0_pop 7 = .ok (.bipush 6, 2) := by decide +kernel
theorem dX0_pop_9 : decode cX0_pop 9 = .ok (.invokestatic 34, 3) := by decide +kernel
theorem dX0_pop_12 : decode cX0_pop 12 = .ok (.putfield 31, 3) := by decide +kernel
theorem dX0_pop_15 : decode cX0_pop 15 = .ok (.aload_n 0, 1) := by decide +kernel
theorem dX0_pop_16 : decode cX0_pop 16 = .ok (.aload_n 0, 1) := by decide +kernel
theorem dX0_pop_17 : decode cX0_pop 17 = .ok (.getfield 27, 3) := by decide +kernel
theorem dX0_pop_20 : decode cX0_pop 20 = .ok (.iconst 1, 1) := by decide +kernel
theorem dX0_pop_21 : decode cX0_pop 21 = .ok (.isub, 1) := by decide +kernel
theorem dX0_pop_22 : decode cX0_pop 22 = .ok (.iconst 0, 1) := by decide +kernel
theorem dX0_pop_23 : decode cX0_pop 23 = .ok (.invokestatic 43, 3) := by decide +kernel
theorem dX0_pop_26 : decode cX0_pop 26 = .ok (.putfield 27, 3) := by decide +kernel
theorem dX0_pop_29 : decode cX0_pop 29 = .ok (.aload_n 0, 1) := by decide +kernel
theorem dX0_pop_30 : decode cX0_pop 30 = .ok (.getfield 31, 3) := by decide +kernel
theorem dX0_pop_33 : decode cX0_pop 33 = .ok (.ireturn, 1) := by decide +kernel
theorem dX1_init_0 : decode cX1_init 0 = .ok (.aload_n 0, 1) := by decide +kernel
theorem dX1_init_1 : decode cX1_init 1 = .ok (.invokespecial 1, 3) := by decide +kernel
theorem dX1_init_4 : decode cX1_init 4 = .ok (.aload_n 0, 1) := by decide +kernel
theorem dX1_init_5 : decode cX1_init 5 = .ok (.bipush 10, 2) := by decide +kernel
theorem dX1_init_7 : decode cX1_init 7 = .ok (.newarray .int, 2) := by decide +kernel
theorem dX1_init_9 : decode cX1_init 9 = .ok (.putfield 9, 3) := by decide +kernel
theorem dX1_init_12 : decode cX1_init 12 = .ok (.aload_n 0, 1) := by decide +kernel
theorem dX1_init_13 : decode cX1_init 13 = .ok (.bipush 10, 2) := by decide +kernel
theorem dX1_init_15 : decode cX1_init 15 = .ok (.newarray .int, 2) := by decide +kernel
theorem dX1_init_17 : decode cX1_init 17 = .ok (.putfield 13, 3) := by decide +kernel
theorem dX1_init_20 : decode cX1_init 20 = .ok (.aload_n 0, 1) := by decide +kernel
theorem dX1_init_21 : decode cX1_init 21 = .ok (.bipush 10, 2) := by decide +kernel
theorem dX1_init_23 : decode cX1_init 23 = .ok (.newarray .int, 2) := by decide +kernel
theorem dX1_init_25 : decode cX1_init 25 = .ok (.putfield 16, 3) := by decide +kernel
theorem dX1_init_28 : decode cX1_init 28 = .ok (.aload_n 0, 1) := by decide +kernel
theorem dX1_init_29 : decode cX1_init 29 = .ok (.bipush 40, 2) := by decide +kernel
theorem dX1_init_31 : decode cX1_init 31 = .ok (.newarray .int, 2) := by decide +kernel
theorem dX1_init_33 : decode cX1_init 33 = .ok (.putfield 19, 3) := by decide +kernel
theorem dX1_init_36 : decode cX1_init 36 = .ok (.aload_n 0, 1) := by decide +kernel
theorem dX1_init_37 : decode cX1_init 37 = .ok (.iconst 0, 1) := by decide +kernel
theorem dX1_init_38 : decode cX1_init 38 = .ok (.putfield 22, 3) := by decide +kernel
theorem dX1_init_41 : decode cX1_init 41 = .ok (.return_, 1) := by decide +kernel
theorem dX1_open_0 : decode cX1_open 0 = .ok (.aload_n 0, 1) := by decide +kernel
theorem dX1_open_1 : decode cX1_open 1 = .ok (.getfield 22, 3) := by decide +kernel
theorem dX1_open_4 : decode cX1_open 4 = .ok (.istore 4, 2) := by decide +kernel
theorem dX1_open_6 : decode cX1_open 6 = .ok (.aload_n 0, 1) := by decide +kernel
theorem dX1_open_7 : decode cX1_open 7 = .ok (.getfield 9, 3) := by decide +kernel
theorem dX1_open_10 : decode cX1_open 10 = .ok (.iload 4, 2) := by decide +kernel
theorem dX1_open_12 : decode cX1_open 12 = .ok (.iload_n 1, 1) := by decide +kernel
theorem dX1_open_13 : decode cX1_open 13 = .ok (.iastore, 1) := by decide +kernel
theorem dX1_open_14 : decode cX1_open 14 = .ok (.aload_n 0, 1) := by decide +kernel
theorem dX1_open_15 : decode cX1_open 15 = .ok (.getfield 13, 3) := by decide +kernel
theorem dX1_open_18 : decode cX1_open 18 = .ok (.iload 4, 2) := by decide +kernel
theorem dX1_open_20 : decode cX1_open 20 = .ok (.iload_n 2, 1) := by decide +kernel
theorem dX1_open_21 : decode cX1_open 21 = .ok (.iastore, 1) := by decide +kernel
theorem dX1_open_22 : decode cX1_open 22 = .ok (.aload_n 0, 1) := by decide +kernel
theorem dX1_open_23 : decode cX1_open 23 = .ok (.getfield 16, 3) := by decide +kernel
theorem dX1_open_26 : decode cX1_open 26 = .ok (.iload 4, 2) := by decide +kernel
theorem dX1_open_28 : decode cX1_open 28 = .ok (.iload_n 3, 1) := by decide +kernel
theorem dX1_open_29 : decode cX1_open 29 = .ok (.iastore, 1) := by decide +kernel
theorem dX1_open_30 : decode cX1_open 30 = .ok (.aload_n 0, 1) := by decide +kernel
theorem dX1_open_31 : decode cX1_open 31 = .ok (.dup, 1) := by decide +kernel
theorem dX1_open_32 : decode cX1_open 32 = .ok (.getfield 22, 3) := by decide +kernel
theorem dX1_open_35 : decode cX1_open 35 = .ok (.iconst 1, 1) := by decide +kernel
theorem dX1_open_36 : decode cX1_open 36 = .ok (.iadd, 1) := by decide +kernel
theorem dX1_open_37 : decode cX1_open 37 = .ok (.putfield 22, 3) := by decide +kernel
theorem dX1_open_40 : decode cX1_open 40 = .ok (.iload 4, 2) := by decide +kernel
theorem dX1_open_42 : decode cX1_open 42 = .ok (.ireturn, 1) := by decide +kernel
theorem dX1_put_0 : decode cX1_put 0 = .ok (.aload_n 0, 1) := by decide +kernel
theorem dX1_put_1 : decode cX1_put 1 = .ok (.getfield 19, 3) := by decide +kernel
theorem dX1_put_4 : decode cX1_put 4 = .ok (.iload_n 1, 1) := by decide +kernel
theorem dX1_put_5 : decode cX1_put 5 = .ok (.iconst 4, 1) := by decide +kernel
theorem dX1_put_6 : decode cX1_put 6 = .ok (.imul, 1) := by decide +kernel
theorem dX1_put_7 : decode cX1_put 7 = .ok (.iload_n 2, 1) := by decide +kernel
theorem dX1_put_8 : decode cX1_put 8 = .ok (.iadd, 1) := by decide +kernel
theorem dX1_put_9 : decode cX1_put 9 = .ok (.iload_n 3, 1) := by decide +kernel
theorem dX1_put_10 : decode cX1_put 10 = .ok (.iastore, 1) := by decide +kernel
theorem dX1_put_11 : decode cX1_put 11 = .ok (.return_, 1) := by decide +kernel
theorem dX1_labelAt_0 : decode cX1_labelAt 0 = .ok (.aload_n 0, 1) := by decide +kernel
theorem dX1_labelAt_1 : decode cX1_labelAt 1 = .ok (.getfield 19, 3) := by decide +kernel
theorem dX1_labelAt_4 : decode cX1_labelAt 4 = .ok (.iload_n 1, 1) := by decide +kernel
theorem dX1_labelAt_5 : decode cX1_labelAt 5 = .ok (.iconst 4, 1) := by decide +kernel
theorem dX1_labelAt_6 : decode cX1_labelAt 6 = .ok (.imul, 1) := by decide +kernel
theorem dX1_labelAt_7 : decode cX1_labelAt 7 = .ok (.iload_n 2, 1) := by decide +kernel
theorem dX1_labelAt_8 : decode cX1_labelAt 8 = .ok (.iadd, 1) := by decide +kernel
theorem dX1_labelAt_9 : decode cX1_labelAt 9 = .ok (.iaload, 1) := by decide +kernel
theorem dX1_labelAt_10 : decode cX1_labelAt 10 = .ok (.ireturn, 1) := by decide +kernel
theorem dX1_isOf_0 : decode cX1_isOf 0 = .ok (.aload_n 0, 1) := by decide +kernel
theorem dX1_isOf_1 : decode cX1_isOf 1 = .ok (.getfield 9, 3) := by decide +kernel
theorem dX1_isOf_4 : decode cX1_isOf 4 = .ok (.iload_n 1, 1) := by decide +kernel
theorem dX1_isOf_5 : decode cX1_isOf 5 = .ok (.iaload, 1) := by decide +kernel
theorem dX1_isOf_6 : decode cX1_isOf 6 = .ok (.iload_n 2, 1) := by decide +kernel
theorem dX1_isOf_7 : decode cX1_isOf 7 = .ok (.if_icmp .eq 12, 3) := by decide +kernel
theorem dX1_isOf_10 : decode cX1_isOf 10 = .ok (.aload_n 0, 1) := by decide +kernel
theorem dX1_isOf_11 : decode cX1_isOf 11 = .ok (.getfield 9, 3) := by decide +kernel
theorem dX1_isOf_14 : decode cX1_isOf 14 = .ok (.iload_n 1, 1) := by decide +kernel
theorem dX1_isOf_15 : decode cX1_isOf 15 = .ok (.iaload, 1) := by decide +kernel
theorem dX1_isOf_16 : decode cX1_isOf 16 = .ok (.ifCond .ne 7, 3) := by decide +kernel
theorem dX1_isOf_19 : decode cX1_isOf 19 = .ok (.iconst 1, 1) := by decide +kernel
theorem dX1_isOf_20 : decode cX1_isOf 20 = .ok (.goto 4, 3) := by decide +kernel
theorem dX1_isOf_23 : decode cX1_isOf 23 = .ok (.iconst 0, 1) := by decide +kernel
theorem dX1_isOf_24 : decode cX1_isOf 24 = .ok (.ireturn, 1) := by decide +kernel
theorem dX1_goesBefore_0 : decode cX1_goesBefore 0 = .ok (.aload_n 0, 1) := by decide +kernel
theorem dX1_goesBefore_1 : decode cX1_goesBefore 1 = .ok (.getfield 16, 3) := by decide +kernel
theorem dX1_goesBefore_4 : decode cX1_goesBefore 4 = .ok (.iload_n 1, 1) := by decide +kernel
theorem dX1_goesBefore_5 : decode cX1_goesBefore 5 = .ok (.iaload, 1) := by decide +kernel
theorem dX1_goesBefore_6 : decode cX1_goesBefore 6 = .ok (.aload_n 0, 1) := by decide +kernel
theorem dX1_goesBefore_7 : decode cX1_goesBefore 7 = .ok (.getfield 16, 3) := by decide +kernel
theorem dX1_goesBefore_10 : decode cX1_goesBefore 10 = .ok (.iload_n 2, 1) := by decide +kernel
theorem dX1_goesBefore_11 : decode cX1_goesBefore 11 = .ok (.iaload, 1) := by decide +kernel
theorem dX1_goesBefore_12 : decode cX1_goesBefore 12 = .ok (.if_icmp .eq 24, 3) := by decide +kernel
theorem dX1_goesBefore_15 : decode cX1_goesBefore 15 = .ok (.aload_n 0, 1) := by decide +kernel
theorem dX1_goesBefore_16 : decode cX1_goesBefore 16 = .ok (.getfield 16, 3) := by decide +kernel
theorem dX1_goesBefore_19 : decode cX1_goesBefore 19 = .ok (.iload_n 1, 1) := by decide +kernel
theorem dX1_goesBefore_20 : decode cX1_goesBefore 20 = .ok (.iaload, 1) := by decide +kernel
theorem dX1_goesBefore_21 : decode cX1_goesBefore 21 = .ok (.aload_n 0, 1) := by decide +kernel
theorem dX1_goesBefore_22 : decode cX1_goesBefore 22 = .ok (.getfield 16, 3) := by decide +kernel
theorem dX1_goesBefore_25 : decode cX1_goesBefore 25 = .ok (.iload_n 2, 1) := by decide +kernel
theorem dX1_goesBefore_26 : decode cX1_goesBefore 26 = .ok (.iaload, 1) := by decide +kernel
theorem dX1_goesBefore_27 : decode cX1_goesBefore 27 = .ok (.if_icmp .le 7, 3) := by decide +kernel
theorem dX1_goesBefore_30 : decode cX1_goesBefore 30 = .ok (.iconst 1, 1) := by decide +kernel
theorem dX1_goesBefore_31 : decode cX1_goesBefore 31 = .ok (.goto 4, 3) := by decide +kernel
theorem dX1_goesBefore_34 : decode cX1_goesBefore 34 = .ok (.iconst 0, 1) := by decide +kernel
theorem dX1_goesBefore_35 : decode cX1_goesBefore 35 = .ok (.ireturn, 1) := by decide +kernel
theorem dX1_goesBefore_36 : decode cX1_goesBefore 36 = .ok (.aload_n 0, 1) := by decide +kernel
theorem dX1_goesBefore_37 : decode cX1_goesBefore 37 = .ok (.getfield 13, 3) := by decide +kernel
theorem dX1_goesBefore_40 : decode cX1_goesBefore 40 = .ok (.iload_n 1, 1) := by decide +kernel
theorem dX1_goesBefore_41 : decode cX1_goesBefore 41 = .ok (.iaload, 1) := by decide +kernel
theorem dX1_goesBefore_42 : decode cX1_goesBefore 42 = .ok (.aload_n 0, 1) := by decide +kernel
theorem dX1_goesBefore_43 : decode cX1_goesBefore 43 = .ok (.getfield 13, 3) := by decide +kernel
theorem dX1_goesBefore_46 : decode cX1_goesBefore 46 = .ok (.iload_n 2, 1) := by decide +kernel
theorem dX1_goesBefore_47 : decode cX1_goesBefore 47 = .ok (.iaload, 1) := by decide +kernel
theorem dX1_goesBefore_48 : decode cX1_goesBefore 48 = .ok (.if_icmp .eq 24, 3) := by decide +kernel
theorem dX1_goesBefore_51 : decode cX1_goesBefore 51 = .ok (.aload_n 0, 1) := by decide +kernel
theorem dX1_goesBefore_52 : decode cX1_goesBefore 52 = .ok (.getfield 13, 3) := by decide +kernel
theorem dX1_goesBefore_55 : decode cX1_goesBefore 55 = .ok (.iload_n 1, 1) := by decide +kernel
theorem dX1_goesBefore_56 : decode cX1_goesBefore 56 = .ok (.iaload, 1) := by decide +kernel
theorem dX1_goesBefore_57 : decode cX1_goesBefore 57 = .ok (.aload_n 0, 1) := by decide +kernel
theorem dX1_goesBefore_58 : decode cX1_goesBefore 58 = .ok (.getfield 13, 3) := by decide +kernel
theorem dX1_goesBefore_61 : decode cX1_goesBefore 61 = .ok (.iload_n 2, 1) := by decide +kernel
theorem dX1_goesBefore_62 : decode cX1_goesBefore 62 = .ok (.iaload, 1) := by decide +kernel
theorem dX1_goesBefore_63 : decode cX1_goesBefore 63 = .ok (.if_icmp .le 7, 3) := by decide +kernel
theorem dX1_goesBefore_66 : decode cX1_goesBefore 66 = .ok (.iconst 1, 1) := by decide +kernel
theorem dX1_goesBefore_67 : decode cX1_goesBefore 67 = .ok (.goto 4, 3) := by decide +kernel
theorem dX1_goesBefore_70 : decode cX1_goesBefore 70 = .ok (.iconst 0, 1) := by decide +kernel
theorem dX1_goesBefore_71 : decode cX1_goesBefore 71 = .ok (.ireturn, 1) := by decide +kernel
theorem dX1_goesBefore_72 : decode cX1_goesBefore 72 = .ok (.iload_n 1, 1) := by decide +kernel
theorem dX1_goesBefore_73 : decode cX1_goesBefore 73 = .ok (.iload_n 2, 1) := by decide +kernel
theorem dX1_goesBefore_74 : decode cX1_goesBefore 74 = .ok (.if_icmp .ge 7, 3) := by decide +kernel
theorem dX1_goesBefore_77 : decode cX1_goesBefore 77 = .ok (.iconst 1, 1) := by decide +kernel
theorem dX1_goesBefore_78 : decode cX1_goesBefore 78 = .ok (.goto 4, 3) := by decide +kernel
theorem dX1_goesBefore_81 : decode cX1_goesBefore 81 = .ok (.iconst 0, 1) := by decide +kernel
theorem dX1_goesBefore_82 : decode cX1_goesBefore 82 = .ok (.ireturn, 1) := by decide +kernel
set_option maxRecDepth 20000 in
theorem ggX1_isHidden_X1_isOf : GoodIn wsX1_isHidden wsX1_isOf := goodIn_r _ [7, 2, 23, 24, 25, 26, 27] (by decide +kernel) (by decide +kernel)
set_option maxRecDepth 20000 in
theorem gX1_isHidden_X1_isOf : GoodIn wsX1_isHidden (wsV RX1 26 RX1 yX1_isOf wsX1_isOf) := goodIn_app (goodIn_of _ (by decide +kernel)) ggX1_isHidden_X1_isOf
set_option maxRecDepth 20000 in
theorem ggX1_isHidden_X1_haveSameLabels : GoodIn wsX1_isHidden wsX1_haveSameLabels := goodIn_r _ [11, 12, 13, 14, 15, 6, 16, 17, 23, 24, 25, 26, 27] (by decide +kernel) (by decide +kernel)
set_option maxRecDepth 20000 in
theorem gX1_isHidden_X1_haveSameLabels : GoodIn wsX1_isHidden (wsV RX1 30 RX1 yX1_haveSameLabels wsX1_haveSameLabels) := goodIn_app (goodIn_of _ (by decide +kernel)) ggX1_isHidden_X1_haveSameLabels
set_option maxRecDepth 20000 in
theorem ggX1_isHidden_X1_goesBefore : GoodIn wsX1_isHidden wsX1_goesBefore := goodIn_r _ [21, 12, 22, 23, 24, 25, 26, 27] (by decide +kernel) (by decide +kernel)
set_option maxRecDepth 20000 in
theorem gX1_isHidden_X1_goesBefore : GoodIn wsX1_isHidden (wsV RX1 33 RX1 yX1_goesBefore wsX1_goesBefore) := goodIn_app (goodIn_of _ (by decide +kernel)) ggX1_isHidden_X1_goesBefore
theorem dX1_isHidden_0 : decode cX1_isHidden 0 = .ok (.iconst 0, 1) := by decide +kernel
theorem dX1_isHidden_1 : decode cX1_isHidden 1 = .ok (.istore_n 2, 1) := by decide +kernel
theorem dX1_isHidden_2 : decode cX1_isHidden 2 = .ok (.iload_n 2, 1) := by decide +kernel
theorem dX1_isHidden_3 : decode cX1_isHidden 3 = .ok (.aload_n 0, 1) := by decide +kernel
theorem dX1_isHidden_4 : decode cX1_isHidden 4 = .ok (.getfield 22, 3) := by decide +kernel
theorem dX1_isHidden_7 : decode cX1_isHidden 7 = .ok (.if_icmp .ge 43, 3) := by decide +kernel
theorem dX1_isHidden_10 : decode cX1_isHidden 10 = .ok (.aload_n 0, 1) := by decide +kernel
theorem dX1_isHidden_11 : decode cX1_isHidden 11 = .ok (.iload_n 2, 1) := by decide +kernel
theorem dX1_isHidden_12 : decode cX1_isHidden 12 = .ok (.aload_n 0, 1) := by decide +kernel
theorem dX1_isHidden_13 : decode cX1_isHidden 13 = .ok (.getfield 9, 3) := by decide +kernel
theorem dX1_isHidden_16 : decode cX1_isHidden 16 = .ok (.iload_n 1, 1) := by decide +kernel
theorem dX1_isHidden_17 : decode cX1_isHidden 17 = .ok (.iaload, 1) := by decide +kernel
theorem dX1_isHidden_18 : decode cX1_isHidden 18 = .ok (.invokevirtual 26, 3) := by decide +kernel
theorem dX1_isHidden_21 : decode cX1_isHidden 21 = .ok (.ifCond .eq 23, 3) := by decide +kernel
theorem dX1_isHidden_24 : decode cX1_isHidden 24 = .ok (.aload_n 0, 1) := by decide +kernel
theorem dX1_isHidden_25 : decode cX1_isHidden 25 = .ok (.iload_n 2, 1) := by decide +kernel
theorem dX1_isHidden_26 : decode cX1_isHidden 26 = .ok (.iload_n 1, 1) := by decide +kernel
theorem dX1_isHidden_27 : decode cX1_isHidden 27 = .ok (.invokevirtual 30, 3) := by decide +kernel
theorem dX1_isHidden_30 : decode cX1_isHidden 30 = .ok (.ifCond .eq 14, 3) := by decide +kernel
theorem dX1_isHidden_33 : decode cX1_isHidden 33 = .ok (.aload_n 0, 1) := by decide +kernel
theorem dX1_isHidden_34 : decode cX1_isHidden 34 = .ok (.iload_n 2, 1) := by decide +kernel
theorem dX1_isHidden_35 : decode cX1_isHidden 35 = .ok (.iload_n 1, 1) := by decide +kernel
theorem dX1_isHidden_36 : decode cX1_isHidden 36 = .ok (.invokevirtual 33, 3) := by decide +kernel
theorem dX1_isHidden_39 : decode cX1_isHidden 39 = .ok (.ifCond .eq 5, 3) := by decide +kernel
theorem dX1_isHidden_42 : decode cX1_isHidden 42 = .ok (.iconst 1, 1) := by decide +kernel
theorem dX1_isHidden_43 : decode cX1_isHidden 43 = .ok (.ireturn, 1) := by decide +kernel
theorem dX1_isHidden_44 : decode cX1_isHidden 44 = .ok (.iinc 2 1, 3) := by decide +kernel
theorem dX1_isHidden_47 : decode cX1_isHidden 47 = .ok (.goto (-45), 3) := by decide +kernel
theorem dX1_isHidden_50 : decode cX1_isHidden 50 = .ok (.iconst 0, 1) := by decide +kernel
theorem dX1_isHidden_51 : decode cX1_isHidden 51 = .ok (.ireturn, 1) := by decide +kernel
set_option maxRecDepth 20000 in
theorem ggX1_haveSameLabels_X1_labelAt : GoodIn wsX1_haveSameLabels wsX1_labelAt := goodIn_r _ [6, 7, 8, 9, 10, 11, 12] (by decide +kernel) (by decide +kernel)
set_option maxRecDepth 20000 in
theorem gX1_haveSameLabels_X1_labelAt : GoodIn wsX1_haveSameLabels (wsV RX1 36 RX1 yX1_labelAt wsX1_labelAt) := goodIn_app (goodIn_of _ (by decide +kernel)) ggX1_haveSameLabels_X1_labelAt
theorem dX1_haveSameLabels_0 : decode cX1_haveSameLabels 0 = .ok (.aload_n 0, 1) := by decide +kernel
theorem dX1_haveSameLabels_1 : decode cX1_haveSameLabels 1 = .ok (.getfield 16, 3) := by decide +kernel
theorem dX1_haveSameLabels_4 : decode cX1_haveSameLabels 4 = .ok (.iload_n 1, 1) := by decide +kernel
theorem dX1_haveSameLabels_5 : decode cX1_haveSameLabels 5 = .ok (.iaload, 1) := by decide +kernel
theorem dX1_haveSameLabels_6 : decode cX1_haveSameLabels 6 = .ok (.aload_n 0, 1) := by decide +kernel
theorem dX1_haveSameLabels_7 : decode cX1_haveSameLabels 7 = .ok (.getfield 16, 3) := by decide +kernel
theorem dX1_haveSameLabels_10 : decode cX1_haveSameLabels 10 = .ok (.iload_n 2, 1) := by decide +kernel
theorem dX1_haveSameLabels_11 : decode cX1_haveSameLabels 11 = .ok (.iaload, 1) := by decide +kernel
theorem dX1_haveSameLabels_12 : decode cX1_haveSameLabels 12 = .ok (.if_icmp .eq 5, 3) := by decide +kernel
theorem dX1_haveSameLabels_15 : decode cX1_haveSameLabels 15 = .ok (.iconst 0, 1) := by decide +kernel
theorem dX1_haveSameLabels_16 : decode cX1_haveSameLabels 16 = .ok (.ireturn, 1) := by decide +kernel
theorem dX1_haveSameLabels_17 : decode cX1_haveSameLabels 17 = .ok (.iconst 0, 1) := by decide +kernel
theorem dX1_haveSameLabels_18 : decode cX1_haveSameLabels 18 = .ok (.istore_n 3, 1) := by decide +kernel
theorem dX1_haveSameLabels_19 : decode cX1_haveSameLabels 19 = .ok (.iload_n 3, 1) := by decide +kernel
theorem dX1_haveSameLabels_20 : decode cX1_haveSameLabels 20 = .ok (.aload_n 0, 1) := by decide +kernel
theorem dX1_haveSameLabels_21 : decode cX1_haveSameLabels 21 = .ok (.getfield 16, 3) := by decide +kernel
theorem dX1_haveSameLabels_24 : decode cX1_haveSameLabels 24 = .ok (.iload_n 1, 1) := by decide +kernel
theorem dX1_haveSameLabels_25 : decode cX1_haveSameLabels 25 = .ok (.iaload, 1) := by decide +kernel
theorem dX1_haveSameLabels_26 : decode cX1_haveSameLabels 26 = .ok (.if_icmp .ge 26, 3) := by decide +kernel
theorem dX1_haveSameLabels_29 : decode cX1_haveSameLabels 29 = .ok (.aload_n 0, 1) := by decide +kernel
theorem dX1_haveSameLabels_30 : decode cX1_haveSameLabels 30 = .ok (.iload_n 1, 1) := by decide +kernel
theorem dX1_haveSameLabels_31 : decode cX1_haveSameLabels 31 = .ok (.iload_n 3, 1) := by decide +kernel
theorem dX1_haveSameLabels_32 : decode cX1_haveSameLabels 32 = .ok (.invokevirtual 36, 3) := by decide +kernel
theorem dX1_haveSameLabels_35 : decode cX1_haveSameLabels 35 = .ok (.aload_n 0, 1) := by decide +kernel
theorem dX1_haveSameLabels_36 : decode cX1_haveSameLabels 36 = .ok (.iload_n 2, 1) := by decide +kernel
theorem dX1_haveSameLabels_37 : decode cX1_haveSameLabels 37 = .ok (.iload_n 3, 1) := by decide +kernel
theorem dX1_haveSameLabels_38 : decode cX1_haveSameLabels 38 = .ok (.invokevirtual 36, 3) := by decide +kernel
theorem dX1_haveSameLabels_41 : decode cX1_haveSameLabels 41 = .ok (.if_icmp .eq 5, 3) := by decide +kernel
theorem dX1_haveSameLabels_44 : decode cX1_haveSameLabels 44 = .ok (.iconst 0, 1) := by decide +kernel
theorem dX1_haveSameLabels_45 : decode cX1_haveSameLabels 45 = .ok (.ireturn, 1) := by decide +kernel
theorem dX1_haveSameLabels_46 : decode cX1_haveSameLabels 46 = .ok (.iinc 3 1, 3) := by decide +kernel
theorem dX1_haveSameLabels_49 : decode cX1_haveSameLabels 49 = .ok (.goto (-30), 3) := by decide +kernel
theorem dX1_haveSameLabels_52 : decode cX1_haveSameLabels 52 = .ok (.iconst 1, 1) := by decide +kernel
theorem dX1_haveSameLabels_53 : decode cX1_haveSameLabels 53 = .ok (.ireturn, 1) := by decide +kernel
theorem dX2_init_0 : decode cX2_init 0 = .ok (.aload_n 0, 1) := by decide +kernel
theorem dX2_init_1 : decode cX2_init 1 = .ok (.invokespecial 3, 3) := by decide +kernel
theorem dX2_init_4 : decode cX2_init 4 = .ok (.aload_n 0, 1) := by decide +kernel
theorem dX2_init_5 : decode cX2_init 5 = .ok (.bipush 30, 2) := by decide +kernel
theorem dX2_init_7 : decode cX2_init 7 = .ok (.newarray .int, 2) := by decide +kernel
theorem dX2_init_9 : decode cX2_init 9 = .ok (.putfield 11, 3) := by decide +kernel
theorem dX2_init_12 : decode cX2_init 12 = .ok (.aload_n 0, 1) := by decide +kernel
theorem dX2_init_13 : decode cX2_init 13 = .ok (.bipush 30, 2) := by decide +kernel
theorem dX2_init_15 : decode cX2_init 15 = .ok (.newarray .int, 2) := by decide +kernel
theorem dX2_init_17 : decode cX2_init 17 = .ok (.putfield 15, 3) := by decide +kernel
theorem dX2_init_20 : decode cX2_init 20 = .ok (.aload_n 0, 1) := by decide +kernel
theorem dX2_init_21 : decode cX2_init 21 = .ok (.bipush 30, 2) := by decide +kernel
theorem dX2_init_23 : decode cX2_init 23 = .ok (.newarray .boolean, 2) := by decide +kernel
theorem dX2_init_25 : decode cX2_init 25 = .ok (.putfield 18, 3) := by decide +kernel
theorem dX2_init_28 : decode cX2_init 28 = .ok (.aload_n 0, 1) := by decide +kernel
theorem dX2_init_29 : decode cX2_init 29 = .ok (.bipush 16, 2) := by decide +kernel
theorem dX2_init_31 : decode cX2_init 31 = .ok (.newarray .int, 2) := by decide +kernel
theorem dX2_init_33 : decode cX2_init 33 = .ok (.putfield 22, 3) := by decide +kernel
theorem dX2_init_36 : decode cX2_init 36 = .ok (.aload_n 0, 1) := by decide +kernel
theorem dX2_init_37 : decode cX2_init 37 = .ok (.bipush 16, 2) := by decide +kernel
theorem dX2_init_39 : decode cX2_init 39 = .ok (.newarray .int, 2) := by decide +kernel
theorem dX2_init_41 : decode cX2_init 41 = .ok (.putfield 25, 3) := by decide +kernel
theorem dX2_init_44 : decode cX2_init 44 = .ok (.aload_n 0, 1) := by decide +kernel
theorem dX2_init_45 : decode cX2_init 45 = .ok (.iconst 0, 1) := by decide +kernel
theorem dX2_init_46 : decode cX2_init 46 = .ok (.putfield 28, 3) := by decide +kernel
theorem dX2_init_49 : decode cX2_init 49 = .ok (.return_, 1) := by decide +kernel
theorem dX2_add_0 : decode cX2_add 0 = .ok (.iload_n 1, 1) := by decide +kernel
theorem dX2_add_1 : decode cX2_add 1 = .ok (.bipush (-100), 2) := by decide +kernel
theorem dX2_add_3 : decode cX2_add 3 = .ok (.if_icmp .lt 21, 3) := by decide +kernel
theorem dX2_add_6 : decode cX2_add 6 = .ok (.iload_n 1, 1) := by decide +kernel
theorem dX2_add_7 : decode cX2_add 7 = .ok (.bipush 100, 2) := by decide +kernel
theorem dX2_add_9 : decode cX2_add 9 = .ok (.if_icmp .gt 15, 3) := by decide +kernel
theorem dX2_add_12 : decode cX2_add 12 = .ok (.iload_n 2, 1) := by decide +kernel
theorem dX2_add_13 : decode cX2_add 13 = .ok (.bipush (-100), 2) := by decide +kernel
theorem dX2_add_15 : decode cX2_add 15 = .ok (.if_icmp .lt 9, 3) := by decide +kernel
theorem dX2_add_18 : decode cX2_add 18 = .ok (.iload_n 2, 1) := by decide +kernel
theorem dX2_add_19 : decode cX2_add 19 = .ok (.bipush 100, 2) := by decide +kernel
theorem dX2_add_21 : decode cX2_add 21 = .ok (.if_icmp .le 5, 3) := by decide +kernel
theorem dX2_add_24 : decode cX2_add 24 = .ok (.iconst (-1), 1) := by decide +kernel
theorem dX2_add_25 : decode cX2_add 25 = .ok (.ireturn, 1) := by decide +kernel
theorem dX2_add_26 : decode cX2_add 26 = .ok (.aload_n 0, 1) := by decide +kernel
theorem dX2_add_27 : decode cX2_add 27 = .ok (.getfield 28, 3) := by decide +kernel
theorem dX2_add_30 : decode cX2_add 30 = .ok (.bipush 30, 2) := by decide +kernel
theorem dX2_add_32 : decode cX2_add 32 = .ok (.if_icmp .lt 6, 3) := by decide +kernel
theorem dX2_add_35 : decode cX2_add 35 = .ok (.bipush (-3), 2) := by decide +kernel
theorem dX2_add_37 : decode cX2_add 37 = .ok (.ireturn, 1) := by decide +kernel
theorem dX2_add_38 : decode cX2_add 38 = .ok (.aload_n 0, 1) := by decide +kernel
theorem dX2_add_39 : decode cX2_add 39 = .ok (.getfield 11, 3) := by decide +kernel
theorem dX2_add_42 : decode cX2_add 42 = .ok (.aload_n 0, 1) := by decide +kernel
theorem dX2_add_43 : decode cX2_add 43 = .ok (.getfield 28, 3) := by decide +kernel
theorem dX2_add_46 : decode cX2_add 46 = .ok (.iload_n 1, 1) := by decide +kernel
theorem dX2_add_47 : decode cX2_add 47 = .ok (.iastore, 1) := by decide +kernel
theorem dX2_add_48 : decode cX2_add 48 = .ok (.aload_n 0, 1) := by decide +kernel
theorem dX2_add_49 : decode cX2_add 49 = .ok (.getfield 15, 3) := by decide +kernel
theorem dX2_add_52 : decode cX2_add 52 = .ok (.aload_n 0, 1) := by decide +kernel
theorem dX2_add_53 : decode cX2_add 53 = .ok (.getfield 28, 3) := by decide +kernel
theorem dX2_add_56 : decode cX2_add 56 = .ok (.iload_n 2, 1) := by decide +kernel
theorem dX2_add_57 : decode cX2_add 57 = .ok (.iastore, 1) := by decide +kernel
theorem dX2_add_58 : decode cX2_add 58 = .ok (.aload_n 0, 1) := by decide +kernel
theorem dX2_add_59 : decode cX2_add 59 = .ok (.getfield 18, 3) := by decide +kernel
theorem dX2_add_62 : decode cX2_add 62 = .ok (.aload_n 0, 1) := by decide +kernel
theorem dX2_add_63 : decode cX2_add 63 = .ok (.getfield 28, 3) := by decide +kernel
theorem dX2_add_66 : decode cX2_add 66 = .ok (.iload_n 3, 1) := by decide +kernel
theorem dX2_add_67 : decode cX2_add 67 = .ok (.ifCond .eq 14, 3) := by decide +kernel
theorem dX2_add_70 : decode cX2_add 70 = .ok (.aload_n 0, 1) := by decide +kernel
theorem dX2_add_71 : decode cX2_add 71 = .ok (.getfield 28, 3) := by decide +kernel
theorem dX2_add_74 : decode cX2_add 74 = .ok (.ifCond .le 7, 3) := by decide +kernel
theorem dX2_add_77 : decode cX2_add 77 = .ok (.iconst 1, 1) := by decide +kernel
theorem dX2_add_78 : decode cX2_add 78 = .ok (.goto 4, 3) := by decide +kernel
theorem dX2_add_81 : decode cX2_add 81 = .ok (.iconst 0, 1) := by decide +kernel
theorem dX2_add_82 : decode cX2_add 82 = .ok (.bastore, 1) := by decide +kernel
theorem dX2_add_83 : decode cX2_add 83 = .ok (.aload_n 0, 1) := by decide +kernel
theorem dX2_add_84 : decode cX2_add 84 = .ok (.dup, 1) := by decide +kernel
theorem dX2_add_85 : decode cX2_add 85 = .ok (.getfield 28, 3) := by decide +kernel
theorem dX2_add_88 : decode cX2_add 88 = .ok (.iconst 1, 1) := by decide +kernel
theorem dX2_add_89 : decode cX2_add 89 = .ok (.iadd, 1) := by decide +kernel
theorem dX2_add_90 : decode cX2_add 90 = .ok (.putfield 28, 3) := by decide +kernel
theorem dX2_add_93 : decode cX2_add 93 = .ok (.aload_n 0, 1) := by decide +kernel
theorem dX2_add_94 : decode cX2_add 94 = .ok (.getfield 28, 3) := by decide +kernel
theorem dX2_add_97 : decode cX2_add 97 = .ok (.ireturn, 1) := by decide +kernel
theorem dX2_empty_0 : decode cX2_empty 0 = .ok (.aload_n 0, 1) := by decide +kernel
theorem dX2_empty_1 : decode cX2_empty 1 = .ok (.getfield 28, 3) := by decide +kernel
theorem dX2_empty_4 : decode cX2_empty 4 = .ok (.istore_n 1, 1) := by decide +kernel
theorem dX2_empty_5 : decode cX2_empty 5 = .ok (.aload_n 0, 1) := by decide +kernel
theorem dX2_empty_6 : decode cX2_empty 6 = .ok (.iconst 0, 1) := by decide +kernel
theorem dX2_empty_7 : decode cX2_empty 7 = .ok (.putfield 28, 3) := by decide +kernel
theorem dX2_empty_10 : decode cX2_empty 10 = .ok (.iload_n 1, 1) := by decide +kernel
theorem dX2_empty_11 : decode cX2_empty 11 = .ok (.ireturn, 1) := by decide +kernel
theorem dX2_cutTo_0 : decode cX2_cutTo 0 = .ok (.aload_n 0, 1) := by decide +kernel
theorem dX2_cutTo_1 : decode cX2_cutTo 1 = .ok (.iload_n 1, 1) := by decide +kernel
theorem dX2_cutTo_2 : decode cX2_cutTo 2 = .ok (.putfield 28, 3) := by decide +kernel
theorem dX2_cutTo_5 : decode cX2_cutTo 5 = .ok (.return_, 1) := by decide +kernel
theorem dX2_drawnTo_0 : decode cX2_drawnTo 0 = .ok (.aload_n 0, 1) := by decide +kernel
theorem dX2_drawnTo_1 : decode cX2_drawnTo 1 = .ok (.getfield 18, 3) := by decide +kernel
theorem dX2_drawnTo_4 : decode cX2_drawnTo 4 = .ok (.iload_n 1, 1) := by decide +kernel
theorem dX2_drawnTo_5 : decode cX2_drawnTo 5 = .ok (.baload, 1) := by decide +kernel
theorem dX2_drawnTo_6 : decode cX2_drawnTo 6 = .ok (.ifCond .eq 5, 3) := by decide +kernel
theorem dX2_drawnTo_9 : decode cX2_drawnTo 9 = .ok (.iconst 0, 1) := by decide +kernel
theorem dX2_drawnTo_10 : decode cX2_drawnTo 10 = .ok (.ireturn, 1) := by decide +kernel
theorem dX2_drawnTo_11 : decode cX2_drawnTo 11 = .ok (.aload_n 0, 1) := by decide +kernel
theorem dX2_drawnTo_12 : decode cX2_drawnTo 12 = .ok (.getfield 11, 3) := by decide +kernel
theorem dX2_drawnTo_15 : decode cX2_drawnTo 15 = .ok (.iload_n 1, 1) := by decide +kernel
theorem dX2_drawnTo_16 : decode cX2_drawnTo 16 = .ok (.iaload, 1) := by decide +kernel
theorem dX2_drawnTo_17 : decode cX2_drawnTo 17 = .ok (.aload_n 0, 1) := by decide +kernel
theorem dX2_drawnTo_18 : decode cX2_drawnTo 18 = .ok (.getfield 11, 3) := by decide +kernel
theorem dX2_drawnTo_21 : decode cX2_drawnTo 21 = .ok (.iload_n 1, 1) := by decide +kernel
theorem dX2_drawnTo_22 : decode cX2_drawnTo 22 = .ok (.iconst 1, 1) := by decide +kernel
theorem dX2_drawnTo_23 : decode cX2_drawnTo 23 = .ok (.isub, 1) := by decide +kernel
theorem dX2_drawnTo_24 : decode cX2_drawnTo 24 = .ok (.iaload, 1) := by decide +kernel
theorem dX2_drawnTo_25 : decode cX2_drawnTo 25 = .ok (.isub, 1) := by decide +kernel
theorem dX2_drawnTo_26 : decode cX2_drawnTo 26 = .ok (.invokestatic 32, 3) := by decide +kernel
theorem dX2_drawnTo_29 : decode cX2_drawnTo 29 = .ok (.aload_n 0, 1) := by decide +kernel
theorem dX2_drawnTo_30 : decode cX2_drawnTo 30 = .ok (.getfield 15, 3) := by decide +kernel
theorem dX2_drawnTo_33 : decode cX2_drawnTo 33 = .ok (.iload_n 1, 1) := by decide +kernel
theorem dX2_drawnTo_34 : decode cX2_drawnTo 34 = .ok (.iaload, 1) := by decide +kernel
theorem dX2_drawnTo_35 : decode cX2_drawnTo 35 = .ok (.aload_n 0, 1) := by decide +kernel
theorem dX2_drawnTo_36 : decode cX2_drawnTo 36 = .ok (.getfield 15, 3) := by decide +kernel
theorem dX2_drawnTo_39 : decode cX2_drawnTo 39 = .ok (.iload_n 1, 1) := by decide +kernel
theorem dX2_drawnTo_40 : decode cX2_drawnTo 40 = .ok (.iconst 1, 1) := by decide +kernel
theorem dX2_drawnTo_41 : decode cX2_drawnTo 41 = .ok (.isub, 1) := by decide +kernel
theorem dX2_drawnTo_42 : decode cX2_drawnTo 42 = .ok (.iaload, 1) := by decide +kernel
theorem dX2_drawnTo_43 : decode cX2_drawnTo 43 = .ok (.isub, 1) := by decide +kernel
theorem dX2_drawnTo_44 : decode cX2_drawnTo 44 = .ok (.invokestatic 32, 3) := by decide +kernel
theorem dX2_drawnTo_47 : decode cX2_drawnTo 47 = .ok (.iadd, 1) := by decide +kernel
theorem dX2_drawnTo_48 : decode cX2_drawnTo 48 = .ok (.ireturn, 1) := by decide +kernel
set_option maxRecDepth 20000 in
theorem ggX2_length_X2_drawnTo : GoodIn wsX2_length wsX2_drawnTo := goodIn_r _ [6, 7, 8, 9, 10, 11, 12, 13, 14, 15, 16, 17, 18, 19] (by decide +kernel) (by decide +kernel)
set_option maxRecDepth 20000 in
theorem gX2_length_X2_drawnTo : GoodIn wsX2_length (wsV RX2 38 RX2 yX2_drawnTo wsX2_drawnTo) := goodIn_app (goodIn_of _ (by decide +kernel)) ggX2_length_X2_drawnTo
theorem dX2_length_0 : decode cX2_length 0 = .ok (.iconst 0, 1) := by decide +kernel
theorem dX2_length_1 : decode cX2_length 1 = .ok (.istore_n 1, 1) := by decide +kernel
theorem dX2_length_2 : decode cX2_length 2 = .ok (.iconst 1, 1) := by decide +kernel
theorem dX2_length_3 : decode cX2_length 3 = .ok (.istore_n 2, 1) := by decide +kernel
theorem dX2_length_4 : decode cX2_length 4 = .ok (.iload_n 2, 1) := by decide +kernel
theorem dX2_length_5 : decode cX2_length 5 = .ok (.aload_n 0, 1) := by decide +kernel
theorem dX2_length_6 : decode cX2_length 6 = .ok (.getfield 28, 3) := by decide +kernel
theorem dX2_length_9 : decode cX2_length 9 = .ok (.if_icmp .ge 17, 3) := by decide +kernel
theorem dX2_length_12 : decode cX2_length 12 = .ok (.iload_n 1, 1) := by decide +kernel
theorem dX2_length_13 : decode cX2_length 13 = .ok (.aload_n 0, 1) := by decide +kernel
theorem dX2_length_14 : decode cX2_length 14 = .ok (.iload_n 2, 1) := by decide +kernel
theorem dX2_length_15 : decode cX2_length 15 = .ok (.invokevirtual 38, 3) := by decide +kernel
theorem dX2_length_18 : decode cX2_length 18 = .ok (.iadd, 1) := by decide +kernel
theorem dX2_length_19 : decode cX2_length 19 = .ok (.istore_n 1, 1) := by decide +kernel
theorem dX2_length_20 : decode cX2_length 20 = .ok (.iinc 2 1, 3) := by decide +kernel
theorem dX2_length_23 : decode cX2_length 23 = .ok (.goto (-19), 3) := by decide +kernel
theorem dX2_length_26 : decode cX2_length 26 = .ok (.iload_n 1, 1) := by decide +kernel
theorem dX2_length_27 : decode cX2_length 27 = .ok (.ireturn, 1) := by decide +kernel
set_option maxRecDepth 20000 in
theorem ggX2_makeEven_X2_length : GoodIn wsX2_makeEven wsX2_length := goodIn_r _ [5, 6, 7, 8, 9, 4, 10, 11, 12, 13, 14, 15, 16, 17, 30, 31, 32, 33, 34, 35] (by decide +kernel) (by decide +kernel)
set_option maxRecDepth 20000 in
theorem gX2_makeEven_X2_length : GoodIn wsX2_makeEven (wsV RX2 41 RX2 yX2_length wsX2_length) := goodIn_app (goodIn_of _ (by decide +kernel)) ggX2_makeEven_X2_length
set_option maxRecDepth 20000 in
theorem ggX2_makeEven_X2_placeEven : GoodIn wsX2_makeEven wsX2_placeEven := goodIn_r _ [21, 6, 22, 12, 17, 7, 8, 9, 4, 10, 11, 13, 14, 15, 16, 23, 24, 25, 26, 27, 28, 29, 30, 31, 32, 33, 34, 35] (by decide +kernel) (by decide +kernel)
set_option maxRecDepth 20000 in
theorem gX2_makeEven_X2_placeEven : GoodIn wsX2_makeEven (wsV RX2 45 RX2 yX2_placeEven wsX2_placeEven) := goodIn_app (goodIn_of _ (by decide +kernel)) ggX2_makeEven_X2_placeEven
theorem dX2_makeEven_0 : decode cX2_makeEven 0 = .ok (.aload_n 0, 1) := by decide +kernel
theorem dX2_makeEven_1 : decode cX2_makeEven 1 = .ok (.invokevirtual 41, 3) := by decide +kernel
theorem dX2_makeEven_4 : decode cX2_makeEven 4 = .ok (.istore_n 1, 1) := by decide +kernel
theorem dX2_makeEven_5 : decode cX2_makeEven 5 = .ok (.iload_n 1, 1) := by decide +kernel
theorem dX2_makeEven_6 : decode cX2_makeEven 6 = .ok (.ifCond .ne 5, 3) := by decide +kernel
theorem dX2_makeEven_9 : decode cX2_makeEven 9 = .ok (.iconst 0, 1) := by decide +kernel
theorem dX2_makeEven_10 : decode cX2_makeEven 10 = .ok (.ireturn, 1) := by decide +kernel
theorem dX2_makeEven_11 : decode cX2_makeEven 11 = .ok (.iconst 0, 1) := by decide +kernel
theorem dX2_makeEven_12 : decode cX2_makeEven 12 = .ok (.istore_n 2, 1) := by decide +kernel
theorem dX2_makeEven_13 : decode cX2_makeEven 13 = .ok (.iload_n 2, 1) := by decide +kernel
theorem dX2_makeEven_14 : decode cX2_makeEven 14 = .ok (.bipush 8, 2) := by decide +kernel
theorem dX2_makeEven_16 : decode cX2_makeEven 16 = .ok (.if_icmp .ge 17, 3) := by decide +kernel
theorem dX2_makeEven_19 : decode cX2_makeEven 19 = .ok (.aload_n 0, 1) := by decide +kernel
theorem dX2_makeEven_20 : decode cX2_makeEven 20 = .ok (.iload_n 2, 1) := by decide +kernel
theorem dX2_makeEven_21 : decode cX2_makeEven 21 = .ok (.iload_n 2, 1) := by decide +kernel
theorem dX2_makeEven_22 : decode cX2_makeEven 22 = .ok (.iload_n 1, 1) := by decide +kernel
theorem dX2_makeEven_23 : decode cX2_makeEven 23 = .ok (.imul, 1) := by decide +kernel
theorem dX2_makeEven_24 : decode cX2_makeEven 24 = .ok (.invokevirtual 45, 3) := by decide +kernel
theorem dX2_makeEven_27 : decode cX2_makeEven 27 = .ok (.iinc 2 1, 3) := by decide +kernel
theorem dX2_makeEven_30 : decode cX2_makeEven 30 = .ok (.goto (-17), 3) := by decide +kernel
theorem dX2_makeEven_33 : decode cX2_makeEven 33 = .ok (.iconst 1, 1) := by decide +kernel
theorem dX2_makeEven_34 : decode cX2_makeEven 34 = .ok (.ireturn, 1) := by decide +kernel
set_option maxRecDepth 20000 in
theorem ggX2_placeEven_X2_drawnTo : GoodIn wsX2_placeEven wsX2_drawnTo := goodIn_r _ [9, 10, 3, 11, 12, 13, 14, 4, 22, 23, 24, 25, 26, 27] (by decide +kernel) (by decide +kernel)
set_option maxRecDepth 20000 in
theorem gX2_placeEven_X2_drawnTo : GoodIn wsX2_placeEven (wsV RX2 38 RX2 yX2_drawnTo wsX2_drawnTo) := goodIn_app (goodIn_of _ (by decide +kernel)) ggX2_placeEven_X2_drawnTo
set_option maxRecDepth 20000 in
theorem ggX2_placeEven_X2_partWay : GoodIn wsX2_placeEven wsX2_partWay := goodIn_r _ [17, 18, 19, 20, 21] (by decide +kernel) (by decide +kernel)
set_option maxRecDepth 20000 in
theorem gX2_placeEven_X2_partWay : GoodIn wsX2_placeEven (va_wsS RX2 49 yX2_partWay wsX2_partWay) := goodIn_app (goodIn_of _ (by decide +kernel)) ggX2_placeEven_X2_partWay
theorem dX2_placeEven_0 : decode cX2_placeEven 0 = .ok (.iconst 0, 1) := by decide +kernel
theorem dX2_placeEven_1 : decode cX2_placeEven 1 = .ok (.istore_n 3, 1) := by decide +kernel
theorem dX2_placeEven_2 : decode cX2_placeEven 2 = .ok (.iconst 1, 1) := by decide +kernel
theorem dX2_placeEven_3 : decode cX2_placeEven 3 = .ok (.istore 4, 2) := by decide +kernel
theorem dX2_placeEven_5 : decode cX2_placeEven 5 = .ok (.iload 4, 2) := by decide +kernel
theorem dX2_placeEven_7 : decode cX2_placeEven 7 = .ok (.aload_n 0, 1) := by decide +kernel
theorem dX2_placeEven_8 : decode cX2_placeEven 8 = .ok (.getfield 28, 3) := by decide +kernel
theorem dX2_placeEven_11 : decode cX2_placeEven 11 = .ok (.if_icmp .ge 105, 3) := by decide +kernel
theorem dX2_placeEven_14 : decode cX2_placeEven 14 = .ok (.bipush 7, 2) := by decide +kernel
theorem dX2_placeEven_16 : decode cX2_placeEven 16 = .ok (.aload_n 0, 1) := by decide +kernel
theorem dX2_placeEven_17 : decode cX2_placeEven 17 = .ok (.iload 4, 2) := by decide +kernel
theorem dX2_placeEven_19 : decode cX2_placeEven 19 = .ok (.invokevirtual 38, 3) := by decide +kernel
theorem dX2_placeEven_22 : decode cX2_placeEven 22 = .ok (.imul, 1) := by decide +kernel
theorem dX2_placeEven_23 : decode cX2_placeEven 23 = .ok (.istore 5, 2) := by decide +kernel
theorem dX2_placeEven_25 : decode cX2_placeEven 25 = .ok (.iload 5, 2) := by decide +kernel
theorem dX2_placeEven_27 : decode cX2_placeEven 27 = .ok (.ifCond .le 78, 3) := by decide +kernel
theorem dX2_placeEven_30 : decode cX2_placeEven 30 = .ok (.iload_n 2, 1) := by decide +kernel
theorem dX2_placeEven_31 : decode cX2_placeEven 31 = .ok (.iload_n 3, 1) := by decide +kernel
theorem dX2_placeEven_32 : decode cX2_placeEven 32 = .ok (.iload 5, 2) := by decide +kernel
theorem dX2_placeEven_34 : decode cX2_placeEven 34 = .ok (.iadd, 1) := by decide +kernel
theorem dX2_placeEven_35 : decode cX2_placeEven 35 = .ok (.if_icmp .gt 70, 3) := by decide +kernel
theorem dX2_placeEven_38 : decode cX2_placeEven 38 = .ok (.aload_n 0, 1) := by decide +kernel
theorem dX2_placeEven_39 : decode cX2_placeEven 39 = .ok (.getfield 22, 3) := by decide +kernel
theorem dX2_placeEven_42 : decode cX2_placeEven 42 = .ok (.iconst 2, 1) := by decide +kernel
theorem dX2_placeEven_43 : decode cX2_placeEven 43 = .ok (.iload_n 1, 1) := by decide +kernel
theorem dX2_placeEven_44 : decode cX2_placeEven 44 = .ok (.imul, 1) := by decide +kernel
theorem dX2_placeEven_45 : decode cX2_placeEven 45 = .ok (.aload_n 0, 1) := by decide +kernel
theorem dX2_placeEven_46 : decode cX2_placeEven 46 = .ok (.getfield 11, 3) := by decide +kernel
theorem dX2_placeEven_49 : decode cX2_placeEven 49 = .ok (.iload 4, 2) := by decide +kernel
theorem dX2_placeEven_51 : decode cX2_placeEven 51 = .ok (.iconst 1, 1) := by decide +kernel
theorem dX2_placeEven_52 : decode cX2_placeEven 52 = .ok (.isub, 1) := by decide +kernel
theorem dX2_placeEven_53 : decode cX2_placeEven 53 = .ok (.iaload, 1) := by decide +kernel
theorem dX2_placeEven_54 : decode cX2_placeEven 54 = .ok (.aload_n 0, 1) := by decide +kernel
theorem dX2_placeEven_55 : decode cX2_placeEven 55 = .ok (.getfield 11, 3) := by decide +kernel
theorem dX2_placeEven_58 : decode cX2_placeEven 58 = .ok (.iload 4, 2) := by decide +kernel
theorem dX2_placeEven_60 : decode cX2_placeEven 60 = .ok (.iaload, 1) := by decide +kernel
theorem dX2_placeEven_61 : decode cX2_placeEven 61 = .ok (.iload_n 2, 1) := by decide +kernel
theorem dX2_placeEven_62 : decode cX2_placeEven 62 = .ok (.iload_n 3, 1) := by decide +kernel
theorem dX2_placeEven_63 : decode cX2_placeEven 63 = .ok (.isub, 1) := by decide +kernel
theorem dX2_placeEven_64 : decode cX2_placeEven 64 = .ok (.iload 5, 2) := by decide +kernel
theorem dX2_placeEven_66 : decode cX2_placeEven 66 = .ok (.invokestatic 49, 3) := by decide +kernel
theorem dX2_placeEven_69 : decode cX2_placeEven 69 = .ok (.iastore, 1) := by decide +kernel
theorem dX2_placeEven_70 : decode cX2_placeEven 70 = .ok (.aload_n 0, 1) := by decide +kernel
theorem dX2_placeEven_71 : decode cX2_placeEven 71 = .ok (.getfield 22, 3) := by decide +kernel
theorem dX2_placeEven_74 : decode cX2_placeEven 74 = .ok (.iconst 2, 1) := by decide +kernel
theorem dX2_placeEven_75 : decode cX2_placeEven 75 = .ok (.iload_n 1, 1) := by decide +kernel
theorem dX2_placeEven_76 : decode cX2_placeEven 76 = .ok (.imul, 1) := by decide +kernel
theorem dX2_placeEven_77 : decode cX2_placeEven 77 = .ok (.iconst 1, 1) := by decide +kernel
theorem dX2_placeEven_78 : decode cX2_placeEven 78 = .ok (.iadd, 1) := by decide +kernel
theorem dX2_placeEven_79 : decode cX2_placeEven 79 = .ok (.aload_n 0, 1) := by decide +kernel
theorem dX2_placeEven_80 : decode cX2_placeEven 80 = .ok (.getfield 15, 3) := by decide +kernel
theorem dX2_placeEven_83 : decode cX2_placeEven 83 = .ok (.iload 4, 2) := by decide +kernel
theorem dX2_placeEven_85 : decode cX2_placeEven 85 = .ok (.iconst 1, 1) := by decide +kernel
theorem dX2_placeEven_86 : decode cX2_placeEven 86 = .ok (.isub, 1) := by decide +kernel
theorem dX2_placeEven_87 : decode cX2_placeEven 87 = .ok (.iaload, 1) := by decide +kernel
theorem dX2_placeEven_88 : decode cX2_placeEven 88 = .ok (.aload_n 0, 1) := by decide +kernel
theorem dX2_placeEven_89 : decode cX2_placeEven 89 = .ok (.getfield 15, 3) := by decide +kernel
theorem dX2_placeEven_92 : decode cX2_placeEven 92 = .ok (.iload 4, 2) := by decide +kernel
theorem dX2_placeEven_94 : decode cX2_placeEven 94 = .ok (.iaload, 1) := by decide +kernel
theorem dX2_placeEven_95 : decode cX2_placeEven 95 = .ok (.iload_n 2, 1) := by decide +kernel
theorem dX2_placeEven_96 : decode cX2_placeEven 96 = .ok (.iload_n 3, 1) := by decide +kernel
theorem dX2_placeEven_97 : decode cX2_placeEven 97 = .ok (.isub, 1) := by decide +kernel
theorem dX2_placeEven_98 : decode cX2_placeEven 98 = .ok (.iload 5, 2) := by decide +kernel
theorem dX2_placeEven_100 : decode cX2_placeEven 100 = .ok (.invokestatic 49, 3) := by decide +kernel
theorem dX2_placeEven_103 : decode cX2_placeEven 103 = .ok (.iastore, 1) := by decide +kernel
theorem dX2_placeEven_104 : decode cX2_placeEven 104 = .ok (.return_, 1) := by decide +kernel
theorem dX2_placeEven_105 : decode cX2_placeEven 105 = .ok (.iload_n 3, 1) := by decide +kernel
theorem dX2_placeEven_106 : decode cX2_placeEven 106 = .ok (.iload 5, 2) := by decide +kernel
theorem dX2_placeEven_108 : decode cX2_placeEven 108 = .ok (.iadd, 1) := by decide +kernel
theorem dX2_placeEven_109 : decode cX2_placeEven 109 = .ok (.istore_n 3, 1) := by decide +kernel
theorem dX2_placeEven_110 : decode cX2_placeEven 110 = .ok (.iinc 4 1, 3) := by decide +kernel
theorem dX2_placeEven_113 : decode cX2_placeEven 113 = .ok (.goto (-108), 3) := by decide +kernel
theorem dX2_placeEven_116 : decode cX2_placeEven 116 = .ok (.return_, 1) := by decide +kernel
set_option maxRecDepth 20000 in
theorem ggX2_partWay_J9_floorDiv_7cf53 : GoodIn wsX2_partWay wsJ9_floorDiv_7cf53 := goodIn_r _ [4] (by decide +kernel) (by decide +kernel)
set_option maxRecDepth 20000 in
theorem gX2_partWay_J9_floorDiv_7cf53 : GoodIn wsX2_partWay (va_wsS RX2 53 yJ9_floorDiv_7cf53 wsJ9_floorDiv_7cf53) := goodIn_app (goodIn_of _ (by decide +kernel)) ggX2_partWay_J9_floorDiv_7cf53
theorem dX2_partWay_0 : decode cX2_partWay 0 = .ok (.iload_n 3, 1) := by decide +kernel
theorem dX2_partWay_1 : decode cX2_partWay 1 = .ok (.ifCond .gt 8, 3) := by decide +kernel
theorem dX2_partWay_4 : decode cX2_partWay 4 = .ok (.bipush 100, 2) := by decide +kernel
theorem dX2_partWay_6 : decode cX2_partWay 6 = .ok (.iload_n 0, 1) := by decide +kernel
theorem dX2_partWay_7 : decode cX2_partWay 7 = .ok (.imul, 1) := by decide +kernel
theorem dX2_partWay_8 : decode cX2_partWay 8 = .ok (.ireturn, 1) := by decide +kernel
theorem dX2_partWay_9 : decode cX2_partWay 9 = .ok (.bipush 100, 2) := by decide +kernel
theorem dX2_partWay_11 : decode cX2_partWay 11 = .ok (.iload_n 0, 1) := by decide +kernel
theorem dX2_partWay_12 : decode cX2_partWay 12 = .ok (.imul, 1) := by decide +kernel
theorem dX2_partWay_13 : decode cX2_partWay 13 = .ok (.iload_n 1, 1) := by decide +kernel
theorem dX2_partWay_14 : decode cX2_partWay 14 = .ok (.iload_n 0, 1) := by decide +kernel
theorem dX2_partWay_15 : decode cX2_partWay 15 = .ok (.isub, 1) := by decide +kernel
theorem dX2_partWay_16 : decode cX2_partWay 16 = .ok (.bipush 100, 2) := by decide +kernel
theorem dX2_partWay_18 : decode cX2_partWay 18 = .ok (.imul, 1) := by decide +kernel
theorem dX2_partWay_19 : decode cX2_partWay 19 = .ok (.iload_n 2, 1) := by decide +kernel
theorem dX2_partWay_20 : decode cX2_partWay 20 = .ok (.imul, 1) := by decide +kernel
theorem dX2_partWay_21 : decode cX2_partWay 21 = .ok (.iload_n 3, 1) := by decide +kernel
theorem dX2_partWay_22 : decode cX2_partWay 22 = .ok (.invokestatic 53, 3) := by decide +kernel
theorem dX2_partWay_25 : decode cX2_partWay 25 = .ok (.iadd, 1) := by decide +kernel
theorem dX2_partWay_26 : decode cX2_partWay 26 = .ok (.ireturn, 1) := by decide +kernel
set_option maxRecDepth 20000 in
theorem ggX2_makeNormal_X2_makeEven : GoodIn wsX2_makeNormal wsX2_makeEven := goodIn_r _ [6, 7, 8, 9, 5, 10, 11, 12, 13, 14, 15, 16, 17, 18, 19, 20, 21, 22, 23, 24, 25, 26, 27, 28, 29, 30, 31, 32, 33, 34, 49, 50, 51, 52, 53, 54] (by decide +kernel) (by decide +kernel)
set_option maxRecDepth 20000 in
theorem gX2_makeNormal_X2_makeEven : GoodIn wsX2_makeNormal (wsV RX2 57 RX2 yX2_makeEven wsX2_makeEven) := goodIn_app (goodIn_of _ (by decide +kernel)) ggX2_makeNormal_X2_makeEven
set_option maxRecDepth 20000 in
theorem ggX2_makeNormal_X2_takeMiddleOff : GoodIn wsX2_makeNormal wsX2_takeMiddleOff := goodIn_r _ [38, 27, 39, 40, 20, 41, 42, 43, 44, 1, 31, 32, 33, 34, 49, 50, 51, 52, 53, 54] (by decide +kernel) (by decide +kernel)
set_option maxRecDepth 20000 in
theorem gX2_makeNormal_X2_takeMiddleOff : GoodIn wsX2_makeNormal (wsV RX2 61 RX2 yX2_takeMiddleOff wsX2_takeMiddleOff) := goodIn_app (goodIn_of _ (by decide +kernel)) ggX2_makeNormal_X2_takeMiddleOff
set_option maxRecDepth 20000 in
theorem ggX2_makeNormal_X2_greatestSize : GoodIn wsX2_makeNormal wsX2_greatestSize := goodIn_r _ [48, 1, 18, 19, 20, 21, 42, 43, 44, 49, 50, 51, 52, 53, 54] (by decide +kernel) (by decide +kernel)
set_option maxRecDepth 20000 in
theorem gX2_makeNormal_X2_greatestSize : GoodIn wsX2_makeNormal (wsV RX2 65 RX2 yX2_greatestSize wsX2_greatestSize) := goodIn_app (goodIn_of _ (by decide +kernel)) ggX2_makeNormal_X2_greatestSize
set_option maxRecDepth 20000 in
theorem ggX2_makeNormal_J9_floorDiv_7cf53 : GoodIn wsX2_makeNormal wsJ9_floorDiv_7cf53 := goodIn_r _ [34] (by decide +kernel) (by decide +kernel)
set_option maxRecDepth 20000 in
theorem gX2_makeNormal_J9_floorDiv_7cf53 : GoodIn wsX2_makeNormal (va_wsS RX2 53 yJ9_floorDiv_7cf53 wsJ9_floorDiv_7cf53) := goodIn_app (goodIn_of _ (by decide +kernel)) ggX2_makeNormal_J9_floorDiv_7cf53
theorem dX2_makeNormal_0 : decode cX2_makeNormal 0 = .ok (.aload_n 0, 1) := by decide +kernel
theorem dX2_makeNormal_1 : decode cX2_makeNormal 1 = .ok (.invokevirtual 57, 3) := by decide +kernel
theorem dX2_makeNormal_4 : decode cX2_makeNormal 4 = .ok (.ifCond .ne 5, 3) := by decide +kernel
theorem dX2_makeNormal_7 : decode cX2_makeNormal 7 = .ok (.iconst 0, 1) := by decide +kernel
theorem dX2_makeNormal_8 : decode cX2_makeNormal 8 = .ok (.ireturn, 1) := by decide +kernel
theorem dX2_makeNormal_9 : decode cX2_makeNormal 9 = .ok (.aload_n 0, 1) := by decide +kernel
theorem dX2_makeNormal_10 : decode cX2_makeNormal 10 = .ok (.iconst 0, 1) := by decide +kernel
theorem dX2_makeNormal_11 : decode cX2_makeNormal 11 = .ok (.invokevirtual 61, 3) := by decide +kernel
theorem dX2_makeNormal_14 : decode cX2_makeNormal 14 = .ok (.aload_n 0, 1) := by decide +kernel
theorem dX2_makeNormal_15 : decode cX2_makeNormal 15 = .ok (.iconst 1, 1) := by decide +kernel
theorem dX2_makeNormal_16 : decode cX2_makeNormal 16 = .ok (.invokevirtual 61, 3) := by decide +kernel
theorem dX2_makeNormal_19 : decode cX2_makeNormal 19 = .ok (.aload_n 0, 1) := by decide +kernel
theorem dX2_makeNormal_20 : decode cX2_makeNormal 20 = .ok (.invokevirtual 65, 3) := by decide +kernel
theorem dX2_makeNormal_23 : decode cX2_makeNormal 23 = .ok (.istore_n 1, 1) := by decide +kernel
theorem dX2_makeNormal_24 : decode cX2_makeNormal 24 = .ok (.iconst 0, 1) := by decide +kernel
theorem dX2_makeNormal_25 : decode cX2_makeNormal 25 = .ok (.istore_n 2, 1) := by decide +kernel
theorem dX2_makeNormal_26 : decode cX2_makeNormal 26 = .ok (.iload_n 2, 1) := by decide +kernel
theorem dX2_makeNormal_27 : decode cX2_makeNormal 27 = .ok (.bipush 16, 2) := by decide +kernel
theorem dX2_makeNormal_29 : decode cX2_makeNormal 29 = .ok (.if_icmp .ge 37, 3) := by decide +kernel
theorem dX2_makeNormal_32 : decode cX2_makeNormal 32 = .ok (.aload_n 0, 1) := by decide +kernel
theorem dX2_makeNormal_33 : decode cX2_makeNormal 33 = .ok (.getfield 25, 3) := by decide +kernel
theorem dX2_makeNormal_36 : decode cX2_makeNormal 36 = .ok (.iload_n 2, 1) := by decide +kernel
theorem dX2_makeNormal_37 : decode cX2_makeNormal 37 = .ok (.iload_n 1, 1) := by decide +kernel
theorem dX2_makeNormal_38 : decode cX2_makeNormal 38 = .ok (.ifCond .ne 7, 3) := by decide +kernel
theorem dX2_makeNormal_41 : decode cX2_makeNormal 41 = .ok (.iconst 0, 1) := by decide +kernel
theorem dX2_makeNormal_42 : decode cX2_makeNormal 42 = .ok (.goto 17, 3) := by decide +kernel
theorem dX2_makeNormal_45 : decode cX2_makeNormal 45 = .ok (.sipush 1000, 3) := by decide +kernel
theorem dX2_makeNormal_48 : decode cX2_makeNormal 48 = .ok (.aload_n 0, 1) := by decide +kernel
theorem dX2_makeNormal_49 : decode cX2_makeNormal 49 = .ok (.getfield 25, 3) := by decide +kernel
theorem dX2_makeNormal_52 : decode cX2_makeNormal 52 = .ok (.iload_n 2, 1) := by decide +kernel
theorem dX2_makeNormal_53 : decode cX2_makeNormal 53 = .ok (.iaload, 1) := by decide +kernel
theorem dX2_makeNormal_54 : decode cX2_makeNormal 54 = .ok (.imul, 1) := by decide +kernel
theorem dX2_makeNormal_55 : decode cX2_makeNormal 55 = .ok (.iload_n 1, 1) := by decide +kernel
theorem dX2_makeNormal_56 : decode cX2_makeNormal 56 = .ok (.invokestatic 53, 3) := by decide +kernel
theorem dX2_makeNormal_59 : decode cX2_makeNormal 59 = .ok (.iastore, 1) := by decide +kernel
theorem dX2_makeNormal_60 : decode cX2_makeNormal 60 = .ok (.iinc 2 1, 3) := by decide +kernel
theorem dX2_makeNormal_63 : decode cX2_makeNormal 63 = .ok (.goto (-37), 3) := by decide +kernel
theorem dX2_makeNormal_66 : decode cX2_makeNormal 66 = .ok (.iconst 1, 1) := by decide +kernel
theorem dX2_makeNormal_67 : decode cX2_makeNormal 67 = .ok (.ireturn, 1) := by decide +kernel
set_option maxRecDepth 20000 in
theorem ggX2_takeMiddleOff_J9_floorDiv_7cf53 : GoodIn wsX2_takeMiddleOff wsJ9_floorDiv_7cf53 := goodIn_r _ [13] (by decide +kernel) (by decide +kernel)
set_option maxRecDepth 20000 in
theorem gX2_takeMiddleOff_J9_floorDiv_7cf53 : GoodIn wsX2_takeMiddleOff (va_wsS RX2 53 yJ9_floorDiv_7cf53 wsJ9_floorDiv_7cf53) := goodIn_app (goodIn_of _ (by decide +kernel)) ggX2_takeMiddleOff_J9_floorDiv_7cf53
theorem dX2_takeMiddleOff_0 : decode cX2_takeMiddleOff 0 = .ok (.aload_n 0, 1) := by decide +kernel
theorem dX2_takeMiddleOff_1 : decode cX2_takeMiddleOff 1 = .ok (.getfield 22, 3) := by decide +kernel
theorem dX2_takeMiddleOff_4 : decode cX2_takeMiddleOff 4 = .ok (.iload_n 1, 1) := by decide +kernel
theorem dX2_takeMiddleOff_5 : decode cX2_takeMiddleOff 5 = .ok (.iaload, 1) := by decide +kernel
theorem dX2_takeMiddleOff_6 : decode cX2_takeMiddleOff 6 = .ok (.istore_n 2, 1) := by decide +kernel
theorem dX2_takeMiddleOff_7 : decode cX2_takeMiddleOff 7 = .ok (.aload_n 0, 1) := by decide +kernel
theorem dX2_takeMiddleOff_8 : decode cX2_takeMiddleOff 8 = .ok (.getfield 22, 3) := by decide +kernel
theorem dX2_takeMiddleOff_11 : decode cX2_takeMiddleOff 11 = .ok (.iload_n 1, 1) := by decide +kernel
theorem dX2_takeMiddleOff_12 : decode cX2_takeMiddleOff 12 = .ok (.iaload, 1) := by decide +kernel
theorem dX2_takeMiddleOff_13 : decode cX2_takeMiddleOff 13 = .ok (.istore_n 3, 1) := by decide +kernel
theorem dX2_takeMiddleOff_14 : decode cX2_takeMiddleOff 14 = .ok (.iload_n 1, 1) := by decide +kernel
theorem dX2_takeMiddleOff_15 : decode cX2_takeMiddleOff 15 = .ok (.istore 4, 2) := by decide +kernel
theorem dX2_takeMiddleOff_17 : decode cX2_takeMiddleOff 17 = .ok (.iload 4, 2) := by decide +kernel
theorem dX2_takeMiddleOff_19 : decode cX2_takeMiddleOff 19 = .ok (.bipush 16, 2) := by decide +kernel
theorem dX2_takeMiddleOff_21 : decode cX2_takeMiddleOff 21 = .ok (.if_icmp .ge 33, 3) := by decide +kernel
theorem dX2_takeMiddleOff_24 : decode cX2_takeMiddleOff 24 = .ok (.iload_n 2, 1) := by decide +kernel
theorem dX2_takeMiddleOff_25 : decode cX2_takeMiddleOff 25 = .ok (.aload_n 0, 1) := by decide +kernel
theorem dX2_takeMiddleOff_26 : decode cX2_takeMiddleOff 26 = .ok (.getfield 22, 3) := by decide +kernel
theorem dX2_takeMiddleOff_29 : decode cX2_takeMiddleOff 29 = .ok (.iload 4, 2) := by decide +kernel
theorem dX2_takeMiddleOff_31 : decode cX2_takeMiddleOff 31 = .ok (.iaload, 1) := by decide +kernel
theorem dX2_takeMiddleOff_32 : decode cX2_takeMiddleOff 32 = .ok (.invokestatic 68, 3) := by decide +kernel
theorem dX2_takeMiddleOff_35 : decode cX2_takeMiddleOff 35 = .ok (.istore_n 2, 1) := by decide +kernel
theorem dX2_takeMiddleOff_36 : decode cX2_takeMiddleOff 36 = .ok (.iload_n 3, 1) := by decide +kernel
theorem dX2_takeMiddleOff_37 : decode cX2_takeMiddleOff 37 = .ok (.aload_n 0, 1) := by decide +kernel
theorem dX2_takeMiddleOff_38 : decode cX2_takeMiddleOff 38 = .ok (.getfield 22, 3) := by decide +kernel
theorem dX2_takeMiddleOff_41 : decode cX2_takeMiddleOff 41 = .ok (.iload 4, 2) := by decide +kernel
theorem dX2_takeMiddleOff_43 : decode cX2_takeMiddleOff 43 = .ok (.iaload, 1) := by decide +kernel
theorem dX2_takeMiddleOff_44 : decode cX2_takeMiddleOff 44 = .ok (.invokestatic 71, 3) := by decide +kernel
theorem dX2_takeMiddleOff_47 : decode cX2_takeMiddleOff 47 = .ok (.istore_n 3, 1) := by decide +kernel
theorem dX2_takeMiddleOff_48 : decode cX2_takeMiddleOff 48 = .ok (.iinc 4 2, 3) := by decide +kernel
theorem dX2_takeMiddleOff_51 : decode cX2_takeMiddleOff 51 = .ok (.goto (-34), 3) := by decide +kernel
theorem dX2_takeMiddleOff_54 : decode cX2_takeMiddleOff 54 = .ok (.iload_n 2, 1) := by decide +kernel
theorem dX2_takeMiddleOff_55 : decode cX2_takeMiddleOff 55 = .ok (.iload_n 3, 1) := by decide +kernel
theorem dX2_takeMiddleOff_56 : decode cX2_takeMiddleOff 56 = .ok (.iadd, 1) := by decide +kernel
theorem dX2_takeMiddleOff_57 : decode cX2_takeMiddleOff 57 = .ok (.iconst 2, 1) := by decide +kernel
theorem dX2_takeMiddleOff_58 : decode cX2_takeMiddleOff 58 = .ok (.invokestatic 53, 3) := by decide +kernel
theorem dX2_takeMiddleOff_61 : decode cX2_takeMiddleOff 61 = .ok (.istore 4, 2) := by decide +kernel
theorem dX2_takeMiddleOff_63 : decode cX2_takeMiddleOff 63 = .ok (.iload_n 1, 1) := by decide +kernel
theorem dX2_takeMiddleOff_64 : decode cX2_takeMiddleOff 64 = .ok (.istore 5, 2) := by decide +kernel
theorem dX2_takeMiddleOff_66 : decode cX2_takeMiddleOff 66 = .ok (.iload 5, 2) := by decide +kernel
theorem dX2_takeMiddleOff_68 : decode cX2_takeMiddleOff 68 = .ok (.bipush 16, 2) := by decide +kernel
theorem dX2_takeMiddleOff_70 : decode cX2_takeMiddleOff 70 = .ok (.if_icmp .ge 26, 3) := by decide +kernel
theorem dX2_takeMiddleOff_73 : decode cX2_takeMiddleOff 73 = .ok (.aload_n 0, 1) := by decide +kernel
theorem dX2_takeMiddleOff_74 : decode cX2_takeMiddleOff 74 = .ok (.getfield 25, 3) := by decide +kernel
theorem dX2_takeMiddleOff_77 : decode cX2_takeMiddleOff 77 = .ok (.iload 5, 2) := by decide +kernel
theorem dX2_takeMiddleOff_79 : decode cX2_takeMiddleOff 79 = .ok (.aload_n 0, 1) := by decide +kernel
theorem dX2_takeMiddleOff_80 : decode cX2_takeMiddleOff 80 = .ok (.getfield 22, 3) := by decide +kernel
theorem dX2_takeMiddleOff_83 : decode cX2_takeMiddleOff 83 = .ok (.iload 5, 2) := by decide +kernel
theorem dX2_takeMiddleOff_85 : decode cX2_takeMiddleOff 85 = .ok (.iaload, 1) := by decide +kernel
theorem dX2_takeMiddleOff_86 : decode cX2_takeMiddleOff 86 = .ok (.iload 4, 2) := by decide +kernel
theorem dX2_takeMiddleOff_88 : decode cX2_takeMiddleOff 88 = .ok (.isub, 1) := by decide +kernel
theorem dX2_takeMiddleOff_89 : decode cX2_takeMiddleOff 89 = .ok (.iastore, 1) := by decide +kernel
theorem dX2_takeMiddleOff_90 : decode cX2_takeMiddleOff 90 = .ok (.iinc 5 2, 3) := by decide +kernel
theorem dX2_takeMiddleOff_93 : decode cX2_takeMiddleOff 93 = .ok (.goto (-27), 3) := by decide +kernel
theorem dX2_takeMiddleOff_96 : decode cX2_takeMiddleOff 96 = .ok (.return_, 1) := by decide +kernel
theorem dX2_greatestSize_0 : decode cX2_greatestSize 0 = .ok (.iconst 0, 1) := by decide +kernel
theorem dX2_greatestSize_1 : decode cX2_greatestSize 1 = .ok (.istore_n 1, 1) := by decide +kernel
theorem dX2_greatestSize_2 : decode cX2_greatestSize 2 = .ok (.iconst 0, 1) := by decide +kernel
theorem dX2_greatestSize_3 : decode cX2_greatestSize 3 = .ok (.istore_n 2, 1) := by decide +kernel
theorem dX2_greatestSize_4 : decode cX2_greatestSize 4 = .ok (.iload_n 2, 1) := by decide +kernel
theorem dX2_greatestSize_5 : decode cX2_greatestSize 5 = .ok (.bipush 16, 2) := by decide +kernel
theorem dX2_greatestSize_7 : decode cX2_greatestSize 7 = .ok (.if_icmp .ge 23, 3) := by decide +kernel
theorem dX2_greatestSize_10 : decode cX2_greatestSize 10 = .ok (.iload_n 1, 1) := by decide +kernel
theorem dX2_greatestSize_11 : decode cX2_greatestSize 11 = .ok (.aload_n 0, 1) := by decide +kernel
theorem dX2_greatestSize_12 : decode cX2_greatestSize 12 = .ok (.getfield 25, 3) := by decide +kernel
theorem dX2_greatestSize_15 : decode cX2_greatestSize 15 = .ok (.iload_n 2, 1) := by decide +kernel
theorem dX2_greatestSize_16 : decode cX2_greatestSize 16 = .ok (.iaload, 1) := by decide +kernel
theorem dX2_greatestSize_17 : decode cX2_greatestSize 17 = .ok (.invokestatic 32, 3) := by decide +kernel
theorem dX2_greatestSize_20 : decode cX2_greatestSize 20 = .ok (.invokestatic 71, 3) := by decide +kernel
theorem dX2_greatestSize_23 : decode cX2_greatestSize 23 = .ok (.istore_n 1, 1) := by decide +kernel
theorem dX2_greatestSize_24 : decode cX2_greatestSize 24 = .ok (.iinc 2 1, 3) := by decide +kernel
theorem dX2_greatestSize_27 : decode cX2_greatestSize 27 = .ok (.goto (-23), 3) := by decide +kernel
theorem dX2_greatestSize_30 : decode cX2_greatestSize 30 = .ok (.iload_n 1, 1) := by decide +kernel
theorem dX2_greatestSize_31 : decode cX2_greatestSize 31 = .ok (.ireturn, 1) := by decide +kernel
theorem dX3_init_0 : decode cX3_init 0 = .ok (.aload_n 0, 1) := by decide +kernel
theorem dX3_init_1 : decode cX3_init 1 = .ok (.invokespecial 3, 3) := by decide +kernel
theorem dX3_init_4 : decode cX3_init 4 = .ok (.aload_n 0, 1) := by decide +kernel
theorem dX3_init_5 : decode cX3_init 5 = .ok (.bipush 40, 2) := by decide +kernel
theorem dX3_init_7 : decode cX3_init 7 = .ok (.newarray .int, 2) := by decide +kernel
theorem dX3_init_9 : decode cX3_init 9 = .ok (.putfield 11, 3) := by decide +kernel
theorem dX3_init_12 : decode cX3_init 12 = .ok (.aload_n 0, 1) := by decide +kernel
theorem dX3_init_13 : decode cX3_init 13 = .ok (.bipush 40, 2) := by decide +kernel
theorem dX3_init_15 : decode cX3_init 15 = .ok (.newarray .int, 2) := by decide +kernel
theorem dX3_init_17 : decode cX3_init 17 = .ok (.putfield 15, 3) := by decide +kernel
theorem dX3_init_20 : decode cX3_init 20 = .ok (.aload_n 0, 1) := by decide +kernel
theorem dX3_init_21 : decode cX3_init 21 = .ok (.bipush 40, 2) := by decide +kernel
theorem dX3_init_23 : decode cX3_init 23 = .ok (.newarray .int, 2) := by decide +kernel
theorem dX3_init_25 : decode cX3_init 25 = .ok (.putfield 18, 3) := by decide +kernel
theorem dX3_init_28 : decode cX3_init 28 = .ok (.aload_n 0, 1) := by decide +kernel
theorem dX3_init_29 : decode cX3_init 29 = .ok (.iconst 0, 1) := by decide +kernel
theorem dX3_init_30 : decode cX3_init 30 = .ok (.putfield 21, 3) := by decide +kernel
theorem dX3_init_33 : decode cX3_init 33 = .ok (.aload_n 0, 1) := by decide +kernel
theorem dX3_init_34 : decode cX3_init 34 = .ok (.iconst 0, 1) := by decide +kernel
theorem dX3_init_35 : decode cX3_init 35 = .ok (.putfield 25, 3) := by decide +kernel
theorem dX3_init_38 : decode cX3_init 38 = .ok (.return_, 1) := by decide +kernel
theorem dX3_add_0 : decode cX3_add 0 = .ok (.aload_n 0, 1) := by decide +kernel
theorem dX3_add_1 : decode cX3_add 1 = .ok (.getfield 21, 3) := by decide +kernel
theorem dX3_add_4 : decode cX3_add 4 = .ok (.bipush 40, 2) := by decide +kernel
theorem dX3_add_6 : decode cX3_add 6 = .ok (.if_icmp .lt 5, 3) := by decide +kernel
theorem dX3_add_9 : decode cX3_add 9 = .ok (.iconst 0, 1) := by decide +kernel
theorem dX3_add_10 : decode cX3_add 10 = .ok (.ireturn, 1) := by decide +kernel
theorem dX3_add_11 : decode cX3_add 11 = .ok (.aload_n 0, 1) := by decide +kernel
theorem dX3_add_12 : decode cX3_add 12 = .ok (.getfield 11, 3) := by decide +kernel
theorem dX3_add_15 : decode cX3_add 15 = .ok (.aload_n 0, 1) := by decide +kernel
theorem dX3_add_16 : decode cX3_add 16 = .ok (.getfield 21, 3) := by decide +kernel
theorem dX3_add_19 : decode cX3_add 19 = .ok (.iload_n 1, 1) := by decide +kernel
theorem dX3_add_20 : decode cX3_add 20 = .ok (.iastore, 1) := by decide +kernel
theorem dX3_add_21 : decode cX3_add 21 = .ok (.aload_n 0, 1) := by decide +kernel
theorem dX3_add_22 : decode cX3_add 22 = .ok (.dup, 1) := by decide +kernel
theorem dX3_add_23 : decode cX3_add 23 = .ok (.getfield 21, 3) := by decide +kernel
theorem dX3_add_26 : decode cX3_add 26 = .ok (.iconst 1, 1) := by decide +kernel
theorem dX3_add_27 : decode cX3_add 27 = .ok (.iadd, 1) := by decide +kernel
theorem dX3_add_28 : decode cX3_add 28 = .ok (.putfield 21, 3) := by decide +kernel
theorem dX3_add_31 : decode cX3_add 31 = .ok (.iconst 1, 1) := by decide +kernel
theorem dX3_add_32 : decode cX3_add 32 = .ok (.ireturn, 1) := by decide +kernel
theorem dX3_empty_0 : decode cX3_empty 0 = .ok (.aload_n 0, 1) := by decide +kernel
theorem dX3_empty_1 : decode cX3_empty 1 = .ok (.getfield 21, 3) := by decide +kernel
theorem dX3_empty_4 : decode cX3_empty 4 = .ok (.istore_n 1, 1) := by decide +kernel
theorem dX3_empty_5 : decode cX3_empty 5 = .ok (.aload_n 0, 1) := by decide +kernel
theorem dX3_empty_6 : decode cX3_empty 6 = .ok (.iconst 0, 1) := by decide +kernel
theorem dX3_empty_7 : decode cX3_empty 7 = .ok (.putfield 21, 3) := by decide +kernel
theorem dX3_empty_10 : decode cX3_empty 10 = .ok (.iload_n 1, 1) := by decide +kernel
theorem dX3_empty_11 : decode cX3_empty 11 = .ok (.ireturn, 1) := by decide +kernel
set_option maxRecDepth 20000 in
theorem ggX3_findCommands_X3_commandAt : GoodIn wsX3_findCommands wsX3_commandAt := goodIn_r _ [14, 15, 16, 17, 18, 19, 20, 21, 22, 23, 24, 13, 25, 5, 2, 26, 27, 28, 29, 30, 31, 32, 33, 34, 35, 36, 37, 43, 44, 45, 46, 47, 38, 39, 40, 41, 42] (by decide +kernel) (by decide +kernel)
set_option maxRecDepth 20000 in
theorem gX3_findCommands_X3_commandAt : GoodIn wsX3_findCommands (wsV RX3 28 RX3 yX3_commandAt wsX3_commandAt) := goodIn_app (goodIn_of _ (by decide +kernel)) ggX3_findCommands_X3_commandAt
theorem dX3_findCommands_0 : decode cX3_findCommands 0 = .ok (.aload_n 0, 1) := by decide +kernel
theorem dX3_findCommands_1 : decode cX3_findCommands 1 = .ok (.iconst 0, 1) := by decide +kernel
theorem dX3_findCommands_2 : decode cX3_findCommands 2 = .ok (.putfield 25, 3) := by decide +kernel
theorem dX3_findCommands_5 : decode cX3_findCommands 5 = .ok (.iconst 0, 1) := by decide +kernel
theorem dX3_findCommands_6 : decode cX3_findCommands 6 = .ok (.istore_n 3, 1) := by decide +kernel
theorem dX3_findCommands_7 : decode cX3_findCommands 7 = .ok (.iload_n 3, 1) := by decide +kernel
theorem dX3_findCommands_8 : decode cX3_findCommands 8 = .ok (.aload_n 0, 1) := by decide +kernel
theorem dX3_findCommands_9 : decode cX3_findCommands 9 = .ok (.getfield 21, 3) := by decide +kernel
theorem dX3_findCommands_12 : decode cX3_findCommands 12 = .ok (.if_icmp .ge 73, 3) := by decide +kernel
theorem dX3_findCommands_15 : decode cX3_findCommands 15 = .ok (.aload_n 0, 1) := by decide +kernel
theorem dX3_findCommands_16 : decode cX3_findCommands 16 = .ok (.aload_n 1, 1) := by decide +kernel
theorem dX3_findCommands_17 : decode cX3_findCommands 17 = .ok (.iload_n 2, 1) := by decide +kernel
theorem dX3_findCommands_18 : decode cX3_findCommands 18 = .ok (.iload_n 3, 1) := by decide +kernel
theorem dX3_findCommands_19 : decode cX3_findCommands 19 = .ok (.invokevirtual 28, 3) := by decide +kernel
theorem dX3_findCommands_22 : decode cX3_findCommands 22 = .ok (.istore 4, 2) := by decide +kernel
theorem dX3_findCommands_24 : decode cX3_findCommands 24 = .ok (.iload 4, 2) := by decide +kernel
theorem dX3_findCommands_26 : decode cX3_findCommands 26 = .ok (.bipush (-4), 2) := by decide +kernel
theorem dX3_findCommands_28 : decode cX3_findCommands 28 = .ok (.if_icmp .ne 9, 3) := by decide +kernel
theorem dX3_findCommands_31 : decode cX3_findCommands 31 = .ok (.iinc 3 1, 3) := by decide +kernel
theorem dX3_findCommands_34 : decode cX3_findCommands 34 = .ok (.goto 48, 3) := by decide +kernel
theorem dX3_findCommands_37 : decode cX3_findCommands 37 = .ok (.aload_n 0, 1) := by decide +kernel
theorem dX3_findCommands_38 : decode cX3_findCommands 38 = .ok (.getfield 15, 3) := by decide +kernel
theorem dX3_findCommands_41 : decode cX3_findCommands 41 = .ok (.aload_n 0, 1) := by decide +kernel
theorem dX3_findCommands_42 : decode cX3_findCommands 42 = .ok (.getfield 25, 3) := by decide +kernel
theorem dX3_findCommands_45 : decode cX3_findCommands 45 = .ok (.iload 4, 2) := by decide +kernel
theorem dX3_findCommands_47 : decode cX3_findCommands 47 = .ok (.iastore, 1) := by decide +kernel
theorem dX3_findCommands_48 : decode cX3_findCommands 48 = .ok (.aload_n 0, 1) := by decide +kernel
theorem dX3_findCommands_49 : decode cX3_findCommands 49 = .ok (.getfield 18, 3) := by decide +kernel
theorem dX3_findCommands_52 : decode cX3_findCommands 52 = .ok (.aload_n 0, 1) := by decide +kernel
theorem dX3_findCommands_53 : decode cX3_findCommands 53 = .ok (.getfield 25, 3) := by decide +kernel
theorem dX3_findCommands_56 : decode cX3_findCommands 56 = .ok (.iload_n 3, 1) := by decide +kernel
theorem dX3_findCommands_57 : decode cX3_findCommands 57 = .ok (.iastore, 1) := by decide +kernel
theorem dX3_findCommands_58 : decode cX3_findCommands 58 = .ok (.aload_n 0, 1) := by decide +kernel
theorem dX3_findCommands_59 : decode cX3_findCommands 59 = .ok (.dup, 1) := by decide +kernel
theorem dX3_findCommands_60 : decode cX3_findCommands 60 = .ok (.getfield 25, 3) := by decide +kernel
theorem dX3_findCommands_63 : decode cX3_findCommands 63 = .ok (.iconst 1, 1) := by decide +kernel
theorem dX3_findCommands_64 : decode cX3_findCommands 64 = .ok (.iadd, 1) := by decide +kernel
theorem dX3_findCommands_65 : decode cX3_findCommands 65 = .ok (.putfield 25, 3) := by decide +kernel
theorem dX3_findCommands_68 : decode cX3_findCommands 68 = .ok (.iload_n 3, 1) := by decide +kernel
theorem dX3_findCommands_69 : decode cX3_findCommands 69 = .ok (.iconst 1, 1) := by decide +kernel
theorem dX3_findCommands_70 : decode cX3_findCommands 70 = .ok (.aload_n 1, 1) := by decide +kernel
theorem dX3_findCommands_71 : decode cX3_findCommands 71 = .ok (.getfield 32, 3) := by decide +kernel
theorem dX3_findCommands_74 : decode cX3_findCommands 74 = .ok (.iload 4, 2) := by decide +kernel
theorem dX3_findCommands_76 : decode cX3_findCommands 76 = .ok (.iaload, 1) := by decide +kernel
theorem dX3_findCommands_77 : decode cX3_findCommands 77 = .ok (.invokestatic 37, 3) := by decide +kernel
theorem dX3_findCommands_80 : decode cX3_findCommands 80 = .ok (.iadd, 1) := by decide +kernel
theorem dX3_findCommands_81 : decode cX3_findCommands 81 = .ok (.istore_n 3, 1) := by decide +kernel
theorem dX3_findCommands_82 : decode cX3_findCommands 82 = .ok (.goto (-75), 3) := by decide +kernel
theorem dX3_findCommands_85 : decode cX3_findCommands 85 = .ok (.return_, 1) := by decide +kernel
set_option maxRecDepth 20000 in
theorem ggX3_commandAt_X1_isOf : GoodIn wsX3_commandAt wsX1_isOf := goodIn_r _ [6, 7, 27, 28, 29, 30, 31] (by decide +kernel) (by decide +kernel)
set_option maxRecDepth 20000 in
theorem gX3_commandAt_X1_isOf : GoodIn wsX3_commandAt (wsV RX3 44 RX1 yX1_isOf wsX1_isOf) := goodIn_app (goodIn_of _ (by decide +kernel)) ggX3_commandAt_X1_isOf
set_option maxRecDepth 20000 in
theorem ggX3_commandAt_X3_standsAt : GoodIn wsX3_commandAt wsX3_standsAt := goodIn_r _ [12, 13, 14, 15, 16, 17, 18, 5, 19, 20, 27, 28, 29, 30, 31, 32, 33, 34, 35, 36] (by decide +kernel) (by decide +kernel)
set_option maxRecDepth 20000 in
theorem gX3_commandAt_X3_standsAt : GoodIn wsX3_commandAt (wsV RX3 48 RX3 yX3_standsAt wsX3_standsAt) := goodIn_app (goodIn_of _ (by decide +kernel)) ggX3_commandAt_X3_standsAt
set_option maxRecDepth 20000 in
theorem ggX3_commandAt_X1_goesBefore : GoodIn wsX3_commandAt wsX1_goesBefore := goodIn_r _ [24, 25, 26, 27, 28, 29, 30, 31] (by decide +kernel) (by decide +kernel)
set_option maxRecDepth 20000 in
theorem gX3_commandAt_X1_goesBefore : GoodIn wsX3_commandAt (wsV RX3 52 RX1 yX1_goesBefore wsX1_goesBefore) := goodIn_app (goodIn_of _ (by decide +kernel)) ggX3_commandAt_X1_goesBefore
theorem dX3_commandAt_0 : decode cX3_commandAt 0 = .ok (.bipush (-4), 2) := by decide +kernel
theorem dX3_commandAt_2 : decode cX3_commandAt 2 = .ok (.istore 4, 2) := by decide +kernel
theorem dX3_commandAt_4 : decode cX3_commandAt 4 = .ok (.iconst 0, 1) := by decide +kernel
theorem dX3_commandAt_5 : decode cX3_commandAt 5 = .ok (.istore 5, 2) := by decide +kernel
theorem dX3_commandAt_7 : decode cX3_commandAt 7 = .ok (.iload 5, 2) := by decide +kernel
theorem dX3_commandAt_9 : decode cX3_commandAt 9 = .ok (.aload_n 1, 1) := by decide +kernel
theorem dX3_commandAt_10 : decode cX3_commandAt 10 = .ok (.getfield 43, 3) := by decide +kernel
theorem dX3_commandAt_13 : decode cX3_commandAt 13 = .ok (.if_icmp .ge 52, 3) := by decide +kernel
theorem dX3_commandAt_16 : decode cX3_commandAt 16 = .ok (.aload_n 1, 1) := by decide +kernel
theorem dX3_commandAt_17 : decode cX3_commandAt 17 = .ok (.iload 5, 2) := by decide +kernel
theorem dX3_commandAt_19 : decode cX3_commandAt 19 = .ok (.iload_n 2, 1) := by decide +kernel
theorem dX3_commandAt_20 : decode cX3_commandAt 20 = .ok (.invokevirtual 44, 3) := by decide +kernel
theorem dX3_commandAt_23 : decode cX3_commandAt 23 = .ok (.ifCond .eq 36, 3) := by decide +kernel
theorem dX3_commandAt_26 : decode cX3_commandAt 26 = .ok (.aload_n 0, 1) := by decide +kernel
theorem dX3_commandAt_27 : decode cX3_commandAt 27 = .ok (.aload_n 1, 1) := by decide +kernel
theorem dX3_commandAt_28 : decode cX3_commandAt 28 = .ok (.iload 5, 2) := by decide +kernel
theorem dX3_commandAt_30 : decode cX3_commandAt 30 = .ok (.iload_n 3, 1) := by decide +kernel
theorem dX3_commandAt_31 : decode cX3_commandAt 31 = .ok (.invokevirtual 48, 3) := by decide +kernel
theorem dX3_commandAt_34 : decode cX3_commandAt 34 = .ok (.ifCond .eq 25, 3) := by decide +kernel
theorem dX3_commandAt_37 : decode cX3_commandAt 37 = .ok (.iload 4, 2) := by decide +kernel
theorem dX3_commandAt_39 : decode cX3_commandAt 39 = .ok (.bipush (-4), 2) := by decide +kernel
theorem dX3_commandAt_41 : decode cX3_commandAt 41 = .ok (.if_icmp .eq 14, 3) := by decide +kernel
theorem dX3_commandAt_44 : decode cX3_commandAt 44 = .ok (.aload_n 1, 1) := by decide +kernel
theorem dX3_commandAt_45 : decode cX3_commandAt 45 = .ok (.iload 5, 2) := by decide +kernel
theorem dX3_commandAt_47 : decode cX3_commandAt 47 = .ok (.iload 4, 2) := by decide +kernel
theorem dX3_commandAt_49 : decode cX3_commandAt 49 = .ok (.invokevirtual 52, 3) := by decide +kernel
theorem dX3_commandAt_52 : decode cX3_commandAt 52 = .ok (.ifCond .eq 7, 3) := by decide +kernel
theorem dX3_commandAt_55 : decode cX3_commandAt 55 = .ok (.iload 5, 2) := by decide +kernel
theorem dX3_commandAt_57 : decode cX3_commandAt 57 = .ok (.istore 4, 2) := by decide +kernel
theorem dX3_commandAt_59 : decode cX3_commandAt 59 = .ok (.iinc 5 1, 3) := by decide +kernel
theorem dX3_commandAt_62 : decode cX3_commandAt 62 = .ok (.goto (-55), 3) := by decide +kernel
theorem dX3_commandAt_65 : decode cX3_commandAt 65 = .ok (.iload 4, 2) := by decide +kernel
theorem dX3_commandAt_67 : decode cX3_commandAt 67 = .ok (.ireturn, 1) := by decide +kernel
set_option maxRecDepth 20000 in
theorem ggX3_standsAt_X1_labelAt : GoodIn wsX3_standsAt wsX1_labelAt := goodIn_r _ [8, 9, 10, 11, 12, 13, 14] (by decide +kernel) (by decide +kernel)
set_option maxRecDepth 20000 in
theorem gX3_standsAt_X1_labelAt : GoodIn wsX3_standsAt (wsV RX3 55 RX1 yX1_labelAt wsX1_labelAt) := goodIn_app (goodIn_of _ (by decide +kernel)) ggX3_standsAt_X1_labelAt
theorem dX3_standsAt_0 : decode cX3_standsAt 0 = .ok (.aload_n 1, 1) := by decide +kernel
theorem dX3_standsAt_1 : decode cX3_standsAt 1 = .ok (.getfield 32, 3) := by decide +kernel
theorem dX3_standsAt_4 : decode cX3_standsAt 4 = .ok (.iload_n 2, 1) := by decide +kernel
theorem dX3_standsAt_5 : decode cX3_standsAt 5 = .ok (.iaload, 1) := by decide +kernel
theorem dX3_standsAt_6 : decode cX3_standsAt 6 = .ok (.aload_n 0, 1) := by decide +kernel
theorem dX3_standsAt_7 : decode cX3_standsAt 7 = .ok (.getfield 21, 3) := by decide +kernel
theorem dX3_standsAt_10 : decode cX3_standsAt 10 = .ok (.iload_n 3, 1) := by decide +kernel
theorem dX3_standsAt_11 : decode cX3_standsAt 11 = .ok (.isub, 1) := by decide +kernel
theorem dX3_standsAt_12 : decode cX3_standsAt 12 = .ok (.if_icmp .le 5, 3) := by decide +kernel
theorem dX3_standsAt_15 : decode cX3_standsAt 15 = .ok (.iconst 0, 1) := by decide +kernel
theorem dX3_standsAt_16 : decode cX3_standsAt 16 = .ok (.ireturn, 1) := by decide +kernel
theorem dX3_standsAt_17 : decode cX3_standsAt 17 = .ok (.iconst 0, 1) := by decide +kernel
theorem dX3_standsAt_18 : decode cX3_standsAt 18 = .ok (.istore 4, 2) := by decide +kernel
theorem dX3_standsAt_20 : decode cX3_standsAt 20 = .ok (.iload 4, 2) := by decide +kernel
theorem dX3_standsAt_22 : decode cX3_standsAt 22 = .ok (.aload_n 1, 1) := by decide +kernel
theorem dX3_standsAt_23 : decode cX3_standsAt 23 = .ok (.getfield 32, 3) := by decide +kernel
theorem dX3_standsAt_26 : decode cX3_standsAt 26 = .ok (.iload_n 2, 1) := by decide +kernel
theorem dX3_standsAt_27 : decode cX3_standsAt 27 = .ok (.iaload, 1) := by decide +kernel
theorem dX3_standsAt_28 : decode cX3_standsAt 28 = .ok (.if_icmp .ge 30, 3) := by decide +kernel
theorem dX3_standsAt_31 : decode cX3_standsAt 31 = .ok (.aload_n 0, 1) := by decide +kernel
theorem dX3_standsAt_32 : decode cX3_standsAt 32 = .ok (.getfield 11, 3) := by decide +kernel
theorem dX3_standsAt_35 : decode cX3_standsAt 35 = .ok (.iload_n 3, 1) := by decide +kernel
theorem dX3_standsAt_36 : decode cX3_standsAt 36 = .ok (.iload 4, 2) := by decide +kernel
theorem dX3_standsAt_38 : decode cX3_standsAt 38 = .ok (.iadd, 1) := by decide +kernel
theorem dX3_standsAt_39 : decode cX3_standsAt 39 = .ok (.iaload, 1) := by decide +kernel
theorem dX3_standsAt_40 : decode cX3_standsAt 40 = .ok (.aload_n 1, 1) := by decide +kernel
theorem dX3_standsAt_41 : decode cX3_standsAt 41 = .ok (.iload_n 2, 1) := by decide +kernel
theorem dX3_standsAt_42 : decode cX3_standsAt 42 = .ok (.iload 4, 2) := by decide +kernel
theorem dX3_standsAt_44 : decode cX3_standsAt 44 = .ok (.invokevirtual 55, 3) := by decide +kernel
theorem dX3_standsAt_47 : decode cX3_standsAt 47 = .ok (.if_icmp .eq 5, 3) := by decide +kernel
theorem dX3_standsAt_50 : decode cX3_standsAt 50 = .ok (.iconst 0, 1) := by decide +kernel
theorem dX3_standsAt_51 : decode cX3_standsAt 51 = .ok (.ireturn, 1) := by decide +kernel
theorem dX3_standsAt_52 : decode cX3_standsAt 52 = .ok (.iinc 4 1, 3) := by decide +kernel
theorem dX3_standsAt_55 : decode cX3_standsAt 55 = .ok (.goto (-35), 3) := by decide +kernel
theorem dX3_standsAt_58 : decode cX3_standsAt 58 = .ok (.iconst 1, 1) := by decide +kernel
theorem dX3_standsAt_59 : decode cX3_standsAt 59 = .ok (.ireturn, 1) := by decide +kernel
theorem dX4_init_0 : decode cX4_init 0 = .ok (.aload_n 0, 1) := by decide +kernel
theorem dX4_init_1 : decode cX4_init 1 = .ok (.invokespecial 3, 3) := by decide +kernel
theorem dX4_init_4 : decode cX4_init 4 = .ok (.aload_n 0, 1) := by decide +kernel
theorem dX4_init_5 : decode cX4_init 5 = .ok (.bipush 16, 2) := by decide +kernel
theorem dX4_init_7 : decode cX4_init 7 = .ok (.newarray .int, 2) := by decide +kernel
theorem dX4_init_9 : decode cX4_init 9 = .ok (.putfield 9, 3) := by decide +kernel
theorem dX4_init_12 : decode cX4_init 12 = .ok (.aload_n 0, 1) := by decide +kernel
theorem dX4_init_13 : decode cX4_init 13 = .ok (.bipush 64, 2) := by decide +kernel
theorem dX4_init_15 : decode cX4_init 15 = .ok (.newarray .int, 2) := by decide +kernel
theorem dX4_init_17 : decode cX4_init 17 = .ok (.putfield 15, 3) := by decide +kernel
theorem dX4_init_20 : decode cX4_init 20 = .ok (.aload_n 0, 1) := by decide +kernel
theorem dX4_init_21 : decode cX4_init 21 = .ok (.sipush 256, 3) := by decide +kernel
theorem dX4_init_24 : decode cX4_init 24 = .ok (.newarray .int, 2) := by decide +kernel
theorem dX4_init_26 : decode cX4_init 26 = .ok (.putfield 18, 3) := by decide +kernel
theorem dX4_init_29 : decode cX4_init 29 = .ok (.return_, 1) := by decide +kernel
set_option maxRecDepth 20000 in
theorem ggX4_distanceFrom_X4_distanceUnturned : GoodIn wsX4_distanceFrom wsX4_distanceUnturned := goodIn_r _ [16, 8, 9, 10, 11, 17, 18, 19, 15, 20, 21, 22, 23, 24, 25, 26, 1, 27, 28, 29, 30, 31, 32, 33, 34, 35, 36, 37, 38, 39, 40, 41, 46, 47, 48] (by decide +kernel) (by decide +kernel)
set_option maxRecDepth 20000 in
theorem gX4_distanceFrom_X4_distanceUnturned : GoodIn wsX4_distanceFrom (wsV RX4 35 RX4 yX4_distanceUnturned wsX4_distanceUnturned) := goodIn_app (goodIn_of _ (by decide +kernel)) ggX4_distanceFrom_X4_distanceUnturned
set_option maxRecDepth 20000 in
theorem ggX4_distanceFrom_X4_turnQuarter : GoodIn wsX4_distanceFrom wsX4_turnQuarter := goodIn_r _ [45, 1, 46, 47, 48] (by decide +kernel) (by decide +kernel)
set_option maxRecDepth 20000 in
theorem gX4_distanceFrom_X4_turnQuarter : GoodIn wsX4_distanceFrom (wsV RX4 39 RX4 yX4_turnQuarter wsX4_turnQuarter) := goodIn_app (goodIn_of _ (by decide +kernel)) ggX4_distanceFrom_X4_turnQuarter
theorem dX4_distanceFrom_0 : decode cX4_distanceFrom 0 = .ok (.aload_n 1, 1) := by decide +kernel
theorem dX4_distanceFrom_1 : decode cX4_distanceFrom 1 = .ok (.iload_n 2, 1) := by decide +kernel
theorem dX4_distanceFrom_2 : decode cX4_distanceFrom 2 = .ok (.aload_n 0, 1) := by decide +kernel
theorem dX4_distanceFrom_3 : decode cX4_distanceFrom 3 = .ok (.getfield 9, 3) := by decide +kernel
theorem dX4_distanceFrom_6 : decode cX4_distanceFrom 6 = .ok (.iconst 0, 1) := by decide +kernel
theorem dX4_distanceFrom_7 : decode cX4_distanceFrom 7 = .ok (.bipush 16, 2) := by decide +kernel
theorem dX4_distanceFrom_9 : decode cX4_distanceFrom 9 = .ok (.invokestatic 21, 3) := by decide +kernel
theorem dX4_distanceFrom_12 : decode cX4_distanceFrom 12 = .ok (.aload_n 3, 1) := by decide +kernel
theorem dX4_distanceFrom_13 : decode cX4_distanceFrom 13 = .ok (.getfield 27, 3) := by decide +kernel
theorem dX4_distanceFrom_16 : decode cX4_distanceFrom 16 = .ok (.iload 4, 2) := by decide +kernel
theorem dX4_distanceFrom_18 : decode cX4_distanceFrom 18 = .ok (.iaload, 1) := by decide +kernel
theorem dX4_distanceFrom_19 : decode cX4_distanceFrom 19 = .ok (.istore 5, 2) := by decide +kernel
theorem dX4_distanceFrom_21 : decode cX4_distanceFrom 21 = .ok (.iload 5, 2) := by decide +kernel
theorem dX4_distanceFrom_23 : decode cX4_distanceFrom 23 = .ok (.iconst 1, 1) := by decide +kernel
theorem dX4_distanceFrom_24 : decode cX4_distanceFrom 24 = .ok (.if_icmp .eq 9, 3) := by decide +kernel
theorem dX4_distanceFrom_27 : decode cX4_distanceFrom 27 = .ok (.iload 5, 2) := by decide +kernel
theorem dX4_distanceFrom_29 : decode cX4_distanceFrom 29 = .ok (.iconst 4, 1) := by decide +kernel
theorem dX4_distanceFrom_30 : decode cX4_distanceFrom 30 = .ok (.if_icmp .ne 7, 3) := by decide +kernel
theorem dX4_distanceFrom_33 : decode cX4_distanceFrom 33 = .ok (.iconst 4, 1) := by decide +kernel
theorem dX4_distanceFrom_34 : decode cX4_distanceFrom 34 = .ok (.goto 4, 3) := by decide +kernel
theorem dX4_distanceFrom_37 : decode cX4_distanceFrom 37 = .ok (.iconst 1, 1) := by decide +kernel
theorem dX4_distanceFrom_38 : decode cX4_distanceFrom 38 = .ok (.istore 6, 2) := by decide +kernel
theorem dX4_distanceFrom_40 : decode cX4_distanceFrom 40 = .ok (.aload_n 0, 1) := by decide +kernel
theorem dX4_distanceFrom_41 : decode cX4_distanceFrom 41 = .ok (.iload 5, 2) := by decide +kernel
theorem dX4_distanceFrom_43 : decode cX4_distanceFrom 43 = .ok (.aload_n 3, 1) := by decide +kernel
theorem dX4_distanceFrom_44 : decode cX4_distanceFrom 44 = .ok (.getfield 32, 3) := by decide +kernel
theorem dX4_distanceFrom_47 : decode cX4_distanceFrom 47 = .ok (.iload 4, 2) := by decide +kernel
theorem dX4_distanceFrom_49 : decode cX4_distanceFrom 49 = .ok (.bipush 16, 2) := by decide +kernel
theorem dX4_distanceFrom_51 : decode cX4_distanceFrom 51 = .ok (.imul, 1) := by decide +kernel
theorem dX4_distanceFrom_52 : decode cX4_distanceFrom 52 = .ok (.invokevirtual 35, 3) := by decide +kernel
theorem dX4_distanceFrom_55 : decode cX4_distanceFrom 55 = .ok (.istore 7, 2) := by decide +kernel
theorem dX4_distanceFrom_57 : decode cX4_distanceFrom 57 = .ok (.iconst 1, 1) := by decide +kernel
theorem dX4_distanceFrom_58 : decode cX4_distanceFrom 58 = .ok (.istore 8, 2) := by decide +kernel
theorem dX4_distanceFrom_60 : decode cX4_distanceFrom 60 = .ok (.iload 8, 2) := by decide +kernel
theorem dX4_distanceFrom_62 : decode cX4_distanceFrom 62 = .ok (.iload 6, 2) := by decide +kernel
theorem dX4_distanceFrom_64 : decode cX4_distanceFrom 64 = .ok (.if_icmp .ge 35, 3) := by decide +kernel
theorem dX4_distanceFrom_67 : decode cX4_distanceFrom 67 = .ok (.aload_n 0, 1) := by decide +kernel
theorem dX4_distanceFrom_68 : decode cX4_distanceFrom 68 = .ok (.invokevirtual 39, 3) := by decide +kernel
theorem dX4_distanceFrom_71 : decode cX4_distanceFrom 71 = .ok (.iload 7, 2) := by decide +kernel
theorem dX4_distanceFrom_73 : decode cX4_distanceFrom 73 = .ok (.aload_n 0, 1) := by decide +kernel
theorem dX4_distanceFrom_74 : decode cX4_distanceFrom 74 = .ok (.iload 5, 2) := by decide +kernel
theorem dX4_distanceFrom_76 : decode cX4_distanceFrom 76 = .ok (.aload_n 3, 1) := by decide +kernel
theorem dX4_distanceFrom_77 : decode cX4_distanceFrom 77 = .ok (.getfield 32, 3) := by decide +kernel
theorem dX4_distanceFrom_80 : decode cX4_distanceFrom 80 = .ok (.iload 4, 2) := by decide +kernel
theorem dX4_distanceFrom_82 : decode cX4_distanceFrom 82 = .ok (.bipush 16, 2) := by decide +kernel
theorem dX4_distanceFrom_84 : decode cX4_distanceFrom 84 = .ok (.imul, 1) := by decide +kernel
theorem dX4_distanceFrom_85 : decode cX4_distanceFrom 85 = .ok (.invokevirtual 35, 3) := by decide +kernel
theorem dX4_distanceFrom_88 : decode cX4_distanceFrom 88 = .ok (.invokestatic 42, 3) := by decide +kernel
theorem dX4_distanceFrom_91 : decode cX4_distanceFrom 91 = .ok (.istore 7, 2) := by decide +kernel
theorem dX4_distanceFrom_93 : decode cX4_distanceFrom 93 = .ok (.iinc 8 1, 3) := by decide +kernel
theorem dX4_distanceFrom_96 : decode cX4_distanceFrom 96 = .ok (.goto (-36), 3) := by decide +kernel
theorem dX4_distanceFrom_99 : decode cX4_distanceFrom 99 = .ok (.iload 7, 2) := by decide +kernel
theorem dX4_distanceFrom_101 : decode cX4_distanceFrom 101 = .ok (.ireturn, 1) := by decide +kernel
theorem dX4_turnQuarter_0 : decode cX4_turnQuarter 0 = .ok (.iconst 0, 1) := by decide +kernel
theorem dX4_turnQuarter_1 : decode cX4_turnQuarter 1 = .ok (.istore_n 1, 1) := by decide +kernel
theorem dX4_turnQuarter_2 : decode cX4_turnQuarter 2 = .ok (.iload_n 1, 1) := by decide +kernel
theorem dX4_turnQuarter_3 : decode cX4_turnQuarter 3 = .ok (.bipush 16, 2) := by decide +kernel
theorem dX4_turnQuarter_5 : decode cX4_turnQuarter 5 = .ok (.if_icmp .ge 40, 3) := by decide +kernel
theorem dX4_turnQuarter_8 : decode cX4_turnQuarter 8 = .ok (.aload_n 0, 1) := by decide +kernel
theorem dX4_turnQuarter_9 : decode cX4_turnQuarter 9 = .ok (.getfield 9, 3) := by decide +kernel
theorem dX4_turnQuarter_12 : decode cX4_turnQuarter 12 = .ok (.iload_n 1, 1) := by decide +kernel
theorem dX4_turnQuarter_13 : decode cX4_turnQuarter 13 = .ok (.iaload, 1) := by decide +kernel
theorem dX4_turnQuarter_14 : decode cX4_turnQuarter 14 = .ok (.istore_n 2, 1) := by decide +kernel
theorem dX4_turnQuarter_15 : decode cX4_turnQuarter 15 = .ok (.aload_n 0, 1) := by decide +kernel
theorem dX4_turnQuarter_16 : decode cX4_turnQuarter 16 = .ok (.getfield 9, 3) := by decide +kernel
theorem dX4_turnQuarter_19 : decode cX4_turnQuarter 19 = .ok (.iload_n 1, 1) := by decide +kernel
theorem dX4_turnQuarter_20 : decode cX4_turnQuarter 20 = .ok (.aload_n 0, 1) := by decide +kernel
theorem dX4_turnQuarter_21 : decode cX4_turnQuarter 21 = .ok (.getfield 9, 3) := by decide +kernel
theorem dX4_turnQuarter_24 : decode cX4_turnQuarter 24 = .ok (.iload_n 1, 1) := by decide +kernel
theorem dX4_turnQuarter_25 : decode cX4_turnQuarter 25 = .ok (.iconst 1, 1) := by decide +kernel
theorem dX4_turnQuarter_26 : decode cX4_turnQuarter 26 = .ok (.iadd, 1) := by decide +kernel
theorem dX4_turnQuarter_27 : decode cX4_turnQuarter 27 = .ok (.iaload, 1) := by decide +kernel
theorem dX4_turnQuarter_28 : decode cX4_turnQuarter 28 = .ok (.ineg, 1) := by decide +kernel
theorem dX4_turnQuarter_29 : decode cX4_turnQuarter 29 = .ok (.iastore, 1) := by decide +kernel
theorem dX4_turnQuarter_30 : decode cX4_turnQuarter 30 = .ok (.aload_n 0, 1) := by decide +kernel
theorem dX4_turnQuarter_31 : decode cX4_turnQuarter 31 = .ok (.getfield 9, 3) := by decide +kernel
theorem dX4_turnQuarter_34 : decode cX4_turnQuarter 34 = .ok (.iload_n 1, 1) := by decide +kernel
theorem dX4_turnQuarter_35 : decode cX4_turnQuarter 35 = .ok (.iconst 1, 1) := by decide +kernel
theorem dX4_turnQuarter_36 : decode cX4_turnQuarter 36 = .ok (.iadd, 1) := by decide +kernel
theorem dX4_turnQuarter_37 : decode cX4_turnQuarter 37 = .ok (.iload_n 2, 1) := by decide +kernel
theorem dX4_turnQuarter_38 : decode cX4_turnQuarter 38 = .ok (.iastore, 1) := by decide +kernel
theorem dX4_turnQuarter_39 : decode cX4_turnQuarter 39 = .ok (.iinc 1 2, 3) := by decide +kernel
theorem dX4_turnQuarter_42 : decode cX4_turnQuarter 42 = .ok (.goto (-40), 3) := by decide +kernel
theorem dX4_turnQuarter_45 : decode cX4_turnQuarter 45 = .ok (.return_, 1) := by decide +kernel
set_option maxRecDepth 20000 in
theorem ggX4_distanceUnturned_X4_leastPairing : GoodIn wsX4_distanceUnturned wsX4_leastPairing := goodIn_r _ [9, 10, 11, 12, 13, 14, 8, 15, 16, 17, 18, 3, 19, 20, 21, 22, 23, 24, 1, 2, 4, 25, 26, 27, 28, 29, 30, 31, 32, 33, 34] (by decide +kernel) (by decide +kernel)
set_option maxRecDepth 20000 in
theorem gX4_distanceUnturned_X4_leastPairing : GoodIn wsX4_distanceUnturned (wsV RX4 48 RX4 yX4_leastPairing wsX4_leastPairing) := goodIn_app (goodIn_of _ (by decide +kernel)) ggX4_distanceUnturned_X4_leastPairing
set_option maxRecDepth 20000 in
theorem ggX4_distanceUnturned_X4_pointsApart : GoodIn wsX4_distanceUnturned wsX4_pointsApart := goodIn_r _ [15, 16, 17, 18, 3, 19, 32, 33, 34] (by decide +kernel) (by decide +kernel)
set_option maxRecDepth 20000 in
theorem gX4_distanceUnturned_X4_pointsApart : GoodIn wsX4_distanceUnturned (wsV RX4 52 RX4 yX4_pointsApart wsX4_pointsApart) := goodIn_app (goodIn_of _ (by decide +kernel)) ggX4_distanceUnturned_X4_pointsApart
theorem dX4_distanceUnturned_0 : decode cX4_distanceUnturned 0 = .ok (.iload_n 1, 1) := by decide +kernel
theorem dX4_distanceUnturned_1 : decode cX4_distanceUnturned 1 = .ok (.iconst 3, 1) := by decide +kernel
theorem dX4_distanceUnturned_2 : decode cX4_distanceUnturned 2 = .ok (.if_icmp .eq 8, 3) := by decide +kernel
theorem dX4_distanceUnturned_5 : decode cX4_distanceUnturned 5 = .ok (.iload_n 1, 1) := by decide +kernel
theorem dX4_distanceUnturned_6 : decode cX4_distanceUnturned 6 = .ok (.iconst 4, 1) := by decide +kernel
theorem dX4_distanceUnturned_7 : decode cX4_distanceUnturned 7 = .ok (.if_icmp .ne 10, 3) := by decide +kernel
theorem dX4_distanceUnturned_10 : decode cX4_distanceUnturned 10 = .ok (.aload_n 0, 1) := by decide +kernel
theorem dX4_distanceUnturned_11 : decode cX4_distanceUnturned 11 = .ok (.aload_n 2, 1) := by decide +kernel
theorem dX4_distanceUnturned_12 : decode cX4_distanceUnturned 12 = .ok (.iload_n 3, 1) := by decide +kernel
theorem dX4_distanceUnturned_13 : decode cX4_distanceUnturned 13 = .ok (.invokevirtual 48, 3) := by decide +kernel
theorem dX4_distanceUnturned_16 : decode cX4_distanceUnturned 16 = .ok (.ireturn, 1) := by decide +kernel
theorem dX4_distanceUnturned_17 : decode cX4_distanceUnturned 17 = .ok (.iconst 0, 1) := by decide +kernel
theorem dX4_distanceUnturned_18 : decode cX4_distanceUnturned 18 = .ok (.istore 4, 2) := by decide +kernel
theorem dX4_distanceUnturned_20 : decode cX4_distanceUnturned 20 = .ok (.iconst 0, 1) := by decide +kernel
theorem dX4_distanceUnturned_21 : decode cX4_distanceUnturned 21 = .ok (.istore 5, 2) := by decide +kernel
theorem dX4_distanceUnturned_23 : decode cX4_distanceUnturned 23 = .ok (.iconst 0, 1) := by decide +kernel
theorem dX4_distanceUnturned_24 : decode cX4_distanceUnturned 24 = .ok (.istore 6, 2) := by decide +kernel
theorem dX4_distanceUnturned_26 : decode cX4_distanceUnturned 26 = .ok (.iload 6, 2) := by decide +kernel
theorem dX4_distanceUnturned_28 : decode cX4_distanceUnturned 28 = .ok (.bipush 8, 2) := by decide +kernel
theorem dX4_distanceUnturned_30 : decode cX4_distanceUnturned 30 = .ok (.if_icmp .ge 42, 3) := by decide +kernel
theorem dX4_distanceUnturned_33 : decode cX4_distanceUnturned 33 = .ok (.iload 4, 2) := by decide +kernel
theorem dX4_distanceUnturned_35 : decode cX4_distanceUnturned 35 = .ok (.aload_n 0, 1) := by decide +kernel
theorem dX4_distanceUnturned_36 : decode cX4_distanceUnturned 36 = .ok (.iload 6, 2) := by decide +kernel
theorem dX4_distanceUnturned_38 : decode cX4_distanceUnturned 38 = .ok (.aload_n 2, 1) := by decide +kernel
theorem dX4_distanceUnturned_39 : decode cX4_distanceUnturned 39 = .ok (.iload_n 3, 1) := by decide +kernel
theorem dX4_distanceUnturned_40 : decode cX4_distanceUnturned 40 = .ok (.iload 6, 2) := by decide +kernel
theorem dX4_distanceUnturned_42 : decode cX4_distanceUnturned 42 = .ok (.invokevirtual 52, 3) := by decide +kernel
theorem dX4_distanceUnturned_45 : decode cX4_distanceUnturned 45 = .ok (.iadd, 1) := by decide +kernel
theorem dX4_distanceUnturned_46 : decode cX4_distanceUnturned 46 = .ok (.istore 4, 2) := by decide +kernel
theorem dX4_distanceUnturned_48 : decode cX4_distanceUnturned 48 = .ok (.iload 5, 2) := by decide +kernel
theorem dX4_distanceUnturned_50 : decode cX4_distanceUnturned 50 = .ok (.aload_n 0, 1) := by decide +kernel
theorem dX4_distanceUnturned_51 : decode cX4_distanceUnturned 51 = .ok (.iload 6, 2) := by decide +kernel
theorem dX4_distanceUnturned_53 : decode cX4_distanceUnturned 53 = .ok (.aload_n 2, 1) := by decide +kernel
theorem dX4_distanceUnturned_54 : decode cX4_distanceUnturned 54 = .ok (.iload_n 3, 1) := by decide +kernel
theorem dX4_distanceUnturned_55 : decode cX4_distanceUnturned 55 = .ok (.bipush 7, 2) := by decide +kernel
theorem dX4_distanceUnturned_57 : decode cX4_distanceUnturned 57 = .ok (.iload 6, 2) := by decide +kernel
theorem dX4_distanceUnturned_59 : decode cX4_distanceUnturned 59 = .ok (.isub, 1) := by decide +kernel
theorem dX4_distanceUnturned_60 : decode cX4_distanceUnturned 60 = .ok (.invokevirtual 52, 3) := by decide +kernel
theorem dX4_distanceUnturned_63 : decode cX4_distanceUnturned 63 = .ok (.iadd, 1) := by decide +kernel
theorem dX4_distanceUnturned_64 : decode cX4_distanceUnturned 64 = .ok (.istore 5, 2) := by decide +kernel
theorem dX4_distanceUnturned_66 : decode cX4_distanceUnturned 66 = .ok (.iinc 6 1, 3) := by decide +kernel
theorem dX4_distanceUnturned_69 : decode cX4_distanceUnturned 69 = .ok (.goto (-43), 3) := by decide +kernel
theorem dX4_distanceUnturned_72 : decode cX4_distanceUnturned 72 = .ok (.iload_n 1, 1) := by decide +kernel
theorem dX4_distanceUnturned_73 : decode cX4_distanceUnturned 73 = .ok (.iconst 2, 1) := by decide +kernel
theorem dX4_distanceUnturned_74 : decode cX4_distanceUnturned 74 = .ok (.if_icmp .ne 13, 3) := by decide +kernel
theorem dX4_distanceUnturned_77 : decode cX4_distanceUnturned 77 = .ok (.iload 4, 2) := by decide +kernel
theorem dX4_distanceUnturned_79 : decode cX4_distanceUnturned 79 = .ok (.iload 5, 2) := by decide +kernel
theorem dX4_distanceUnturned_81 : decode cX4_distanceUnturned 81 = .ok (.invokestatic 42, 3) := by decide +kernel
theorem dX4_distanceUnturned_84 : decode cX4_distanceUnturned 84 = .ok (.goto 5, 3) := by decide +kernel
theorem dX4_distanceUnturned_87 : decode cX4_distanceUnturned 87 = .ok (.iload 4, 2) := by decide +kernel
theorem dX4_distanceUnturned_89 : decode cX4_distanceUnturned 89 = .ok (.ireturn, 1) := by decide +kernel
theorem dX4_pointsApart_0 : decode cX4_pointsApart 0 = .ok (.aload_n 0, 1) := by decide +kernel
theorem dX4_pointsApart_1 : decode cX4_pointsApart 1 = .ok (.getfield 9, 3) := by decide +kernel
theorem dX4_pointsApart_4 : decode cX4_pointsApart 4 = .ok (.iconst 2, 1) := by decide +kernel
theorem dX4_pointsApart_5 : decode cX4_pointsApart 5 = .ok (.iload_n 1, 1) := by decide +kernel
theorem dX4_pointsApart_6 : decode cX4_pointsApart 6 = .ok (.imul, 1) := by decide +kernel
theorem dX4_pointsApart_7 : decode cX4_pointsApart 7 = .ok (.iaload, 1) := by decide +kernel
theorem dX4_pointsApart_8 : decode cX4_pointsApart 8 = .ok (.aload_n 2, 1) := by decide +kernel
theorem dX4_pointsApart_9 : decode cX4_pointsApart 9 = .ok (.iload_n 3, 1) := by decide +kernel
theorem dX4_pointsApart_10 : decode cX4_pointsApart 10 = .ok (.iconst 2, 1) := by decide +kernel
theorem dX4_pointsApart_11 : decode cX4_pointsApart 11 = .ok (.iload 4, 2) := by decide +kernel
theorem dX4_pointsApart_13 : decode cX4_pointsApart 13 = .ok (.imul, 1) := by decide +kernel
theorem dX4_pointsApart_14 : decode cX4_pointsApart 14 = .ok (.iadd, 1) := by decide +kernel
theorem dX4_pointsApart_15 : decode cX4_pointsApart 15 = .ok (.iaload, 1) := by decide +kernel
theorem dX4_pointsApart_16 : decode cX4_pointsApart 16 = .ok (.isub, 1) := by decide +kernel
theorem dX4_pointsApart_17 : decode cX4_pointsApart 17 = .ok (.invokestatic 56, 3) := by decide +kernel
theorem dX4_pointsApart_20 : decode cX4_pointsApart 20 = .ok (.aload_n 0, 1) := by decide +kernel
theorem dX4_pointsApart_21 : decode cX4_pointsApart 21 = .ok (.getfield 9, 3) := by decide +kernel
theorem dX4_pointsApart_24 : decode cX4_pointsApart 24 = .ok (.iconst 2, 1) := by decide +kernel
theorem dX4_pointsApart_25 : decode cX4_pointsApart 25 = .ok (.iload_n 1, 1) := by decide +kernel
theorem dX4_pointsApart_26 : decode cX4_pointsApart 26 = .ok (.imul, 1) := by decide +kernel
theorem dX4_pointsApart_27 : decode cX4_pointsApart 27 = .ok (.iconst 1, 1) := by decide +kernel
theorem dX4_pointsApart_28 : decode cX4_pointsApart 28 = .ok (.iadd, 1) := by decide +kernel
theorem dX4_pointsApart_29 : decode cX4_pointsApart 29 = .ok (.iaload, 1) := by decide +kernel
theorem dX4_pointsApart_30 : decode cX4_pointsApart 30 = .ok (.aload_n 2, 1) := by decide +kernel
theorem dX4_pointsApart_31 : decode cX4_pointsApart 31 = .ok (.iload_n 3, 1) := by decide +kernel
theorem dX4_pointsApart_32 : decode cX4_pointsApart 32 = .ok (.iconst 2, 1) := by decide +kernel
theorem dX4_pointsApart_33 : decode cX4_pointsApart 33 = .ok (.iload 4, 2) := by decide +kernel
theorem dX4_pointsApart_35 : decode cX4_pointsApart 35 = .ok (.imul, 1) := by decide +kernel
theorem dX4_pointsApart_36 : decode cX4_pointsApart 36 = .ok (.iadd, 1) := by decide +kernel
theorem dX4_pointsApart_37 : decode cX4_pointsApart 37 = .ok (.iconst 1, 1) := by decide +kernel
theorem dX4_pointsApart_38 : decode cX4_pointsApart 38 = .ok (.iadd, 1) := by decide +kernel
theorem dX4_pointsApart_39 : decode cX4_pointsApart 39 = .ok (.iaload, 1) := by decide +kernel
theorem dX4_pointsApart_40 : decode cX4_pointsApart 40 = .ok (.isub, 1) := by decide +kernel
theorem dX4_pointsApart_41 : decode cX4_pointsApart 41 = .ok (.invokestatic 56, 3) := by decide +kernel
theorem dX4_pointsApart_44 : decode cX4_pointsApart 44 = .ok (.iadd, 1) := by decide +kernel
theorem dX4_pointsApart_45 : decode cX4_pointsApart 45 = .ok (.ireturn, 1) := by decide +kernel
set_option maxRecDepth 20000 in
theorem ggX4_leastPairing_X4_pointsApart : GoodIn wsX4_leastPairing wsX4_pointsApart := goodIn_r _ [7, 8, 9, 10, 11, 12, 28, 29, 30] (by decide +kernel) (by decide +kernel)
set_option maxRecDepth 20000 in
theorem gX4_leastPairing_X4_pointsApart : GoodIn wsX4_leastPairing (wsV RX4 52 RX4 yX4_pointsApart wsX4_pointsApart) := goodIn_app (goodIn_of _ (by decide +kernel)) ggX4_leastPairing_X4_pointsApart
set_option maxRecDepth 20000 in
theorem ggX4_leastPairing_X4_leastSum : GoodIn wsX4_leastPairing wsX4_leastSum := goodIn_r _ [16, 17, 2, 1, 18, 19, 11, 20, 21, 22, 23, 24, 25, 26, 27, 28, 29, 30] (by decide +kernel) (by decide +kernel)
set_option maxRecDepth 20000 in
theorem gX4_leastPairing_X4_leastSum : GoodIn wsX4_leastPairing (wsV RX4 60 RX4 yX4_leastSum wsX4_leastSum) := goodIn_app (goodIn_of _ (by decide +kernel)) ggX4_leastPairing_X4_leastSum
theorem dX4_leastPairing_0 : decode cX4_leastPairing 0 = .ok (.iconst 0, 1) := by decide +kernel
theorem dX4_leastPairing_1 : decode cX4_leastPairing 1 = .ok (.istore_n 3, 1) := by decide +kernel
theorem dX4_leastPairing_2 : decode cX4_leastPairing 2 = .ok (.iload_n 3, 1) := by decide +kernel
theorem dX4_leastPairing_3 : decode cX4_leastPairing 3 = .ok (.bipush 8, 2) := by decide +kernel
theorem dX4_leastPairing_5 : decode cX4_leastPairing 5 = .ok (.if_icmp .ge 46, 3) := by decide +kernel
theorem dX4_leastPairing_8 : decode cX4_leastPairing 8 = .ok (.iconst 0, 1) := by decide +kernel
theorem dX4_leastPairing_9 : decode cX4_leastPairing 9 = .ok (.istore 4, 2) := by decide +kernel
theorem dX4_leastPairing_11 : decode cX4_leastPairing 11 = .ok (.iload 4, 2) := by decide +kernel
theorem dX4_leastPairing_13 : decode cX4_leastPairing 13 = .ok (.bipush 8, 2) := by decide +kernel
theorem dX4_leastPairing_15 : decode cX4_leastPairing 15 = .ok (.if_icmp .ge 30, 3) := by decide +kernel
theorem dX4_leastPairing_18 : decode cX4_leastPairing 18 = .ok (.aload_n 0, 1) := by decide +kernel
theorem dX4_leastPairing_19 : decode cX4_leastPairing 19 = .ok (.getfield 15, 3) := by decide +kernel
theorem dX4_leastPairing_22 : decode cX4_leastPairing 22 = .ok (.bipush 8, 2) := by decide +kernel
theorem dX4_leastPairing_24 : decode cX4_leastPairing 24 = .ok (.iload_n 3, 1) := by decide +kernel
theorem dX4_leastPairing_25 : decode cX4_leastPairing 25 = .ok (.imul, 1) := by decide +kernel
theorem dX4_leastPairing_26 : decode cX4_leastPairing 26 = .ok (.iload 4, 2) := by decide +kernel
theorem dX4_leastPairing_28 : decode cX4_leastPairing 28 = .ok (.iadd, 1) := by decide +kernel
theorem dX4_leastPairing_29 : decode cX4_leastPairing 29 = .ok (.aload_n 0, 1) := by decide +kernel
theorem dX4_leastPairing_30 : decode cX4_leastPairing 30 = .ok (.iload_n 3, 1) := by decide +kernel
theorem dX4_leastPairing_31 : decode cX4_leastPairing 31 = .ok (.aload_n 1, 1) := by decide +kernel
theorem dX4_leastPairing_32 : decode cX4_leastPairing 32 = .ok (.iload_n 2, 1) := by decide +kernel
theorem dX4_leastPairing_33 : decode cX4_leastPairing 33 = .ok (.iload 4, 2) := by decide +kernel
theorem dX4_leastPairing_35 : decode cX4_leastPairing 35 = .ok (.invokevirtual 52, 3) := by decide +kernel
theorem dX4_leastPairing_38 : decode cX4_leastPairing 38 = .ok (.iastore, 1) := by decide +kernel
theorem dX4_leastPairing_39 : decode cX4_leastPairing 39 = .ok (.iinc 4 1, 3) := by decide +kernel
theorem dX4_leastPairing_42 : decode cX4_leastPairing 42 = .ok (.goto (-31), 3) := by decide +kernel
theorem dX4_leastPairing_45 : decode cX4_leastPairing 45 = .ok (.iinc 3 1, 3) := by decide +kernel
theorem dX4_leastPairing_48 : decode cX4_leastPairing 48 = .ok (.goto (-46), 3) := by decide +kernel
theorem dX4_leastPairing_51 : decode cX4_leastPairing 51 = .ok (.aload_n 0, 1) := by decide +kernel
theorem dX4_leastPairing_52 : decode cX4_leastPairing 52 = .ok (.getfield 18, 3) := by decide +kernel
theorem dX4_leastPairing_55 : decode cX4_leastPairing 55 = .ok (.iconst 0, 1) := by decide +kernel
theorem dX4_leastPairing_56 : decode cX4_leastPairing 56 = .ok (.iconst 0, 1) := by decide +kernel
theorem dX4_leastPairing_57 : decode cX4_leastPairing 57 = .ok (.iastore, 1) := by decide +kernel
theorem dX4_leastPairing_58 : decode cX4_leastPairing 58 = .ok (.iconst 1, 1) := by decide +kernel
theorem dX4_leastPairing_59 : decode cX4_leastPairing 59 = .ok (.istore_n 3, 1) := by decide +kernel
theorem dX4_leastPairing_60 : decode cX4_leastPairing 60 = .ok (.iload_n 3, 1) := by decide +kernel
theorem dX4_leastPairing_61 : decode cX4_leastPairing 61 = .ok (.sipush 256, 3) := by decide +kernel
theorem dX4_leastPairing_64 : decode cX4_leastPairing 64 = .ok (.if_icmp .ge 20, 3) := by decide +kernel
theorem dX4_leastPairing_67 : decode cX4_leastPairing 67 = .ok (.aload_n 0, 1) := by decide +kernel
theorem dX4_leastPairing_68 : decode cX4_leastPairing 68 = .ok (.getfield 18, 3) := by decide +kernel
theorem dX4_leastPairing_71 : decode cX4_leastPairing 71 = .ok (.iload_n 3, 1) := by decide +kernel
theorem dX4_leastPairing_72 : decode cX4_leastPairing 72 = .ok (.aload_n 0, 1) := by decide +kernel
theorem dX4_leastPairing_73 : decode cX4_leastPairing 73 = .ok (.iload_n 3, 1) := by decide +kernel
theorem dX4_leastPairing_74 : decode cX4_leastPairing 74 = .ok (.invokevirtual 60, 3) := by decide +kernel
theorem dX4_leastPairing_77 : decode cX4_leastPairing 77 = .ok (.iastore, 1) := by decide +kernel
theorem dX4_leastPairing_78 : decode cX4_leastPairing 78 = .ok (.iinc 3 1, 3) := by decide +kernel
theorem dX4_leastPairing_81 : decode cX4_leastPairing 81 = .ok (.goto (-21), 3) := by decide +kernel
theorem dX4_leastPairing_84 : decode cX4_leastPairing 84 = .ok (.aload_n 0, 1) := by decide +kernel
theorem dX4_leastPairing_85 : decode cX4_leastPairing 85 = .ok (.getfield 18, 3) := by decide +kernel
theorem dX4_leastPairing_88 : decode cX4_leastPairing 88 = .ok (.sipush 255, 3) := by decide +kernel
theorem dX4_leastPairing_91 : decode cX4_leastPairing 91 = .ok (.iaload, 1) := by decide +kernel
theorem dX4_leastPairing_92 : decode cX4_leastPairing 92 = .ok (.ireturn, 1) := by decide +kernel
set_option maxRecDepth 20000 in
theorem ggX4_leastSum_J6_bitCount_0f7a4 : GoodIn wsX4_leastSum wsJ6_bitCount_0f7a4 := goodIn_r _ [11, 12, 13, 14] (by decide +kernel) (by decide +kernel)
set_option maxRecDepth 20000 in
theorem gX4_leastSum_J6_bitCount_0f7a4 : GoodIn wsX4_leastSum (va_wsS RX4 63 yJ6_bitCount_0f7a4 wsJ6_bitCount_0f7a4) := goodIn_app (goodIn_of _ (by decide +kernel)) ggX4_leastSum_J6_bitCount_0f7a4
theorem dX4_leastSum_0 : decode cX4_leastSum 0 = .ok (.bipush 8, 2) := by decide +kernel
theorem dX4_leastSum_2 : decode cX4_leastSum 2 = .ok (.iload_n 1, 1) := by decide +kernel
theorem dX4_leastSum_3 : decode cX4_leastSum 3 = .ok (.invokestatic 63, 3) := by decide +kernel
theorem dX4_leastSum_6 : decode cX4_leastSum 6 = .ok (.iconst 1, 1) := by decide +kernel
theorem dX4_leastSum_7 : decode cX4_leastSum 7 = .ok (.isub, 1) := by decide +kernel
theorem dX4_leastSum_8 : decode cX4_leastSum 8 = .ok (.imul, 1) := by decide +kernel
theorem dX4_leastSum_9 : decode cX4_leastSum 9 = .ok (.istore_n 2, 1) := by decide +kernel
theorem dX4_leastSum_10 : decode cX4_leastSum 10 = .ok (.ldc 68, 2) := by decide +kernel
theorem dX4_leastSum_12 : decode cX4_leastSum 12 = .ok (.istore_n 3, 1) := by decide +kernel
theorem dX4_leastSum_13 : decode cX4_leastSum 13 = .ok (.iconst 0, 1) := by decide +kernel
theorem dX4_leastSum_14 : decode cX4_leastSum 14 = .ok (.istore 4, 2) := by decide +kernel
theorem dX4_leastSum_16 : decode cX4_leastSum 16 = .ok (.iload 4, 2) := by decide +kernel
theorem dX4_leastSum_18 : decode cX4_leastSum 18 = .ok (.bipush 8, 2) := by decide +kernel
theorem dX4_leastSum_20 : decode cX4_leastSum 20 = .ok (.if_icmp .ge 46, 3) := by decide +kernel
theorem dX4_leastSum_23 : decode cX4_leastSum 23 = .ok (.iconst 1, 1) := by decide +kernel
theorem dX4_leastSum_24 : decode cX4_leastSum 24 = .ok (.iload 4, 2) := by decide +kernel
theorem dX4_leastSum_26 : decode cX4_leastSum 26 = .ok (.ishl, 1) := by decide +kernel
theorem dX4_leastSum_27 : decode cX4_leastSum 27 = .ok (.istore 5, 2) := by decide +kernel
theorem dX4_leastSum_29 : decode cX4_leastSum 29 = .ok (.iload_n 1, 1) := by decide +kernel
theorem dX4_leastSum_30 : decode cX4_leastSum 30 = .ok (.iload 5, 2) := by decide +kernel
theorem dX4_leastSum_32 : decode cX4_leastSum 32 = .ok (.iand, 1) := by decide +kernel
theorem dX4_leastSum_33 : decode cX4_leastSum 33 = .ok (.ifCond .eq 27, 3) := by decide +kernel
theorem dX4_leastSum_36 : decode cX4_leastSum 36 = .ok (.iload_n 3, 1) := by decide +kernel
theorem dX4_leastSum_37 : decode cX4_leastSum 37 = .ok (.aload_n 0, 1) := by decide +kernel
theorem dX4_leastSum_38 : decode cX4_leastSum 38 = .ok (.getfield 18, 3) := by decide +kernel
theorem dX4_leastSum_41 : decode cX4_leastSum 41 = .ok (.iload_n 1, 1) := by decide +kernel
theorem dX4_leastSum_42 : decode cX4_leastSum 42 = .ok (.iload 5, 2) := by decide +kernel
theorem dX4_leastSum_44 : decode cX4_leastSum 44 = .ok (.ixor, 1) := by decide +kernel
theorem dX4_leastSum_45 : decode cX4_leastSum 45 = .ok (.iaload, 1) := by decide +kernel
theorem dX4_leastSum_46 : decode cX4_leastSum 46 = .ok (.aload_n 0, 1) := by decide +kernel
theorem dX4_leastSum_47 : decode cX4_leastSum 47 = .ok (.getfield 15, 3) := by decide +kernel
theorem dX4_leastSum_50 : decode cX4_leastSum 50 = .ok (.iload_n 2, 1) := by decide +kernel
theorem dX4_leastSum_51 : decode cX4_leastSum 51 = .ok (.iload 4, 2) := by decide +kernel
theorem dX4_leastSum_53 : decode cX4_leastSum 53 = .ok (.iadd, 1) := by decide +kernel
theorem dX4_leastSum_54 : decode cX4_leastSum 54 = .ok (.iaload, 1) := by decide +kernel
theorem dX4_leastSum_55 : decode cX4_leastSum 55 = .ok (.iadd, 1) := by decide +kernel
theorem dX4_leastSum_56 : decode cX4_leastSum 56 = .ok (.invokestatic 42, 3) := by decide +kernel
theorem dX4_leastSum_59 : decode cX4_leastSum 59 = .ok (.istore_n 3, 1) := by decide +kernel
theorem dX4_leastSum_60 : decode cX4_leastSum 60 = .ok (.iinc 4 1, 3) := by decide +kernel
theorem dX4_leastSum_63 : decode cX4_leastSum 63 = .ok (.goto (-47), 3) := by decide +kernel
theorem dX4_leastSum_66 : decode cX4_leastSum 66 = .ok (.iload_n 3, 1) := by decide +kernel
theorem dX4_leastSum_67 : decode cX4_leastSum 67 = .ok (.ireturn, 1) := by decide +kernel
theorem dX5_init_0 : decode cX5_init 0 = .ok (.aload_n 0, 1) := by decide +kernel
theorem dX5_init_1 : decode cX5_init 1 = .ok (.invokespecial 1, 3) := by decide +kernel
theorem dX5_init_4 : decode cX5_init 4 = .ok (.aload_n 0, 1) := by decide +kernel
theorem dX5_init_5 : decode cX5_init 5 = .ok (.iconst 4, 1) := by decide +kernel
theorem dX5_init_6 : decode cX5_init 6 = .ok (.newarray .int, 2) := by decide +kernel
theorem dX5_init_8 : decode cX5_init 8 = .ok (.putfield 9, 3) := by decide +kernel
theorem dX5_init_11 : decode cX5_init 11 = .ok (.aload_n 0, 1) := by decide +kernel
theorem dX5_init_12 : decode cX5_init 12 = .ok (.iconst 4, 1) := by decide +kernel
theorem dX5_init_13 : decode cX5_init 13 = .ok (.newarray .boolean, 2) := by decide +kernel
theorem dX5_init_15 : decode cX5_init 15 = .ok (.putfield 13, 3) := by decide +kernel
theorem dX5_init_18 : decode cX5_init 18 = .ok (.aload_n 0, 1) := by decide +kernel
theorem dX5_init_19 : decode cX5_init 19 = .ok (.iconst 4, 1) := by decide +kernel
theorem dX5_init_20 : decode cX5_init 20 = .ok (.newarray .int, 2) := by decide +kernel
theorem dX5_init_22 : decode cX5_init 22 = .ok (.putfield 17, 3) := by decide +kernel
theorem dX5_init_25 : decode cX5_init 25 = .ok (.aload_n 0, 1) := by decide +kernel
theorem dX5_init_26 : decode cX5_init 26 = .ok (.sipush 240, 3) := by decide +kernel
theorem dX5_init_29 : decode cX5_init 29 = .ok (.newarray .int, 2) := by decide +kernel
theorem dX5_init_31 : decode cX5_init 31 = .ok (.putfield 20, 3) := by decide +kernel
theorem dX5_init_34 : decode cX5_init 34 = .ok (.return_, 1) := by decide +kernel
theorem dX5_isNumber_0 : decode cX5_isNumber 0 = .ok (.iload_n 0, 1) := by decide +kernel
theorem dX5_isNumber_1 : decode cX5_isNumber 1 = .ok (.ifCond .lt 12, 3) := by decide +kernel
theorem dX5_isNumber_4 : decode cX5_isNumber 4 = .ok (.iload_n 0, 1) := by decide +kernel
theorem dX5_isNumber_5 : decode cX5_isNumber 5 = .ok (.iconst 4, 1) := by decide +kernel
theorem dX5_isNumber_6 : decode cX5_isNumber 6 = .ok (.if_icmp .ge 7, 3) := by decide +kernel
theorem dX5_isNumber_9 : decode cX5_isNumber 9 = .ok (.iconst 1, 1) := by decide +kernel
theorem dX5_isNumber_10 : decode cX5_isNumber 10 = .ok (.goto 4, 3) := by decide +kernel
theorem dX5_isNumber_13 : decode cX5_isNumber 13 = .ok (.iconst 0, 1) := by decide +kernel
theorem dX5_isNumber_14 : decode cX5_isNumber 14 = .ok (.ireturn, 1) := by decide +kernel
theorem dX5_isLane_0 : decode cX5_isLane 0 = .ok (.iload_n 0, 1) := by decide +kernel
theorem dX5_isLane_1 : decode cX5_isLane 1 = .ok (.ifCond .lt 12, 3) := by decide +kernel
theorem dX5_isLane_4 : decode cX5_isLane 4 = .ok (.iload_n 0, 1) := by decide +kernel
theorem dX5_isLane_5 : decode cX5_isLane 5 = .ok (.iconst 2, 1) := by decide +kernel
theorem dX5_isLane_6 : decode cX5_isLane 6 = .ok (.if_icmp .gt 7, 3) := by decide +kernel
theorem dX5_isLane_9 : decode cX5_isLane 9 = .ok (.iconst 1, 1) := by decide +kernel
theorem dX5_isLane_10 : decode cX5_isLane 10 = .ok (.goto 4, 3) := by decide +kernel
theorem dX5_isLane_13 : decode cX5_isLane 13 = .ok (.iconst 0, 1) := by decide +kernel
theorem dX5_isLane_14 : decode cX5_isLane 14 = .ok (.ireturn, 1) := by decide +kernel
theorem dX5_isNothing_0 : decode cX5_isNothing 0 = .ok (.aload_n 0, 1) := by decide +kernel
theorem dX5_isNothing_1 : decode cX5_isNothing 1 = .ok (.getfield 13, 3) := by decide +kernel
theorem dX5_isNothing_4 : decode cX5_isNothing 4 = .ok (.iload_n 1, 1) := by decide +kernel
theorem dX5_isNothing_5 : decode cX5_isNothing 5 = .ok (.baload, 1) := by decide +kernel
theorem dX5_isNothing_6 : decode cX5_isNothing 6 = .ok (.ifCond .ne 7, 3) := by decide +kernel
theorem dX5_isNothing_9 : decode cX5_isNothing 9 = .ok (.iconst 1, 1) := by decide +kernel
theorem dX5_isNothing_10 : decode cX5_isNothing 10 = .ok (.goto 4, 3) := by decide +kernel
theorem dX5_isNothing_13 : decode cX5_isNothing 13 = .ok (.iconst 0, 1) := by decide +kernel
theorem dX5_isNothing_14 : decode cX5_isNothing 14 = .ok (.ireturn, 1) := by decide +kernel
theorem dX5_makeNew_0 : decode cX5_makeNew 0 = .ok (.aload_n 0, 1) := by decide +kernel
theorem dX5_makeNew_1 : decode cX5_makeNew 1 = .ok (.getfield 13, 3) := by decide +kernel
theorem dX5_makeNew_4 : decode cX5_makeNew 4 = .ok (.iload_n 1, 1) := by decide +kernel
theorem dX5_makeNew_5 : decode cX5_makeNew 5 = .ok (.iconst 1, 1) := by decide +kernel
theorem dX5_makeNew_6 : decode cX5_makeNew 6 = .ok (.bastore, 1) := by decide +kernel
theorem dX5_makeNew_7 : decode cX5_makeNew 7 = .ok (.aload_n 0, 1) := by decide +kernel
theorem dX5_makeNew_8 : decode cX5_makeNew 8 = .ok (.getfield 9, 3) := by decide +kernel
theorem dX5_makeNew_11 : decode cX5_makeNew 11 = .ok (.iload_n 1, 1) := by decide +kernel
theorem dX5_makeNew_12 : decode cX5_makeNew 12 = .ok (.iload_n 2, 1) := by decide +kernel
theorem dX5_makeNew_13 : decode cX5_makeNew 13 = .ok (.iastore, 1) := by decide +kernel
theorem dX5_makeNew_14 : decode cX5_makeNew 14 = .ok (.aload_n 0, 1) := by decide +kernel
theorem dX5_makeNew_15 : decode cX5_makeNew 15 = .ok (.getfield 17, 3) := by decide +kernel
theorem dX5_makeNew_18 : decode cX5_makeNew 18 = .ok (.iload_n 1, 1) := by decide +kernel
theorem dX5_makeNew_19 : decode cX5_makeNew 19 = .ok (.iload_n 3, 1) := by decide +kernel
theorem dX5_makeNew_20 : decode cX5_makeNew 20 = .ok (.iastore, 1) := by decide +kernel
theorem dX5_makeNew_21 : decode cX5_makeNew 21 = .ok (.iconst 0, 1) := by decide +kernel
theorem dX5_makeNew_22 : decode cX5_makeNew 22 = .ok (.istore 4, 2) := by decide +kernel
theorem dX5_makeNew_24 : decode cX5_makeNew 24 = .ok (.iload 4, 2) := by decide +kernel
theorem dX5_makeNew_26 : decode cX5_makeNew 26 = .ok (.iload_n 3, 1) := by decide +kernel
theorem dX5_makeNew_27 : decode cX5_makeNew 27 = .ok (.if_icmp .ge 22, 3) := by decide +kernel
theorem dX5_makeNew_30 : decode cX5_makeNew 30 = .ok (.aload_n 0, 1) := by decide +kernel
theorem dX5_makeNew_31 : decode cX5_makeNew 31 = .ok (.getfield 20, 3) := by decide +kernel
theorem dX5_makeNew_34 : decode cX5_makeNew 34 = .ok (.iload_n 1, 1) := by decide +kernel
theorem dX5_makeNew_35 : decode cX5_makeNew 35 = .ok (.bipush 60, 2) := by decide +kernel
theorem dX5_makeNew_37 : decode cX5_makeNew 37 = .ok (.imul, 1) := by decide +kernel
theorem dX5_makeNew_38 : decode cX5_makeNew 38 = .ok (.iload 4, 2) := by decide +kernel
theorem dX5_makeNew_40 : decode cX5_makeNew 40 = .ok (.iadd, 1) := by decide +kernel
theorem dX5_makeNew_41 : decode cX5_makeNew 41 = .ok (.iconst 0, 1) := by decide +kernel
theorem dX5_makeNew_42 : decode cX5_makeNew 42 = .ok (.iastore, 1) := by decide +kernel
theorem dX5_makeNew_43 : decode cX5_makeNew 43 = .ok (.iinc 4 1, 3) := by decide +kernel
theorem dX5_makeNew_46 : decode cX5_makeNew 46 = .ok (.goto (-22), 3) := by decide +kernel
theorem dX5_makeNew_49 : decode cX5_makeNew 49 = .ok (.return_, 1) := by decide +kernel
theorem dX5_hasCells_0 : decode cX5_hasCells 0 = .ok (.iload_n 2, 1) := by decide +kernel
theorem dX5_hasCells_1 : decode cX5_hasCells 1 = .ok (.ifCond .lt 19, 3) := by decide +kernel
theorem dX5_hasCells_4 : decode cX5_hasCells 4 = .ok (.iload_n 2, 1) := by decide +kernel
theorem dX5_hasCells_5 : decode cX5_hasCells 5 = .ok (.aload_n 0, 1) := by decide +kernel
theorem dX5_hasCells_6 : decode cX5_hasCells 6 = .ok (.getfield 17, 3) := by decide +kernel
theorem dX5_hasCells_9 : decode cX5_hasCells 9 = .ok (.iload_n 1, 1) := by decide +kernel
theorem dX5_hasCells_10 : decode cX5_hasCells 10 = .ok (.iaload, 1) := by decide +kernel
theorem dX5_hasCells_11 : decode cX5_hasCells 11 = .ok (.iload_n 3, 1) := by decide +kernel
theorem dX5_hasCells_12 : decode cX5_hasCells 12 = .ok (.isub, 1) := by decide +kernel
theorem dX5_hasCells_13 : decode cX5_hasCells 13 = .ok (.if_icmp .gt 7, 3) := by decide +kernel
theorem dX5_hasCells_16 : decode cX5_hasCells 16 = .ok (.iconst 1, 1) := by decide +kernel
theorem dX5_hasCells_17 : decode cX5_hasCells 17 = .ok (.goto 4, 3) := by decide +kernel
theorem dX5_hasCells_20 : decode cX5_hasCells 20 = .ok (.iconst 0, 1) := by decide +kernel
theorem dX5_hasCells_21 : decode cX5_hasCells 21 = .ok (.ireturn, 1) := by decide +kernel
theorem dX5_cell_0 : decode cX5_cell 0 = .ok (.aload_n 0, 1) := by decide +kernel
theorem dX5_cell_1 : decode cX5_cell 1 = .ok (.getfield 20, 3) := by decide +kernel
theorem dX5_cell_4 : decode cX5_cell 4 = .ok (.iload_n 1, 1) := by decide +kernel
theorem dX5_cell_5 : decode cX5_cell 5 = .ok (.bipush 60, 2) := by decide +kernel
theorem dX5_cell_7 : decode cX5_cell 7 = .ok (.imul, 1) := by decide +kernel
theorem dX5_cell_8 : decode cX5_cell 8 = .ok (.iload_n 2, 1) := by decide +kernel
theorem dX5_cell_9 : decode cX5_cell 9 = .ok (.iadd, 1) := by decide +kernel
theorem dX5_cell_10 : decode cX5_cell 10 = .ok (.iaload, 1) := by decide +kernel
theorem dX5_cell_11 : decode cX5_cell 11 = .ok (.ireturn, 1) := by decide +kernel
set_option maxRecDepth 20000 in
theorem ggX5_put_X5_lowestBits : GoodIn wsX5_put wsX5_lowestBits := goodIn_r _ [6] (by decide +kernel) (by decide +kernel)
set_option maxRecDepth 20000 in
theorem gX5_put_X5_lowestBits : GoodIn wsX5_put (va_wsS RX5 23 yX5_lowestBits wsX5_lowestBits) := goodIn_app (goodIn_of _ (by decide +kernel)) ggX5_put_X5_lowestBits
theorem dX5_put_0 : decode cX5_put 0 = .ok (.aload_n 0, 1) := by decide +kernel
theorem dX5_put_1 : decode cX5_put 1 = .ok (.getfield 20, 3) := by decide +kernel
theorem dX5_put_4 : decode cX5_put 4 = .ok (.iload_n 1, 1) := by decide +kernel
theorem dX5_put_5 : decode cX5_put 5 = .ok (.bipush 60, 2) := by decide +kernel
theorem dX5_put_7 : decode cX5_put 7 = .ok (.imul, 1) := by decide +kernel
theorem dX5_put_8 : decode cX5_put 8 = .ok (.iload_n 2, 1) := by decide +kernel
theorem dX5_put_9 : decode cX5_put 9 = .ok (.iadd, 1) := by decide +kernel
theorem dX5_put_10 : decode cX5_put 10 = .ok (.aload_n 0, 1) := by decide +kernel
theorem dX5_put_11 : decode cX5_put 11 = .ok (.getfield 9, 3) := by decide +kernel
theorem dX5_put_14 : decode cX5_put 14 = .ok (.iload_n 1, 1) := by decide +kernel
theorem dX5_put_15 : decode cX5_put 15 = .ok (.iaload, 1) := by decide +kernel
theorem dX5_put_16 : decode cX5_put 16 = .ok (.iload_n 3, 1) := by decide +kernel
theorem dX5_put_17 : decode cX5_put 17 = .ok (.invokestatic 23, 3) := by decide +kernel
theorem dX5_put_20 : decode cX5_put 20 = .ok (.iastore, 1) := by decide +kernel
theorem dX5_put_21 : decode cX5_put 21 = .ok (.return_, 1) := by decide +kernel
theorem dX5_lowestBits_0 : decode cX5_lowestBits 0 = .ok (.iload_n 0, 1) := by decide +kernel
theorem dX5_lowestBits_1 : decode cX5_lowestBits 1 = .ok (.ifCond .ne 6, 3) := by decide +kernel
theorem dX5_lowestBits_4 : decode cX5_lowestBits 4 = .ok (.iload_n 1, 1) := by decide +kernel
theorem dX5_lowestBits_5 : decode cX5_lowestBits 5 = .ok (.i2b, 1) := by decide +kernel
theorem dX5_lowestBits_6 : decode cX5_lowestBits 6 = .ok (.ireturn, 1) := by decide +kernel
theorem dX5_lowestBits_7 : decode cX5_lowestBits 7 = .ok (.iload_n 0, 1) := by decide +kernel
theorem dX5_lowestBits_8 : decode cX5_lowestBits 8 = .ok (.iconst 1, 1) := by decide +kernel
theorem dX5_lowestBits_9 : decode cX5_lowestBits 9 = .ok (.if_icmp .ne 6, 3) := by decide +kernel
theorem dX5_lowestBits_12 : decode cX5_lowestBits 12 = .ok (.iload_n 1, 1) := by decide +kernel
theorem dX5_lowestBits_13 : decode cX5_lowestBits 13 = .ok (.i2s, 1) := by decide +kernel
theorem dX5_lowestBits_14 : decode cX5_lowestBits 14 = .ok (.ireturn, 1) := by decide +kernel
theorem dX5_lowestBits_15 : decode cX5_lowestBits 15 = .ok (.iload_n 1, 1) := by decide +kernel
theorem dX5_lowestBits_16 : decode cX5_lowestBits 16 = .ok (.ireturn, 1) := by decide +kernel
theorem dX6_init_0 : decode cX6_init 0 = .ok (.aload_n 0, 1) := by decide +kernel
theorem dX6_init_1 : decode cX6_init 1 = .ok (.invokespecial 3, 3) := by decide +kernel
theorem dX6_init_4 : decode cX6_init 4 = .ok (.aload_n 0, 1) := by decide +kernel
theorem dX6_init_5 : decode cX6_init 5 = .ok (.bipush 16, 2) := by decide +kernel
theorem dX6_init_7 : decode cX6_init 7 = .ok (.newarray .int, 2) := by decide +kernel
theorem dX6_init_9 : decode cX6_init 9 = .ok (.putfield 11, 3) := by decide +kernel
theorem dX6_init_12 : decode cX6_init 12 = .ok (.aload_n 0, 1) := by decide +kernel
theorem dX6_init_13 : decode cX6_init 13 = .ok (.bipush 16, 2) := by decide +kernel
theorem dX6_init_15 : decode cX6_init 15 = .ok (.newarray .int, 2) := by decide +kernel
theorem dX6_init_17 : decode cX6_init 17 = .ok (.putfield 15, 3) := by decide +kernel
theorem dX6_init_20 : decode cX6_init 20 = .ok (.aload_n 0, 1) := by decide +kernel
theorem dX6_init_21 : decode cX6_init 21 = .ok (.sipush 256, 3) := by decide +kernel
theorem dX6_init_24 : decode cX6_init 24 = .ok (.newarray .int, 2) := by decide +kernel
theorem dX6_init_26 : decode cX6_init 26 = .ok (.putfield 18, 3) := by decide +kernel
theorem dX6_init_29 : decode cX6_init 29 = .ok (.aload_n 0, 1) := by decide +kernel
theorem dX6_init_30 : decode cX6_init 30 = .ok (.iconst 0, 1) := by decide +kernel
theorem dX6_init_31 : decode cX6_init 31 = .ok (.putfield 21, 3) := by decide +kernel
theorem dX6_init_34 : decode cX6_init 34 = .ok (.return_, 1) := by decide +kernel
theorem dX6_has_0 : decode cX6_has 0 = .ok (.iload_n 1, 1) := by decide +kernel
theorem dX6_has_1 : decode cX6_has 1 = .ok (.ifCond .lt 15, 3) := by decide +kernel
theorem dX6_has_4 : decode cX6_has 4 = .ok (.iload_n 1, 1) := by decide +kernel
theorem dX6_has_5 : decode cX6_has 5 = .ok (.aload_n 0, 1) := by decide +kernel
theorem dX6_has_6 : decode cX6_has 6 = .ok (.getfield 21, 3) := by decide +kernel
theorem dX6_has_9 : decode cX6_has 9 = .ok (.if_icmp .ge 7, 3) := by decide +kernel
theorem dX6_has_12 : decode cX6_has 12 = .ok (.iconst 1, 1) := by decide +kernel
theorem dX6_has_13 : decode cX6_has 13 = .ok (.goto 4, 3) := by decide +kernel
theorem dX6_has_16 : decode cX6_has 16 = .ok (.iconst 0, 1) := by decide +kernel
theorem dX6_has_17 : decode cX6_has 17 = .ok (.ireturn, 1) := by decide +kernel
theorem dX6_insert_0 : decode cX6_insert 0 = .ok (.iload_n 1, 1) := by decide +kernel
theorem dX6_insert_1 : decode cX6_insert 1 = .ok (.ifCond .lt 36, 3) := by decide +kernel
theorem dX6_insert_4 : decode cX6_insert 4 = .ok (.iload_n 1, 1) := by decide +kernel
theorem dX6_insert_5 : decode cX6_insert 5 = .ok (.aload_n 0, 1) := by decide +kernel
theorem dX6_insert_6 : decode cX6_insert 6 = .ok (.getfield 21, 3) := by decide +kernel
theorem dX6_insert_9 : decode cX6_insert 9 = .ok (.if_icmp .gt 28, 3) := by decide +kernel
theorem dX6_insert_12 : decode cX6_insert 12 = .ok (.aload_n 0, 1) := by decide +kernel
theorem dX6_insert_13 : decode cX6_insert 13 = .ok (.getfield 21, 3) := by decide +kernel
theorem dX6_insert_16 : decode cX6_insert 16 = .ok (.bipush 16, 2) := by decide +kernel
theorem dX6_insert_18 : decode cX6_insert 18 = .ok (.if_icmp .ge 19, 3) := by decide +kernel
theorem dX6_insert_21 : decode cX6_insert 21 = .ok (.iload 5, 2) := by decide +kernel
theorem dX6_insert_23 : decode cX6_insert 23 = .ok (.ifCond .lt 14, 3) := by decide +kernel
theorem dX6_insert_26 : decode cX6_insert 26 = .ok (.iload 5, 2) := by decide +kernel
theorem dX6_insert_28 : decode cX6_insert 28 = .ok (.aload 4, 2) := by decide +kernel
theorem dX6_insert_30 : decode cX6_insert 30 = .ok (.arraylength, 1) := by decide +kernel
theorem dX6_insert_31 : decode cX6_insert 31 = .ok (.bipush 16, 2) := by decide +kernel
theorem dX6_insert_33 : decode cX6_insert 33 = .ok (.isub, 1) := by decide +kernel
theorem dX6_insert_34 : decode cX6_insert 34 = .ok (.if_icmp .le 4, 3) := by decide +kernel
theorem dX6_insert_37 : decode cX6_insert 37 = .ok (.return_, 1) := by decide +kernel
theorem dX6_insert_38 : decode cX6_insert 38 = .ok (.aload_n 0, 1) := by decide +kernel
theorem dX6_insert_39 : decode cX6_insert 39 = .ok (.getfield 21, 3) := by decide +kernel
theorem dX6_insert_42 : decode cX6_insert 42 = .ok (.iload_n 1, 1) := by decide +kernel
theorem dX6_insert_43 : decode cX6_insert 43 = .ok (.isub, 1) := by decide +kernel
theorem dX6_insert_44 : decode cX6_insert 44 = .ok (.istore 6, 2) := by decide +kernel
theorem dX6_insert_46 : decode cX6_insert 46 = .ok (.aload_n 0, 1) := by decide +kernel
theorem dX6_insert_47 : decode cX6_insert 47 = .ok (.getfield 11, 3) := by decide +kernel
theorem dX6_insert_50 : decode cX6_insert 50 = .ok (.iload_n 1, 1) := by decide +kernel
theorem dX6_insert_51 : decode cX6_insert 51 = .ok (.aload_n 0, 1) := by decide +kernel
theorem dX6_insert_52 : decode cX6_insert 52 = .ok (.getfield 11, 3) := by decide +kernel
theorem dX6_insert_55 : decode cX6_insert 55 = .ok (.iload_n 1, 1) := by decide +kernel
theorem dX6_insert_56 : decode cX6_insert 56 = .ok (.iconst 1, 1) := by decide +kernel
theorem dX6_insert_57 : decode cX6_insert 57 = .ok (.iadd, 1) := by decide +kernel
theorem dX6_insert_58 : decode cX6_insert 58 = .ok (.iload 6, 2) := by decide +kernel
theorem dX6_insert_60 : decode cX6_insert 60 = .ok (.invokestatic 25, 3) := by decide +kernel
theorem dX6_insert_63 : decode cX6_insert 63 = .ok (.aload_n 0, 1) := by decide +kernel
theorem dX6_insert_64 : decode cX6_insert 64 = .ok (.getfield 15, 3) := by decide +kernel
theorem dX6_insert_67 : decode cX6_insert 67 = .ok (.iload_n 1, 1) := by decide +kernel
theorem dX6_insert_68 : decode cX6_insert 68 = .ok (.aload_n 0, 1) := by decide +kernel
theorem dX6_insert_69 : decode cX6_insert 69 = .ok (.getfield 15, 3) := by decide +kernel
theorem dX6_insert_72 : decode cX6_insert 72 = .ok (.iload_n 1, 1) := by decide +kernel
theorem dX6_insert_73 : decode cX6_insert 73 = .ok (.iconst 1, 1) := by decide +kernel
theorem dX6_insert_74 : decode cX6_insert 74 = .ok (.iadd, 1) := by decide +kernel
theorem dX6_insert_75 : decode cX6_insert 75 = .ok (.iload 6, 2) := by decide +kernel
theorem dX6_insert_77 : decode cX6_insert 77 = .ok (.invokestatic 25, 3) := by decide +kernel
theorem dX6_insert_80 : decode cX6_insert 80 = .ok (.aload_n 0, 1) := by decide +kernel
theorem dX6_insert_81 : decode cX6_insert 81 = .ok (.getfield 18, 3) := by decide +kernel
theorem dX6_insert_84 : decode cX6_insert 84 = .ok (.iload_n 1, 1) := by decide +kernel
theorem dX6_insert_85 : decode cX6_insert 85 = .ok (.bipush 16, 2) := by decide +kernel
theorem dX6_insert_87 : decode cX6_insert 87 = .ok (.imul, 1) := by decide +kernel
theorem dX6_insert_88 : decode cX6_insert 88 = .ok (.aload_n 0, 1) := by decide +kernel
theorem dX6_insert_89 : decode cX6_insert 89 = .ok (.getfield 18, 3) := by decide +kernel
theorem dX6_insert_92 : decode cX6_insert 92 = .ok (.iload_n 1, 1) := by decide +kernel
theorem dX6_insert_93 : decode cX6_insert 93 = .ok (.iconst 1, 1) := by decide +kernel
theorem dX6_insert_94 : decode cX6_insert 94 = .ok (.iadd, 1) := by decide +kernel
theorem dX6_insert_95 : decode cX6_insert 95 = .ok (.bipush 16, 2) := by decide +kernel
theorem dX6_insert_97 : decode cX6_insert 97 = .ok (.imul, 1) := by decide +kernel
theorem dX6_insert_98 : decode cX6_insert 98 = .ok (.iload 6, 2) := by decide +kernel
theorem dX6_insert_100 : decode cX6_insert 100 = .ok (.bipush 16, 2) := by decide +kernel
theorem dX6_insert_102 : decode cX6_insert 102 = .ok (.imul, 1) := by decide +kernel
theorem dX6_insert_103 : decode cX6_insert 103 = .ok (.invokestatic 25, 3) := by decide +kernel
theorem dX6_insert_106 : decode cX6_insert 106 = .ok (.aload 4, 2) := by decide +kernel
theorem dX6_insert_108 : decode cX6_insert 108 = .ok (.iload 5, 2) := by decide +kernel
theorem dX6_insert_110 : decode cX6_insert 110 = .ok (.aload_n 0, 1) := by decide +kernel
theorem dX6_insert_111 : decode cX6_insert 111 = .ok (.getfield 18, 3) := by decide +kernel
theorem dX6_insert_114 : decode cX6_insert 114 = .ok (.iload_n 1, 1) := by decide +kernel
theorem dX6_insert_115 : decode cX6_insert 115 = .ok (.bipush 16, 2) := by decide +kernel
theorem dX6_insert_117 : decode cX6_insert 117 = .ok (.imul, 1) := by decide +kernel
theorem dX6_insert_118 : decode cX6_insert 118 = .ok (.bipush 16, 2) := by decide +kernel
theorem dX6_insert_120 : decode cX6_insert 120 = .ok (.invokestatic 25, 3) := by decide +kernel
theorem dX6_insert_123 : decode cX6_insert 123 = .ok (.aload_n 0, 1) := by decide +kernel
theorem dX6_insert_124 : decode cX6_insert 124 = .ok (.getfield 11, 3) := by decide +kernel
theorem dX6_insert_127 : decode cX6_insert 127 = .ok (.iload_n 1, 1) := by decide +kernel
theorem dX6_insert_128 : decode cX6_insert 128 = .ok (.iload_n 2, 1) := by decide +kernel
theorem dX6_insert_129 : decode cX6_insert 129 = .ok (.iastore, 1) := by decide +kernel
theorem dX6_insert_130 : decode cX6_insert 130 = .ok (.aload_n 0, 1) := by decide +kernel
theorem dX6_insert_131 : decode cX6_insert 131 = .ok (.getfield 15, 3) := by decide +kernel
theorem dX6_insert_134 : decode cX6_insert 134 = .ok (.iload_n 1, 1) := by decide +kernel
theorem dX6_insert_135 : decode cX6_insert 135 = .ok (.iload_n 3, 1) := by decide +kernel
theorem dX6_insert_136 : decode cX6_insert 136 = .ok (.iastore, 1) := by decide +kernel
theorem dX6_insert_137 : decode cX6_insert 137 = .ok (.aload_n 0, 1) := by decide +kernel
theorem dX6_insert_138 : decode cX6_insert 138 = .ok (.dup, 1) := by decide +kernel
theorem dX6_insert_139 : decode cX6_insert 139 = .ok (.getfield 21, 3) := by decide +kernel
theorem dX6_insert_142 : decode cX6_insert 142 = .ok (.iconst 1, 1) := by decide +kernel
theorem dX6_insert_143 : decode cX6_insert 143 = .ok (.iadd, 1) := by decide +kernel
theorem dX6_insert_144 : decode cX6_insert 144 = .ok (.putfield 21, 3) := by decide +kernel
theorem dX6_insert_147 : decode cX6_insert 147 = .ok (.return_, 1) := by decide +kernel
set_option maxRecDepth 20000 in
theorem ggX6_remove_X6_has : GoodIn wsX6_remove wsX6_has := goodIn_r _ [13, 1, 14, 15, 16, 17] (by decide +kernel) (by decide +kernel)
set_option maxRecDepth 20000 in
theorem gX6_remove_X6_has : GoodIn wsX6_remove (wsV RX6 31 RX6 yX6_has wsX6_has) := goodIn_app (goodIn_of _ (by decide +kernel)) ggX6_remove_X6_has
theorem dX6_remove_0 : decode cX6_remove 0 = .ok (.aload_n 0, 1) := by decide +kernel
theorem dX6_remove_1 : decode cX6_remove 1 = .ok (.iload_n 1, 1) := by decide +kernel
theorem dX6_remove_2 : decode cX6_remove 2 = .ok (.invokevirtual 31, 3) := by decide +kernel
theorem dX6_remove_5 : decode cX6_remove 5 = .ok (.ifCond .ne 4, 3) := by decide +kernel
theorem dX6_remove_8 : decode cX6_remove 8 = .ok (.return_, 1) := by decide +kernel
theorem dX6_remove_9 : decode cX6_remove 9 = .ok (.aload_n 0, 1) := by decide +kernel
theorem dX6_remove_10 : decode cX6_remove 10 = .ok (.dup, 1) := by decide +kernel
theorem dX6_remove_11 : decode cX6_remove 11 = .ok (.getfield 21, 3) := by decide +kernel
theorem dX6_remove_14 : decode cX6_remove 14 = .ok (.iconst 1, 1) := by decide +kernel
theorem dX6_remove_15 : decode cX6_remove 15 = .ok (.isub, 1) := by decide +kernel
theorem dX6_remove_16 : decode cX6_remove 16 = .ok (.putfield 21, 3) := by decide +kernel
theorem dX6_remove_19 : decode cX6_remove 19 = .ok (.aload_n 0, 1) := by decide +kernel
theorem dX6_remove_20 : decode cX6_remove 20 = .ok (.getfield 21, 3) := by decide +kernel
theorem dX6_remove_23 : decode cX6_remove 23 = .ok (.iload_n 1, 1) := by decide +kernel
theorem dX6_remove_24 : decode cX6_remove 24 = .ok (.isub, 1) := by decide +kernel
theorem dX6_remove_25 : decode cX6_remove 25 = .ok (.istore_n 2, 1) := by decide +kernel
theorem dX6_remove_26 : decode cX6_remove 26 = .ok (.aload_n 0, 1) := by decide +kernel
theorem dX6_remove_27 : decode cX6_remove 27 = .ok (.getfield 11, 3) := by decide +kernel
theorem dX6_remove_30 : decode cX6_remove 30 = .ok (.iload_n 1, 1) := by decide +kernel
theorem dX6_remove_31 : decode cX6_remove 31 = .ok (.iconst 1, 1) := by decide +kernel
theorem dX6_remove_32 : decode cX6_remove 32 = .ok (.iadd, 1) := by decide +kernel
theorem dX6_remove_33 : decode cX6_remove 33 = .ok (.aload_n 0, 1) := by decide +kernel
theorem dX6_remove_34 : decode cX6_remove 34 = .ok (.getfield 11, 3) := by decide +kernel
theorem dX6_remove_37 : decode cX6_remove 37 = .ok (.iload_n 1, 1) := by decide +kernel
theorem dX6_remove_38 : decode cX6_remove 38 = .ok (.iload_n 2, 1) := by decide +kernel
theorem dX6_remove_39 : decode cX6_remove 39 = .ok (.invokestatic 25, 3) := by decide +kernel
theorem dX6_remove_42 : decode cX6_remove 42 = .ok (.aload_n 0, 1) := by decide +kernel
theorem dX6_remove_43 : decode cX6_remove 43 = .ok (.getfield 15, 3) := by decide +kernel
theorem dX6_remove_46 : decode cX6_remove 46 = .ok (.iload_n 1, 1) := by decide +kernel
theorem dX6_remove_47 : decode cX6_remove 47 = .ok (.iconst 1, 1) := by decide +kernel
theorem dX6_remove_48 : decode cX6_remove 48 = .ok (.iadd, 1) := by decide +kernel
theorem dX6_remove_49 : decode cX6_remove 49 = .ok (.aload_n 0, 1) := by decide +kernel
theorem dX6_remove_50 : decode cX6_remove 50 = .ok (.getfield 15, 3) := by decide +kernel
theorem dX6_remove_53 : decode cX6_remove 53 = .ok (.iload_n 1, 1) := by decide +kernel
theorem dX6_remove_54 : decode cX6_remove 54 = .ok (.iload_n 2, 1) := by decide +kernel
theorem dX6_remove_55 : decode cX6_remove 55 = .ok (.invokestatic 25, 3) := by decide +kernel
theorem dX6_remove_58 : decode cX6_remove 58 = .ok (.aload_n 0, 1) := by decide +kernel
theorem dX6_remove_59 : decode cX6_remove 59 = .ok (.getfield 18, 3) := by decide +kernel
theorem dX6_remove_62 : decode cX6_remove 62 = .ok (.iload_n 1, 1) := by decide +kernel
theorem dX6_remove_63 : decode cX6_remove 63 = .ok (.iconst 1, 1) := by decide +kernel
theorem dX6_remove_64 : decode cX6_remove 64 = .ok (.iadd, 1) := by decide +kernel
theorem dX6_remove_65 : decode cX6_remove 65 = .ok (.bipush 16, 2) := by decide +kernel
theorem dX6_remove_67 : decode cX6_remove 67 = .ok (.imul, 1) := by decide +kernel
theorem dX6_remove_68 : decode cX6_remove 68 = .ok (.aload_n 0, 1) := by decide +kernel
theorem dX6_remove_69 : decode cX6_remove 69 = .ok (.getfield 18, 3) := by decide +kernel
theorem dX6_remove_72 : decode cX6_remove 72 = .ok (.iload_n 1, 1) := by decide +kernel
theorem dX6_remove_73 : decode cX6_remove 73 = .ok (.bipush 16, 2) := by decide +kernel
theorem dX6_remove_75 : decode cX6_remove 75 = .ok (.imul, 1) := by decide +kernel
theorem dX6_remove_76 : decode cX6_remove 76 = .ok (.iload_n 2, 1) := by decide +kernel
theorem dX6_remove_77 : decode cX6_remove 77 = .ok (.bipush 16, 2) := by decide +kernel
theorem dX6_remove_79 : decode cX6_remove 79 = .ok (.imul, 1) := by decide +kernel
theorem dX6_remove_80 : decode cX6_remove 80 = .ok (.invokestatic 25, 3) := by decide +kernel
theorem dX6_remove_83 : decode cX6_remove 83 = .ok (.return_, 1) := by decide +kernel
set_option maxRecDepth 20000 in
theorem ggX7_init_X2_init : GoodIn wsX7_init wsX2_init := goodIn_r _ [37, 38, 2, 3, 32, 39, 40, 41, 42, 43, 44, 45, 92, 93, 94, 95, 96, 97] (by decide +kernel) (by decide +kernel)
set_option maxRecDepth 20000 in
theorem gX7_init_X2_init_n9 : GoodIn wsX7_init (wsX2_init) := ggX7_init_X2_init
set_option maxRecDepth 20000 in
theorem ggX7_init_X6_init : GoodIn wsX7_init wsX6_init := goodIn_r _ [47, 48, 2, 3, 32, 49, 50, 51, 52, 108, 109, 110, 111] (by decide +kernel) (by decide +kernel)
set_option maxRecDepth 20000 in
theorem gX7_init_X6_init_n18 : GoodIn wsX7_init (wsX6_init) := ggX7_init_X6_init
set_option maxRecDepth 20000 in
theorem ggX7_init_X0_init : GoodIn wsX7_init wsX0_init := goodIn_r _ [54, 55, 2, 3, 32, 56, 57, 58, 59, 60, 61, 62, 112, 113, 114, 115, 116, 117, 118] (by decide +kernel) (by decide +kernel)
set_option maxRecDepth 20000 in
theorem gX7_init_X0_init_n25 : GoodIn wsX7_init (wsX0_init) := ggX7_init_X0_init
set_option maxRecDepth 20000 in
theorem ggX7_init_X4_init : GoodIn wsX7_init wsX4_init := goodIn_r _ [64, 65, 2, 3, 32, 66, 67, 68, 119, 120, 121] (by decide +kernel) (by decide +kernel)
set_option maxRecDepth 20000 in
theorem gX7_init_X4_init_n32 : GoodIn wsX7_init (wsX4_init) := ggX7_init_X4_init
set_option maxRecDepth 20000 in
theorem ggX7_init_X1_init : GoodIn wsX7_init wsX1_init := goodIn_r _ [70, 71, 2, 3, 32, 72, 73, 74, 75, 76, 122, 123, 124, 125, 126] (by decide +kernel) (by decide +kernel)
set_option maxRecDepth 20000 in
theorem gX7_init_X1_init_n39 : GoodIn wsX7_init (wsX1_init) := ggX7_init_X1_init
set_option maxRecDepth 20000 in
theorem ggX7_init_X3_init : GoodIn wsX7_init wsX3_init := goodIn_r _ [78, 79, 2, 3, 32, 80, 81, 82, 83, 84, 127, 128, 129, 130, 131] (by decide +kernel) (by decide +kernel)
set_option maxRecDepth 20000 in
theorem gX7_init_X3_init_n46 : GoodIn wsX7_init (wsX3_init) := ggX7_init_X3_init
set_option maxRecDepth 20000 in
theorem ggX7_init_X5_init : GoodIn wsX7_init wsX5_init := goodIn_r _ [86, 87, 2, 3, 32, 88, 41, 89, 90, 91, 132, 133, 134, 135] (by decide +kernel) (by decide +kernel)
set_option maxRecDepth 20000 in
theorem gX7_init_X5_init_n53 : GoodIn wsX7_init (wsX5_init) := ggX7_init_X5_init
theorem dX7_init_0 : decode cX7_init 0 = .ok (.aload_n 0, 1) := by decide +kernel
theorem dX7_init_1 : decode cX7_init 1 = .ok (.invokespecial 1, 3) := by decide +kernel
theorem dX7_init_4 : decode cX7_init 4 = .ok (.aload_n 0, 1) := by decide +kernel
theorem dX7_init_5 : decode cX7_init 5 = .ok (.new 7, 3) := by decide +kernel
theorem dX7_init_8 : decode cX7_init 8 = .ok (.dup, 1) := by decide +kernel
theorem dX7_init_9 : decode cX7_init 9 = .ok (.invokespecial 9, 3) := by decide +kernel
theorem dX7_init_12 : decode cX7_init 12 = .ok (.putfield 10, 3) := by decide +kernel
theorem dX7_init_15 : decode cX7_init 15 = .ok (.aload_n 0, 1) := by decide +kernel
theorem dX7_init_16 : decode cX7_init 16 = .ok (.new 16, 3) := by decide +kernel
theorem dX7_init_19 : decode cX7_init 19 = .ok (.dup, 1) := by decide +kernel
theorem dX7_init_20 : decode cX7_init 20 = .ok (.invokespecial 18, 3) := by decide +kernel
theorem dX7_init_23 : decode cX7_init 23 = .ok (.putfield 19, 3) := by decide +kernel
theorem dX7_init_26 : decode cX7_init 26 = .ok (.aload_n 0, 1) := by decide +kernel
theorem dX7_init_27 : decode cX7_init 27 = .ok (.new 23, 3) := by decide +kernel
theorem dX7_init_30 : decode cX7_init 30 = .ok (.dup, 1) := by decide +kernel
theorem dX7_init_31 : decode cX7_init 31 = .ok (.invokespecial 25, 3) := by decide +kernel
theorem dX7_init_34 : decode cX7_init 34 = .ok (.putfield 26, 3) := by decide +kernel
theorem dX7_init_37 : decode cX7_init 37 = .ok (.aload_n 0, 1) := by decide +kernel
theorem dX7_init_38 : decode cX7_init 38 = .ok (.new 30, 3) := by decide +kernel
theorem dX7_init_41 : decode cX7_init 41 = .ok (.dup, 1) := by decide +kernel
theorem dX7_init_42 : decode cX7_init 42 = .ok (.invokespecial 32, 3) := by decide +kernel
theorem dX7_init_45 : decode cX7_init 45 = .ok (.putfield 33, 3) := by decide +kernel
theorem dX7_init_48 : decode cX7_init 48 = .ok (.aload_n 0, 1) := by decide +kernel
theorem dX7_init_49 : decode cX7_init 49 = .ok (.new 37, 3) := by decide +kernel
theorem dX7_init_52 : decode cX7_init 52 = .ok (.dup, 1) := by decide +kernel
theorem dX7_init_53 : decode cX7_init 53 = .ok (.invokespecial 39, 3) := by decide +kernel
theorem dX7_init_56 : decode cX7_init 56 = .ok (.putfield 40, 3) := by decide +kernel
theorem dX7_init_59 : decode cX7_init 59 = .ok (.aload_n 0, 1) := by decide +kernel
theorem dX7_init_60 : decode cX7_init 60 = .ok (.new 44, 3) := by decide +kernel
theorem dX7_init_63 : decode cX7_init 63 = .ok (.dup, 1) := by decide +kernel
theorem dX7_init_64 : decode cX7_init 64 = .ok (.invokespecial 46, 3) := by decide +kernel
theorem dX7_init_67 : decode cX7_init 67 = .ok (.putfield 47, 3) := by decide +kernel
theorem dX7_init_70 : decode cX7_init 70 = .ok (.aload_n 0, 1) := by decide +kernel
theorem dX7_init_71 : decode cX7_init 71 = .ok (.new 51, 3) := by decide +kernel
theorem dX7_init_74 : decode cX7_init 74 = .ok (.dup, 1) := by decide +kernel
theorem dX7_init_75 : decode cX7_init 75 = .ok (.invokespecial 53, 3) := by decide +kernel
theorem dX7_init_78 : decode cX7_init 78 = .ok (.putfield 54, 3) := by decide +kernel
theorem dX7_init_81 : decode cX7_init 81 = .ok (.aload_n 0, 1) := by decide +kernel
theorem dX7_init_82 : decode cX7_init 82 = .ok (.bipush 16, 2) := by decide +kernel
theorem dX7_init_84 : decode cX7_init 84 = .ok (.newarray .int, 2) := by decide +kernel
theorem dX7_init_86 : decode cX7_init 86 = .ok (.putfield 58, 3) := by decide +kernel
theorem dX7_init_89 : decode cX7_init 89 = .ok (.aload_n 0, 1) := by decide +kernel
theorem dX7_init_90 : decode cX7_init 90 = .ok (.sipush 20000, 3) := by decide +kernel
theorem dX7_init_93 : decode cX7_init 93 = .ok (.putfield 62, 3) := by decide +kernel
theorem dX7_init_96 : decode cX7_init 96 = .ok (.aload_n 0, 1) := by decide +kernel
theorem dX7_init_97 : decode cX7_init 97 = .ok (.iconst 0, 1) := by decide +kernel
theorem dX7_init_98 : decode cX7_init 98 = .ok (.putfield 66, 3) := by decide +kernel
theorem dX7_init_101 : decode cX7_init 101 = .ok (.return_, 1) := by decide +kernel
set_option maxRecDepth 20000 in
theorem ggX7_point_X2_add : GoodIn wsX7_point wsX2_add := goodIn_r _ [6, 7, 8, 9, 10, 21, 22, 23, 24, 25, 26] (by decide +kernel) (by decide +kernel)
set_option maxRecDepth 20000 in
theorem gX7_point_X2_add : GoodIn wsX7_point (wsV RX7 69 RX2 yX2_add wsX2_add) := goodIn_app (goodIn_of _ (by decide +kernel)) ggX7_point_X2_add
theorem dX7_point_0 : decode cX7_point 0 = .ok (.aload_n 0, 1) := by decide +kernel
theorem dX7_point_1 : decode cX7_point 1 = .ok (.getfield 10, 3) := by decide +kernel
theorem dX7_point_4 : decode cX7_point 4 = .ok (.iload_n 1, 1) := by decide +kernel
theorem dX7_point_5 : decode cX7_point 5 = .ok (.iload_n 2, 1) := by decide +kernel
theorem dX7_point_6 : decode cX7_point 6 = .ok (.iload_n 3, 1) := by decide +kernel
theorem dX7_point_7 : decode cX7_point 7 = .ok (.invokevirtual 69, 3) := by decide +kernel
theorem dX7_point_10 : decode cX7_point 10 = .ok (.ireturn, 1) := by decide +kernel
set_option maxRecDepth 20000 in
theorem ggX7_clear_X2_empty : GoodIn wsX7_clear wsX2_empty := goodIn_r _ [6, 7, 18, 19, 20, 21, 22, 23] (by decide +kernel) (by decide +kernel)
set_option maxRecDepth 20000 in
theorem gX7_clear_X2_empty : GoodIn wsX7_clear (wsV RX7 73 RX2 yX2_empty wsX2_empty) := goodIn_app (goodIn_of _ (by decide +kernel)) ggX7_clear_X2_empty
theorem dX7_clear_0 : decode cX7_clear 0 = .ok (.aload_n 0, 1) := by decide +kernel
theorem dX7_clear_1 : decode cX7_clear 1 = .ok (.getfield 10, 3) := by decide +kernel
theorem dX7_clear_4 : decode cX7_clear 4 = .ok (.invokevirtual 73, 3) := by decide +kernel
theorem dX7_clear_7 : decode cX7_clear 7 = .ok (.ireturn, 1) := by decide +kernel
set_option maxRecDepth 20000 in
theorem ggX7_way_X2_length : GoodIn wsX7_way wsX2_length := goodIn_r _ [6, 7, 8, 9, 10, 5, 11, 12, 13, 14, 15, 16, 17, 18, 29, 30, 31, 32, 33, 34] (by decide +kernel) (by decide +kernel)
set_option maxRecDepth 20000 in
theorem gX7_way_X2_length : GoodIn wsX7_way (wsV RX7 77 RX2 yX2_length wsX2_length) := goodIn_app (goodIn_of _ (by decide +kernel)) ggX7_way_X2_length
theorem dX7_way_0 : decode cX7_way 0 = .ok (.aload_n 0, 1) := by decide +kernel
theorem dX7_way_1 : decode cX7_way 1 = .ok (.getfield 10, 3) := by decide +kernel
theorem dX7_way_4 : decode cX7_way 4 = .ok (.invokevirtual 77, 3) := by decide +kernel
theorem dX7_way_7 : decode cX7_way 7 = .ok (.ireturn, 1) := by decide +kernel
set_option maxRecDepth 20000 in
theorem ggX7_even_X7_isWithin : GoodIn wsX7_even wsX7_isWithin := goodIn_r _ [7] (by decide +kernel) (by decide +kernel)
set_option maxRecDepth 20000 in
theorem gX7_even_X7_isWithin : GoodIn wsX7_even (va_wsS RX7 80 yX7_isWithin wsX7_isWithin) := goodIn_app (goodIn_of _ (by decide +kernel)) ggX7_even_X7_isWithin
set_option maxRecDepth 20000 in
theorem ggX7_even_X2_makeEven : GoodIn wsX7_even wsX2_makeEven := goodIn_r _ [12, 13, 14, 15, 11, 16, 17, 18, 19, 20, 21, 22, 23, 24, 25, 26, 27, 28, 29, 30, 31, 32, 33, 34, 35, 36, 37, 38, 39, 40, 51, 52, 53, 54, 55, 56] (by decide +kernel) (by decide +kernel)
set_option maxRecDepth 20000 in
theorem gX7_even_X2_makeEven : GoodIn wsX7_even (wsV RX7 84 RX2 yX2_makeEven wsX2_makeEven) := goodIn_app (goodIn_of _ (by decide +kernel)) ggX7_even_X2_makeEven
theorem dX7_even_0 : decode cX7_even 0 = .ok (.iload_n 1, 1) := by decide +kernel
theorem dX7_even_1 : decode cX7_even 1 = .ok (.bipush 7, 2) := by decide +kernel
theorem dX7_even_3 : decode cX7_even 3 = .ok (.invokestatic 80, 3) := by decide +kernel
theorem dX7_even_6 : decode cX7_even 6 = .ok (.ifCond .eq 21, 3) := by decide +kernel
theorem dX7_even_9 : decode cX7_even 9 = .ok (.iload_n 2, 1) := by decide +kernel
theorem dX7_even_10 : decode cX7_even 10 = .ok (.iconst 1, 1) := by decide +kernel
theorem dX7_even_11 : decode cX7_even 11 = .ok (.invokestatic 80, 3) := by decide +kernel
theorem dX7_even_14 : decode cX7_even 14 = .ok (.ifCond .eq 13, 3) := by decide +kernel
theorem dX7_even_17 : decode cX7_even 17 = .ok (.aload_n 0, 1) := by decide +kernel
theorem dX7_even_18 : decode cX7_even 18 = .ok (.getfield 10, 3) := by decide +kernel
theorem dX7_even_21 : decode cX7_even 21 = .ok (.invokevirtual 84, 3) := by decide +kernel
theorem dX7_even_24 : decode cX7_even 24 = .ok (.ifCond .ne 6, 3) := by decide +kernel
theorem dX7_even_27 : decode cX7_even 27 = .ok (.ldc 88, 2) := by decide +kernel
theorem dX7_even_29 : decode cX7_even 29 = .ok (.ireturn, 1) := by decide +kernel
theorem dX7_even_30 : decode cX7_even 30 = .ok (.aload_n 0, 1) := by decide +kernel
theorem dX7_even_31 : decode cX7_even 31 = .ok (.getfield 10, 3) := by decide +kernel
theorem dX7_even_34 : decode cX7_even 34 = .ok (.getfield 89, 3) := by decide +kernel
theorem dX7_even_37 : decode cX7_even 37 = .ok (.iconst 2, 1) := by decide +kernel
theorem dX7_even_38 : decode cX7_even 38 = .ok (.iload_n 1, 1) := by decide +kernel
theorem dX7_even_39 : decode cX7_even 39 = .ok (.imul, 1) := by decide +kernel
theorem dX7_even_40 : decode cX7_even 40 = .ok (.iload_n 2, 1) := by decide +kernel
theorem dX7_even_41 : decode cX7_even 41 = .ok (.iadd, 1) := by decide +kernel
theorem dX7_even_42 : decode cX7_even 42 = .ok (.iaload, 1) := by decide +kernel
theorem dX7_even_43 : decode cX7_even 43 = .ok (.ireturn, 1) := by decide +kernel
set_option maxRecDepth 20000 in
theorem ggX7_normal_X7_isWithin : GoodIn wsX7_normal wsX7_isWithin := goodIn_r _ [7] (by decide +kernel) (by decide +kernel)
set_option maxRecDepth 20000 in
theorem gX7_normal_X7_isWithin : GoodIn wsX7_normal (va_wsS RX7 80 yX7_isWithin wsX7_isWithin) := goodIn_app (goodIn_of _ (by decide +kernel)) ggX7_normal_X7_isWithin
set_option maxRecDepth 20000 in
theorem ggX7_normal_X2_makeNormal : GoodIn wsX7_normal wsX2_makeNormal := goodIn_r _ [12, 13, 14, 15, 16, 11, 17, 18, 19, 20, 21, 22, 23, 24, 25, 26, 27, 28, 29, 30, 31, 32, 33, 34, 35, 36, 37, 38, 39, 40, 41, 42, 43, 44, 45, 46, 47, 48, 49, 50, 51, 52, 53, 54, 55, 56, 57, 58, 59, 70, 71, 72, 73, 74, 75] (by decide +kernel) (by decide +kernel)
set_option maxRecDepth 20000 in
theorem gX7_normal_X2_makeNormal : GoodIn wsX7_normal (wsV RX7 92 RX2 yX2_makeNormal wsX2_makeNormal) := goodIn_app (goodIn_of _ (by decide +kernel)) ggX7_normal_X2_makeNormal
theorem dX7_normal_0 : decode cX7_normal 0 = .ok (.iload_n 1, 1) := by decide +kernel
theorem dX7_normal_1 : decode cX7_normal 1 = .ok (.bipush 7, 2) := by decide +kernel
theorem dX7_normal_3 : decode cX7_normal 3 = .ok (.invokestatic 80, 3) := by decide +kernel
theorem dX7_normal_6 : decode cX7_normal 6 = .ok (.ifCond .eq 21, 3) := by decide +kernel
theorem dX7_normal_9 : decode cX7_normal 9 = .ok (.iload_n 2, 1) := by decide +kernel
theorem dX7_normal_10 : decode cX7_normal 10 = .ok (.iconst 1, 1) := by decide +kernel
theorem dX7_normal_11 : decode cX7_normal 11 = .ok (.invokestatic 80, 3) := by decide +kernel
theorem dX7_normal_14 : decode cX7_normal 14 = .ok (.ifCond .eq 13, 3) := by decide +kernel
theorem dX7_normal_17 : decode cX7_normal 17 = .ok (.aload_n 0, 1) := by decide +kernel
theorem dX7_normal_18 : decode cX7_normal 18 = .ok (.getfield 10, 3) := by decide +kernel
theorem dX7_normal_21 : decode cX7_normal 21 = .ok (.invokevirtual 92, 3) := by decide +kernel
theorem dX7_normal_24 : decode cX7_normal 24 = .ok (.ifCond .ne 6, 3) := by decide +kernel
theorem dX7_normal_27 : decode cX7_normal 27 = .ok (.ldc 88, 2) := by decide +kernel
theorem dX7_normal_29 : decode cX7_normal 29 = .ok (.ireturn, 1) := by decide +kernel
theorem dX7_normal_30 : decode cX7_normal 30 = .ok (.aload_n 0, 1) := by decide +kernel
theorem dX7_normal_31 : decode cX7_normal 31 = .ok (.getfield 10, 3) := by decide +kernel
theorem dX7_normal_34 : decode cX7_normal 34 = .ok (.getfield 95, 3) := by decide +kernel
theorem dX7_normal_37 : decode cX7_normal 37 = .ok (.iconst 2, 1) := by decide +kernel
theorem dX7_normal_38 : decode cX7_normal 38 = .ok (.iload_n 1, 1) := by decide +kernel
theorem dX7_normal_39 : decode cX7_normal 39 = .ok (.imul, 1) := by decide +kernel
theorem dX7_normal_40 : decode cX7_normal 40 = .ok (.iload_n 2, 1) := by decide +kernel
theorem dX7_normal_41 : decode cX7_normal 41 = .ok (.iadd, 1) := by decide +kernel
theorem dX7_normal_42 : decode cX7_normal 42 = .ok (.iaload, 1) := by decide +kernel
theorem dX7_normal_43 : decode cX7_normal 43 = .ok (.ireturn, 1) := by decide +kernel
set_option maxRecDepth 20000 in
theorem ggX7_teach_X7_isWithin : GoodIn wsX7_teach wsX7_isWithin := goodIn_r _ [9] (by decide +kernel) (by decide +kernel)
set_option maxRecDepth 20000 in
theorem gX7_teach_X7_isWithin : GoodIn wsX7_teach (va_wsS RX7 80 yX7_isWithin wsX7_isWithin) := goodIn_app (goodIn_of _ (by decide +kernel)) ggX7_teach_X7_isWithin
set_option maxRecDepth 20000 in
theorem ggX7_teach_X2_makeNormal : GoodIn wsX7_teach wsX2_makeNormal := goodIn_r _ [14, 15, 16, 17, 18, 13, 19, 20, 21, 22, 23, 24, 25, 26, 27, 28, 29, 30, 31, 32, 33, 34, 35, 36, 37, 38, 39, 40, 41, 42, 43, 44, 45, 46, 47, 48, 49, 50, 51, 52, 53, 54, 55, 56, 57, 58, 59, 60, 61, 104, 105, 106, 107, 108, 109] (by decide +kernel) (by decide +kernel)
set_option maxRecDepth 20000 in
theorem gX7_teach_X2_makeNormal : GoodIn wsX7_teach (wsV RX7 92 RX2 yX2_makeNormal wsX2_makeNormal) := goodIn_app (goodIn_of _ (by decide +kernel)) ggX7_teach_X2_makeNormal
set_option maxRecDepth 20000 in
theorem ggX7_teach_X6_insert : GoodIn wsX7_teach wsX6_insert := goodIn_r _ [66, 67, 68, 69, 70, 71, 72, 73, 74, 100, 101, 102, 103] (by decide +kernel) (by decide +kernel)
set_option maxRecDepth 20000 in
theorem gX7_teach_X6_insert : GoodIn wsX7_teach (wsV RX7 101 RX6 yX6_insert wsX6_insert) := goodIn_app (goodIn_of _ (by decide +kernel)) ggX7_teach_X6_insert
set_option maxRecDepth 20000 in
theorem ggX7_teach_X0_push : GoodIn wsX7_teach wsX0_push := goodIn_r _ [79, 80, 81, 82, 83, 84, 85, 86, 53, 33, 54, 87, 88, 46, 89, 110, 111, 112, 113, 114, 115, 116] (by decide +kernel) (by decide +kernel)
set_option maxRecDepth 20000 in
theorem gX7_teach_X0_push : GoodIn wsX7_teach (wsV RX7 105 RX0 yX0_push wsX0_push) := goodIn_app (goodIn_of _ (by decide +kernel)) ggX7_teach_X0_push
theorem dX7_teach_0 : decode cX7_teach 0 = .ok (.iload_n 1, 1) := by decide +kernel
theorem dX7_teach_1 : decode cX7_teach 1 = .ok (.bipush 9, 2) := by decide +kernel
theorem dX7_teach_3 : decode cX7_teach 3 = .ok (.invokestatic 80, 3) := by decide +kernel
theorem dX7_teach_6 : decode cX7_teach 6 = .ok (.ifCond .eq 11, 3) := by decide +kernel
theorem dX7_teach_9 : decode cX7_teach 9 = .ok (.iload_n 2, 1) := by decide +kernel
theorem dX7_teach_10 : decode cX7_teach 10 = .ok (.iconst 4, 1) := by decide +kernel
theorem dX7_teach_11 : decode cX7_teach 11 = .ok (.invokestatic 80, 3) := by decide +kernel
theorem dX7_teach_14 : decode cX7_teach 14 = .ok (.ifCond .ne 5, 3) := by decide +kernel
theorem dX7_teach_17 : decode cX7_teach 17 = .ok (.iconst (-1), 1) := by decide +kernel
theorem dX7_teach_18 : decode cX7_teach 18 = .ok (.ireturn, 1) := by decide +kernel
theorem dX7_teach_19 : decode cX7_teach 19 = .ok (.aload_n 0, 1) := by decide +kernel
theorem dX7_teach_20 : decode cX7_teach 20 = .ok (.getfield 10, 3) := by decide +kernel
theorem dX7_teach_23 : decode cX7_teach 23 = .ok (.invokevirtual 92, 3) := by decide +kernel
theorem dX7_teach_26 : decode cX7_teach 26 = .ok (.ifCond .ne 6, 3) := by decide +kernel
theorem dX7_teach_29 : decode cX7_teach 29 = .ok (.bipush (-2), 2) := by decide +kernel
theorem dX7_teach_31 : decode cX7_teach 31 = .ok (.ireturn, 1) := by decide +kernel
theorem dX7_teach_32 : decode cX7_teach 32 = .ok (.aload_n 0, 1) := by decide +kernel
theorem dX7_teach_33 : decode cX7_teach 33 = .ok (.getfield 19, 3) := by decide +kernel
theorem dX7_teach_36 : decode cX7_teach 36 = .ok (.getfield 98, 3) := by decide +kernel
theorem dX7_teach_39 : decode cX7_teach 39 = .ok (.bipush 16, 2) := by decide +kernel
theorem dX7_teach_41 : decode cX7_teach 41 = .ok (.if_icmp .lt 6, 3) := by decide +kernel
theorem dX7_teach_44 : decode cX7_teach 44 = .ok (.bipush (-3), 2) := by decide +kernel
theorem dX7_teach_46 : decode cX7_teach 46 = .ok (.ireturn, 1) := by decide +kernel
theorem dX7_teach_47 : decode cX7_teach 47 = .ok (.aload_n 0, 1) := by decide +kernel
theorem dX7_teach_48 : decode cX7_teach 48 = .ok (.getfield 19, 3) := by decide +kernel
theorem dX7_teach_51 : decode cX7_teach 51 = .ok (.getfield 98, 3) := by decide +kernel
theorem dX7_teach_54 : decode cX7_teach 54 = .ok (.istore_n 3, 1) := by decide +kernel
theorem dX7_teach_55 : decode cX7_teach 55 = .ok (.aload_n 0, 1) := by decide +kernel
theorem dX7_teach_56 : decode cX7_teach 56 = .ok (.getfield 19, 3) := by decide +kernel
theorem dX7_teach_59 : decode cX7_teach 59 = .ok (.iload_n 3, 1) := by decide +kernel
theorem dX7_teach_60 : decode cX7_teach 60 = .ok (.iload_n 1, 1) := by decide +kernel
theorem dX7_teach_61 : decode cX7_teach 61 = .ok (.iload_n 2, 1) := by decide +kernel
theorem dX7_teach_62 : decode cX7_teach 62 = .ok (.aload_n 0, 1) := by decide +kernel
theorem dX7_teach_63 : decode cX7_teach 63 = .ok (.getfield 10, 3) := by decide +kernel
theorem dX7_teach_66 : decode cX7_teach 66 = .ok (.getfield 95, 3) := by decide +kernel
theorem dX7_teach_69 : decode cX7_teach 69 = .ok (.iconst 0, 1) := by decide +kernel
theorem dX7_teach_70 : decode cX7_teach 70 = .ok (.invokevirtual 101, 3) := by decide +kernel
theorem dX7_teach_73 : decode cX7_teach 73 = .ok (.aload_n 0, 1) := by decide +kernel
theorem dX7_teach_74 : decode cX7_teach 74 = .ok (.getfield 26, 3) := by decide +kernel
theorem dX7_teach_77 : decode cX7_teach 77 = .ok (.iconst 0, 1) := by decide +kernel
theorem dX7_teach_78 : decode cX7_teach 78 = .ok (.iload_n 3, 1) := by decide +kernel
theorem dX7_teach_79 : decode cX7_teach 79 = .ok (.iload_n 1, 1) := by decide +kernel
theorem dX7_teach_80 : decode cX7_teach 80 = .ok (.iload_n 2, 1) := by decide +kernel
theorem dX7_teach_81 : decode cX7_teach 81 = .ok (.invokevirtual 105, 3) := by decide +kernel
theorem dX7_teach_84 : decode cX7_teach 84 = .ok (.pop, 1) := by decide +kernel
theorem dX7_teach_85 : decode cX7_teach 85 = .ok (.iload_n 3, 1) := by decide +kernel
theorem dX7_teach_86 : decode cX7_teach 86 = .ok (.ireturn, 1) := by decide +kernel
set_option maxRecDepth 20000 in
theorem ggX7_forget_X6_has : GoodIn wsX7_forget wsX6_has := goodIn_r _ [15, 16, 55, 56, 57, 58] (by decide +kernel) (by decide +kernel)
set_option maxRecDepth 20000 in
theorem gX7_forget_X6_has : GoodIn wsX7_forget (wsV RX7 109 RX6 yX6_has wsX6_has) := goodIn_app (goodIn_of _ (by decide +kernel)) ggX7_forget_X6_has
set_option maxRecDepth 20000 in
theorem ggX7_forget_X0_push : GoodIn wsX7_forget wsX0_push := goodIn_r _ [21, 22, 23, 24, 25, 26, 27, 28, 29, 30, 31, 32, 33, 34, 35, 59, 60, 61, 62, 63, 64, 65] (by decide +kernel) (by decide +kernel)
set_option maxRecDepth 20000 in
theorem gX7_forget_X0_push : GoodIn wsX7_forget (wsV RX7 105 RX0 yX0_push wsX0_push) := goodIn_app (goodIn_of _ (by decide +kernel)) ggX7_forget_X0_push
set_option maxRecDepth 20000 in
theorem ggX7_forget_X6_remove : GoodIn wsX7_forget wsX6_remove := goodIn_r _ [39, 16, 40, 41, 8, 9, 10, 42, 43, 44, 12, 13, 14, 15, 55, 56, 57, 58] (by decide +kernel) (by decide +kernel)
set_option maxRecDepth 20000 in
theorem gX7_forget_X6_remove : GoodIn wsX7_forget (wsV RX7 128 RX6 yX6_remove wsX6_remove) := goodIn_app (goodIn_of _ (by decide +kernel)) ggX7_forget_X6_remove
theorem dX7_forget_0 : decode cX7_forget 0 = .ok (.aload_n 0, 1) := by decide +kernel
theorem dX7_forget_1 : decode cX7_forget 1 = .ok (.getfield 19, 3) := by decide +kernel
theorem dX7_forget_4 : decode cX7_forget 4 = .ok (.iload_n 1, 1) := by decide +kernel
theorem dX7_forget_5 : decode cX7_forget 5 = .ok (.invokevirtual 109, 3) := by decide +kernel
theorem dX7_forget_8 : decode cX7_forget 8 = .ok (.ifCond .ne 5, 3) := by decide +kernel
theorem dX7_forget_11 : decode cX7_forget 11 = .ok (.iconst (-1), 1) := by decide +kernel
theorem dX7_forget_12 : decode cX7_forget 12 = .ok (.ireturn, 1) := by decide +kernel
theorem dX7_forget_13 : decode cX7_forget 13 = .ok (.aload_n 0, 1) := by decide +kernel
theorem dX7_forget_14 : decode cX7_forget 14 = .ok (.getfield 19, 3) := by decide +kernel
theorem dX7_forget_17 : decode cX7_forget 17 = .ok (.getfield 113, 3) := by decide +kernel
theorem dX7_forget_20 : decode cX7_forget 20 = .ok (.iload_n 1, 1) := by decide +kernel
theorem dX7_forget_21 : decode cX7_forget 21 = .ok (.iaload, 1) := by decide +kernel
theorem dX7_forget_22 : decode cX7_forget 22 = .ok (.istore_n 2, 1) := by decide +kernel
theorem dX7_forget_23 : decode cX7_forget 23 = .ok (.aload_n 0, 1) := by decide +kernel
theorem dX7_forget_24 : decode cX7_forget 24 = .ok (.getfield 26, 3) := by decide +kernel
theorem dX7_forget_27 : decode cX7_forget 27 = .ok (.iconst 1, 1) := by decide +kernel
theorem dX7_forget_28 : decode cX7_forget 28 = .ok (.iload_n 1, 1) := by decide +kernel
theorem dX7_forget_29 : decode cX7_forget 29 = .ok (.iload_n 2, 1) := by decide +kernel
theorem dX7_forget_30 : decode cX7_forget 30 = .ok (.aload_n 0, 1) := by decide +kernel
theorem dX7_forget_31 : decode cX7_forget 31 = .ok (.getfield 19, 3) := by decide +kernel
theorem dX7_forget_34 : decode cX7_forget 34 = .ok (.getfield 115, 3) := by decide +kernel
theorem dX7_forget_37 : decode cX7_forget 37 = .ok (.iload_n 1, 1) := by decide +kernel
theorem dX7_forget_38 : decode cX7_forget 38 = .ok (.iaload, 1) := by decide +kernel
theorem dX7_forget_39 : decode cX7_forget 39 = .ok (.invokevirtual 105, 3) := by decide +kernel
theorem dX7_forget_42 : decode cX7_forget 42 = .ok (.istore_n 3, 1) := by decide +kernel
theorem dX7_forget_43 : decode cX7_forget 43 = .ok (.aload_n 0, 1) := by decide +kernel
theorem dX7_forget_44 : decode cX7_forget 44 = .ok (.getfield 19, 3) := by decide +kernel
theorem dX7_forget_47 : decode cX7_forget 47 = .ok (.getfield 118, 3) := by decide +kernel
theorem dX7_forget_50 : decode cX7_forget 50 = .ok (.iload_n 1, 1) := by decide +kernel
theorem dX7_forget_51 : decode cX7_forget 51 = .ok (.bipush 16, 2) := by decide +kernel
theorem dX7_forget_53 : decode cX7_forget 53 = .ok (.imul, 1) := by decide +kernel
theorem dX7_forget_54 : decode cX7_forget 54 = .ok (.aload_n 0, 1) := by decide +kernel
theorem dX7_forget_55 : decode cX7_forget 55 = .ok (.getfield 26, 3) := by decide +kernel
theorem dX7_forget_58 : decode cX7_forget 58 = .ok (.getfield 121, 3) := by decide +kernel
theorem dX7_forget_61 : decode cX7_forget 61 = .ok (.iload_n 3, 1) := by decide +kernel
theorem dX7_forget_62 : decode cX7_forget 62 = .ok (.bipush 16, 2) := by decide +kernel
theorem dX7_forget_64 : decode cX7_forget 64 = .ok (.imul, 1) := by decide +kernel
theorem dX7_forget_65 : decode cX7_forget 65 = .ok (.bipush 16, 2) := by decide +kernel
theorem dX7_forget_67 : decode cX7_forget 67 = .ok (.invokestatic 122, 3) := by decide +kernel
theorem dX7_forget_70 : decode cX7_forget 70 = .ok (.aload_n 0, 1) := by decide +kernel
theorem dX7_forget_71 : decode cX7_forget 71 = .ok (.getfield 19, 3) := by decide +kernel
theorem dX7_forget_74 : decode cX7_forget 74 = .ok (.iload_n 1, 1) := by decide +kernel
theorem dX7_forget_75 : decode cX7_forget 75 = .ok (.invokevirtual 128, 3) := by decide +kernel
theorem dX7_forget_78 : decode cX7_forget 78 = .ok (.iload_n 2, 1) := by decide +kernel
theorem dX7_forget_79 : decode cX7_forget 79 = .ok (.ireturn, 1) := by decide +kernel
set_option maxRecDepth 20000 in
theorem ggX7_undo_X0_pop : GoodIn wsX7_undo wsX0_pop := goodIn_r _ [14, 15, 16, 17, 18, 19, 20, 21, 22, 23, 24, 57, 58, 59, 60, 61, 62, 63] (by decide +kernel) (by decide +kernel)
set_option maxRecDepth 20000 in
theorem gX7_undo_X0_pop : GoodIn wsX7_undo (wsV RX7 133 RX0 yX0_pop wsX0_pop) := goodIn_app (goodIn_of _ (by decide +kernel)) ggX7_undo_X0_pop
set_option maxRecDepth 20000 in
theorem ggX7_undo_X6_remove : GoodIn wsX7_undo wsX6_remove := goodIn_r _ [29, 30, 31, 32, 33, 34, 35, 36, 37, 38, 39, 40, 28, 41, 64, 65, 66, 67] (by decide +kernel) (by decide +kernel)
set_option maxRecDepth 20000 in
theorem gX7_undo_X6_remove : GoodIn wsX7_undo (wsV RX7 128 RX6 yX6_remove wsX6_remove) := goodIn_app (goodIn_of _ (by decide +kernel)) ggX7_undo_X6_remove
set_option maxRecDepth 20000 in
theorem ggX7_undo_X6_insert : GoodIn wsX7_undo wsX6_insert := goodIn_r _ [45, 30, 31, 32, 33, 34, 35, 36, 37, 64, 65, 66, 67] (by decide +kernel) (by decide +kernel)
set_option maxRecDepth 20000 in
theorem gX7_undo_X6_insert : GoodIn wsX7_undo (wsV RX7 101 RX6 yX6_insert wsX6_insert) := goodIn_app (goodIn_of _ (by decide +kernel)) ggX7_undo_X6_insert
set_option maxRecDepth 20000 in
theorem ggX7_undo_X6_has : GoodIn wsX7_undo wsX6_has := goodIn_r _ [41, 30, 64, 65, 66, 67] (by decide +kernel) (by decide +kernel)
set_option maxRecDepth 20000 in
theorem gX7_undo_X6_has : GoodIn wsX7_undo (wsV RX7 109 RX6 yX6_has wsX6_has) := goodIn_app (goodIn_of _ (by decide +kernel)) ggX7_undo_X6_has
theorem dX7_undo_0 : decode cX7_undo 0 = .ok (.aload_n 0, 1) := by decide +kernel
theorem dX7_undo_1 : decode cX7_undo 1 = .ok (.getfield 26, 3) := by decide +kernel
theorem dX7_undo_4 : decode cX7_undo 4 = .ok (.getfield 132, 3) := by decide +kernel
theorem dX7_undo_7 : decode cX7_undo 7 = .ok (.ifCond .ne 6, 3) := by decide +kernel
theorem dX7_undo_10 : decode cX7_undo 10 = .ok (.bipush (-4), 2) := by decide +kernel
theorem dX7_undo_12 : decode cX7_undo 12 = .ok (.ireturn, 1) := by decide +kernel
theorem dX7_undo_13 : decode cX7_undo 13 = .ok (.aload_n 0, 1) := by decide +kernel
theorem dX7_undo_14 : decode cX7_undo 14 = .ok (.getfield 26, 3) := by decide +kernel
theorem dX7_undo_17 : decode cX7_undo 17 = .ok (.invokevirtual 133, 3) := by decide +kernel
theorem dX7_undo_20 : decode cX7_undo 20 = .ok (.istore_n 1, 1) := by decide +kernel
theorem dX7_undo_21 : decode cX7_undo 21 = .ok (.aload_n 0, 1) := by decide +kernel
theorem dX7_undo_22 : decode cX7_undo 22 = .ok (.getfield 26, 3) := by decide +kernel
theorem dX7_undo_25 : decode cX7_undo 25 = .ok (.getfield 136, 3) := by decide +kernel
theorem dX7_undo_28 : decode cX7_undo 28 = .ok (.iload_n 1, 1) := by decide +kernel
theorem dX7_undo_29 : decode cX7_undo 29 = .ok (.iaload, 1) := by decide +kernel
theorem dX7_undo_30 : decode cX7_undo 30 = .ok (.istore_n 2, 1) := by decide +kernel
theorem dX7_undo_31 : decode cX7_undo 31 = .ok (.aload_n 0, 1) := by decide +kernel
theorem dX7_undo_32 : decode cX7_undo 32 = .ok (.getfield 26, 3) := by decide +kernel
theorem dX7_undo_35 : decode cX7_undo 35 = .ok (.getfield 139, 3) := by decide +kernel
theorem dX7_undo_38 : decode cX7_undo 38 = .ok (.iload_n 1, 1) := by decide +kernel
theorem dX7_undo_39 : decode cX7_undo 39 = .ok (.iaload, 1) := by decide +kernel
theorem dX7_undo_40 : decode cX7_undo 40 = .ok (.ifCond .ne 14, 3) := by decide +kernel
theorem dX7_undo_43 : decode cX7_undo 43 = .ok (.aload_n 0, 1) := by decide +kernel
theorem dX7_undo_44 : decode cX7_undo 44 = .ok (.getfield 19, 3) := by decide +kernel
theorem dX7_undo_47 : decode cX7_undo 47 = .ok (.iload_n 2, 1) := by decide +kernel
theorem dX7_undo_48 : decode cX7_undo 48 = .ok (.invokevirtual 128, 3) := by decide +kernel
theorem dX7_undo_51 : decode cX7_undo 51 = .ok (.goto 85, 3) := by decide +kernel
theorem dX7_undo_54 : decode cX7_undo 54 = .ok (.aload_n 0, 1) := by decide +kernel
theorem dX7_undo_55 : decode cX7_undo 55 = .ok (.getfield 26, 3) := by decide +kernel
theorem dX7_undo_58 : decode cX7_undo 58 = .ok (.getfield 139, 3) := by decide +kernel
theorem dX7_undo_61 : decode cX7_undo 61 = .ok (.iload_n 1, 1) := by decide +kernel
theorem dX7_undo_62 : decode cX7_undo 62 = .ok (.iaload, 1) := by decide +kernel
theorem dX7_undo_63 : decode cX7_undo 63 = .ok (.iconst 1, 1) := by decide +kernel
theorem dX7_undo_64 : decode cX7_undo 64 = .ok (.if_icmp .ne 43, 3) := by decide +kernel
theorem dX7_undo_67 : decode cX7_undo 67 = .ok (.aload_n 0, 1) := by decide +kernel
theorem dX7_undo_68 : decode cX7_undo 68 = .ok (.getfield 19, 3) := by decide +kernel
theorem dX7_undo_71 : decode cX7_undo 71 = .ok (.iload_n 2, 1) := by decide +kernel
theorem dX7_undo_72 : decode cX7_undo 72 = .ok (.aload_n 0, 1) := by decide +kernel
theorem dX7_undo_73 : decode cX7_undo 73 = .ok (.getfield 26, 3) := by decide +kernel
theorem dX7_undo_76 : decode cX7_undo 76 = .ok (.getfield 142, 3) := by decide +kernel
theorem dX7_undo_79 : decode cX7_undo 79 = .ok (.iload_n 1, 1) := by decide +kernel
theorem dX7_undo_80 : decode cX7_undo 80 = .ok (.iaload, 1) := by decide +kernel
theorem dX7_undo_81 : decode cX7_undo 81 = .ok (.aload_n 0, 1) := by decide +kernel
theorem dX7_undo_82 : decode cX7_undo 82 = .ok (.getfield 26, 3) := by decide +kernel
theorem dX7_undo_85 : decode cX7_undo 85 = .ok (.getfield 143, 3) := by decide +kernel
theorem dX7_undo_88 : decode cX7_undo 88 = .ok (.iload_n 1, 1) := by decide +kernel
theorem dX7_undo_89 : decode cX7_undo 89 = .ok (.iaload, 1) := by decide +kernel
theorem dX7_undo_90 : decode cX7_undo 90 = .ok (.aload_n 0, 1) := by decide +kernel
theorem dX7_undo_91 : decode cX7_undo 91 = .ok (.getfield 26, 3) := by decide +kernel
theorem dX7_undo_94 : decode cX7_undo 94 = .ok (.getfield 121, 3) := by decide +kernel
theorem dX7_undo_97 : decode cX7_undo 97 = .ok (.iload_n 1, 1) := by decide +kernel
theorem dX7_undo_98 : decode cX7_undo 98 = .ok (.bipush 16, 2) := by decide +kernel
theorem dX7_undo_100 : decode cX7_undo 100 = .ok (.imul, 1) := by decide +kernel
theorem dX7_undo_101 : decode cX7_undo 101 = .ok (.invokevirtual 101, 3) := by decide +kernel
theorem dX7_undo_104 : decode cX7_undo 104 = .ok (.goto 32, 3) := by decide +kernel
theorem dX7_undo_107 : decode cX7_undo 107 = .ok (.aload_n 0, 1) := by decide +kernel
theorem dX7_undo_108 : decode cX7_undo 108 = .ok (.getfield 19, 3) := by decide +kernel
theorem dX7_undo_111 : decode cX7_undo 111 = .ok (.iload_n 2, 1) := by decide +kernel
theorem dX7_undo_112 : decode cX7_undo 112 = .ok (.invokevirtual 109, 3) := by decide +kernel
theorem dX7_undo_115 : decode cX7_undo 115 = .ok (.ifCond .eq 21, 3) := by decide +kernel
theorem dX7_undo_118 : decode cX7_undo 118 = .ok (.aload_n 0, 1) := by decide +kernel
theorem dX7_undo_119 : decode cX7_undo 119 = .ok (.getfield 19, 3) := by decide +kernel
theorem dX7_undo_122 : decode cX7_undo 122 = .ok (.getfield 113, 3) := by decide +kernel
theorem dX7_undo_125 : decode cX7_undo 125 = .ok (.iload_n 2, 1) := by decide +kernel
theorem dX7_undo_126 : decode cX7_undo 126 = .ok (.aload_n 0, 1) := by decide +kernel
theorem dX7_undo_127 : decode cX7_undo 127 = .ok (.getfield 26, 3) := by decide +kernel
theorem dX7_undo_130 : decode cX7_undo 130 = .ok (.getfield 142, 3) := by decide +kernel
theorem dX7_undo_133 : decode cX7_undo 133 = .ok (.iload_n 1, 1) := by decide +kernel
theorem dX7_undo_134 : decode cX7_undo 134 = .ok (.iaload, 1) := by decide +kernel
theorem dX7_undo_135 : decode cX7_undo 135 = .ok (.iastore, 1) := by decide +kernel
theorem dX7_undo_136 : decode cX7_undo 136 = .ok (.aload_n 0, 1) := by decide +kernel
theorem dX7_undo_137 : decode cX7_undo 137 = .ok (.getfield 26, 3) := by decide +kernel
theorem dX7_undo_140 : decode cX7_undo 140 = .ok (.getfield 132, 3) := by decide +kernel
theorem dX7_undo_143 : decode cX7_undo 143 = .ok (.ireturn, 1) := by decide +kernel
set_option maxRecDepth 20000 in
theorem ggX7_label_X6_has : GoodIn wsX7_label wsX6_has := goodIn_r _ [9, 10, 44, 45, 46, 47] (by decide +kernel) (by decide +kernel)
set_option maxRecDepth 20000 in
theorem gX7_label_X6_has : GoodIn wsX7_label (wsV RX7 109 RX6 yX6_has wsX6_has) := goodIn_app (goodIn_of _ (by decide +kernel)) ggX7_label_X6_has
set_option maxRecDepth 20000 in
theorem ggX7_label_X7_isWithin : GoodIn wsX7_label wsX7_isWithin := goodIn_r _ [14] (by decide +kernel) (by decide +kernel)
set_option maxRecDepth 20000 in
theorem gX7_label_X7_isWithin : GoodIn wsX7_label (va_wsS RX7 80 yX7_isWithin wsX7_isWithin) := goodIn_app (goodIn_of _ (by decide +kernel)) ggX7_label_X7_isWithin
set_option maxRecDepth 20000 in
theorem ggX7_label_X0_push : GoodIn wsX7_label wsX0_push := goodIn_r _ [19, 20, 21, 22, 23, 24, 25, 26, 27, 28, 29, 30, 31, 32, 33, 48, 49, 50, 51, 52, 53, 54] (by decide +kernel) (by decide +kernel)
set_option maxRecDepth 20000 in
theorem gX7_label_X0_push : GoodIn wsX7_label (wsV RX7 105 RX0 yX0_push wsX0_push) := goodIn_app (goodIn_of _ (by decide +kernel)) ggX7_label_X0_push
theorem dX7_label_0 : decode cX7_label 0 = .ok (.aload_n 0, 1) := by decide +kernel
theorem dX7_label_1 : decode cX7_label 1 = .ok (.getfield 19, 3) := by decide +kernel
theorem dX7_label_4 : decode cX7_label 4 = .ok (.iload_n 1, 1) := by decide +kernel
theorem dX7_label_5 : decode cX7_label 5 = .ok (.invokevirtual 109, 3) := by decide +kernel
theorem dX7_label_8 : decode cX7_label 8 = .ok (.ifCond .eq 12, 3) := by decide +kernel
theorem dX7_label_11 : decode cX7_label 11 = .ok (.iload_n 2, 1) := by decide +kernel
theorem dX7_label_12 : decode cX7_label 12 = .ok (.bipush 9, 2) := by decide +kernel
theorem dX7_label_14 : decode cX7_label 14 = .ok (.invokestatic 80, 3) := by decide +kernel
theorem dX7_label_17 : decode cX7_label 17 = .ok (.ifCond .ne 5, 3) := by decide +kernel
theorem dX7_label_20 : decode cX7_label 20 = .ok (.iconst (-1), 1) := by decide +kernel
theorem dX7_label_21 : decode cX7_label 21 = .ok (.ireturn, 1) := by decide +kernel
theorem dX7_label_22 : decode cX7_label 22 = .ok (.aload_n 0, 1) := by decide +kernel
theorem dX7_label_23 : decode cX7_label 23 = .ok (.getfield 19, 3) := by decide +kernel
theorem dX7_label_26 : decode cX7_label 26 = .ok (.getfield 113, 3) := by decide +kernel
theorem dX7_label_29 : decode cX7_label 29 = .ok (.iload_n 1, 1) := by decide +kernel
theorem dX7_label_30 : decode cX7_label 30 = .ok (.iaload, 1) := by decide +kernel
theorem dX7_label_31 : decode cX7_label 31 = .ok (.istore_n 3, 1) := by decide +kernel
theorem dX7_label_32 : decode cX7_label 32 = .ok (.aload_n 0, 1) := by decide +kernel
theorem dX7_label_33 : decode cX7_label 33 = .ok (.getfield 26, 3) := by decide +kernel
theorem dX7_label_36 : decode cX7_label 36 = .ok (.iconst 2, 1) := by decide +kernel
theorem dX7_label_37 : decode cX7_label 37 = .ok (.iload_n 1, 1) := by decide +kernel
theorem dX7_label_38 : decode cX7_label 38 = .ok (.iload_n 3, 1) := by decide +kernel
theorem dX7_label_39 : decode cX7_label 39 = .ok (.aload_n 0, 1) := by decide +kernel
theorem dX7_label_40 : decode cX7_label 40 = .ok (.getfield 19, 3) := by decide +kernel
theorem dX7_label_43 : decode cX7_label 43 = .ok (.getfield 115, 3) := by decide +kernel
theorem dX7_label_46 : decode cX7_label 46 = .ok (.iload_n 1, 1) := by decide +kernel
theorem dX7_label_47 : decode cX7_label 47 = .ok (.iaload, 1) := by decide +kernel
theorem dX7_label_48 : decode cX7_label 48 = .ok (.invokevirtual 105, 3) := by decide +kernel
theorem dX7_label_51 : decode cX7_label 51 = .ok (.pop, 1) := by decide +kernel
theorem dX7_label_52 : decode cX7_label 52 = .ok (.aload_n 0, 1) := by decide +kernel
theorem dX7_label_53 : decode cX7_label 53 = .ok (.getfield 19, 3) := by decide +kernel
theorem dX7_label_56 : decode cX7_label 56 = .ok (.getfield 113, 3) := by decide +kernel
theorem dX7_label_59 : decode cX7_label 59 = .ok (.iload_n 1, 1) := by decide +kernel
theorem dX7_label_60 : decode cX7_label 60 = .ok (.iload_n 2, 1) := by decide +kernel
theorem dX7_label_61 : decode cX7_label 61 = .ok (.iastore, 1) := by decide +kernel
theorem dX7_label_62 : decode cX7_label 62 = .ok (.iload_n 3, 1) := by decide +kernel
theorem dX7_label_63 : decode cX7_label 63 = .ok (.ireturn, 1) := by decide +kernel
set_option maxRecDepth 20000 in
theorem ggX7_told_X6_has : GoodIn wsX7_told wsX6_has := goodIn_r _ [8, 9, 24, 25, 26, 27] (by decide +kernel) (by decide +kernel)
set_option maxRecDepth 20000 in
theorem gX7_told_X6_has : GoodIn wsX7_told (wsV RX7 109 RX6 yX6_has wsX6_has) := goodIn_app (goodIn_of _ (by decide +kernel)) ggX7_told_X6_has
set_option maxRecDepth 20000 in
theorem ggX7_told_X7_isWithin : GoodIn wsX7_told wsX7_isWithin := goodIn_r _ [13] (by decide +kernel) (by decide +kernel)
set_option maxRecDepth 20000 in
theorem gX7_told_X7_isWithin : GoodIn wsX7_told (va_wsS RX7 80 yX7_isWithin wsX7_isWithin) := goodIn_app (goodIn_of _ (by decide +kernel)) ggX7_told_X7_isWithin
theorem dX7_told_0 : decode cX7_told 0 = .ok (.aload_n 0, 1) := by decide +kernel
theorem dX7_told_1 : decode cX7_told 1 = .ok (.getfield 19, 3) := by decide +kernel
theorem dX7_told_4 : decode cX7_told 4 = .ok (.iload_n 1, 1) := by decide +kernel
theorem dX7_told_5 : decode cX7_told 5 = .ok (.invokevirtual 109, 3) := by decide +kernel
theorem dX7_told_8 : decode cX7_told 8 = .ok (.ifCond .eq 11, 3) := by decide +kernel
theorem dX7_told_11 : decode cX7_told 11 = .ok (.iload_n 2, 1) := by decide +kernel
theorem dX7_told_12 : decode cX7_told 12 = .ok (.iconst 1, 1) := by decide +kernel
theorem dX7_told_13 : decode cX7_told 13 = .ok (.invokestatic 80, 3) := by decide +kernel
theorem dX7_told_16 : decode cX7_told 16 = .ok (.ifCond .ne 5, 3) := by decide +kernel
theorem dX7_told_19 : decode cX7_told 19 = .ok (.iconst (-1), 1) := by decide +kernel
theorem dX7_told_20 : decode cX7_told 20 = .ok (.ireturn, 1) := by decide +kernel
theorem dX7_told_21 : decode cX7_told 21 = .ok (.iload_n 2, 1) := by decide +kernel
theorem dX7_told_22 : decode cX7_told 22 = .ok (.ifCond .ne 15, 3) := by decide +kernel
theorem dX7_told_25 : decode cX7_told 25 = .ok (.aload_n 0, 1) := by decide +kernel
theorem dX7_told_26 : decode cX7_told 26 = .ok (.getfield 19, 3) := by decide +kernel
theorem dX7_told_29 : decode cX7_told 29 = .ok (.getfield 113, 3) := by decide +kernel
theorem dX7_told_32 : decode cX7_told 32 = .ok (.iload_n 1, 1) := by decide +kernel
theorem dX7_told_33 : decode cX7_told 33 = .ok (.iaload, 1) := by decide +kernel
theorem dX7_told_34 : decode cX7_told 34 = .ok (.goto 12, 3) := by decide +kernel
theorem dX7_told_37 : decode cX7_told 37 = .ok (.aload_n 0, 1) := by decide +kernel
theorem dX7_told_38 : decode cX7_told 38 = .ok (.getfield 19, 3) := by decide +kernel
theorem dX7_told_41 : decode cX7_told 41 = .ok (.getfield 115, 3) := by decide +kernel
theorem dX7_told_44 : decode cX7_told 44 = .ok (.iload_n 1, 1) := by decide +kernel
theorem dX7_told_45 : decode cX7_told 45 = .ok (.iaload, 1) := by decide +kernel
theorem dX7_told_46 : decode cX7_told 46 = .ok (.ireturn, 1) := by decide +kernel
set_option maxRecDepth 20000 in
theorem ggX7_taught_X6_has : GoodIn wsX7_taught wsX6_has := goodIn_r _ [8, 9, 24, 25, 26, 27] (by decide +kernel) (by decide +kernel)
set_option maxRecDepth 20000 in
theorem gX7_taught_X6_has : GoodIn wsX7_taught (wsV RX7 109 RX6 yX6_has wsX6_has) := goodIn_app (goodIn_of _ (by decide +kernel)) ggX7_taught_X6_has
set_option maxRecDepth 20000 in
theorem ggX7_taught_X7_isWithin : GoodIn wsX7_taught wsX7_isWithin := goodIn_r _ [13] (by decide +kernel) (by decide +kernel)
set_option maxRecDepth 20000 in
theorem gX7_taught_X7_isWithin : GoodIn wsX7_taught (va_wsS RX7 80 yX7_isWithin wsX7_isWithin) := goodIn_app (goodIn_of _ (by decide +kernel)) ggX7_taught_X7_isWithin
theorem dX7_taught_0 : decode cX7_taught 0 = .ok (.aload_n 0, 1) := by decide +kernel
theorem dX7_taught_1 : decode cX7_taught 1 = .ok (.getfield 19, 3) := by decide +kernel
theorem dX7_taught_4 : decode cX7_taught 4 = .ok (.iload_n 1, 1) := by decide +kernel
theorem dX7_taught_5 : decode cX7_taught 5 = .ok (.invokevirtual 109, 3) := by decide +kernel
theorem dX7_taught_8 : decode cX7_taught 8 = .ok (.ifCond .eq 20, 3) := by decide +kernel
theorem dX7_taught_11 : decode cX7_taught 11 = .ok (.iload_n 2, 1) := by decide +kernel
theorem dX7_taught_12 : decode cX7_taught 12 = .ok (.bipush 7, 2) := by decide +kernel
theorem dX7_taught_14 : decode cX7_taught 14 = .ok (.invokestatic 80, 3) := by decide +kernel
theorem dX7_taught_17 : decode cX7_taught 17 = .ok (.ifCond .eq 11, 3) := by decide +kernel
theorem dX7_taught_20 : decode cX7_taught 20 = .ok (.iload_n 3, 1) := by decide +kernel
theorem dX7_taught_21 : decode cX7_taught 21 = .ok (.iconst 1, 1) := by decide +kernel
theorem dX7_taught_22 : decode cX7_taught 22 = .ok (.invokestatic 80, 3) := by decide +kernel
theorem dX7_taught_25 : decode cX7_taught 25 = .ok (.ifCond .ne 6, 3) := by decide +kernel
theorem dX7_taught_28 : decode cX7_taught 28 = .ok (.ldc 88, 2) := by decide +kernel
theorem dX7_taught_30 : decode cX7_taught 30 = .ok (.ireturn, 1) := by decide +kernel
theorem dX7_taught_31 : decode cX7_taught 31 = .ok (.aload_n 0, 1) := by decide +kernel
theorem dX7_taught_32 : decode cX7_taught 32 = .ok (.getfield 19, 3) := by decide +kernel
theorem dX7_taught_35 : decode cX7_taught 35 = .ok (.getfield 118, 3) := by decide +kernel
theorem dX7_taught_38 : decode cX7_taught 38 = .ok (.iload_n 1, 1) := by decide +kernel
theorem dX7_taught_39 : decode cX7_taught 39 = .ok (.bipush 16, 2) := by decide +kernel
theorem dX7_taught_41 : decode cX7_taught 41 = .ok (.imul, 1) := by decide +kernel
theorem dX7_taught_42 : decode cX7_taught 42 = .ok (.iconst 2, 1) := by decide +kernel
theorem dX7_taught_43 : decode cX7_taught 43 = .ok (.iload_n 2, 1) := by decide +kernel
theorem dX7_taught_44 : decode cX7_taught 44 = .ok (.imul, 1) := by decide +kernel
theorem dX7_taught_45 : decode cX7_taught 45 = .ok (.iadd, 1) := by decide +kernel
theorem dX7_taught_46 : decode cX7_taught 46 = .ok (.iload_n 3, 1) := by decide +kernel
theorem dX7_taught_47 : decode cX7_taught 47 = .ok (.iadd, 1) := by decide +kernel
theorem dX7_taught_48 : decode cX7_taught 48 = .ok (.iaload, 1) := by decide +kernel
theorem dX7_taught_49 : decode cX7_taught 49 = .ok (.ireturn, 1) := by decide +kernel
set_option maxRecDepth 20000 in
theorem ggX7_ends_X7_isWithin : GoodIn wsX7_ends wsX7_isWithin := goodIn_r _ [7] (by decide +kernel) (by decide +kernel)
set_option maxRecDepth 20000 in
theorem gX7_ends_X7_isWithin : GoodIn wsX7_ends (va_wsS RX7 80 yX7_isWithin wsX7_isWithin) := goodIn_app (goodIn_of _ (by decide +kernel)) ggX7_ends_X7_isWithin
theorem dX7_ends_0 : decode cX7_ends 0 = .ok (.iload_n 1, 1) := by decide +kernel
theorem dX7_ends_1 : decode cX7_ends 1 = .ok (.ldc 144, 2) := by decide +kernel
theorem dX7_ends_3 : decode cX7_ends 3 = .ok (.invokestatic 80, 3) := by decide +kernel
theorem dX7_ends_6 : decode cX7_ends 6 = .ok (.ifCond .eq 12, 3) := by decide +kernel
theorem dX7_ends_9 : decode cX7_ends 9 = .ok (.iload_n 2, 1) := by decide +kernel
theorem dX7_ends_10 : decode cX7_ends 10 = .ok (.ldc 144, 2) := by decide +kernel
theorem dX7_ends_12 : decode cX7_ends 12 = .ok (.invokestatic 80, 3) := by decide +kernel
theorem dX7_ends_15 : decode cX7_ends 15 = .ok (.ifCond .ne 5, 3) := by decide +kernel
theorem dX7_ends_18 : decode cX7_ends 18 = .ok (.iconst (-1), 1) := by decide +kernel
theorem dX7_ends_19 : decode cX7_ends 19 = .ok (.ireturn, 1) := by decide +kernel
theorem dX7_ends_20 : decode cX7_ends 20 = .ok (.aload_n 0, 1) := by decide +kernel
theorem dX7_ends_21 : decode cX7_ends 21 = .ok (.iload_n 1, 1) := by decide +kernel
theorem dX7_ends_22 : decode cX7_ends 22 = .ok (.putfield 62, 3) := by decide +kernel
theorem dX7_ends_25 : decode cX7_ends 25 = .ok (.aload_n 0, 1) := by decide +kernel
theorem dX7_ends_26 : decode cX7_ends 26 = .ok (.iload_n 2, 1) := by decide +kernel
theorem dX7_ends_27 : decode cX7_ends 27 = .ok (.putfield 66, 3) := by decide +kernel
theorem dX7_ends_30 : decode cX7_ends 30 = .ok (.iconst 1, 1) := by decide +kernel
theorem dX7_ends_31 : decode cX7_ends 31 = .ok (.ireturn, 1) := by decide +kernel
set_option maxRecDepth 20000 in
theorem ggX7_distance_X6_has : GoodIn wsX7_distance wsX6_has := goodIn_r _ [9, 10, 123, 124, 125, 126] (by decide +kernel) (by decide +kernel)
set_option maxRecDepth 20000 in
theorem gX7_distance_X6_has : GoodIn wsX7_distance (wsV RX7 109 RX6 yX6_has wsX6_has) := goodIn_app (goodIn_of _ (by decide +kernel)) ggX7_distance_X6_has
set_option maxRecDepth 20000 in
theorem ggX7_distance_X2_makeNormal : GoodIn wsX7_distance wsX2_makeNormal := goodIn_r _ [15, 16, 17, 18, 19, 14, 20, 21, 22, 23, 24, 25, 26, 27, 28, 29, 30, 31, 32, 33, 34, 35, 36, 37, 38, 39, 40, 41, 42, 43, 44, 45, 46, 47, 48, 49, 50, 51, 52, 53, 54, 55, 56, 57, 58, 59, 60, 61, 62, 117, 118, 119, 120, 121, 122] (by decide +kernel) (by decide +kernel)
set_option maxRecDepth 20000 in
theorem gX7_distance_X2_makeNormal : GoodIn wsX7_distance (wsV RX7 92 RX2 yX2_makeNormal wsX2_makeNormal) := goodIn_app (goodIn_of _ (by decide +kernel)) ggX7_distance_X2_makeNormal
set_option maxRecDepth 20000 in
theorem ggX7_distance_X4_distanceFrom : GoodIn wsX7_distance wsX4_distanceFrom := goodIn_r _ [67, 68, 69, 70, 71, 72, 73, 74, 75, 54, 34, 55, 76, 77, 78, 66, 79, 80, 81, 82, 83, 84, 85, 86, 87, 88, 89, 90, 33, 35, 91, 92, 93, 94, 95, 96, 97, 98, 99, 100, 101, 102, 103, 104, 105, 106, 127, 128, 129, 123, 124, 125, 126] (by decide +kernel) (by decide +kernel)
set_option maxRecDepth 20000 in
theorem gX7_distance_X4_distanceFrom : GoodIn wsX7_distance (wsV RX7 145 RX4 yX4_distanceFrom wsX4_distanceFrom) := goodIn_app (goodIn_of _ (by decide +kernel)) ggX7_distance_X4_distanceFrom
theorem dX7_distance_0 : decode cX7_distance 0 = .ok (.aload_n 0, 1) := by decide +kernel
theorem dX7_distance_1 : decode cX7_distance 1 = .ok (.getfield 19, 3) := by decide +kernel
theorem dX7_distance_4 : decode cX7_distance 4 = .ok (.iload_n 1, 1) := by decide +kernel
theorem dX7_distance_5 : decode cX7_distance 5 = .ok (.invokevirtual 109, 3) := by decide +kernel
theorem dX7_distance_8 : decode cX7_distance 8 = .ok (.ifCond .ne 5, 3) := by decide +kernel
theorem dX7_distance_11 : decode cX7_distance 11 = .ok (.iconst (-1), 1) := by decide +kernel
theorem dX7_distance_12 : decode cX7_distance 12 = .ok (.ireturn, 1) := by decide +kernel
theorem dX7_distance_13 : decode cX7_distance 13 = .ok (.aload_n 0, 1) := by decide +kernel
theorem dX7_distance_14 : decode cX7_distance 14 = .ok (.getfield 10, 3) := by decide +kernel
theorem dX7_distance_17 : decode cX7_distance 17 = .ok (.invokevirtual 92, 3) := by decide +kernel
theorem dX7_distance_20 : decode cX7_distance 20 = .ok (.ifCond .ne 6, 3) := by decide +kernel
theorem dX7_distance_23 : decode cX7_distance 23 = .ok (.bipush (-2), 2) := by decide +kernel
theorem dX7_distance_25 : decode cX7_distance 25 = .ok (.ireturn, 1) := by decide +kernel
theorem dX7_distance_26 : decode cX7_distance 26 = .ok (.aload_n 0, 1) := by decide +kernel
theorem dX7_distance_27 : decode cX7_distance 27 = .ok (.getfield 33, 3) := by decide +kernel
theorem dX7_distance_30 : decode cX7_distance 30 = .ok (.aload_n 0, 1) := by decide +kernel
theorem dX7_distance_31 : decode cX7_distance 31 = .ok (.getfield 10, 3) := by decide +kernel
theorem dX7_distance_34 : decode cX7_distance 34 = .ok (.getfield 95, 3) := by decide +kernel
theorem dX7_distance_37 : decode cX7_distance 37 = .ok (.iconst 0, 1) := by decide +kernel
theorem dX7_distance_38 : decode cX7_distance 38 = .ok (.aload_n 0, 1) := by decide +kernel
theorem dX7_distance_39 : decode cX7_distance 39 = .ok (.getfield 19, 3) := by decide +kernel
theorem dX7_distance_42 : decode cX7_distance 42 = .ok (.iload_n 1, 1) := by decide +kernel
theorem dX7_distance_43 : decode cX7_distance 43 = .ok (.invokevirtual 145, 3) := by decide +kernel
theorem dX7_distance_46 : decode cX7_distance 46 = .ok (.ireturn, 1) := by decide +kernel
set_option maxRecDepth 20000 in
theorem ggX7_nearest_X7_measureDraft : GoodIn wsX7_nearest wsX7_measureDraft := goodIn_r _ [5, 6, 7, 8, 9, 10, 11, 12, 13, 14, 15, 16, 17, 18, 19, 20, 21, 22, 23, 24, 25, 26, 27, 28, 29, 30, 31, 32, 33, 34, 35, 36, 37, 38, 39, 40, 41, 42, 43, 44, 45, 46, 47, 48, 49, 50, 51, 52, 53, 54, 55, 56, 57, 58, 59, 60, 61, 62, 63, 64, 65, 66, 67, 68, 69, 70, 71, 72, 73, 74, 75, 76, 77, 78, 79, 80, 81, 82, 83, 84, 85, 86, 87, 88, 89, 90, 91, 92, 93, 94, 95, 96, 97, 98, 99, 100, 101, 102, 103, 104, 105, 106, 107, 108, 109, 110, 111, 112, 113, 114, 115, 116, 117, 118, 119, 120, 121, 122, 123, 124, 125, 126, 127, 128, 129, 130] (by decide +kernel) (by decide +kernel)
set_option maxRecDepth 20000 in
theorem gX7_nearest_X7_measureDraft : GoodIn wsX7_nearest (wsV RX7 149 RX7 yX7_measureDraft wsX7_measureDraft) := goodIn_app (goodIn_of _ (by decide +kernel)) ggX7_nearest_X7_measureDraft
theorem dX7_nearest_0 : decode cX7_nearest 0 = .ok (.aload_n 0, 1) := by decide +kernel
theorem dX7_nearest_1 : decode cX7_nearest 1 = .ok (.invokevirtual 149, 3) := by decide +kernel
theorem dX7_nearest_4 : decode cX7_nearest 4 = .ok (.ireturn, 1) := by decide +kernel
set_option maxRecDepth 20000 in
theorem ggX7_read_X7_measureDraft : GoodIn wsX7_read wsX7_measureDraft := goodIn_r _ [5, 6, 7, 8, 9, 10, 11, 12, 13, 14, 15, 16, 17, 18, 19, 20, 21, 22, 23, 24, 25, 26, 27, 28, 29, 30, 31, 32, 33, 34, 35, 36, 37, 38, 39, 40, 41, 42, 43, 44, 45, 46, 47, 48, 49, 50, 51, 52, 53, 54, 55, 56, 57, 58, 59, 60, 61, 62, 63, 64, 65, 66, 67, 68, 69, 70, 71, 72, 73, 74, 75, 76, 77, 78, 79, 80, 81, 82, 83, 84, 85, 86, 87, 88, 89, 90, 91, 92, 93, 94, 95, 96, 97, 98, 99, 100, 101, 102, 103, 104, 105, 106, 107, 121, 122, 123, 124, 125, 126, 127, 128, 129, 130, 131, 132, 133, 134, 135, 136, 137, 138, 139, 140, 141, 142, 143] (by decide +kernel) (by decide +kernel)
set_option maxRecDepth 20000 in
theorem gX7_read_X7_measureDraft : GoodIn wsX7_read (wsV RX7 149 RX7 yX7_measureDraft wsX7_measureDraft) := goodIn_app (goodIn_of _ (by decide +kernel)) ggX7_read_X7_measureDraft
set_option maxRecDepth 20000 in
theorem ggX7_read_X7_labelRead : GoodIn wsX7_read wsX7_labelRead := goodIn_r _ [111, 7, 112, 9, 113, 8, 114, 115, 116, 117, 118, 119, 120, 121, 122, 123, 124, 125, 126, 127, 128, 129, 130, 131, 132, 133, 134] (by decide +kernel) (by decide +kernel)
set_option maxRecDepth 20000 in
theorem gX7_read_X7_labelRead : GoodIn wsX7_read (wsV RX7 152 RX7 yX7_labelRead wsX7_labelRead) := goodIn_app (goodIn_of _ (by decide +kernel)) ggX7_read_X7_labelRead
theorem dX7_read_0 : decode cX7_read 0 = .ok (.aload_n 0, 1) := by decide +kernel
theorem dX7_read_1 : decode cX7_read 1 = .ok (.aload_n 0, 1) := by decide +kernel
theorem dX7_read_2 : decode cX7_read 2 = .ok (.invokevirtual 149, 3) := by decide +kernel
theorem dX7_read_5 : decode cX7_read 5 = .ok (.invokevirtual 152, 3) := by decide +kernel
theorem dX7_read_8 : decode cX7_read 8 = .ok (.ireturn, 1) := by decide +kernel
set_option maxRecDepth 20000 in
theorem ggX7_mark_X7_measureDraft : GoodIn wsX7_mark wsX7_measureDraft := goodIn_r _ [7, 2, 8, 9, 10, 11, 12, 13, 14, 15, 16, 17, 18, 19, 20, 21, 22, 23, 24, 25, 26, 27, 28, 29, 30, 31, 32, 33, 34, 35, 36, 37, 38, 39, 40, 41, 42, 43, 44, 45, 46, 47, 48, 49, 50, 51, 52, 53, 54, 55, 56, 57, 58, 59, 60, 61, 62, 63, 64, 65, 66, 67, 68, 69, 70, 71, 72, 73, 74, 75, 76, 77, 78, 79, 80, 81, 82, 83, 84, 85, 86, 87, 88, 89, 90, 91, 92, 93, 94, 95, 96, 97, 98, 99, 100, 101, 102, 103, 104, 105, 106, 107, 108, 133, 134, 135, 136, 137, 138, 139, 140, 141, 142, 143, 144, 145, 146, 147, 148, 149, 150, 151, 152, 153, 154, 155] (by decide +kernel) (by decide +kernel)
set_option maxRecDepth 20000 in
theorem gX7_mark_X7_measureDraft : GoodIn wsX7_mark (wsV RX7 149 RX7 yX7_measureDraft wsX7_measureDraft) := goodIn_app (goodIn_of _ (by decide +kernel)) ggX7_mark_X7_measureDraft
set_option maxRecDepth 20000 in
theorem ggX7_mark_X7_labelRead : GoodIn wsX7_mark wsX7_labelRead := goodIn_r _ [112, 8, 113, 10, 114, 9, 115, 116, 117, 118, 119, 120, 121, 133, 134, 135, 136, 137, 138, 139, 140, 141, 142, 143, 144, 145, 146] (by decide +kernel) (by decide +kernel)
set_option maxRecDepth 20000 in
theorem gX7_mark_X7_labelRead : GoodIn wsX7_mark (wsV RX7 152 RX7 yX7_labelRead wsX7_labelRead) := goodIn_app (goodIn_of _ (by decide +kernel)) ggX7_mark_X7_labelRead
set_option maxRecDepth 20000 in
theorem ggX7_mark_X3_add : GoodIn wsX7_mark wsX3_add := goodIn_r _ [126, 127, 128, 156, 157, 158, 159, 160] (by decide +kernel) (by decide +kernel)
set_option maxRecDepth 20000 in
theorem gX7_mark_X3_add : GoodIn wsX7_mark (wsV RX7 156 RX3 yX3_add wsX3_add) := goodIn_app (goodIn_of _ (by decide +kernel)) ggX7_mark_X3_add
set_option maxRecDepth 20000 in
theorem ggX7_mark_X2_empty : GoodIn wsX7_mark wsX2_empty := goodIn_r _ [132, 27, 147, 148, 149, 150, 151, 152] (by decide +kernel) (by decide +kernel)
set_option maxRecDepth 20000 in
theorem gX7_mark_X2_empty : GoodIn wsX7_mark (wsV RX7 73 RX2 yX2_empty wsX2_empty) := goodIn_app (goodIn_of _ (by decide +kernel)) ggX7_mark_X2_empty
theorem dX7_mark_0 : decode cX7_mark 0 = .ok (.aload_n 0, 1) := by decide +kernel
theorem dX7_mark_1 : decode cX7_mark 1 = .ok (.aload_n 0, 1) := by decide +kernel
theorem dX7_mark_2 : decode cX7_mark 2 = .ok (.invokevirtual 149, 3) := by decide +kernel
theorem dX7_mark_5 : decode cX7_mark 5 = .ok (.invokevirtual 152, 3) := by decide +kernel
theorem dX7_mark_8 : decode cX7_mark 8 = .ok (.istore_n 1, 1) := by decide +kernel
theorem dX7_mark_9 : decode cX7_mark 9 = .ok (.iload_n 1, 1) := by decide +kernel
theorem dX7_mark_10 : decode cX7_mark 10 = .ok (.ifCond .ge 5, 3) := by decide +kernel
theorem dX7_mark_13 : decode cX7_mark 13 = .ok (.iload_n 1, 1) := by decide +kernel
theorem dX7_mark_14 : decode cX7_mark 14 = .ok (.ireturn, 1) := by decide +kernel
theorem dX7_mark_15 : decode cX7_mark 15 = .ok (.aload_n 0, 1) := by decide +kernel
theorem dX7_mark_16 : decode cX7_mark 16 = .ok (.getfield 47, 3) := by decide +kernel
theorem dX7_mark_19 : decode cX7_mark 19 = .ok (.iload_n 1, 1) := by decide +kernel
theorem dX7_mark_20 : decode cX7_mark 20 = .ok (.invokevirtual 156, 3) := by decide +kernel
theorem dX7_mark_23 : decode cX7_mark 23 = .ok (.ifCond .ne 6, 3) := by decide +kernel
theorem dX7_mark_26 : decode cX7_mark 26 = .ok (.bipush (-3), 2) := by decide +kernel
theorem dX7_mark_28 : decode cX7_mark 28 = .ok (.ireturn, 1) := by decide +kernel
theorem dX7_mark_29 : decode cX7_mark 29 = .ok (.aload_n 0, 1) := by decide +kernel
theorem dX7_mark_30 : decode cX7_mark 30 = .ok (.getfield 10, 3) := by decide +kernel
theorem dX7_mark_33 : decode cX7_mark 33 = .ok (.invokevirtual 73, 3) := by decide +kernel
theorem dX7_mark_36 : decode cX7_mark 36 = .ok (.pop, 1) := by decide +kernel
theorem dX7_mark_37 : decode cX7_mark 37 = .ok (.iload_n 1, 1) := by decide +kernel
theorem dX7_mark_38 : decode cX7_mark 38 = .ok (.ireturn, 1) := by decide +kernel
set_option maxRecDepth 20000 in
theorem ggX7_confused_X7_isWithin : GoodIn wsX7_confused wsX7_isWithin := goodIn_r _ [8] (by decide +kernel) (by decide +kernel)
set_option maxRecDepth 20000 in
theorem gX7_confused_X7_isWithin : GoodIn wsX7_confused (va_wsS RX7 80 yX7_isWithin wsX7_isWithin) := goodIn_app (goodIn_of _ (by decide +kernel)) ggX7_confused_X7_isWithin
set_option maxRecDepth 20000 in
theorem ggX7_confused_X7_isConfused : GoodIn wsX7_confused wsX7_isConfused := goodIn_r _ [12, 2, 3, 4, 13, 14, 15, 16, 17, 18, 19, 20, 21, 22, 23, 24, 25, 26, 27, 28, 29, 30, 31, 32, 33, 34, 35, 36, 37, 38, 39, 40, 41, 42, 43, 44, 45, 46, 47, 48, 49, 50, 51, 52, 53, 54, 55, 56, 57, 58, 59, 60, 61, 62, 63, 64, 65, 66, 67, 68, 69, 70, 71, 72, 73, 74, 75, 76, 77, 78, 79, 80] (by decide +kernel) (by decide +kernel)
set_option maxRecDepth 20000 in
theorem gX7_confused_X7_isConfused : GoodIn wsX7_confused (wsV RX7 158 RX7 yX7_isConfused wsX7_isConfused) := goodIn_app (goodIn_of _ (by decide +kernel)) ggX7_confused_X7_isConfused
theorem dX7_confused_0 : decode cX7_confused 0 = .ok (.iload_n 1, 1) := by decide +kernel
theorem dX7_confused_1 : decode cX7_confused 1 = .ok (.bipush 9, 2) := by decide +kernel
theorem dX7_confused_3 : decode cX7_confused 3 = .ok (.invokestatic 80, 3) := by decide +kernel
theorem dX7_confused_6 : decode cX7_confused 6 = .ok (.ifCond .eq 12, 3) := by decide +kernel
theorem dX7_confused_9 : decode cX7_confused 9 = .ok (.iload_n 2, 1) := by decide +kernel
theorem dX7_confused_10 : decode cX7_confused 10 = .ok (.ldc 144, 2) := by decide +kernel
theorem dX7_confused_12 : decode cX7_confused 12 = .ok (.invokestatic 80, 3) := by decide +kernel
theorem dX7_confused_15 : decode cX7_confused 15 = .ok (.ifCond .ne 5, 3) := by decide +kernel
theorem dX7_confused_18 : decode cX7_confused 18 = .ok (.iconst (-1), 1) := by decide +kernel
theorem dX7_confused_19 : decode cX7_confused 19 = .ok (.ireturn, 1) := by decide +kernel
theorem dX7_confused_20 : decode cX7_confused 20 = .ok (.iconst 0, 1) := by decide +kernel
theorem dX7_confused_21 : decode cX7_confused 21 = .ok (.istore_n 3, 1) := by decide +kernel
theorem dX7_confused_22 : decode cX7_confused 22 = .ok (.iconst 0, 1) := by decide +kernel
theorem dX7_confused_23 : decode cX7_confused 23 = .ok (.istore 4, 2) := by decide +kernel
theorem dX7_confused_25 : decode cX7_confused 25 = .ok (.iload 4, 2) := by decide +kernel
theorem dX7_confused_27 : decode cX7_confused 27 = .ok (.aload_n 0, 1) := by decide +kernel
theorem dX7_confused_28 : decode cX7_confused 28 = .ok (.getfield 19, 3) := by decide +kernel
theorem dX7_confused_31 : decode cX7_confused 31 = .ok (.getfield 98, 3) := by decide +kernel
theorem dX7_confused_34 : decode cX7_confused 34 = .ok (.if_icmp .ge 36, 3) := by decide +kernel
theorem dX7_confused_37 : decode cX7_confused 37 = .ok (.aload_n 0, 1) := by decide +kernel
theorem dX7_confused_38 : decode cX7_confused 38 = .ok (.getfield 19, 3) := by decide +kernel
theorem dX7_confused_41 : decode cX7_confused 41 = .ok (.getfield 113, 3) := by decide +kernel
theorem dX7_confused_44 : decode cX7_confused 44 = .ok (.iload 4, 2) := by decide +kernel
theorem dX7_confused_46 : decode cX7_confused 46 = .ok (.iaload, 1) := by decide +kernel
theorem dX7_confused_47 : decode cX7_confused 47 = .ok (.iload_n 1, 1) := by decide +kernel
theorem dX7_confused_48 : decode cX7_confused 48 = .ok (.if_icmp .ne 16, 3) := by decide +kernel
theorem dX7_confused_51 : decode cX7_confused 51 = .ok (.aload_n 0, 1) := by decide +kernel
theorem dX7_confused_52 : decode cX7_confused 52 = .ok (.iload 4, 2) := by decide +kernel
theorem dX7_confused_54 : decode cX7_confused 54 = .ok (.iload_n 2, 1) := by decide +kernel
theorem dX7_confused_55 : decode cX7_confused 55 = .ok (.invokevirtual 158, 3) := by decide +kernel
theorem dX7_confused_58 : decode cX7_confused 58 = .ok (.ifCond .eq 6, 3) := by decide +kernel
theorem dX7_confused_61 : decode cX7_confused 61 = .ok (.iinc 3 1, 3) := by decide +kernel
theorem dX7_confused_64 : decode cX7_confused 64 = .ok (.iinc 4 1, 3) := by decide +kernel
theorem dX7_confused_67 : decode cX7_confused 67 = .ok (.goto (-42), 3) := by decide +kernel
theorem dX7_confused_70 : decode cX7_confused 70 = .ok (.iload_n 3, 1) := by decide +kernel
theorem dX7_confused_71 : decode cX7_confused 71 = .ok (.ireturn, 1) := by decide +kernel
set_option maxRecDepth 20000 in
theorem ggX7_between_X6_has : GoodIn wsX7_between wsX6_has := goodIn_r _ [8, 9, 69, 70, 71, 72] (by decide +kernel) (by decide +kernel)
set_option maxRecDepth 20000 in
theorem gX7_between_X6_has : GoodIn wsX7_between (wsV RX7 109 RX6 yX6_has wsX6_has) := goodIn_app (goodIn_of _ (by decide +kernel)) ggX7_between_X6_has
set_option maxRecDepth 20000 in
theorem ggX7_between_X4_distanceFrom : GoodIn wsX7_between wsX4_distanceFrom := goodIn_r _ [14, 15, 16, 17, 18, 19, 20, 21, 22, 23, 24, 25, 26, 27, 28, 13, 29, 30, 31, 32, 33, 34, 35, 36, 37, 38, 39, 40, 41, 42, 43, 44, 45, 46, 47, 48, 49, 50, 51, 52, 53, 54, 55, 56, 57, 58, 73, 74, 75, 69, 70, 71, 72] (by decide +kernel) (by decide +kernel)
set_option maxRecDepth 20000 in
theorem gX7_between_X4_distanceFrom : GoodIn wsX7_between (wsV RX7 145 RX4 yX4_distanceFrom wsX4_distanceFrom) := goodIn_app (goodIn_of _ (by decide +kernel)) ggX7_between_X4_distanceFrom
theorem dX7_between_0 : decode cX7_between 0 = .ok (.aload_n 0, 1) := by decide +kernel
theorem dX7_between_1 : decode cX7_between 1 = .ok (.getfield 19, 3) := by decide +kernel
theorem dX7_between_4 : decode cX7_between 4 = .ok (.iload_n 1, 1) := by decide +kernel
theorem dX7_between_5 : decode cX7_between 5 = .ok (.invokevirtual 109, 3) := by decide +kernel
theorem dX7_between_8 : decode cX7_between 8 = .ok (.ifCond .eq 14, 3) := by decide +kernel
theorem dX7_between_11 : decode cX7_between 11 = .ok (.aload_n 0, 1) := by decide +kernel
theorem dX7_between_12 : decode cX7_between 12 = .ok (.getfield 19, 3) := by decide +kernel
theorem dX7_between_15 : decode cX7_between 15 = .ok (.iload_n 2, 1) := by decide +kernel
theorem dX7_between_16 : decode cX7_between 16 = .ok (.invokevirtual 109, 3) := by decide +kernel
theorem dX7_between_19 : decode cX7_between 19 = .ok (.ifCond .ne 5, 3) := by decide +kernel
theorem dX7_between_22 : decode cX7_between 22 = .ok (.iconst (-1), 1) := by decide +kernel
theorem dX7_between_23 : decode cX7_between 23 = .ok (.ireturn, 1) := by decide +kernel
theorem dX7_between_24 : decode cX7_between 24 = .ok (.aload_n 0, 1) := by decide +kernel
theorem dX7_between_25 : decode cX7_between 25 = .ok (.getfield 33, 3) := by decide +kernel
theorem dX7_between_28 : decode cX7_between 28 = .ok (.aload_n 0, 1) := by decide +kernel
theorem dX7_between_29 : decode cX7_between 29 = .ok (.getfield 19, 3) := by decide +kernel
theorem dX7_between_32 : decode cX7_between 32 = .ok (.getfield 118, 3) := by decide +kernel
theorem dX7_between_35 : decode cX7_between 35 = .ok (.iload_n 1, 1) := by decide +kernel
theorem dX7_between_36 : decode cX7_between 36 = .ok (.bipush 16, 2) := by decide +kernel
theorem dX7_between_38 : decode cX7_between 38 = .ok (.imul, 1) := by decide +kernel
theorem dX7_between_39 : decode cX7_between 39 = .ok (.aload_n 0, 1) := by decide +kernel
theorem dX7_between_40 : decode cX7_between 40 = .ok (.getfield 19, 3) := by decide +kernel
theorem dX7_between_43 : decode cX7_between 43 = .ok (.iload_n 2, 1) := by decide +kernel
theorem dX7_between_44 : decode cX7_between 44 = .ok (.invokevirtual 145, 3) := by decide +kernel
theorem dX7_between_47 : decode cX7_between 47 = .ok (.ireturn, 1) := by decide +kernel
set_option maxRecDepth 20000 in
theorem ggX7_command_X7_isWithin : GoodIn wsX7_command wsX7_isWithin := goodIn_r _ [6] (by decide +kernel) (by decide +kernel)
set_option maxRecDepth 20000 in
theorem gX7_command_X7_isWithin : GoodIn wsX7_command (va_wsS RX7 80 yX7_isWithin wsX7_isWithin) := goodIn_app (goodIn_of _ (by decide +kernel)) ggX7_command_X7_isWithin
set_option maxRecDepth 20000 in
theorem ggX7_command_X1_open : GoodIn wsX7_command wsX1_open := goodIn_r _ [11, 12, 13, 14, 15, 31, 32, 33, 34, 35] (by decide +kernel) (by decide +kernel)
set_option maxRecDepth 20000 in
theorem gX7_command_X1_open : GoodIn wsX7_command (wsV RX7 162 RX1 yX1_open wsX1_open) := goodIn_app (goodIn_of _ (by decide +kernel)) ggX7_command_X1_open
set_option maxRecDepth 20000 in
theorem ggX7_command_X1_put : GoodIn wsX7_command wsX1_put := goodIn_r _ [19, 20, 31, 32, 33, 34, 35] (by decide +kernel) (by decide +kernel)
set_option maxRecDepth 20000 in
theorem gX7_command_X1_put : GoodIn wsX7_command (wsV RX7 166 RX1 yX1_put wsX1_put) := goodIn_app (goodIn_of _ (by decide +kernel)) ggX7_command_X1_put
theorem dX7_command_0 : decode cX7_command 0 = .ok (.iload_n 1, 1) := by decide +kernel
theorem dX7_command_1 : decode cX7_command 1 = .ok (.iconst 3, 1) := by decide +kernel
theorem dX7_command_2 : decode cX7_command 2 = .ok (.invokestatic 80, 3) := by decide +kernel
theorem dX7_command_5 : decode cX7_command 5 = .ok (.ifCond .eq 12, 3) := by decide +kernel
theorem dX7_command_8 : decode cX7_command 8 = .ok (.iload_n 2, 1) := by decide +kernel
theorem dX7_command_9 : decode cX7_command 9 = .ok (.bipush 9, 2) := by decide +kernel
theorem dX7_command_11 : decode cX7_command 11 = .ok (.invokestatic 80, 3) := by decide +kernel
theorem dX7_command_14 : decode cX7_command 14 = .ok (.ifCond .ne 5, 3) := by decide +kernel
theorem dX7_command_17 : decode cX7_command 17 = .ok (.iconst (-1), 1) := by decide +kernel
theorem dX7_command_18 : decode cX7_command 18 = .ok (.ireturn, 1) := by decide +kernel
theorem dX7_command_19 : decode cX7_command 19 = .ok (.iload_n 3, 1) := by decide +kernel
theorem dX7_command_20 : decode cX7_command 20 = .ok (.iconst 1, 1) := by decide +kernel
theorem dX7_command_21 : decode cX7_command 21 = .ok (.if_icmp .lt 75, 3) := by decide +kernel
theorem dX7_command_24 : decode cX7_command 24 = .ok (.iload_n 3, 1) := by decide +kernel
theorem dX7_command_25 : decode cX7_command 25 = .ok (.iconst 4, 1) := by decide +kernel
theorem dX7_command_26 : decode cX7_command 26 = .ok (.if_icmp .gt 70, 3) := by decide +kernel
theorem dX7_command_29 : decode cX7_command 29 = .ok (.iload 4, 2) := by decide +kernel
theorem dX7_command_31 : decode cX7_command 31 = .ok (.bipush 9, 2) := by decide +kernel
theorem dX7_command_33 : decode cX7_command 33 = .ok (.invokestatic 80, 3) := by decide +kernel
theorem dX7_command_36 : decode cX7_command 36 = .ok (.ifCond .eq 60, 3) := by decide +kernel
theorem dX7_command_39 : decode cX7_command 39 = .ok (.iload 5, 2) := by decide +kernel
theorem dX7_command_41 : decode cX7_command 41 = .ok (.iload_n 3, 1) := by decide +kernel
theorem dX7_command_42 : decode cX7_command 42 = .ok (.iconst 1, 1) := by decide +kernel
theorem dX7_command_43 : decode cX7_command 43 = .ok (.if_icmp .le 8, 3) := by decide +kernel
theorem dX7_command_46 : decode cX7_command 46 = .ok (.bipush 9, 2) := by decide +kernel
theorem dX7_command_48 : decode cX7_command 48 = .ok (.goto 4, 3) := by decide +kernel
theorem dX7_command_51 : decode cX7_command 51 = .ok (.iconst 0, 1) := by decide +kernel
theorem dX7_command_52 : decode cX7_command 52 = .ok (.invokestatic 80, 3) := by decide +kernel
theorem dX7_command_55 : decode cX7_command 55 = .ok (.ifCond .eq 41, 3) := by decide +kernel
theorem dX7_command_58 : decode cX7_command 58 = .ok (.iload 6, 2) := by decide +kernel
theorem dX7_command_60 : decode cX7_command 60 = .ok (.iload_n 3, 1) := by decide +kernel
theorem dX7_command_61 : decode cX7_command 61 = .ok (.iconst 2, 1) := by decide +kernel
theorem dX7_command_62 : decode cX7_command 62 = .ok (.if_icmp .le 8, 3) := by decide +kernel
theorem dX7_command_65 : decode cX7_command 65 = .ok (.bipush 9, 2) := by decide +kernel
theorem dX7_command_67 : decode cX7_command 67 = .ok (.goto 4, 3) := by decide +kernel
theorem dX7_command_70 : decode cX7_command 70 = .ok (.iconst 0, 1) := by decide +kernel
theorem dX7_command_71 : decode cX7_command 71 = .ok (.invokestatic 80, 3) := by decide +kernel
theorem dX7_command_74 : decode cX7_command 74 = .ok (.ifCond .eq 22, 3) := by decide +kernel
theorem dX7_command_77 : decode cX7_command 77 = .ok (.iload 7, 2) := by decide +kernel
theorem dX7_command_79 : decode cX7_command 79 = .ok (.iload_n 3, 1) := by decide +kernel
theorem dX7_command_80 : decode cX7_command 80 = .ok (.iconst 3, 1) := by decide +kernel
theorem dX7_command_81 : decode cX7_command 81 = .ok (.if_icmp .le 8, 3) := by decide +kernel
theorem dX7_command_84 : decode cX7_command 84 = .ok (.bipush 9, 2) := by decide +kernel
theorem dX7_command_86 : decode cX7_command 86 = .ok (.goto 4, 3) := by decide +kernel
theorem dX7_command_89 : decode cX7_command 89 = .ok (.iconst 0, 1) := by decide +kernel
theorem dX7_command_90 : decode cX7_command 90 = .ok (.invokestatic 80, 3) := by decide +kernel
theorem dX7_command_93 : decode cX7_command 93 = .ok (.ifCond .ne 5, 3) := by decide +kernel
theorem dX7_command_96 : decode cX7_command 96 = .ok (.iconst (-1), 1) := by decide +kernel
theorem dX7_command_97 : decode cX7_command 97 = .ok (.ireturn, 1) := by decide +kernel
theorem dX7_command_98 : decode cX7_command 98 = .ok (.aload_n 0, 1) := by decide +kernel
theorem dX7_command_99 : decode cX7_command 99 = .ok (.getfield 40, 3) := by decide +kernel
theorem dX7_command_102 : decode cX7_command 102 = .ok (.getfield 161, 3) := by decide +kernel
theorem dX7_command_105 : decode cX7_command 105 = .ok (.bipush 10, 2) := by decide +kernel
theorem dX7_command_107 : decode cX7_command 107 = .ok (.if_icmp .lt 6, 3) := by decide +kernel
theorem dX7_command_110 : decode cX7_command 110 = .ok (.bipush (-3), 2) := by decide +kernel
theorem dX7_command_112 : decode cX7_command 112 = .ok (.ireturn, 1) := by decide +kernel
theorem dX7_command_113 : decode cX7_command 113 = .ok (.aload_n 0, 1) := by decide +kernel
theorem dX7_command_114 : decode cX7_command 114 = .ok (.getfield 40, 3) := by decide +kernel
theorem dX7_command_117 : decode cX7_command 117 = .ok (.iload_n 1, 1) := by decide +kernel
theorem dX7_command_118 : decode cX7_command 118 = .ok (.iload_n 2, 1) := by decide +kernel
theorem dX7_command_119 : decode cX7_command 119 = .ok (.iload_n 3, 1) := by decide +kernel
theorem dX7_command_120 : decode cX7_command 120 = .ok (.invokevirtual 162, 3) := by decide +kernel
theorem dX7_command_123 : decode cX7_command 123 = .ok (.istore 8, 2) := by decide +kernel
theorem dX7_command_125 : decode cX7_command 125 = .ok (.aload_n 0, 1) := by decide +kernel
theorem dX7_command_126 : decode cX7_command 126 = .ok (.getfield 40, 3) := by decide +kernel
theorem dX7_command_129 : decode cX7_command 129 = .ok (.iload 8, 2) := by decide +kernel
theorem dX7_command_131 : decode cX7_command 131 = .ok (.iconst 0, 1) := by decide +kernel
theorem dX7_command_132 : decode cX7_command 132 = .ok (.iload 4, 2) := by decide +kernel
theorem dX7_command_134 : decode cX7_command 134 = .ok (.invokevirtual 166, 3) := by decide +kernel
theorem dX7_command_137 : decode cX7_command 137 = .ok (.aload_n 0, 1) := by decide +kernel
theorem dX7_command_138 : decode cX7_command 138 = .ok (.getfield 40, 3) := by decide +kernel
theorem dX7_command_141 : decode cX7_command 141 = .ok (.iload 8, 2) := by decide +kernel
theorem dX7_command_143 : decode cX7_command 143 = .ok (.iconst 1, 1) := by decide +kernel
theorem dX7_command_144 : decode cX7_command 144 = .ok (.iload 5, 2) := by decide +kernel
theorem dX7_command_146 : decode cX7_command 146 = .ok (.invokevirtual 166, 3) := by decide +kernel
theorem dX7_command_149 : decode cX7_command 149 = .ok (.aload_n 0, 1) := by decide +kernel
theorem dX7_command_150 : decode cX7_command 150 = .ok (.getfield 40, 3) := by decide +kernel
theorem dX7_command_153 : decode cX7_command 153 = .ok (.iload 8, 2) := by decide +kernel
theorem dX7_command_155 : decode cX7_command 155 = .ok (.iconst 2, 1) := by decide +kernel
theorem dX7_command_156 : decode cX7_command 156 = .ok (.iload 6, 2) := by decide +kernel
theorem dX7_command_158 : decode cX7_command 158 = .ok (.invokevirtual 166, 3) := by decide +kernel
theorem dX7_command_161 : decode cX7_command 161 = .ok (.aload_n 0, 1) := by decide +kernel
theorem dX7_command_162 : decode cX7_command 162 = .ok (.getfield 40, 3) := by decide +kernel
theorem dX7_command_165 : decode cX7_command 165 = .ok (.iload 8, 2) := by decide +kernel
theorem dX7_command_167 : decode cX7_command 167 = .ok (.iconst 3, 1) := by decide +kernel
theorem dX7_command_168 : decode cX7_command 168 = .ok (.iload 7, 2) := by decide +kernel
theorem dX7_command_170 : decode cX7_command 170 = .ok (.invokevirtual 166, 3) := by decide +kernel
theorem dX7_command_173 : decode cX7_command 173 = .ok (.iload 8, 2) := by decide +kernel
theorem dX7_command_175 : decode cX7_command 175 = .ok (.ireturn, 1) := by decide +kernel
set_option maxRecDepth 20000 in
theorem ggX7_parse_X7_isWithin : GoodIn wsX7_parse wsX7_isWithin := goodIn_r _ [7] (by decide +kernel) (by decide +kernel)
set_option maxRecDepth 20000 in
theorem gX7_parse_X7_isWithin : GoodIn wsX7_parse (va_wsS RX7 80 yX7_isWithin wsX7_isWithin) := goodIn_app (goodIn_of _ (by decide +kernel)) ggX7_parse_X7_isWithin
set_option maxRecDepth 20000 in
theorem ggX7_parse_X3_findCommands : GoodIn wsX7_parse wsX3_findCommands := goodIn_r _ [12, 13, 14, 15, 16, 17, 18, 19, 20, 21, 22, 23, 24, 11, 25, 26, 27, 28, 29, 30, 31, 32, 33, 34, 35, 36, 37, 38, 39, 40, 41, 42, 43, 44, 45, 46, 47, 48, 59, 60, 61, 62, 63, 64, 65, 66, 67, 68] (by decide +kernel) (by decide +kernel)
set_option maxRecDepth 20000 in
theorem gX7_parse_X3_findCommands : GoodIn wsX7_parse (wsV RX7 170 RX3 yX3_findCommands wsX3_findCommands) := goodIn_app (goodIn_of _ (by decide +kernel)) ggX7_parse_X3_findCommands
theorem dX7_parse_0 : decode cX7_parse 0 = .ok (.iload_n 1, 1) := by decide +kernel
theorem dX7_parse_1 : decode cX7_parse 1 = .ok (.iconst 3, 1) := by decide +kernel
theorem dX7_parse_2 : decode cX7_parse 2 = .ok (.invokestatic 80, 3) := by decide +kernel
theorem dX7_parse_5 : decode cX7_parse 5 = .ok (.ifCond .ne 5, 3) := by decide +kernel
theorem dX7_parse_8 : decode cX7_parse 8 = .ok (.iconst (-1), 1) := by decide +kernel
theorem dX7_parse_9 : decode cX7_parse 9 = .ok (.ireturn, 1) := by decide +kernel
theorem dX7_parse_10 : decode cX7_parse 10 = .ok (.aload_n 0, 1) := by decide +kernel
theorem dX7_parse_11 : decode cX7_parse 11 = .ok (.getfield 47, 3) := by decide +kernel
theorem dX7_parse_14 : decode cX7_parse 14 = .ok (.aload_n 0, 1) := by decide +kernel
theorem dX7_parse_15 : decode cX7_parse 15 = .ok (.getfield 40, 3) := by decide +kernel
theorem dX7_parse_18 : decode cX7_parse 18 = .ok (.iload_n 1, 1) := by decide +kernel
theorem dX7_parse_19 : decode cX7_parse 19 = .ok (.invokevirtual 170, 3) := by decide +kernel
theorem dX7_parse_22 : decode cX7_parse 22 = .ok (.aload_n 0, 1) := by decide +kernel
theorem dX7_parse_23 : decode cX7_parse 23 = .ok (.getfield 47, 3) := by decide +kernel
theorem dX7_parse_26 : decode cX7_parse 26 = .ok (.getfield 174, 3) := by decide +kernel
theorem dX7_parse_29 : decode cX7_parse 29 = .ok (.ireturn, 1) := by decide +kernel
set_option maxRecDepth 20000 in
theorem ggX7_found_X7_isWithin : GoodIn wsX7_found wsX7_isWithin := goodIn_r _ [9] (by decide +kernel) (by decide +kernel)
set_option maxRecDepth 20000 in
theorem gX7_found_X7_isWithin : GoodIn wsX7_found (va_wsS RX7 80 yX7_isWithin wsX7_isWithin) := goodIn_app (goodIn_of _ (by decide +kernel)) ggX7_found_X7_isWithin
set_option maxRecDepth 20000 in
theorem ggX7_found_X3_findCommands : GoodIn wsX7_found wsX3_findCommands := goodIn_r _ [14, 15, 16, 17, 18, 19, 20, 21, 22, 23, 24, 25, 26, 13, 27, 28, 29, 30, 31, 32, 33, 34, 35, 36, 37, 38, 39, 40, 41, 42, 43, 44, 45, 46, 47, 48, 49, 50, 61, 62, 63, 64, 65, 66, 67, 68, 69, 70] (by decide +kernel) (by decide +kernel)
set_option maxRecDepth 20000 in
theorem gX7_found_X3_findCommands : GoodIn wsX7_found (wsV RX7 170 RX3 yX3_findCommands wsX3_findCommands) := goodIn_app (goodIn_of _ (by decide +kernel)) ggX7_found_X3_findCommands
theorem dX7_found_0 : decode cX7_found 0 = .ok (.iload_n 1, 1) := by decide +kernel
theorem dX7_found_1 : decode cX7_found 1 = .ok (.iconst 3, 1) := by decide +kernel
theorem dX7_found_2 : decode cX7_found 2 = .ok (.invokestatic 80, 3) := by decide +kernel
theorem dX7_found_5 : decode cX7_found 5 = .ok (.ifCond .eq 15, 3) := by decide +kernel
theorem dX7_found_8 : decode cX7_found 8 = .ok (.iload_n 2, 1) := by decide +kernel
theorem dX7_found_9 : decode cX7_found 9 = .ok (.ifCond .lt 11, 3) := by decide +kernel
theorem dX7_found_12 : decode cX7_found 12 = .ok (.iload_n 3, 1) := by decide +kernel
theorem dX7_found_13 : decode cX7_found 13 = .ok (.iconst 1, 1) := by decide +kernel
theorem dX7_found_14 : decode cX7_found 14 = .ok (.invokestatic 80, 3) := by decide +kernel
theorem dX7_found_17 : decode cX7_found 17 = .ok (.ifCond .ne 5, 3) := by decide +kernel
theorem dX7_found_20 : decode cX7_found 20 = .ok (.iconst (-1), 1) := by decide +kernel
theorem dX7_found_21 : decode cX7_found 21 = .ok (.ireturn, 1) := by decide +kernel
theorem dX7_found_22 : decode cX7_found 22 = .ok (.aload_n 0, 1) := by decide +kernel
theorem dX7_found_23 : decode cX7_found 23 = .ok (.getfield 47, 3) := by decide +kernel
theorem dX7_found_26 : decode cX7_found 26 = .ok (.aload_n 0, 1) := by decide +kernel
theorem dX7_found_27 : decode cX7_found 27 = .ok (.getfield 40, 3) := by decide +kernel
theorem dX7_found_30 : decode cX7_found 30 = .ok (.iload_n 1, 1) := by decide +kernel
theorem dX7_found_31 : decode cX7_found 31 = .ok (.invokevirtual 170, 3) := by decide +kernel
theorem dX7_found_34 : decode cX7_found 34 = .ok (.iload_n 2, 1) := by decide +kernel
theorem dX7_found_35 : decode cX7_found 35 = .ok (.aload_n 0, 1) := by decide +kernel
theorem dX7_found_36 : decode cX7_found 36 = .ok (.getfield 47, 3) := by decide +kernel
theorem dX7_found_39 : decode cX7_found 39 = .ok (.getfield 174, 3) := by decide +kernel
theorem dX7_found_42 : decode cX7_found 42 = .ok (.if_icmp .lt 6, 3) := by decide +kernel
theorem dX7_found_45 : decode cX7_found 45 = .ok (.bipush (-4), 2) := by decide +kernel
theorem dX7_found_47 : decode cX7_found 47 = .ok (.ireturn, 1) := by decide +kernel
theorem dX7_found_48 : decode cX7_found 48 = .ok (.iload_n 3, 1) := by decide +kernel
theorem dX7_found_49 : decode cX7_found 49 = .ok (.ifCond .ne 15, 3) := by decide +kernel
theorem dX7_found_52 : decode cX7_found 52 = .ok (.aload_n 0, 1) := by decide +kernel
theorem dX7_found_53 : decode cX7_found 53 = .ok (.getfield 47, 3) := by decide +kernel
theorem dX7_found_56 : decode cX7_found 56 = .ok (.getfield 177, 3) := by decide +kernel
theorem dX7_found_59 : decode cX7_found 59 = .ok (.iload_n 2, 1) := by decide +kernel
theorem dX7_found_60 : decode cX7_found 60 = .ok (.iaload, 1) := by decide +kernel
theorem dX7_found_61 : decode cX7_found 61 = .ok (.goto 12, 3) := by decide +kernel
theorem dX7_found_64 : decode cX7_found 64 = .ok (.aload_n 0, 1) := by decide +kernel
theorem dX7_found_65 : decode cX7_found 65 = .ok (.getfield 47, 3) := by decide +kernel
theorem dX7_found_68 : decode cX7_found 68 = .ok (.getfield 180, 3) := by decide +kernel
theorem dX7_found_71 : decode cX7_found 71 = .ok (.iload_n 2, 1) := by decide +kernel
theorem dX7_found_72 : decode cX7_found 72 = .ok (.iaload, 1) := by decide +kernel
theorem dX7_found_73 : decode cX7_found 73 = .ok (.ireturn, 1) := by decide +kernel
set_option maxRecDepth 20000 in
theorem ggX7_hidden_X1_isHidden : GoodIn wsX7_hidden wsX1_isHidden := goodIn_r _ [7, 8, 9, 10, 11, 12, 6, 13, 14, 15, 16, 17, 18, 19, 20, 21, 22, 23, 24, 25, 26, 27, 28, 39, 40, 41, 42, 43] (by decide +kernel) (by decide +kernel)
set_option maxRecDepth 20000 in
theorem gX7_hidden_X1_isHidden : GoodIn wsX7_hidden (wsV RX7 183 RX1 yX1_isHidden wsX1_isHidden) := goodIn_app (goodIn_of _ (by decide +kernel)) ggX7_hidden_X1_isHidden
theorem dX7_hidden_0 : decode cX7_hidden 0 = .ok (.iconst 0, 1) := by decide +kernel
theorem dX7_hidden_1 : decode cX7_hidden 1 = .ok (.istore_n 1, 1) := by decide +kernel
theorem dX7_hidden_2 : decode cX7_hidden 2 = .ok (.iload_n 1, 1) := by decide +kernel
theorem dX7_hidden_3 : decode cX7_hidden 3 = .ok (.aload_n 0, 1) := by decide +kernel
theorem dX7_hidden_4 : decode cX7_hidden 4 = .ok (.getfield 40, 3) := by decide +kernel
theorem dX7_hidden_7 : decode cX7_hidden 7 = .ok (.getfield 161, 3) := by decide +kernel
theorem dX7_hidden_10 : decode cX7_hidden 10 = .ok (.if_icmp .ge 22, 3) := by decide +kernel
theorem dX7_hidden_13 : decode cX7_hidden 13 = .ok (.aload_n 0, 1) := by decide +kernel
theorem dX7_hidden_14 : decode cX7_hidden 14 = .ok (.getfield 40, 3) := by decide +kernel
theorem dX7_hidden_17 : decode cX7_hidden 17 = .ok (.iload_n 1, 1) := by decide +kernel
theorem dX7_hidden_18 : decode cX7_hidden 18 = .ok (.invokevirtual 183, 3) := by decide +kernel
theorem dX7_hidden_21 : decode cX7_hidden 21 = .ok (.ifCond .eq 5, 3) := by decide +kernel
theorem dX7_hidden_24 : decode cX7_hidden 24 = .ok (.iload_n 1, 1) := by decide +kernel
theorem dX7_hidden_25 : decode cX7_hidden 25 = .ok (.ireturn, 1) := by decide +kernel
theorem dX7_hidden_26 : decode cX7_hidden 26 = .ok (.iinc 1 1, 3) := by decide +kernel
theorem dX7_hidden_29 : decode cX7_hidden 29 = .ok (.goto (-27), 3) := by decide +kernel
theorem dX7_hidden_32 : decode cX7_hidden 32 = .ok (.bipush (-4), 2) := by decide +kernel
theorem dX7_hidden_34 : decode cX7_hidden 34 = .ok (.ireturn, 1) := by decide +kernel
theorem dX7_line_0 : decode cX7_line 0 = .ok (.iload_n 1, 1) := by decide +kernel
theorem dX7_line_1 : decode cX7_line 1 = .ok (.ifCond .lt 14, 3) := by decide +kernel
theorem dX7_line_4 : decode cX7_line 4 = .ok (.iload_n 1, 1) := by decide +kernel
theorem dX7_line_5 : decode cX7_line 5 = .ok (.aload_n 0, 1) := by decide +kernel
theorem dX7_line_6 : decode cX7_line 6 = .ok (.getfield 47, 3) := by decide +kernel
theorem dX7_line_9 : decode cX7_line 9 = .ok (.getfield 186, 3) := by decide +kernel
theorem dX7_line_12 : decode cX7_line 12 = .ok (.if_icmp .lt 5, 3) := by decide +kernel
theorem dX7_line_15 : decode cX7_line 15 = .ok (.iconst (-1), 1) := by decide +kernel
theorem dX7_line_16 : decode cX7_line 16 = .ok (.ireturn, 1) := by decide +kernel
theorem dX7_line_17 : decode cX7_line 17 = .ok (.aload_n 0, 1) := by decide +kernel
theorem dX7_line_18 : decode cX7_line 18 = .ok (.getfield 47, 3) := by decide +kernel
theorem dX7_line_21 : decode cX7_line 21 = .ok (.getfield 187, 3) := by decide +kernel
theorem dX7_line_24 : decode cX7_line 24 = .ok (.iload_n 1, 1) := by decide +kernel
theorem dX7_line_25 : decode cX7_line 25 = .ok (.iaload, 1) := by decide +kernel
theorem dX7_line_26 : decode cX7_line 26 = .ok (.ireturn, 1) := by decide +kernel
set_option maxRecDepth 20000 in
theorem ggX7_wipe_X3_empty : GoodIn wsX7_wipe wsX3_empty := goodIn_r _ [6, 7, 18, 19, 20, 21, 22] (by decide +kernel) (by decide +kernel)
set_option maxRecDepth 20000 in
theorem gX7_wipe_X3_empty : GoodIn wsX7_wipe (wsV RX7 190 RX3 yX3_empty wsX3_empty) := goodIn_app (goodIn_of _ (by decide +kernel)) ggX7_wipe_X3_empty
theorem dX7_wipe_0 : decode cX7_wipe 0 = .ok (.aload_n 0, 1) := by decide +kernel
theorem dX7_wipe_1 : decode cX7_wipe 1 = .ok (.getfield 47, 3) := by decide +kernel
theorem dX7_wipe_4 : decode cX7_wipe 4 = .ok (.invokevirtual 190, 3) := by decide +kernel
theorem dX7_wipe_7 : decode cX7_wipe 7 = .ok (.ireturn, 1) := by decide +kernel
set_option maxRecDepth 20000 in
theorem ggX7_sheet_X5_isNumber : GoodIn wsX7_sheet wsX5_isNumber := goodIn_r _ [5] (by decide +kernel) (by decide +kernel)
set_option maxRecDepth 20000 in
theorem gX7_sheet_X5_isNumber : GoodIn wsX7_sheet (va_wsS RX7 191 yX5_isNumber wsX5_isNumber) := goodIn_app (goodIn_of _ (by decide +kernel)) ggX7_sheet_X5_isNumber
set_option maxRecDepth 20000 in
theorem ggX7_sheet_X5_isLane : GoodIn wsX7_sheet wsX5_isLane := goodIn_r _ [8] (by decide +kernel) (by decide +kernel)
set_option maxRecDepth 20000 in
theorem gX7_sheet_X5_isLane : GoodIn wsX7_sheet (va_wsS RX7 194 yX5_isLane wsX5_isLane) := goodIn_app (goodIn_of _ (by decide +kernel)) ggX7_sheet_X5_isLane
set_option maxRecDepth 20000 in
theorem ggX7_sheet_X5_makeNew : GoodIn wsX7_sheet wsX5_makeNew := goodIn_r _ [12, 13, 14, 15, 16, 27, 28, 29, 30] (by decide +kernel) (by decide +kernel)
set_option maxRecDepth 20000 in
theorem gX7_sheet_X5_makeNew : GoodIn wsX7_sheet (wsV RX7 197 RX5 yX5_makeNew wsX5_makeNew) := goodIn_app (goodIn_of _ (by decide +kernel)) ggX7_sheet_X5_makeNew
theorem dX7_sheet_0 : decode cX7_sheet 0 = .ok (.iload_n 1, 1) := by decide +kernel
theorem dX7_sheet_1 : decode cX7_sheet 1 = .ok (.invokestatic 191, 3) := by decide +kernel
theorem dX7_sheet_4 : decode cX7_sheet 4 = .ok (.ifCond .eq 16, 3) := by decide +kernel
theorem dX7_sheet_7 : decode cX7_sheet 7 = .ok (.iload_n 2, 1) := by decide +kernel
theorem dX7_sheet_8 : decode cX7_sheet 8 = .ok (.invokestatic 194, 3) := by decide +kernel
theorem dX7_sheet_11 : decode cX7_sheet 11 = .ok (.ifCond .eq 9, 3) := by decide +kernel
theorem dX7_sheet_14 : decode cX7_sheet 14 = .ok (.iload_n 3, 1) := by decide +kernel
theorem dX7_sheet_15 : decode cX7_sheet 15 = .ok (.bipush 60, 2) := by decide +kernel
theorem dX7_sheet_17 : decode cX7_sheet 17 = .ok (.if_icmp .le 5, 3) := by decide +kernel
theorem dX7_sheet_20 : decode cX7_sheet 20 = .ok (.iconst (-1), 1) := by decide +kernel
theorem dX7_sheet_21 : decode cX7_sheet 21 = .ok (.ireturn, 1) := by decide +kernel
theorem dX7_sheet_22 : decode cX7_sheet 22 = .ok (.iload_n 3, 1) := by decide +kernel
theorem dX7_sheet_23 : decode cX7_sheet 23 = .ok (.ifCond .ge 6, 3) := by decide +kernel
theorem dX7_sheet_26 : decode cX7_sheet 26 = .ok (.bipush (-14), 2) := by decide +kernel
theorem dX7_sheet_28 : decode cX7_sheet 28 = .ok (.ireturn, 1) := by decide +kernel
theorem dX7_sheet_29 : decode cX7_sheet 29 = .ok (.aload_n 0, 1) := by decide +kernel
theorem dX7_sheet_30 : decode cX7_sheet 30 = .ok (.getfield 54, 3) := by decide +kernel
theorem dX7_sheet_33 : decode cX7_sheet 33 = .ok (.iload_n 1, 1) := by decide +kernel
theorem dX7_sheet_34 : decode cX7_sheet 34 = .ok (.iload_n 2, 1) := by decide +kernel
theorem dX7_sheet_35 : decode cX7_sheet 35 = .ok (.iload_n 3, 1) := by decide +kernel
theorem dX7_sheet_36 : decode cX7_sheet 36 = .ok (.invokevirtual 197, 3) := by decide +kernel
theorem dX7_sheet_39 : decode cX7_sheet 39 = .ok (.iconst 1, 1) := by decide +kernel
theorem dX7_sheet_40 : decode cX7_sheet 40 = .ok (.ireturn, 1) := by decide +kernel
set_option maxRecDepth 20000 in
theorem ggX7_lay_X5_isNumber : GoodIn wsX7_lay wsX5_isNumber := goodIn_r _ [5] (by decide +kernel) (by decide +kernel)
set_option maxRecDepth 20000 in
theorem gX7_lay_X5_isNumber : GoodIn wsX7_lay (va_wsS RX7 191 yX5_isNumber wsX5_isNumber) := goodIn_app (goodIn_of _ (by decide +kernel)) ggX7_lay_X5_isNumber
set_option maxRecDepth 20000 in
theorem ggX7_lay_X5_isNothing : GoodIn wsX7_lay wsX5_isNothing := goodIn_r _ [9, 10, 35, 36, 37, 38] (by decide +kernel) (by decide +kernel)
set_option maxRecDepth 20000 in
theorem gX7_lay_X5_isNothing : GoodIn wsX7_lay (wsV RX7 200 RX5 yX5_isNothing wsX5_isNothing) := goodIn_app (goodIn_of _ (by decide +kernel)) ggX7_lay_X5_isNothing
set_option maxRecDepth 20000 in
theorem ggX7_lay_X5_hasCells : GoodIn wsX7_lay wsX5_hasCells := goodIn_r _ [14, 15, 35, 36, 37, 38] (by decide +kernel) (by decide +kernel)
set_option maxRecDepth 20000 in
theorem gX7_lay_X5_hasCells : GoodIn wsX7_lay (wsV RX7 203 RX5 yX5_hasCells wsX5_hasCells) := goodIn_app (goodIn_of _ (by decide +kernel)) ggX7_lay_X5_hasCells
set_option maxRecDepth 20000 in
theorem ggX7_lay_X5_put : GoodIn wsX7_lay wsX5_put := goodIn_r _ [19, 20, 21, 22, 23, 4, 24, 35, 36, 37, 38] (by decide +kernel) (by decide +kernel)
set_option maxRecDepth 20000 in
theorem gX7_lay_X5_put : GoodIn wsX7_lay (wsV RX7 207 RX5 yX5_put wsX5_put) := goodIn_app (goodIn_of _ (by decide +kernel)) ggX7_lay_X5_put
theorem dX7_lay_0 : decode cX7_lay 0 = .ok (.iload_n 1, 1) := by decide +kernel
theorem dX7_lay_1 : decode cX7_lay 1 = .ok (.invokestatic 191, 3) := by decide +kernel
theorem dX7_lay_4 : decode cX7_lay 4 = .ok (.ifCond .ne 5, 3) := by decide +kernel
theorem dX7_lay_7 : decode cX7_lay 7 = .ok (.iconst (-1), 1) := by decide +kernel
theorem dX7_lay_8 : decode cX7_lay 8 = .ok (.ireturn, 1) := by decide +kernel
theorem dX7_lay_9 : decode cX7_lay 9 = .ok (.aload_n 0, 1) := by decide +kernel
theorem dX7_lay_10 : decode cX7_lay 10 = .ok (.getfield 54, 3) := by decide +kernel
theorem dX7_lay_13 : decode cX7_lay 13 = .ok (.iload_n 1, 1) := by decide +kernel
theorem dX7_lay_14 : decode cX7_lay 14 = .ok (.invokevirtual 200, 3) := by decide +kernel
theorem dX7_lay_17 : decode cX7_lay 17 = .ok (.ifCond .eq 6, 3) := by decide +kernel
theorem dX7_lay_20 : decode cX7_lay 20 = .ok (.bipush (-11), 2) := by decide +kernel
theorem dX7_lay_22 : decode cX7_lay 22 = .ok (.ireturn, 1) := by decide +kernel
theorem dX7_lay_23 : decode cX7_lay 23 = .ok (.aload_n 0, 1) := by decide +kernel
theorem dX7_lay_24 : decode cX7_lay 24 = .ok (.getfield 54, 3) := by decide +kernel
theorem dX7_lay_27 : decode cX7_lay 27 = .ok (.iload_n 1, 1) := by decide +kernel
theorem dX7_lay_28 : decode cX7_lay 28 = .ok (.iload_n 2, 1) := by decide +kernel
theorem dX7_lay_29 : decode cX7_lay 29 = .ok (.iconst 1, 1) := by decide +kernel
theorem dX7_lay_30 : decode cX7_lay 30 = .ok (.invokevirtual 203, 3) := by decide +kernel
theorem dX7_lay_33 : decode cX7_lay 33 = .ok (.ifCond .ne 6, 3) := by decide +kernel
theorem dX7_lay_36 : decode cX7_lay 36 = .ok (.bipush (-12), 2) := by decide +kernel
theorem dX7_lay_38 : decode cX7_lay 38 = .ok (.ireturn, 1) := by decide +kernel
theorem dX7_lay_39 : decode cX7_lay 39 = .ok (.aload_n 0, 1) := by decide +kernel
theorem dX7_lay_40 : decode cX7_lay 40 = .ok (.getfield 54, 3) := by decide +kernel
theorem dX7_lay_43 : decode cX7_lay 43 = .ok (.iload_n 1, 1) := by decide +kernel
theorem dX7_lay_44 : decode cX7_lay 44 = .ok (.iload_n 2, 1) := by decide +kernel
theorem dX7_lay_45 : decode cX7_lay 45 = .ok (.iload_n 3, 1) := by decide +kernel
theorem dX7_lay_46 : decode cX7_lay 46 = .ok (.invokevirtual 207, 3) := by decide +kernel
theorem dX7_lay_49 : decode cX7_lay 49 = .ok (.iconst 1, 1) := by decide +kernel
theorem dX7_lay_50 : decode cX7_lay 50 = .ok (.ireturn, 1) := by decide +kernel
set_option maxRecDepth 20000 in
theorem ggX7_scan_X5_isNumber : GoodIn wsX7_scan wsX5_isNumber := goodIn_r _ [8] (by decide +kernel) (by decide +kernel)
set_option maxRecDepth 20000 in
theorem gX7_scan_X5_isNumber : GoodIn wsX7_scan (va_wsS RX7 191 yX5_isNumber wsX5_isNumber) := goodIn_app (goodIn_of _ (by decide +kernel)) ggX7_scan_X5_isNumber
set_option maxRecDepth 20000 in
theorem ggX7_scan_X5_isLane : GoodIn wsX7_scan wsX5_isLane := goodIn_r _ [11] (by decide +kernel) (by decide +kernel)
set_option maxRecDepth 20000 in
theorem gX7_scan_X5_isLane : GoodIn wsX7_scan (va_wsS RX7 194 yX5_isLane wsX5_isLane) := goodIn_app (goodIn_of _ (by decide +kernel)) ggX7_scan_X5_isLane
set_option maxRecDepth 20000 in
theorem ggX7_scan_X7_isWithin : GoodIn wsX7_scan wsX7_isWithin := goodIn_r _ [15] (by decide +kernel) (by decide +kernel)
set_option maxRecDepth 20000 in
theorem gX7_scan_X7_isWithin : GoodIn wsX7_scan (va_wsS RX7 80 yX7_isWithin wsX7_isWithin) := goodIn_app (goodIn_of _ (by decide +kernel)) ggX7_scan_X7_isWithin
set_option maxRecDepth 20000 in
theorem ggX7_scan_X5_isNothing : GoodIn wsX7_scan wsX5_isNothing := goodIn_r _ [19, 20, 58, 59, 60, 61] (by decide +kernel) (by decide +kernel)
set_option maxRecDepth 20000 in
theorem gX7_scan_X5_isNothing : GoodIn wsX7_scan (wsV RX7 200 RX5 yX5_isNothing wsX5_isNothing) := goodIn_app (goodIn_of _ (by decide +kernel)) ggX7_scan_X5_isNothing
set_option maxRecDepth 20000 in
theorem ggX7_scan_X7_scanPoint : GoodIn wsX7_scan wsX7_scanPoint := goodIn_r _ [24, 1, 3, 25, 26, 27, 7, 28, 29, 30, 31, 32, 33, 34, 35, 36, 37, 38, 39, 40, 41, 42, 43, 48, 49, 50, 51, 52, 53, 54, 55, 56, 57, 58, 59, 60, 61, 62, 63, 64, 65, 66, 67] (by decide +kernel) (by decide +kernel)
set_option maxRecDepth 20000 in
theorem gX7_scan_X7_scanPoint : GoodIn wsX7_scan (wsV RX7 212 RX7 yX7_scanPoint wsX7_scanPoint) := goodIn_app (goodIn_of _ (by decide +kernel)) ggX7_scan_X7_scanPoint
set_option maxRecDepth 20000 in
theorem ggX7_scan_X2_cutTo : GoodIn wsX7_scan wsX2_cutTo := goodIn_r _ [47, 40, 62, 63, 64, 65, 66, 67] (by decide +kernel) (by decide +kernel)
set_option maxRecDepth 20000 in
theorem gX7_scan_X2_cutTo : GoodIn wsX7_scan (wsV RX7 215 RX2 yX2_cutTo wsX2_cutTo) := goodIn_app (goodIn_of _ (by decide +kernel)) ggX7_scan_X2_cutTo
theorem dX7_scan_0 : decode cX7_scan 0 = .ok (.iload_n 1, 1) := by decide +kernel
theorem dX7_scan_1 : decode cX7_scan 1 = .ok (.invokestatic 191, 3) := by decide +kernel
theorem dX7_scan_4 : decode cX7_scan 4 = .ok (.ifCond .eq 20, 3) := by decide +kernel
theorem dX7_scan_7 : decode cX7_scan 7 = .ok (.iload_n 2, 1) := by decide +kernel
theorem dX7_scan_8 : decode cX7_scan 8 = .ok (.invokestatic 194, 3) := by decide +kernel
theorem dX7_scan_11 : decode cX7_scan 11 = .ok (.ifCond .eq 13, 3) := by decide +kernel
theorem dX7_scan_14 : decode cX7_scan 14 = .ok (.iload 4, 2) := by decide +kernel
theorem dX7_scan_16 : decode cX7_scan 16 = .ok (.bipush 20, 2) := by decide +kernel
theorem dX7_scan_18 : decode cX7_scan 18 = .ok (.invokestatic 80, 3) := by decide +kernel
theorem dX7_scan_21 : decode cX7_scan 21 = .ok (.ifCond .ne 5, 3) := by decide +kernel
theorem dX7_scan_24 : decode cX7_scan 24 = .ok (.iconst (-1), 1) := by decide +kernel
theorem dX7_scan_25 : decode cX7_scan 25 = .ok (.ireturn, 1) := by decide +kernel
theorem dX7_scan_26 : decode cX7_scan 26 = .ok (.aload_n 0, 1) := by decide +kernel
theorem dX7_scan_27 : decode cX7_scan 27 = .ok (.getfield 54, 3) := by decide +kernel
theorem dX7_scan_30 : decode cX7_scan 30 = .ok (.iload_n 1, 1) := by decide +kernel
theorem dX7_scan_31 : decode cX7_scan 31 = .ok (.invokevirtual 200, 3) := by decide +kernel
theorem dX7_scan_34 : decode cX7_scan 34 = .ok (.ifCond .eq 6, 3) := by decide +kernel
theorem dX7_scan_37 : decode cX7_scan 37 = .ok (.bipush (-11), 2) := by decide +kernel
theorem dX7_scan_39 : decode cX7_scan 39 = .ok (.ireturn, 1) := by decide +kernel
theorem dX7_scan_40 : decode cX7_scan 40 = .ok (.aload_n 0, 1) := by decide +kernel
theorem dX7_scan_41 : decode cX7_scan 41 = .ok (.getfield 54, 3) := by decide +kernel
theorem dX7_scan_44 : decode cX7_scan 44 = .ok (.getfield 208, 3) := by decide +kernel
theorem dX7_scan_47 : decode cX7_scan 47 = .ok (.iload_n 1, 1) := by decide +kernel
theorem dX7_scan_48 : decode cX7_scan 48 = .ok (.iaload, 1) := by decide +kernel
theorem dX7_scan_49 : decode cX7_scan 49 = .ok (.iload_n 2, 1) := by decide +kernel
theorem dX7_scan_50 : decode cX7_scan 50 = .ok (.if_icmp .eq 6, 3) := by decide +kernel
theorem dX7_scan_53 : decode cX7_scan 53 = .ok (.bipush (-13), 2) := by decide +kernel
theorem dX7_scan_55 : decode cX7_scan 55 = .ok (.ireturn, 1) := by decide +kernel
theorem dX7_scan_56 : decode cX7_scan 56 = .ok (.aload_n 0, 1) := by decide +kernel
theorem dX7_scan_57 : decode cX7_scan 57 = .ok (.getfield 10, 3) := by decide +kernel
theorem dX7_scan_60 : decode cX7_scan 60 = .ok (.getfield 211, 3) := by decide +kernel
theorem dX7_scan_63 : decode cX7_scan 63 = .ok (.istore 5, 2) := by decide +kernel
theorem dX7_scan_65 : decode cX7_scan 65 = .ok (.iconst 0, 1) := by decide +kernel
theorem dX7_scan_66 : decode cX7_scan 66 = .ok (.istore 6, 2) := by decide +kernel
theorem dX7_scan_68 : decode cX7_scan 68 = .ok (.iload 6, 2) := by decide +kernel
theorem dX7_scan_70 : decode cX7_scan 70 = .ok (.iload 4, 2) := by decide +kernel
theorem dX7_scan_72 : decode cX7_scan 72 = .ok (.if_icmp .ge 36, 3) := by decide +kernel
theorem dX7_scan_75 : decode cX7_scan 75 = .ok (.aload_n 0, 1) := by decide +kernel
theorem dX7_scan_76 : decode cX7_scan 76 = .ok (.iload_n 1, 1) := by decide +kernel
theorem dX7_scan_77 : decode cX7_scan 77 = .ok (.iload_n 3, 1) := by decide +kernel
theorem dX7_scan_78 : decode cX7_scan 78 = .ok (.iload 6, 2) := by decide +kernel
theorem dX7_scan_80 : decode cX7_scan 80 = .ok (.invokevirtual 212, 3) := by decide +kernel
theorem dX7_scan_83 : decode cX7_scan 83 = .ok (.istore 7, 2) := by decide +kernel
theorem dX7_scan_85 : decode cX7_scan 85 = .ok (.iload 7, 2) := by decide +kernel
theorem dX7_scan_87 : decode cX7_scan 87 = .ok (.ifCond .ge 15, 3) := by decide +kernel
theorem dX7_scan_90 : decode cX7_scan 90 = .ok (.aload_n 0, 1) := by decide +kernel
theorem dX7_scan_91 : decode cX7_scan 91 = .ok (.getfield 10, 3) := by decide +kernel
theorem dX7_scan_94 : decode cX7_scan 94 = .ok (.iload 5, 2) := by decide +kernel
theorem dX7_scan_96 : decode cX7_scan 96 = .ok (.invokevirtual 215, 3) := by decide +kernel
theorem dX7_scan_99 : decode cX7_scan 99 = .ok (.iload 7, 2) := by decide +kernel
theorem dX7_scan_101 : decode cX7_scan 101 = .ok (.ireturn, 1) := by decide +kernel
theorem dX7_scan_102 : decode cX7_scan 102 = .ok (.iinc 6 1, 3) := by decide +kernel
theorem dX7_scan_105 : decode cX7_scan 105 = .ok (.goto (-37), 3) := by decide +kernel
theorem dX7_scan_108 : decode cX7_scan 108 = .ok (.aload_n 0, 1) := by decide +kernel
theorem dX7_scan_109 : decode cX7_scan 109 = .ok (.getfield 10, 3) := by decide +kernel
theorem dX7_scan_112 : decode cX7_scan 112 = .ok (.getfield 211, 3) := by decide +kernel
theorem dX7_scan_115 : decode cX7_scan 115 = .ok (.ireturn, 1) := by decide +kernel
theorem dX7_count_0 : decode cX7_count 0 = .ok (.iload_n 1, 1) := by decide +kernel
theorem dX7_count_1 : decode cX7_count 1 = .ok (.tableswitch 75 0 4 #[35, 43, 51, 59, 67], 35) := by decide +kernel
theorem dX7_count_36 : decode cX7_count 36 = .ok (.aload_n 0, 1) := by decide +kernel
theorem dX7_count_37 : decode cX7_count 37 = .ok (.getfield 10, 3) := by decide +kernel
theorem dX7_count_40 : decode cX7_count 40 = .ok (.getfield 211, 3) := by decide +kernel
theorem dX7_count_43 : decode cX7_count 43 = .ok (.ireturn, 1) := by decide +kernel
theorem dX7_count_44 : decode cX7_count 44 = .ok (.aload_n 0, 1) := by decide +kernel
theorem dX7_count_45 : decode cX7_count 45 = .ok (.getfield 19, 3) := by decide +kernel
theorem dX7_count_48 : decode cX7_count 48 = .ok (.getfield 98, 3) := by decide +kernel
theorem dX7_count_51 : decode cX7_count 51 = .ok (.ireturn, 1) := by decide +kernel
theorem dX7_count_52 : decode cX7_count 52 = .ok (.aload_n 0, 1) := by decide +kernel
theorem dX7_count_53 : decode cX7_count 53 = .ok (.getfield 40, 3) := by decide +kernel
theorem dX7_count_56 : decode cX7_count 56 = .ok (.getfield 161, 3) := by decide +kernel
theorem dX7_count_59 : decode cX7_count 59 = .ok (.ireturn, 1) := by decide +kernel
theorem dX7_count_60 : decode cX7_count 60 = .ok (.aload_n 0, 1) := by decide +kernel
theorem dX7_count_61 : decode cX7_count 61 = .ok (.getfield 47, 3) := by decide +kernel
theorem dX7_count_64 : decode cX7_count 64 = .ok (.getfield 186, 3) := by decide +kernel
theorem dX7_count_67 : decode cX7_count 67 = .ok (.ireturn, 1) := by decide +kernel
theorem dX7_count_68 : decode cX7_count 68 = .ok (.aload_n 0, 1) := by decide +kernel
theorem dX7_count_69 : decode cX7_count 69 = .ok (.getfield 26, 3) := by decide +kernel
theorem dX7_count_72 : decode cX7_count 72 = .ok (.getfield 132, 3) := by decide +kernel
theorem dX7_count_75 : decode cX7_count 75 = .ok (.ireturn, 1) := by decide +kernel
theorem dX7_count_76 : decode cX7_count 76 = .ok (.iconst (-1), 1) := by decide +kernel
theorem dX7_count_77 : decode cX7_count 77 = .ok (.ireturn, 1) := by decide +kernel
theorem dX7_isWithin_0 : decode cX7_isWithin 0 = .ok (.iload_n 0, 1) := by decide +kernel
theorem dX7_isWithin_1 : decode cX7_isWithin 1 = .ok (.ifCond .lt 12, 3) := by decide +kernel
theorem dX7_isWithin_4 : decode cX7_isWithin 4 = .ok (.iload_n 0, 1) := by decide +kernel
theorem dX7_isWithin_5 : decode cX7_isWithin 5 = .ok (.iload_n 1, 1) := by decide +kernel
theorem dX7_isWithin_6 : decode cX7_isWithin 6 = .ok (.if_icmp .gt 7, 3) := by decide +kernel
theorem dX7_isWithin_9 : decode cX7_isWithin 9 = .ok (.iconst 1, 1) := by decide +kernel
theorem dX7_isWithin_10 : decode cX7_isWithin 10 = .ok (.goto 4, 3) := by decide +kernel
theorem dX7_isWithin_13 : decode cX7_isWithin 13 = .ok (.iconst 0, 1) := by decide +kernel
theorem dX7_isWithin_14 : decode cX7_isWithin 14 = .ok (.ireturn, 1) := by decide +kernel
set_option maxRecDepth 20000 in
theorem ggX7_measureDraft_X2_makeNormal : GoodIn wsX7_measureDraft wsX2_makeNormal := goodIn_r _ [11, 12, 13, 14, 15, 10, 16, 17, 18, 19, 20, 21, 22, 23, 24, 25, 26, 27, 28, 29, 30, 31, 32, 33, 34, 35, 36, 37, 38, 39, 40, 41, 42, 43, 44, 45, 46, 47, 48, 49, 50, 51, 52, 53, 54, 55, 56, 57, 58, 117, 118, 119, 120, 121, 122] (by decide +kernel) (by decide +kernel)
set_option maxRecDepth 20000 in
theorem gX7_measureDraft_X2_makeNormal : GoodIn wsX7_measureDraft (wsV RX7 92 RX2 yX2_makeNormal wsX2_makeNormal) := goodIn_app (goodIn_of _ (by decide +kernel)) ggX7_measureDraft_X2_makeNormal
set_option maxRecDepth 20000 in
theorem ggX7_measureDraft_X4_distanceFrom : GoodIn wsX7_measureDraft wsX4_distanceFrom := goodIn_r _ [63, 64, 65, 66, 67, 68, 69, 70, 71, 50, 30, 51, 72, 73, 74, 62, 75, 76, 77, 78, 79, 80, 81, 82, 83, 84, 85, 86, 29, 31, 87, 88, 89, 90, 91, 92, 93, 94, 95, 96, 97, 98, 99, 100, 101, 102, 123, 124, 125, 113, 114, 115, 116] (by decide +kernel) (by decide +kernel)
set_option maxRecDepth 20000 in
theorem gX7_measureDraft_X4_distanceFrom : GoodIn wsX7_measureDraft (wsV RX7 145 RX4 yX4_distanceFrom wsX4_distanceFrom) := goodIn_app (goodIn_of _ (by decide +kernel)) ggX7_measureDraft_X4_distanceFrom
theorem dX7_measureDraft_0 : decode cX7_measureDraft 0 = .ok (.aload_n 0, 1) := by decide +kernel
theorem dX7_measureDraft_1 : decode cX7_measureDraft 1 = .ok (.getfield 10, 3) := by decide +kernel
theorem dX7_measureDraft_4 : decode cX7_measureDraft 4 = .ok (.invokevirtual 92, 3) := by decide +kernel
theorem dX7_measureDraft_7 : decode cX7_measureDraft 7 = .ok (.ifCond .ne 6, 3) := by decide +kernel
theorem dX7_measureDraft_10 : decode cX7_measureDraft 10 = .ok (.bipush (-2), 2) := by decide +kernel
theorem dX7_measureDraft_12 : decode cX7_measureDraft 12 = .ok (.ireturn, 1) := by decide +kernel
theorem dX7_measureDraft_13 : decode cX7_measureDraft 13 = .ok (.aload_n 0, 1) := by decide +kernel
theorem dX7_measureDraft_14 : decode cX7_measureDraft 14 = .ok (.getfield 19, 3) := by decide +kernel
theorem dX7_measureDraft_17 : decode cX7_measureDraft 17 = .ok (.getfield 98, 3) := by decide +kernel
theorem dX7_measureDraft_20 : decode cX7_measureDraft 20 = .ok (.ifCond .ne 6, 3) := by decide +kernel
theorem dX7_measureDraft_23 : decode cX7_measureDraft 23 = .ok (.bipush (-4), 2) := by decide +kernel
theorem dX7_measureDraft_25 : decode cX7_measureDraft 25 = .ok (.ireturn, 1) := by decide +kernel
theorem dX7_measureDraft_26 : decode cX7_measureDraft 26 = .ok (.iconst 0, 1) := by decide +kernel
theorem dX7_measureDraft_27 : decode cX7_measureDraft 27 = .ok (.istore_n 1, 1) := by decide +kernel
theorem dX7_measureDraft_28 : decode cX7_measureDraft 28 = .ok (.iconst 0, 1) := by decide +kernel
theorem dX7_measureDraft_29 : decode cX7_measureDraft 29 = .ok (.istore_n 2, 1) := by decide +kernel
theorem dX7_measureDraft_30 : decode cX7_measureDraft 30 = .ok (.iload_n 2, 1) := by decide +kernel
theorem dX7_measureDraft_31 : decode cX7_measureDraft 31 = .ok (.aload_n 0, 1) := by decide +kernel
theorem dX7_measureDraft_32 : decode cX7_measureDraft 32 = .ok (.getfield 19, 3) := by decide +kernel
theorem dX7_measureDraft_35 : decode cX7_measureDraft 35 = .ok (.getfield 98, 3) := by decide +kernel
theorem dX7_measureDraft_38 : decode cX7_measureDraft 38 = .ok (.if_icmp .ge 52, 3) := by decide +kernel
theorem dX7_measureDraft_41 : decode cX7_measureDraft 41 = .ok (.aload_n 0, 1) := by decide +kernel
theorem dX7_measureDraft_42 : decode cX7_measureDraft 42 = .ok (.getfield 58, 3) := by decide +kernel
theorem dX7_measureDraft_45 : decode cX7_measureDraft 45 = .ok (.iload_n 2, 1) := by decide +kernel
theorem dX7_measureDraft_46 : decode cX7_measureDraft 46 = .ok (.aload_n 0, 1) := by decide +kernel
theorem dX7_measureDraft_47 : decode cX7_measureDraft 47 = .ok (.getfield 33, 3) := by decide +kernel
theorem dX7_measureDraft_50 : decode cX7_measureDraft 50 = .ok (.aload_n 0, 1) := by decide +kernel
theorem dX7_measureDraft_51 : decode cX7_measureDraft 51 = .ok (.getfield 10, 3) := by decide +kernel
theorem dX7_measureDraft_54 : decode cX7_measureDraft 54 = .ok (.getfield 95, 3) := by decide +kernel
theorem dX7_measureDraft_57 : decode cX7_measureDraft 57 = .ok (.iconst 0, 1) := by decide +kernel
theorem dX7_measureDraft_58 : decode cX7_measureDraft 58 = .ok (.aload_n 0, 1) := by decide +kernel
theorem dX7_measureDraft_59 : decode cX7_measureDraft 59 = .ok (.getfield 19, 3) := by decide +kernel
theorem dX7_measureDraft_62 : decode cX7_measureDraft 62 = .ok (.iload_n 2, 1) := by decide +kernel
theorem dX7_measureDraft_63 : decode cX7_measureDraft 63 = .ok (.invokevirtual 145, 3) := by decide +kernel
theorem dX7_measureDraft_66 : decode cX7_measureDraft 66 = .ok (.iastore, 1) := by decide +kernel
theorem dX7_measureDraft_67 : decode cX7_measureDraft 67 = .ok (.aload_n 0, 1) := by decide +kernel
theorem dX7_measureDraft_68 : decode cX7_measureDraft 68 = .ok (.getfield 58, 3) := by decide +kernel
theorem dX7_measureDraft_71 : decode cX7_measureDraft 71 = .ok (.iload_n 2, 1) := by decide +kernel
theorem dX7_measureDraft_72 : decode cX7_measureDraft 72 = .ok (.iaload, 1) := by decide +kernel
theorem dX7_measureDraft_73 : decode cX7_measureDraft 73 = .ok (.aload_n 0, 1) := by decide +kernel
theorem dX7_measureDraft_74 : decode cX7_measureDraft 74 = .ok (.getfield 58, 3) := by decide +kernel
theorem dX7_measureDraft_77 : decode cX7_measureDraft 77 = .ok (.iload_n 1, 1) := by decide +kernel
theorem dX7_measureDraft_78 : decode cX7_measureDraft 78 = .ok (.iaload, 1) := by decide +kernel
theorem dX7_measureDraft_79 : decode cX7_measureDraft 79 = .ok (.if_icmp .ge 5, 3) := by decide +kernel
theorem dX7_measureDraft_82 : decode cX7_measureDraft 82 = .ok (.iload_n 2, 1) := by decide +kernel
theorem dX7_measureDraft_83 : decode cX7_measureDraft 83 = .ok (.istore_n 1, 1) := by decide +kernel
theorem dX7_measureDraft_84 : decode cX7_measureDraft 84 = .ok (.iinc 2 1, 3) := by decide +kernel
theorem dX7_measureDraft_87 : decode cX7_measureDraft 87 = .ok (.goto (-57), 3) := by decide +kernel
theorem dX7_measureDraft_90 : decode cX7_measureDraft 90 = .ok (.iload_n 1, 1) := by decide +kernel
theorem dX7_measureDraft_91 : decode cX7_measureDraft 91 = .ok (.ireturn, 1) := by decide +kernel
set_option maxRecDepth 20000 in
theorem ggX7_labelRead_X6_has : GoodIn wsX7_labelRead wsX6_has := goodIn_r _ [11, 12, 23, 24, 25, 26] (by decide +kernel) (by decide +kernel)
set_option maxRecDepth 20000 in
theorem gX7_labelRead_X6_has : GoodIn wsX7_labelRead (wsV RX7 109 RX6 yX6_has wsX6_has) := goodIn_app (goodIn_of _ (by decide +kernel)) ggX7_labelRead_X6_has
theorem dX7_labelRead_0 : decode cX7_labelRead 0 = .ok (.aload_n 0, 1) := by decide +kernel
theorem dX7_labelRead_1 : decode cX7_labelRead 1 = .ok (.getfield 19, 3) := by decide +kernel
theorem dX7_labelRead_4 : decode cX7_labelRead 4 = .ok (.iload_n 1, 1) := by decide +kernel
theorem dX7_labelRead_5 : decode cX7_labelRead 5 = .ok (.invokevirtual 109, 3) := by decide +kernel
theorem dX7_labelRead_8 : decode cX7_labelRead 8 = .ok (.ifCond .ne 5, 3) := by decide +kernel
theorem dX7_labelRead_11 : decode cX7_labelRead 11 = .ok (.iload_n 1, 1) := by decide +kernel
theorem dX7_labelRead_12 : decode cX7_labelRead 12 = .ok (.ireturn, 1) := by decide +kernel
theorem dX7_labelRead_13 : decode cX7_labelRead 13 = .ok (.aload_n 0, 1) := by decide +kernel
theorem dX7_labelRead_14 : decode cX7_labelRead 14 = .ok (.getfield 19, 3) := by decide +kernel
theorem dX7_labelRead_17 : decode cX7_labelRead 17 = .ok (.getfield 113, 3) := by decide +kernel
theorem dX7_labelRead_20 : decode cX7_labelRead 20 = .ok (.iload_n 1, 1) := by decide +kernel
theorem dX7_labelRead_21 : decode cX7_labelRead 21 = .ok (.iaload, 1) := by decide +kernel
theorem dX7_labelRead_22 : decode cX7_labelRead 22 = .ok (.istore_n 2, 1) := by decide +kernel
theorem dX7_labelRead_23 : decode cX7_labelRead 23 = .ok (.aload_n 0, 1) := by decide +kernel
theorem dX7_labelRead_24 : decode cX7_labelRead 24 = .ok (.getfield 58, 3) := by decide +kernel
theorem dX7_labelRead_27 : decode cX7_labelRead 27 = .ok (.iload_n 1, 1) := by decide +kernel
theorem dX7_labelRead_28 : decode cX7_labelRead 28 = .ok (.iaload, 1) := by decide +kernel
theorem dX7_labelRead_29 : decode cX7_labelRead 29 = .ok (.aload_n 0, 1) := by decide +kernel
theorem dX7_labelRead_30 : decode cX7_labelRead 30 = .ok (.getfield 62, 3) := by decide +kernel
theorem dX7_labelRead_33 : decode cX7_labelRead 33 = .ok (.if_icmp .le 6, 3) := by decide +kernel
theorem dX7_labelRead_36 : decode cX7_labelRead 36 = .ok (.bipush (-5), 2) := by decide +kernel
theorem dX7_labelRead_38 : decode cX7_labelRead 38 = .ok (.ireturn, 1) := by decide +kernel
theorem dX7_labelRead_39 : decode cX7_labelRead 39 = .ok (.iconst 0, 1) := by decide +kernel
theorem dX7_labelRead_40 : decode cX7_labelRead 40 = .ok (.istore_n 3, 1) := by decide +kernel
theorem dX7_labelRead_41 : decode cX7_labelRead 41 = .ok (.iload_n 3, 1) := by decide +kernel
theorem dX7_labelRead_42 : decode cX7_labelRead 42 = .ok (.aload_n 0, 1) := by decide +kernel
theorem dX7_labelRead_43 : decode cX7_labelRead 43 = .ok (.getfield 19, 3) := by decide +kernel
theorem dX7_labelRead_46 : decode cX7_labelRead 46 = .ok (.getfield 98, 3) := by decide +kernel
theorem dX7_labelRead_49 : decode cX7_labelRead 49 = .ok (.if_icmp .ge 45, 3) := by decide +kernel
theorem dX7_labelRead_52 : decode cX7_labelRead 52 = .ok (.aload_n 0, 1) := by decide +kernel
theorem dX7_labelRead_53 : decode cX7_labelRead 53 = .ok (.getfield 19, 3) := by decide +kernel
theorem dX7_labelRead_56 : decode cX7_labelRead 56 = .ok (.getfield 113, 3) := by decide +kernel
theorem dX7_labelRead_59 : decode cX7_labelRead 59 = .ok (.iload_n 3, 1) := by decide +kernel
theorem dX7_labelRead_60 : decode cX7_labelRead 60 = .ok (.iaload, 1) := by decide +kernel
theorem dX7_labelRead_61 : decode cX7_labelRead 61 = .ok (.iload_n 2, 1) := by decide +kernel
theorem dX7_labelRead_62 : decode cX7_labelRead 62 = .ok (.if_icmp .eq 26, 3) := by decide +kernel
theorem dX7_labelRead_65 : decode cX7_labelRead 65 = .ok (.aload_n 0, 1) := by decide +kernel
theorem dX7_labelRead_66 : decode cX7_labelRead 66 = .ok (.getfield 58, 3) := by decide +kernel
theorem dX7_labelRead_69 : decode cX7_labelRead 69 = .ok (.iload_n 3, 1) := by decide +kernel
theorem dX7_labelRead_70 : decode cX7_labelRead 70 = .ok (.iaload, 1) := by decide +kernel
theorem dX7_labelRead_71 : decode cX7_labelRead 71 = .ok (.aload_n 0, 1) := by decide +kernel
theorem dX7_labelRead_72 : decode cX7_labelRead 72 = .ok (.getfield 58, 3) := by decide +kernel
theorem dX7_labelRead_75 : decode cX7_labelRead 75 = .ok (.iload_n 1, 1) := by decide +kernel
theorem dX7_labelRead_76 : decode cX7_labelRead 76 = .ok (.iaload, 1) := by decide +kernel
theorem dX7_labelRead_77 : decode cX7_labelRead 77 = .ok (.isub, 1) := by decide +kernel
theorem dX7_labelRead_78 : decode cX7_labelRead 78 = .ok (.aload_n 0, 1) := by decide +kernel
theorem dX7_labelRead_79 : decode cX7_labelRead 79 = .ok (.getfield 66, 3) := by decide +kernel
theorem dX7_labelRead_82 : decode cX7_labelRead 82 = .ok (.if_icmp .ge 6, 3) := by decide +kernel
theorem dX7_labelRead_85 : decode cX7_labelRead 85 = .ok (.bipush (-5), 2) := by decide +kernel
theorem dX7_labelRead_87 : decode cX7_labelRead 87 = .ok (.ireturn, 1) := by decide +kernel
theorem dX7_labelRead_88 : decode cX7_labelRead 88 = .ok (.iinc 3 1, 3) := by decide +kernel
theorem dX7_labelRead_91 : decode cX7_labelRead 91 = .ok (.goto (-50), 3) := by decide +kernel
theorem dX7_labelRead_94 : decode cX7_labelRead 94 = .ok (.iload_n 2, 1) := by decide +kernel
theorem dX7_labelRead_95 : decode cX7_labelRead 95 = .ok (.ireturn, 1) := by decide +kernel
set_option maxRecDepth 20000 in
theorem ggX7_isConfused_X4_distanceFrom : GoodIn wsX7_isConfused wsX4_distanceFrom := goodIn_r _ [10, 11, 12, 13, 14, 15, 16, 17, 18, 19, 20, 21, 22, 23, 24, 9, 25, 26, 27, 28, 29, 30, 31, 32, 33, 34, 35, 36, 37, 38, 39, 40, 41, 42, 43, 44, 45, 46, 47, 48, 49, 50, 51, 52, 53, 54, 69, 70, 71, 65, 66, 67, 68] (by decide +kernel) (by decide +kernel)
set_option maxRecDepth 20000 in
theorem gX7_isConfused_X4_distanceFrom : GoodIn wsX7_isConfused (wsV RX7 145 RX4 yX4_distanceFrom wsX4_distanceFrom) := goodIn_app (goodIn_of _ (by decide +kernel)) ggX7_isConfused_X4_distanceFrom
theorem dX7_isConfused_0 : decode cX7_isConfused 0 = .ok (.iconst 0, 1) := by decide +kernel
theorem dX7_isConfused_1 : decode cX7_isConfused 1 = .ok (.istore_n 3, 1) := by decide +kernel
theorem dX7_isConfused_2 : decode cX7_isConfused 2 = .ok (.iload_n 3, 1) := by decide +kernel
theorem dX7_isConfused_3 : decode cX7_isConfused 3 = .ok (.aload_n 0, 1) := by decide +kernel
theorem dX7_isConfused_4 : decode cX7_isConfused 4 = .ok (.getfield 19, 3) := by decide +kernel
theorem dX7_isConfused_7 : decode cX7_isConfused 7 = .ok (.getfield 98, 3) := by decide +kernel
theorem dX7_isConfused_10 : decode cX7_isConfused 10 = .ok (.if_icmp .ge 86, 3) := by decide +kernel
theorem dX7_isConfused_13 : decode cX7_isConfused 13 = .ok (.aload_n 0, 1) := by decide +kernel
theorem dX7_isConfused_14 : decode cX7_isConfused 14 = .ok (.getfield 19, 3) := by decide +kernel
theorem dX7_isConfused_17 : decode cX7_isConfused 17 = .ok (.getfield 113, 3) := by decide +kernel
theorem dX7_isConfused_20 : decode cX7_isConfused 20 = .ok (.iload_n 3, 1) := by decide +kernel
theorem dX7_isConfused_21 : decode cX7_isConfused 21 = .ok (.iaload, 1) := by decide +kernel
theorem dX7_isConfused_22 : decode cX7_isConfused 22 = .ok (.aload_n 0, 1) := by decide +kernel
theorem dX7_isConfused_23 : decode cX7_isConfused 23 = .ok (.getfield 19, 3) := by decide +kernel
theorem dX7_isConfused_26 : decode cX7_isConfused 26 = .ok (.getfield 113, 3) := by decide +kernel
theorem dX7_isConfused_29 : decode cX7_isConfused 29 = .ok (.iload_n 1, 1) := by decide +kernel
theorem dX7_isConfused_30 : decode cX7_isConfused 30 = .ok (.iaload, 1) := by decide +kernel
theorem dX7_isConfused_31 : decode cX7_isConfused 31 = .ok (.if_icmp .eq 59, 3) := by decide +kernel
theorem dX7_isConfused_34 : decode cX7_isConfused 34 = .ok (.aload_n 0, 1) := by decide +kernel
theorem dX7_isConfused_35 : decode cX7_isConfused 35 = .ok (.getfield 33, 3) := by decide +kernel
theorem dX7_isConfused_38 : decode cX7_isConfused 38 = .ok (.aload_n 0, 1) := by decide +kernel
theorem dX7_isConfused_39 : decode cX7_isConfused 39 = .ok (.getfield 19, 3) := by decide +kernel
theorem dX7_isConfused_42 : decode cX7_isConfused 42 = .ok (.getfield 118, 3) := by decide +kernel
theorem dX7_isConfused_45 : decode cX7_isConfused 45 = .ok (.iload_n 1, 1) := by decide +kernel
theorem dX7_isConfused_46 : decode cX7_isConfused 46 = .ok (.bipush 16, 2) := by decide +kernel
theorem dX7_isConfused_48 : decode cX7_isConfused 48 = .ok (.imul, 1) := by decide +kernel
theorem dX7_isConfused_49 : decode cX7_isConfused 49 = .ok (.aload_n 0, 1) := by decide +kernel
theorem dX7_isConfused_50 : decode cX7_isConfused 50 = .ok (.getfield 19, 3) := by decide +kernel
theorem dX7_isConfused_53 : decode cX7_isConfused 53 = .ok (.iload_n 3, 1) := by decide +kernel
theorem dX7_isConfused_54 : decode cX7_isConfused 54 = .ok (.invokevirtual 145, 3) := by decide +kernel
theorem dX7_isConfused_57 : decode cX7_isConfused 57 = .ok (.iload_n 2, 1) := by decide +kernel
theorem dX7_isConfused_58 : decode cX7_isConfused 58 = .ok (.if_icmp .le 30, 3) := by decide +kernel
theorem dX7_isConfused_61 : decode cX7_isConfused 61 = .ok (.aload_n 0, 1) := by decide +kernel
theorem dX7_isConfused_62 : decode cX7_isConfused 62 = .ok (.getfield 33, 3) := by decide +kernel
theorem dX7_isConfused_65 : decode cX7_isConfused 65 = .ok (.aload_n 0, 1) := by decide +kernel
theorem dX7_isConfused_66 : decode cX7_isConfused 66 = .ok (.getfield 19, 3) := by decide +kernel
theorem dX7_isConfused_69 : decode cX7_isConfused 69 = .ok (.getfield 118, 3) := by decide +kernel
theorem dX7_isConfused_72 : decode cX7_isConfused 72 = .ok (.iload_n 3, 1) := by decide +kernel
theorem dX7_isConfused_73 : decode cX7_isConfused 73 = .ok (.bipush 16, 2) := by decide +kernel
theorem dX7_isConfused_75 : decode cX7_isConfused 75 = .ok (.imul, 1) := by decide +kernel
theorem dX7_isConfused_76 : decode cX7_isConfused 76 = .ok (.aload_n 0, 1) := by decide +kernel
theorem dX7_isConfused_77 : decode cX7_isConfused 77 = .ok (.getfield 19, 3) := by decide +kernel
theorem dX7_isConfused_80 : decode cX7_isConfused 80 = .ok (.iload_n 1, 1) := by decide +kernel
theorem dX7_isConfused_81 : decode cX7_isConfused 81 = .ok (.invokevirtual 145, 3) := by decide +kernel
theorem dX7_isConfused_84 : decode cX7_isConfused 84 = .ok (.iload_n 2, 1) := by decide +kernel
theorem dX7_isConfused_85 : decode cX7_isConfused 85 = .ok (.if_icmp .gt 5, 3) := by decide +kernel
theorem dX7_isConfused_88 : decode cX7_isConfused 88 = .ok (.iconst 1, 1) := by decide +kernel
theorem dX7_isConfused_89 : decode cX7_isConfused 89 = .ok (.ireturn, 1) := by decide +kernel
theorem dX7_isConfused_90 : decode cX7_isConfused 90 = .ok (.iinc 3 1, 3) := by decide +kernel
theorem dX7_isConfused_93 : decode cX7_isConfused 93 = .ok (.goto (-91), 3) := by decide +kernel
theorem dX7_isConfused_96 : decode cX7_isConfused 96 = .ok (.iconst 0, 1) := by decide +kernel
theorem dX7_isConfused_97 : decode cX7_isConfused 97 = .ok (.ireturn, 1) := by decide +kernel
set_option maxRecDepth 20000 in
theorem ggX7_scanPoint_X5_hasCells : GoodIn wsX7_scanPoint wsX5_hasCells := goodIn_r _ [7, 8, 33, 34, 35, 36] (by decide +kernel) (by decide +kernel)
set_option maxRecDepth 20000 in
theorem gX7_scanPoint_X5_hasCells : GoodIn wsX7_scanPoint (wsV RX7 203 RX5 yX5_hasCells wsX5_hasCells) := goodIn_app (goodIn_of _ (by decide +kernel)) ggX7_scanPoint_X5_hasCells
set_option maxRecDepth 20000 in
theorem ggX7_scanPoint_X5_cell : GoodIn wsX7_scanPoint wsX5_cell := goodIn_r _ [12, 13, 33, 34, 35, 36] (by decide +kernel) (by decide +kernel)
set_option maxRecDepth 20000 in
theorem gX7_scanPoint_X5_cell : GoodIn wsX7_scanPoint (wsV RX7 218 RX5 yX5_cell wsX5_cell) := goodIn_app (goodIn_of _ (by decide +kernel)) ggX7_scanPoint_X5_cell
set_option maxRecDepth 20000 in
theorem ggX7_scanPoint_X2_add : GoodIn wsX7_scanPoint wsX2_add := goodIn_r _ [18, 19, 20, 21, 22, 37, 38, 39, 40, 41, 42] (by decide +kernel) (by decide +kernel)
set_option maxRecDepth 20000 in
theorem gX7_scanPoint_X2_add : GoodIn wsX7_scanPoint (wsV RX7 69 RX2 yX2_add wsX2_add) := goodIn_app (goodIn_of _ (by decide +kernel)) ggX7_scanPoint_X2_add
theorem dX7_scanPoint_0 : decode cX7_scanPoint 0 = .ok (.aload_n 0, 1) := by decide +kernel
theorem dX7_scanPoint_1 : decode cX7_scanPoint 1 = .ok (.getfield 54, 3) := by decide +kernel
theorem dX7_scanPoint_4 : decode cX7_scanPoint 4 = .ok (.iload_n 1, 1) := by decide +kernel
theorem dX7_scanPoint_5 : decode cX7_scanPoint 5 = .ok (.iload_n 2, 1) := by decide +kernel
theorem dX7_scanPoint_6 : decode cX7_scanPoint 6 = .ok (.iconst 3, 1) := by decide +kernel
theorem dX7_scanPoint_7 : decode cX7_scanPoint 7 = .ok (.iload_n 3, 1) := by decide +kernel
theorem dX7_scanPoint_8 : decode cX7_scanPoint 8 = .ok (.imul, 1) := by decide +kernel
theorem dX7_scanPoint_9 : decode cX7_scanPoint 9 = .ok (.iconst 3, 1) := by decide +kernel
theorem dX7_scanPoint_10 : decode cX7_scanPoint 10 = .ok (.iadd, 1) := by decide +kernel
theorem dX7_scanPoint_11 : decode cX7_scanPoint 11 = .ok (.invokevirtual 203, 3) := by decide +kernel
theorem dX7_scanPoint_14 : decode cX7_scanPoint 14 = .ok (.ifCond .ne 6, 3) := by decide +kernel
theorem dX7_scanPoint_17 : decode cX7_scanPoint 17 = .ok (.bipush (-12), 2) := by decide +kernel
theorem dX7_scanPoint_19 : decode cX7_scanPoint 19 = .ok (.ireturn, 1) := by decide +kernel
theorem dX7_scanPoint_20 : decode cX7_scanPoint 20 = .ok (.iload_n 2, 1) := by decide +kernel
theorem dX7_scanPoint_21 : decode cX7_scanPoint 21 = .ok (.iconst 3, 1) := by decide +kernel
theorem dX7_scanPoint_22 : decode cX7_scanPoint 22 = .ok (.iload_n 3, 1) := by decide +kernel
theorem dX7_scanPoint_23 : decode cX7_scanPoint 23 = .ok (.imul, 1) := by decide +kernel
theorem dX7_scanPoint_24 : decode cX7_scanPoint 24 = .ok (.iadd, 1) := by decide +kernel
theorem dX7_scanPoint_25 : decode cX7_scanPoint 25 = .ok (.istore 4, 2) := by decide +kernel
theorem dX7_scanPoint_27 : decode cX7_scanPoint 27 = .ok (.aload_n 0, 1) := by decide +kernel
theorem dX7_scanPoint_28 : decode cX7_scanPoint 28 = .ok (.getfield 54, 3) := by decide +kernel
theorem dX7_scanPoint_31 : decode cX7_scanPoint 31 = .ok (.iload_n 1, 1) := by decide +kernel
theorem dX7_scanPoint_32 : decode cX7_scanPoint 32 = .ok (.iload 4, 2) := by decide +kernel
theorem dX7_scanPoint_34 : decode cX7_scanPoint 34 = .ok (.invokevirtual 218, 3) := by decide +kernel
theorem dX7_scanPoint_37 : decode cX7_scanPoint 37 = .ok (.istore 5, 2) := by decide +kernel
theorem dX7_scanPoint_39 : decode cX7_scanPoint 39 = .ok (.aload_n 0, 1) := by decide +kernel
theorem dX7_scanPoint_40 : decode cX7_scanPoint 40 = .ok (.getfield 54, 3) := by decide +kernel
theorem dX7_scanPoint_43 : decode cX7_scanPoint 43 = .ok (.iload_n 1, 1) := by decide +kernel
theorem dX7_scanPoint_44 : decode cX7_scanPoint 44 = .ok (.iload 4, 2) := by decide +kernel
theorem dX7_scanPoint_46 : decode cX7_scanPoint 46 = .ok (.iconst 1, 1) := by decide +kernel
theorem dX7_scanPoint_47 : decode cX7_scanPoint 47 = .ok (.iadd, 1) := by decide +kernel
theorem dX7_scanPoint_48 : decode cX7_scanPoint 48 = .ok (.invokevirtual 218, 3) := by decide +kernel
theorem dX7_scanPoint_51 : decode cX7_scanPoint 51 = .ok (.istore 6, 2) := by decide +kernel
theorem dX7_scanPoint_53 : decode cX7_scanPoint 53 = .ok (.aload_n 0, 1) := by decide +kernel
theorem dX7_scanPoint_54 : decode cX7_scanPoint 54 = .ok (.getfield 54, 3) := by decide +kernel
theorem dX7_scanPoint_57 : decode cX7_scanPoint 57 = .ok (.iload_n 1, 1) := by decide +kernel
theorem dX7_scanPoint_58 : decode cX7_scanPoint 58 = .ok (.iload 4, 2) := by decide +kernel
theorem dX7_scanPoint_60 : decode cX7_scanPoint 60 = .ok (.iconst 2, 1) := by decide +kernel
theorem dX7_scanPoint_61 : decode cX7_scanPoint 61 = .ok (.iadd, 1) := by decide +kernel
theorem dX7_scanPoint_62 : decode cX7_scanPoint 62 = .ok (.invokevirtual 218, 3) := by decide +kernel
theorem dX7_scanPoint_65 : decode cX7_scanPoint 65 = .ok (.ifCond .eq 7, 3) := by decide +kernel
theorem dX7_scanPoint_68 : decode cX7_scanPoint 68 = .ok (.iconst 1, 1) := by decide +kernel
theorem dX7_scanPoint_69 : decode cX7_scanPoint 69 = .ok (.goto 4, 3) := by decide +kernel
theorem dX7_scanPoint_72 : decode cX7_scanPoint 72 = .ok (.iconst 0, 1) := by decide +kernel
theorem dX7_scanPoint_73 : decode cX7_scanPoint 73 = .ok (.istore 7, 2) := by decide +kernel
theorem dX7_scanPoint_75 : decode cX7_scanPoint 75 = .ok (.aload_n 0, 1) := by decide +kernel
theorem dX7_scanPoint_76 : decode cX7_scanPoint 76 = .ok (.getfield 10, 3) := by decide +kernel
theorem dX7_scanPoint_79 : decode cX7_scanPoint 79 = .ok (.iload 5, 2) := by decide +kernel
theorem dX7_scanPoint_81 : decode cX7_scanPoint 81 = .ok (.iload 6, 2) := by decide +kernel
theorem dX7_scanPoint_83 : decode cX7_scanPoint 83 = .ok (.iload 7, 2) := by decide +kernel
theorem dX7_scanPoint_85 : decode cX7_scanPoint 85 = .ok (.invokevirtual 69, 3) := by decide +kernel
theorem dX7_scanPoint_88 : decode cX7_scanPoint 88 = .ok (.istore 8, 2) := by decide +kernel
theorem dX7_scanPoint_90 : decode cX7_scanPoint 90 = .ok (.iload 8, 2) := by decide +kernel
theorem dX7_scanPoint_92 : decode cX7_scanPoint 92 = .ok (.ifCond .ge 11, 3) := by decide +kernel
theorem dX7_scanPoint_95 : decode cX7_scanPoint 95 = .ok (.bipush (-20), 2) := by decide +kernel
theorem dX7_scanPoint_97 : decode cX7_scanPoint 97 = .ok (.iload 8, 2) := by decide +kernel
theorem dX7_scanPoint_99 : decode cX7_scanPoint 99 = .ok (.iadd, 1) := by decide +kernel
theorem dX7_scanPoint_100 : decode cX7_scanPoint 100 = .ok (.goto 5, 3) := by decide +kernel
theorem dX7_scanPoint_103 : decode cX7_scanPoint 103 = .ok (.iload 8, 2) := by decide +kernel
theorem dX7_scanPoint_105 : decode cX7_scanPoint 105 = .ok (.ireturn, 1) := by decide +kernel
theorem dJ6_bitCount_0f7a4_0 : decode cJ6_bitCount_0f7a4 0 = .ok (.iload_n 0, 1) := by decide +kernel
theorem dJ6_bitCount_0f7a4_1 : decode cJ6_bitCount_0f7a4 1 = .ok (.iload_n 0, 1) := by decide +kernel
theorem dJ6_bitCount_0f7a4_2 : decode cJ6_bitCount_0f7a4 2 = .ok (.iconst 1, 1) := by decide +kernel
theorem dJ6_bitCount_0f7a4_3 : decode cJ6_bitCount_0f7a4 3 = .ok (.iushr, 1) := by decide +kernel
theorem dJ6_bitCount_0f7a4_4 : decode cJ6_bitCount_0f7a4 4 = .ok (.ldc_w 265, 3) := by decide +kernel
theorem dJ6_bitCount_0f7a4_7 : decode cJ6_bitCount_0f7a4 7 = .ok (.iand, 1) := by decide +kernel
theorem dJ6_bitCount_0f7a4_8 : decode cJ6_bitCount_0f7a4 8 = .ok (.isub, 1) := by decide +kernel
theorem dJ6_bitCount_0f7a4_9 : decode cJ6_bitCount_0f7a4 9 = .ok (.istore_n 0, 1) := by decide +kernel
theorem dJ6_bitCount_0f7a4_10 : decode cJ6_bitCount_0f7a4 10 = .ok (.iload_n 0, 1) := by decide +kernel
theorem dJ6_bitCount_0f7a4_11 : decode cJ6_bitCount_0f7a4 11 = .ok (.ldc_w 266, 3) := by decide +kernel
theorem dJ6_bitCount_0f7a4_14 : decode cJ6_bitCount_0f7a4 14 = .ok (.iand, 1) := by decide +kernel
theorem dJ6_bitCount_0f7a4_15 : decode cJ6_bitCount_0f7a4 15 = .ok (.iload_n 0, 1) := by decide +kernel
theorem dJ6_bitCount_0f7a4_16 : decode cJ6_bitCount_0f7a4 16 = .ok (.iconst 2, 1) := by decide +kernel
theorem dJ6_bitCount_0f7a4_17 : decode cJ6_bitCount_0f7a4 17 = .ok (.iushr, 1) := by decide +kernel
theorem dJ6_bitCount_0f7a4_18 : decode cJ6_bitCount_0f7a4 18 = .ok (.ldc_w 266, 3) := by decide +kernel
theorem dJ6_bitCount_0f7a4_21 : decode cJ6_bitCount_0f7a4 21 = .ok (.iand, 1) := by decide +kernel
theorem dJ6_bitCount_0f7a4_22 : decode cJ6_bitCount_0f7a4 22 = .ok (.iadd, 1) := by decide +kernel
theorem dJ6_bitCount_0f7a4_23 : decode cJ6_bitCount_0f7a4 23 = .ok (.istore_n 0, 1) := by decide +kernel
theorem dJ6_bitCount_0f7a4_24 : decode cJ6_bitCount_0f7a4 24 = .ok (.iload_n 0, 1) := by decide +kernel
theorem dJ6_bitCount_0f7a4_25 : decode cJ6_bitCount_0f7a4 25 = .ok (.iload_n 0, 1) := by decide +kernel
theorem dJ6_bitCount_0f7a4_26 : decode cJ6_bitCount_0f7a4 26 = .ok (.iconst 4, 1) := by decide +kernel
theorem dJ6_bitCount_0f7a4_27 : decode cJ6_bitCount_0f7a4 27 = .ok (.iushr, 1) := by decide +kernel
theorem dJ6_bitCount_0f7a4_28 : decode cJ6_bitCount_0f7a4 28 = .ok (.iadd, 1) := by decide +kernel
theorem dJ6_bitCount_0f7a4_29 : decode cJ6_bitCount_0f7a4 29 = .ok (.ldc_w 267, 3) := by decide +kernel
theorem dJ6_bitCount_0f7a4_32 : decode cJ6_bitCount_0f7a4 32 = .ok (.iand, 1) := by decide +kernel
theorem dJ6_bitCount_0f7a4_33 : decode cJ6_bitCount_0f7a4 33 = .ok (.istore_n 0, 1) := by decide +kernel
theorem dJ6_bitCount_0f7a4_34 : decode cJ6_bitCount_0f7a4 34 = .ok (.iload_n 0, 1) := by decide +kernel
theorem dJ6_bitCount_0f7a4_35 : decode cJ6_bitCount_0f7a4 35 = .ok (.iload_n 0, 1) := by decide +kernel
theorem dJ6_bitCount_0f7a4_36 : decode cJ6_bitCount_0f7a4 36 = .ok (.bipush 8, 2) := by decide +kernel
theorem dJ6_bitCount_0f7a4_38 : decode cJ6_bitCount_0f7a4 38 = .ok (.iushr, 1) := by decide +kernel
theorem dJ6_bitCount_0f7a4_39 : decode cJ6_bitCount_0f7a4 39 = .ok (.iadd, 1) := by decide +kernel
theorem dJ6_bitCount_0f7a4_40 : decode cJ6_bitCount_0f7a4 40 = .ok (.istore_n 0, 1) := by decide +kernel
theorem dJ6_bitCount_0f7a4_41 : decode cJ6_bitCount_0f7a4 41 = .ok (.iload_n 0, 1) := by decide +kernel
theorem dJ6_bitCount_0f7a4_42 : decode cJ6_bitCount_0f7a4 42 = .ok (.iload_n 0, 1) := by decide +kernel
theorem dJ6_bitCount_0f7a4_43 : decode cJ6_bitCount_0f7a4 43 = .ok (.bipush 16, 2) := by decide +kernel
theorem dJ6_bitCount_0f7a4_45 : decode cJ6_bitCount_0f7a4 45 = .ok (.iushr, 1) := by decide +kernel
theorem dJ6_bitCount_0f7a4_46 : decode cJ6_bitCount_0f7a4 46 = .ok (.iadd, 1) := by decide +kernel
theorem dJ6_bitCount_0f7a4_47 : decode cJ6_bitCount_0f7a4 47 = .ok (.istore_n 0, 1) := by decide +kernel
theorem dJ6_bitCount_0f7a4_48 : decode cJ6_bitCount_0f7a4 48 = .ok (.iload_n 0, 1) := by decide +kernel
theorem dJ6_bitCount_0f7a4_49 : decode cJ6_bitCount_0f7a4 49 = .ok (.bipush 63, 2) := by decide +kernel
theorem dJ6_bitCount_0f7a4_51 : decode cJ6_bitCount_0f7a4 51 = .ok (.iand, 1) := by decide +kernel
theorem dJ6_bitCount_0f7a4_52 : decode cJ6_bitCount_0f7a4 52 = .ok (.ireturn, 1) := by decide +kernel
theorem dJ9_floorDiv_7cf53_0 : decode cJ9_floorDiv_7cf53 0 = .ok (.iload_n 0, 1) := by decide +kernel
theorem dJ9_floorDiv_7cf53_1 : decode cJ9_floorDiv_7cf53 1 = .ok (.iload_n 1, 1) := by decide +kernel
theorem dJ9_floorDiv_7cf53_2 : decode cJ9_floorDiv_7cf53 2 = .ok (.idiv, 1) := by decide +kernel
theorem dJ9_floorDiv_7cf53_3 : decode cJ9_floorDiv_7cf53 3 = .ok (.istore_n 2, 1) := by decide +kernel
theorem dJ9_floorDiv_7cf53_4 : decode cJ9_floorDiv_7cf53 4 = .ok (.iload_n 0, 1) := by decide +kernel
theorem dJ9_floorDiv_7cf53_5 : decode cJ9_floorDiv_7cf53 5 = .ok (.iload_n 1, 1) := by decide +kernel
theorem dJ9_floorDiv_7cf53_6 : decode cJ9_floorDiv_7cf53 6 = .ok (.ixor, 1) := by decide +kernel
theorem dJ9_floorDiv_7cf53_7 : decode cJ9_floorDiv_7cf53 7 = .ok (.ifCond .ge 14, 3) := by decide +kernel
theorem dJ9_floorDiv_7cf53_10 : decode cJ9_floorDiv_7cf53 10 = .ok (.iload_n 2, 1) := by decide +kernel
theorem dJ9_floorDiv_7cf53_11 : decode cJ9_floorDiv_7cf53 11 = .ok (.iload_n 1, 1) := by decide +kernel
theorem dJ9_floorDiv_7cf53_12 : decode cJ9_floorDiv_7cf53 12 = .ok (.imul, 1) := by decide +kernel
theorem dJ9_floorDiv_7cf53_13 : decode cJ9_floorDiv_7cf53 13 = .ok (.iload_n 0, 1) := by decide +kernel
theorem dJ9_floorDiv_7cf53_14 : decode cJ9_floorDiv_7cf53 14 = .ok (.if_icmp .eq 7, 3) := by decide +kernel
theorem dJ9_floorDiv_7cf53_17 : decode cJ9_floorDiv_7cf53 17 = .ok (.iload_n 2, 1) := by decide +kernel
theorem dJ9_floorDiv_7cf53_18 : decode cJ9_floorDiv_7cf53 18 = .ok (.iconst 1, 1) := by decide +kernel
theorem dJ9_floorDiv_7cf53_19 : decode cJ9_floorDiv_7cf53 19 = .ok (.isub, 1) := by decide +kernel
theorem dJ9_floorDiv_7cf53_20 : decode cJ9_floorDiv_7cf53 20 = .ok (.ireturn, 1) := by decide +kernel
theorem dJ9_floorDiv_7cf53_21 : decode cJ9_floorDiv_7cf53 21 = .ok (.iload_n 2, 1) := by decide +kernel
theorem dJ9_floorDiv_7cf53_22 : decode cJ9_floorDiv_7cf53 22 = .ok (.ireturn, 1) := by decide +kernel
theorem dJ9_floorMod_7cf53_0 : decode cJ9_floorMod_7cf53 0 = .ok (.iload_n 0, 1) := by decide +kernel
theorem dJ9_floorMod_7cf53_1 : decode cJ9_floorMod_7cf53 1 = .ok (.iload_n 1, 1) := by decide +kernel
theorem dJ9_floorMod_7cf53_2 : decode cJ9_floorMod_7cf53 2 = .ok (.irem, 1) := by decide +kernel
theorem dJ9_floorMod_7cf53_3 : decode cJ9_floorMod_7cf53 3 = .ok (.istore_n 2, 1) := by decide +kernel
theorem dJ9_floorMod_7cf53_4 : decode cJ9_floorMod_7cf53 4 = .ok (.iload_n 0, 1) := by decide +kernel
theorem dJ9_floorMod_7cf53_5 : decode cJ9_floorMod_7cf53 5 = .ok (.iload_n 1, 1) := by decide +kernel
theorem dJ9_floorMod_7cf53_6 : decode cJ9_floorMod_7cf53 6 = .ok (.ixor, 1) := by decide +kernel
theorem dJ9_floorMod_7cf53_7 : decode cJ9_floorMod_7cf53 7 = .ok (.ifCond .ge 11, 3) := by decide +kernel
theorem dJ9_floorMod_7cf53_10 : decode cJ9_floorMod_7cf53 10 = .ok (.iload_n 2, 1) := by decide +kernel
theorem dJ9_floorMod_7cf53_11 : decode cJ9_floorMod_7cf53 11 = .ok (.ifCond .eq 7, 3) := by decide +kernel
theorem dJ9_floorMod_7cf53_14 : decode cJ9_floorMod_7cf53 14 = .ok (.iload_n 2, 1) := by decide +kernel
theorem dJ9_floorMod_7cf53_15 : decode cJ9_floorMod_7cf53 15 = .ok (.iload_n 1, 1) := by decide +kernel
theorem dJ9_floorMod_7cf53_16 : decode cJ9_floorMod_7cf53 16 = .ok (.iadd, 1) := by decide +kernel
theorem dJ9_floorMod_7cf53_17 : decode cJ9_floorMod_7cf53 17 = .ok (.ireturn, 1) := by decide +kernel
theorem dJ9_floorMod_7cf53_18 : decode cJ9_floorMod_7cf53 18 = .ok (.iload_n 2, 1) := by decide +kernel
theorem dJ9_floorMod_7cf53_19 : decode cJ9_floorMod_7cf53 19 = .ok (.ireturn, 1) := by decide +kernel
theorem dJ9_abs_0f7a4_0 : decode cJ9_abs_0f7a4 0 = .ok (.iload_n 0, 1) := by decide +kernel
theorem dJ9_abs_0f7a4_1 : decode cJ9_abs_0f7a4 1 = .ok (.ifCond .ge 8, 3) := by decide +kernel
theorem dJ9_abs_0f7a4_4 : decode cJ9_abs_0f7a4 4 = .ok (.iload_n 0, 1) := by decide +kernel
theorem dJ9_abs_0f7a4_5 : decode cJ9_abs_0f7a4 5 = .ok (.ineg, 1) := by decide +kernel
theorem dJ9_abs_0f7a4_6 : decode cJ9_abs_0f7a4 6 = .ok (.goto 4, 3) := by decide +kernel
theorem dJ9_abs_0f7a4_9 : decode cJ9_abs_0f7a4 9 = .ok (.iload_n 0, 1) := by decide +kernel
theorem dJ9_abs_0f7a4_10 : decode cJ9_abs_0f7a4 10 = .ok (.ireturn, 1) := by decide +kernel
theorem dJ9_max_7cf53_0 : decode cJ9_max_7cf53 0 = .ok (.iload_n 0, 1) := by decide +kernel
theorem dJ9_max_7cf53_1 : decode cJ9_max_7cf53 1 = .ok (.iload_n 1, 1) := by decide +kernel
theorem dJ9_max_7cf53_2 : decode cJ9_max_7cf53 2 = .ok (.if_icmp .lt 7, 3) := by decide +kernel
theorem dJ9_max_7cf53_5 : decode cJ9_max_7cf53 5 = .ok (.iload_n 0, 1) := by decide +kernel
theorem dJ9_max_7cf53_6 : decode cJ9_max_7cf53 6 = .ok (.goto 4, 3) := by decide +kernel
theorem dJ9_max_7cf53_9 : decode cJ9_max_7cf53 9 = .ok (.iload_n 1, 1) := by decide +kernel
theorem dJ9_max_7cf53_10 : decode cJ9_max_7cf53 10 = .ok (.ireturn, 1) := by decide +kernel
theorem dJ9_min_7cf53_0 : decode cJ9_min_7cf53 0 = .ok (.iload_n 0, 1) := by decide +kernel
theorem dJ9_min_7cf53_1 : decode cJ9_min_7cf53 1 = .ok (.iload_n 1, 1) := by decide +kernel
theorem dJ9_min_7cf53_2 : decode cJ9_min_7cf53 2 = .ok (.if_icmp .gt 7, 3) := by decide +kernel
theorem dJ9_min_7cf53_5 : decode cJ9_min_7cf53 5 = .ok (.iload_n 0, 1) := by decide +kernel
theorem dJ9_min_7cf53_6 : decode cJ9_min_7cf53 6 = .ok (.goto 4, 3) := by decide +kernel
theorem dJ9_min_7cf53_9 : decode cJ9_min_7cf53 9 = .ok (.iload_n 1, 1) := by decide +kernel
theorem dJ9_min_7cf53_10 : decode cJ9_min_7cf53 10 = .ok (.ireturn, 1) := by decide +kernel
