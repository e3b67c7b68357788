theorem dX1_init_0 : decode cX1_init 0 = .ok (.aload_n 0, 1) := by decide +kernel
theorem dX1_init_1 : decode cX1_init 1 = .ok (.invokespecial 3, 3) := by decide +kernel
theorem dX1_init_4 : decode cX1_init 4 = .ok (.aload_n 0, 1) := by decide +kernel
theorem dX1_init_5 : decode cX1_init 5 = .ok (.sipush 768, 3) := by decide +kernel
theorem dX1_init_8 : decode cX1_init 8 = .ok (.newarray .boolean, 2) := by decide +kernel
theorem dX1_init_10 : decode cX1_init 10 = .ok (.putfield 9, 3) := by decide +kernel
theorem dX1_init_13 : decode cX1_init 13 = .ok (.aload_n 0, 1) := by decide +kernel
theorem dX1_init_14 : decode cX1_init 14 = .ok (.new 15, 3) := by decide +kernel
theorem dX1_init_17 : decode cX1_init 17 = .ok (.dup, 1) := by decide +kernel
theorem dX1_init_18 : decode cX1_init 18 = .ok (.invokespecial 17, 3) := by decide +kernel
theorem dX1_init_21 : decode cX1_init 21 = .ok (.putfield 18, 3) := by decide +kernel
theorem dX1_init_24 : decode cX1_init 24 = .ok (.aload_n 0, 1) := by decide +kernel
theorem dX1_init_25 : decode cX1_init 25 = .ok (.iconst 0, 1) := by decide +kernel
theorem dX1_init_26 : decode cX1_init 26 = .ok (.putfield 22, 3) := by decide +kernel
theorem dX1_init_29 : decode cX1_init 29 = .ok (.aload_n 0, 1) := by decide +kernel
theorem dX1_init_30 : decode cX1_init 30 = .ok (.iconst 0, 1) := by decide +kernel
theorem dX1_init_31 : decode cX1_init 31 = .ok (.putfield 26, 3) := by decide +kernel
theorem dX1_init_34 : decode cX1_init 34 = .ok (.aload_n 0, 1) := by decide +kernel
theorem dX1_init_35 : decode cX1_init 35 = .ok (.iconst 0, 1) := by decide +kernel
theorem dX1_init_36 : decode cX1_init 36 = .ok (.putfield 30, 3) := by decide +kernel
theorem dX1_init_39 : decode cX1_init 39 = .ok (.return_, 1) := by decide +kernel
theorem dX1_has_0 : decode cX1_has 0 = .ok (.iload_n 1, 1) := by decide +kernel
theorem dX1_has_1 : decode cX1_has 1 = .ok (.sipush 768, 3) := by decide +kernel
theorem dX1_has_4 : decode cX1_has 4 = .ok (.invokestatic 33, 3) := by decide +kernel
theorem dX1_has_7 : decode cX1_has 7 = .ok (.ifCond .eq 16, 3) := by decide +kernel
theorem dX1_has_10 : decode cX1_has 10 = .ok (.aload_n 0, 1) := by decide +kernel
theorem dX1_has_11 : decode cX1_has 11 = .ok (.getfield 9, 3) := by decide +kernel
theorem dX1_has_14 : decode cX1_has 14 = .ok (.iload_n 1, 1) := by decide +kernel
theorem dX1_has_15 : decode cX1_has 15 = .ok (.baload, 1) := by decide +kernel
theorem dX1_has_16 : decode cX1_has 16 = .ok (.ifCond .eq 7, 3) := by decide +kernel
theorem dX1_has_19 : decode cX1_has 19 = .ok (.iconst 1, 1) := by decide +kernel
theorem dX1_has_20 : decode cX1_has 20 = .ok (.goto 4, 3) := by decide +kernel
theorem dX1_has_23 : decode cX1_has 23 = .ok (.iconst 0, 1) := by decide +kernel
theorem dX1_has_24 : decode cX1_has 24 = .ok (.ireturn, 1) := by decide +kernel
theorem dX1_put_0 : decode cX1_put 0 = .ok (.iload_n 1, 1) := by decide +kernel
theorem dX1_put_1 : decode cX1_put 1 = .ok (.sipush 768, 3) := by decide +kernel
theorem dX1_put_4 : decode cX1_put 4 = .ok (.invokestatic 33, 3) := by decide +kernel
theorem dX1_put_7 : decode cX1_put 7 = .ok (.ifCond .eq 34, 3) := by decide +kernel
theorem dX1_put_10 : decode cX1_put 10 = .ok (.aload_n 0, 1) := by decide +kernel
theorem dX1_put_11 : decode cX1_put 11 = .ok (.getfield 9, 3) := by decide +kernel
theorem dX1_put_14 : decode cX1_put 14 = .ok (.iload_n 1, 1) := by decide +kernel
theorem dX1_put_15 : decode cX1_put 15 = .ok (.baload, 1) := by decide +kernel
theorem dX1_put_16 : decode cX1_put 16 = .ok (.ifCond .ne 25, 3) := by decide +kernel
theorem dX1_put_19 : decode cX1_put 19 = .ok (.aload_n 0, 1) := by decide +kernel
theorem dX1_put_20 : decode cX1_put 20 = .ok (.getfield 9, 3) := by decide +kernel
theorem dX1_put_23 : decode cX1_put 23 = .ok (.iload_n 1, 1) := by decide +kernel
theorem dX1_put_24 : decode cX1_put 24 = .ok (.iconst 1, 1) := by decide +kernel
theorem dX1_put_25 : decode cX1_put 25 = .ok (.bastore, 1) := by decide +kernel
theorem dX1_put_26 : decode cX1_put 26 = .ok (.aload_n 0, 1) := by decide +kernel
theorem dX1_put_27 : decode cX1_put 27 = .ok (.dup, 1) := by decide +kernel
theorem dX1_put_28 : decode cX1_put 28 = .ok (.getfield 22, 3) := by decide +kernel
theorem dX1_put_31 : decode cX1_put 31 = .ok (.iconst 1, 1) := by decide +kernel
theorem dX1_put_32 : decode cX1_put 32 = .ok (.iadd, 1) := by decide +kernel
theorem dX1_put_33 : decode cX1_put 33 = .ok (.putfield 22, 3) := by decide +kernel
theorem dX1_put_36 : decode cX1_put 36 = .ok (.aload_n 0, 1) := by decide +kernel
theorem dX1_put_37 : decode cX1_put 37 = .ok (.iconst 0, 1) := by decide +kernel
theorem dX1_put_38 : decode cX1_put 38 = .ok (.putfield 26, 3) := by decide +kernel
theorem dX1_put_41 : decode cX1_put 41 = .ok (.return_, 1) := by decide +kernel
theorem dX1_close_0 : decode cX1_close 0 = .ok (.aload_n 0, 1) := by decide +kernel
theorem dX1_close_1 : decode cX1_close 1 = .ok (.getfield 26, 3) := by decide +kernel
theorem dX1_close_4 : decode cX1_close 4 = .ok (.ifCond .eq 4, 3) := by decide +kernel
theorem dX1_close_7 : decode cX1_close 7 = .ok (.return_, 1) := by decide +kernel
theorem dX1_close_8 : decode cX1_close 8 = .ok (.aload_n 0, 1) := by decide +kernel
theorem dX1_close_9 : decode cX1_close 9 = .ok (.getfield 18, 3) := by decide +kernel
theorem dX1_close_12 : decode cX1_close 12 = .ok (.aload_n 0, 1) := by decide +kernel
theorem dX1_close_13 : decode cX1_close 13 = .ok (.getfield 9, 3) := by decide +kernel
theorem dX1_close_16 : decode cX1_close 16 = .ok (.invokevirtual 49, 3) := by decide +kernel
theorem dX1_close_19 : decode cX1_close 19 = .ok (.iconst 1, 1) := by decide +kernel
theorem dX1_close_20 : decode cX1_close 20 = .ok (.istore_n 2, 1) := by decide +kernel
theorem dX1_close_21 : decode cX1_close 21 = .ok (.iconst 0, 1) := by decide +kernel
theorem dX1_close_22 : decode cX1_close 22 = .ok (.istore_n 3, 1) := by decide +kernel
theorem dX1_close_23 : decode cX1_close 23 = .ok (.iload_n 2, 1) := by decide +kernel
theorem dX1_close_24 : decode cX1_close 24 = .ok (.ifCond .eq 74, 3) := by decide +kernel
theorem dX1_close_27 : decode cX1_close 27 = .ok (.iload_n 3, 1) := by decide +kernel
theorem dX1_close_28 : decode cX1_close 28 = .ok (.sipush 768, 3) := by decide +kernel
theorem dX1_close_31 : decode cX1_close 31 = .ok (.if_icmp .gt 67, 3) := by decide +kernel
theorem dX1_close_34 : decode cX1_close 34 = .ok (.iconst 0, 1) := by decide +kernel
theorem dX1_close_35 : decode cX1_close 35 = .ok (.istore_n 2, 1) := by decide +kernel
theorem dX1_close_36 : decode cX1_close 36 = .ok (.iconst 0, 1) := by decide +kernel
theorem dX1_close_37 : decode cX1_close 37 = .ok (.istore 4, 2) := by decide +kernel
theorem dX1_close_39 : decode cX1_close 39 = .ok (.iload 4, 2) := by decide +kernel
theorem dX1_close_41 : decode cX1_close 41 = .ok (.sipush 768, 3) := by decide +kernel
theorem dX1_close_44 : decode cX1_close 44 = .ok (.if_icmp .ge 48, 3) := by decide +kernel
theorem dX1_close_47 : decode cX1_close 47 = .ok (.iconst 0, 1) := by decide +kernel
theorem dX1_close_48 : decode cX1_close 48 = .ok (.istore 5, 2) := by decide +kernel
theorem dX1_close_50 : decode cX1_close 50 = .ok (.iload 5, 2) := by decide +kernel
theorem dX1_close_52 : decode cX1_close 52 = .ok (.aload_n 1, 1) := by decide +kernel
theorem dX1_close_53 : decode cX1_close 53 = .ok (.invokevirtual 53, 3) := by decide +kernel
theorem dX1_close_56 : decode cX1_close 56 = .ok (.if_icmp .ge 30, 3) := by decide +kernel
theorem dX1_close_59 : decode cX1_close 59 = .ok (.iload_n 2, 1) := by decide +kernel
theorem dX1_close_60 : decode cX1_close 60 = .ok (.aload_n 1, 1) := by decide +kernel
theorem dX1_close_61 : decode cX1_close 61 = .ok (.iload 5, 2) := by decide +kernel
theorem dX1_close_63 : decode cX1_close 63 = .ok (.invokevirtual 59, 3) := by decide +kernel
theorem dX1_close_66 : decode cX1_close 66 = .ok (.checkcast 63, 3) := by decide +kernel
theorem dX1_close_69 : decode cX1_close 69 = .ok (.iload 4, 2) := by decide +kernel
theorem dX1_close_71 : decode cX1_close 71 = .ok (.aload_n 0, 1) := by decide +kernel
theorem dX1_close_72 : decode cX1_close 72 = .ok (.getfield 18, 3) := by decide +kernel
theorem dX1_close_75 : decode cX1_close 75 = .ok (.invokevirtual 65, 3) := by decide +kernel
theorem dX1_close_78 : decode cX1_close 78 = .ok (.ior, 1) := by decide +kernel
theorem dX1_close_79 : decode cX1_close 79 = .ok (.istore_n 2, 1) := by decide +kernel
theorem dX1_close_80 : decode cX1_close 80 = .ok (.iinc 5 1, 3) := by decide +kernel
theorem dX1_close_83 : decode cX1_close 83 = .ok (.goto (-33), 3) := by decide +kernel
theorem dX1_close_86 : decode cX1_close 86 = .ok (.iinc 4 1, 3) := by decide +kernel
theorem dX1_close_89 : decode cX1_close 89 = .ok (.goto (-50), 3) := by decide +kernel
theorem dX1_close_92 : decode cX1_close 92 = .ok (.iinc 3 1, 3) := by decide +kernel
theorem dX1_close_95 : decode cX1_close 95 = .ok (.goto (-72), 3) := by decide +kernel
theorem dX1_close_98 : decode cX1_close 98 = .ok (.aload_n 0, 1) := by decide +kernel
theorem dX1_close_99 : decode cX1_close 99 = .ok (.iconst 1, 1) := by decide +kernel
theorem dX1_close_100 : decode cX1_close 100 = .ok (.putfield 26, 3) := by decide +kernel
theorem dX1_close_103 : decode cX1_close 103 = .ok (.return_, 1) := by decide +kernel
theorem dX3_init_0 : decode cX3_init 0 = .ok (.aload_n 0, 1) := by decide +kernel
theorem dX3_init_1 : decode cX3_init 1 = .ok (.invokespecial 3, 3) := by decide +kernel
theorem dX3_init_4 : decode cX3_init 4 = .ok (.aload_n 0, 1) := by decide +kernel
theorem dX3_init_5 : decode cX3_init 5 = .ok (.bipush 8, 2) := by decide +kernel
theorem dX3_init_7 : decode cX3_init 7 = .ok (.newarray .int, 2) := by decide +kernel
theorem dX3_init_9 : decode cX3_init 9 = .ok (.putfield 9, 3) := by decide +kernel
theorem dX3_init_12 : decode cX3_init 12 = .ok (.aload_n 0, 1) := by decide +kernel
theorem dX3_init_13 : decode cX3_init 13 = .ok (.aload_n 1, 1) := by decide +kernel
theorem dX3_init_14 : decode cX3_init 14 = .ok (.putfield 15, 3) := by decide +kernel
theorem dX3_init_17 : decode cX3_init 17 = .ok (.aload_n 0, 1) := by decide +kernel
theorem dX3_init_18 : decode cX3_init 18 = .ok (.iload_n 2, 1) := by decide +kernel
theorem dX3_init_19 : decode cX3_init 19 = .ok (.putfield 19, 3) := by decide +kernel
theorem dX3_init_22 : decode cX3_init 22 = .ok (.aload_n 0, 1) := by decide +kernel
theorem dX3_init_23 : decode cX3_init 23 = .ok (.iload_n 3, 1) := by decide +kernel
theorem dX3_init_24 : decode cX3_init 24 = .ok (.putfield 23, 3) := by decide +kernel
theorem dX3_init_27 : decode cX3_init 27 = .ok (.aload_n 0, 1) := by decide +kernel
theorem dX3_init_28 : decode cX3_init 28 = .ok (.iload 4, 2) := by decide +kernel
theorem dX3_init_30 : decode cX3_init 30 = .ok (.putfield 26, 3) := by decide +kernel
theorem dX3_init_33 : decode cX3_init 33 = .ok (.aload_n 0, 1) := by decide +kernel
theorem dX3_init_34 : decode cX3_init 34 = .ok (.iload 5, 2) := by decide +kernel
theorem dX3_init_36 : decode cX3_init 36 = .ok (.putfield 29, 3) := by decide +kernel
theorem dX3_init_39 : decode cX3_init 39 = .ok (.return_, 1) := by decide +kernel
theorem dX4_init_0 : decode cX4_init 0 = .ok (.aload_n 0, 1) := by decide +kernel
theorem dX4_init_1 : decode cX4_init 1 = .ok (.invokespecial 3, 3) := by decide +kernel
theorem dX4_init_4 : decode cX4_init 4 = .ok (.aload_n 0, 1) := by decide +kernel
theorem dX4_init_5 : decode cX4_init 5 = .ok (.aload_n 1, 1) := by decide +kernel
theorem dX4_init_6 : decode cX4_init 6 = .ok (.putfield 9, 3) := by decide +kernel
theorem dX4_init_9 : decode cX4_init 9 = .ok (.aload_n 0, 1) := by decide +kernel
theorem dX4_init_10 : decode cX4_init 10 = .ok (.iload_n 2, 1) := by decide +kernel
theorem dX4_init_11 : decode cX4_init 11 = .ok (.putfield 15, 3) := by decide +kernel
theorem dX4_init_14 : decode cX4_init 14 = .ok (.aload_n 0, 1) := by decide +kernel
theorem dX4_init_15 : decode cX4_init 15 = .ok (.iload_n 3, 1) := by decide +kernel
theorem dX4_init_16 : decode cX4_init 16 = .ok (.putfield 19, 3) := by decide +kernel
theorem dX4_init_19 : decode cX4_init 19 = .ok (.aload_n 0, 1) := by decide +kernel
theorem dX4_init_20 : decode cX4_init 20 = .ok (.iload 4, 2) := by decide +kernel
theorem dX4_init_22 : decode cX4_init 22 = .ok (.putfield 22, 3) := by decide +kernel
theorem dX4_init_25 : decode cX4_init 25 = .ok (.return_, 1) := by decide +kernel
theorem dX5_init_0 : decode cX5_init 0 = .ok (.aload_n 0, 1) := by decide +kernel
theorem dX5_init_1 : decode cX5_init 1 = .ok (.invokespecial 5, 3) := by decide +kernel
theorem dX5_init_4 : decode cX5_init 4 = .ok (.aload_n 0, 1) := by decide +kernel
theorem dX5_init_5 : decode cX5_init 5 = .ok (.sipush 768, 3) := by decide +kernel
theorem dX5_init_8 : decode cX5_init 8 = .ok (.newarray .long, 2) := by decide +kernel
theorem dX5_init_10 : decode cX5_init 10 = .ok (.putfield 11, 3) := by decide +kernel
theorem dX5_init_13 : decode cX5_init 13 = .ok (.aload_n 0, 1) := by decide +kernel
theorem dX5_init_14 : decode cX5_init 14 = .ok (.iconst 1, 1) := by decide +kernel
theorem dX5_init_15 : decode cX5_init 15 = .ok (.putfield 15, 3) := by decide +kernel
theorem dX5_init_18 : decode cX5_init 18 = .ok (.aload_n 0, 1) := by decide +kernel
theorem dX5_init_19 : decode cX5_init 19 = .ok (.bipush 14, 2) := by decide +kernel
theorem dX5_init_21 : decode cX5_init 21 = .ok (.newarray .long, 2) := by decide +kernel
theorem dX5_init_23 : decode cX5_init 23 = .ok (.putfield 19, 3) := by decide +kernel
theorem dX5_init_26 : decode cX5_init 26 = .ok (.return_, 1) := by decide +kernel
theorem dX5_begin_0 : decode cX5_begin 0 = .ok (.aload_n 0, 1) := by decide +kernel
theorem dX5_begin_1 : decode cX5_begin 1 = .ok (.getfield 11, 3) := by decide +kernel
theorem dX5_begin_4 : decode cX5_begin 4 = .ok (.lconst 0, 1) := by decide +kernel
theorem dX5_begin_5 : decode cX5_begin 5 = .ok (.invokestatic 22, 3) := by decide +kernel
theorem dX5_begin_8 : decode cX5_begin 8 = .ok (.aload_n 0, 1) := by decide +kernel
theorem dX5_begin_9 : decode cX5_begin 9 = .ok (.iconst 1, 1) := by decide +kernel
theorem dX5_begin_10 : decode cX5_begin 10 = .ok (.putfield 15, 3) := by decide +kernel
theorem dX5_begin_13 : decode cX5_begin 13 = .ok (.iconst 0, 1) := by decide +kernel
theorem dX5_begin_14 : decode cX5_begin 14 = .ok (.istore_n 2, 1) := by decide +kernel
theorem dX5_begin_15 : decode cX5_begin 15 = .ok (.iload_n 2, 1) := by decide +kernel
theorem dX5_begin_16 : decode cX5_begin 16 = .ok (.aload_n 1, 1) := by decide +kernel
theorem dX5_begin_17 : decode cX5_begin 17 = .ok (.arraylength, 1) := by decide +kernel
theorem dX5_begin_18 : decode cX5_begin 18 = .ok (.if_icmp .ge 35, 3) := by decide +kernel
theorem dX5_begin_21 : decode cX5_begin 21 = .ok (.iload_n 2, 1) := by decide +kernel
theorem dX5_begin_22 : decode cX5_begin 22 = .ok (.aload_n 0, 1) := by decide +kernel
theorem dX5_begin_23 : decode cX5_begin 23 = .ok (.getfield 11, 3) := by decide +kernel
theorem dX5_begin_26 : decode cX5_begin 26 = .ok (.arraylength, 1) := by decide +kernel
theorem dX5_begin_27 : decode cX5_begin 27 = .ok (.if_icmp .ge 26, 3) := by decide +kernel
theorem dX5_begin_30 : decode cX5_begin 30 = .ok (.aload_n 0, 1) := by decide +kernel
theorem dX5_begin_31 : decode cX5_begin 31 = .ok (.getfield 11, 3) := by decide +kernel
theorem dX5_begin_34 : decode cX5_begin 34 = .ok (.iload_n 2, 1) := by decide +kernel
theorem dX5_begin_35 : decode cX5_begin 35 = .ok (.aload_n 1, 1) := by decide +kernel
theorem dX5_begin_36 : decode cX5_begin 36 = .ok (.iload_n 2, 1) := by decide +kernel
theorem dX5_begin_37 : decode cX5_begin 37 = .ok (.baload, 1) := by decide +kernel
theorem dX5_begin_38 : decode cX5_begin 38 = .ok (.ifCond .eq 7, 3) := by decide +kernel
theorem dX5_begin_41 : decode cX5_begin 41 = .ok (.lconst 1, 1) := by decide +kernel
theorem dX5_begin_42 : decode cX5_begin 42 = .ok (.goto 4, 3) := by decide +kernel
theorem dX5_begin_45 : decode cX5_begin 45 = .ok (.lconst 0, 1) := by decide +kernel
theorem dX5_begin_46 : decode cX5_begin 46 = .ok (.lastore, 1) := by decide +kernel
theorem dX5_begin_47 : decode cX5_begin 47 = .ok (.iinc 2 1, 3) := by decide +kernel
theorem dX5_begin_50 : decode cX5_begin 50 = .ok (.goto (-35), 3) := by decide +kernel
theorem dX5_begin_53 : decode cX5_begin 53 = .ok (.return_, 1) := by decide +kernel
theorem dX5_has_0 : decode cX5_has 0 = .ok (.iload_n 1, 1) := by decide +kernel
theorem dX5_has_1 : decode cX5_has 1 = .ok (.istore_n 2, 1) := by decide +kernel
theorem dX5_has_2 : decode cX5_has 2 = .ok (.iload_n 1, 1) := by decide +kernel
theorem dX5_has_3 : decode cX5_has 3 = .ok (.sipush 768, 3) := by decide +kernel
theorem dX5_has_6 : decode cX5_has 6 = .ok (.invokestatic 28, 3) := by decide +kernel
theorem dX5_has_9 : decode cX5_has 9 = .ok (.ifCond .eq 34, 3) := by decide +kernel
theorem dX5_has_12 : decode cX5_has 12 = .ok (.iload_n 2, 1) := by decide +kernel
theorem dX5_has_13 : decode cX5_has 13 = .ok (.aload_n 0, 1) := by decide +kernel
theorem dX5_has_14 : decode cX5_has 14 = .ok (.getfield 11, 3) := by decide +kernel
theorem dX5_has_17 : decode cX5_has 17 = .ok (.arraylength, 1) := by decide +kernel
theorem dX5_has_18 : decode cX5_has 18 = .ok (.if_icmp .ge 25, 3) := by decide +kernel
theorem dX5_has_21 : decode cX5_has 21 = .ok (.aload_n 0, 1) := by decide +kernel
theorem dX5_has_22 : decode cX5_has 22 = .ok (.getfield 11, 3) := by decide +kernel
theorem dX5_has_25 : decode cX5_has 25 = .ok (.iload_n 2, 1) := by decide +kernel
theorem dX5_has_26 : decode cX5_has 26 = .ok (.laload, 1) := by decide +kernel
theorem dX5_has_27 : decode cX5_has 27 = .ok (.lconst 0, 1) := by decide +kernel
theorem dX5_has_28 : decode cX5_has 28 = .ok (.lcmp, 1) := by decide +kernel
theorem dX5_has_29 : decode cX5_has 29 = .ok (.ifCond .eq 5, 3) := by decide +kernel
theorem dX5_has_32 : decode cX5_has 32 = .ok (.iconst 1, 1) := by decide +kernel
theorem dX5_has_33 : decode cX5_has 33 = .ok (.ireturn, 1) := by decide +kernel
theorem dX5_has_34 : decode cX5_has 34 = .ok (.iinc 2 768, 6) := by decide +kernel
theorem dX5_has_40 : decode cX5_has 40 = .ok (.goto (-38), 3) := by decide +kernel
theorem dX5_has_43 : decode cX5_has 43 = .ok (.iconst 0, 1) := by decide +kernel
theorem dX5_has_44 : decode cX5_has 44 = .ok (.ireturn, 1) := by decide +kernel
theorem dX5_count_0 : decode cX5_count 0 = .ok (.iconst 0, 1) := by decide +kernel
theorem dX5_count_1 : decode cX5_count 1 = .ok (.istore_n 1, 1) := by decide +kernel
theorem dX5_count_2 : decode cX5_count 2 = .ok (.iconst 0, 1) := by decide +kernel
theorem dX5_count_3 : decode cX5_count 3 = .ok (.istore_n 2, 1) := by decide +kernel
theorem dX5_count_4 : decode cX5_count 4 = .ok (.iload_n 2, 1) := by decide +kernel
theorem dX5_count_5 : decode cX5_count 5 = .ok (.sipush 768, 3) := by decide +kernel
theorem dX5_count_8 : decode cX5_count 8 = .ok (.if_icmp .ge 20, 3) := by decide +kernel
theorem dX5_count_11 : decode cX5_count 11 = .ok (.aload_n 0, 1) := by decide +kernel
theorem dX5_count_12 : decode cX5_count 12 = .ok (.iload_n 2, 1) := by decide +kernel
theorem dX5_count_13 : decode cX5_count 13 = .ok (.invokevirtual 32, 3) := by decide +kernel
theorem dX5_count_16 : decode cX5_count 16 = .ok (.ifCond .eq 6, 3) := by decide +kernel
theorem dX5_count_19 : decode cX5_count 19 = .ok (.iinc 1 1, 3) := by decide +kernel
theorem dX5_count_22 : decode cX5_count 22 = .ok (.iinc 2 1, 3) := by decide +kernel
theorem dX5_count_25 : decode cX5_count 25 = .ok (.goto (-21), 3) := by decide +kernel
theorem dX5_count_28 : decode cX5_count 28 = .ok (.iload_n 1, 1) := by decide +kernel
theorem dX5_count_29 : decode cX5_count 29 = .ok (.ireturn, 1) := by decide +kernel
theorem dX6_init_0 : decode cX6_init 0 = .ok (.aload_n 0, 1) := by decide +kernel
theorem dX6_init_1 : decode cX6_init 1 = .ok (.invokespecial 3, 3) := by decide +kernel
theorem dX6_init_4 : decode cX6_init 4 = .ok (.aload_n 0, 1) := by decide +kernel
theorem dX6_init_5 : decode cX6_init 5 = .ok (.sipush 2197, 3) := by decide +kernel
theorem dX6_init_8 : decode cX6_init 8 = .ok (.newarray .int, 2) := by decide +kernel
theorem dX6_init_10 : decode cX6_init 10 = .ok (.putfield 11, 3) := by decide +kernel
theorem dX6_init_13 : decode cX6_init 13 = .ok (.aload_n 0, 1) := by decide +kernel
theorem dX6_init_14 : decode cX6_init 14 = .ok (.sipush 2197, 3) := by decide +kernel
theorem dX6_init_17 : decode cX6_init 17 = .ok (.newarray .int, 2) := by decide +kernel
theorem dX6_init_19 : decode cX6_init 19 = .ok (.putfield 17, 3) := by decide +kernel
theorem dX6_init_22 : decode cX6_init 22 = .ok (.return_, 1) := by decide +kernel
theorem dX8_init_0 : decode cX8_init 0 = .ok (.aload_n 0, 1) := by decide +kernel
theorem dX8_init_1 : decode cX8_init 1 = .ok (.invokespecial 3, 3) := by decide +kernel
theorem dX8_init_4 : decode cX8_init 4 = .ok (.aload_n 0, 1) := by decide +kernel
theorem dX8_init_5 : decode cX8_init 5 = .ok (.iload_n 1, 1) := by decide +kernel
theorem dX8_init_6 : decode cX8_init 6 = .ok (.putfield 9, 3) := by decide +kernel
theorem dX8_init_9 : decode cX8_init 9 = .ok (.aload_n 0, 1) := by decide +kernel
theorem dX8_init_10 : decode cX8_init 10 = .ok (.iload_n 2, 1) := by decide +kernel
theorem dX8_init_11 : decode cX8_init 11 = .ok (.putfield 15, 3) := by decide +kernel
theorem dX8_init_14 : decode cX8_init 14 = .ok (.aload_n 0, 1) := by decide +kernel
theorem dX8_init_15 : decode cX8_init 15 = .ok (.iload_n 1, 1) := by decide +kernel
theorem dX8_init_16 : decode cX8_init 16 = .ok (.bipush 116, 2) := by decide +kernel
theorem dX8_init_18 : decode cX8_init 18 = .ok (.if_icmp .ne 7, 3) := by decide +kernel
theorem dX8_init_21 : decode cX8_init 21 = .ok (.iload_n 2, 1) := by decide +kernel
theorem dX8_init_22 : decode cX8_init 22 = .ok (.goto 4, 3) := by decide +kernel
theorem dX8_init_25 : decode cX8_init 25 = .ok (.iload_n 3, 1) := by decide +kernel
theorem dX8_init_26 : decode cX8_init 26 = .ok (.putfield 19, 3) := by decide +kernel
theorem dX8_init_29 : decode cX8_init 29 = .ok (.aload_n 0, 1) := by decide +kernel
theorem dX8_init_30 : decode cX8_init 30 = .ok (.iload_n 1, 1) := by decide +kernel
theorem dX8_init_31 : decode cX8_init 31 = .ok (.bipush 116, 2) := by decide +kernel
theorem dX8_init_33 : decode cX8_init 33 = .ok (.if_icmp .ne 7, 3) := by decide +kernel
theorem dX8_init_36 : decode cX8_init 36 = .ok (.iload_n 2, 1) := by decide +kernel
theorem dX8_init_37 : decode cX8_init 37 = .ok (.goto 5, 3) := by decide +kernel
theorem dX8_init_40 : decode cX8_init 40 = .ok (.iload 4, 2) := by decide +kernel
theorem dX8_init_42 : decode cX8_init 42 = .ok (.putfield 22, 3) := by decide +kernel
theorem dX8_init_45 : decode cX8_init 45 = .ok (.return_, 1) := by decide +kernel
theorem dX9_init_0 : decode cX9_init 0 = .ok (.aload_n 0, 1) := by decide +kernel
theorem dX9_init_1 : decode cX9_init 1 = .ok (.invokespecial 1, 3) := by decide +kernel
theorem dX9_init_4 : decode cX9_init 4 = .ok (.aload_n 0, 1) := by decide +kernel
theorem dX9_init_5 : decode cX9_init 5 = .ok (.aload_n 1, 1) := by decide +kernel
theorem dX9_init_6 : decode cX9_init 6 = .ok (.putfield 7, 3) := by decide +kernel
theorem dX9_init_9 : decode cX9_init 9 = .ok (.aload_n 0, 1) := by decide +kernel
theorem dX9_init_10 : decode cX9_init 10 = .ok (.iload_n 2, 1) := by decide +kernel
theorem dX9_init_11 : decode cX9_init 11 = .ok (.putfield 13, 3) := by decide +kernel
theorem dX9_init_14 : decode cX9_init 14 = .ok (.aload_n 0, 1) := by decide +kernel
theorem dX9_init_15 : decode cX9_init 15 = .ok (.iload_n 3, 1) := by decide +kernel
theorem dX9_init_16 : decode cX9_init 16 = .ok (.putfield 17, 3) := by decide +kernel
theorem dX9_init_19 : decode cX9_init 19 = .ok (.aload_n 0, 1) := by decide +kernel
theorem dX9_init_20 : decode cX9_init 20 = .ok (.iload 4, 2) := by decide +kernel
theorem dX9_init_22 : decode cX9_init 22 = .ok (.putfield 20, 3) := by decide +kernel
theorem dX9_init_25 : decode cX9_init 25 = .ok (.aload_n 0, 1) := by decide +kernel
theorem dX9_init_26 : decode cX9_init 26 = .ok (.iload 5, 2) := by decide +kernel
theorem dX9_init_28 : decode cX9_init 28 = .ok (.putfield 23, 3) := by decide +kernel
theorem dX9_init_31 : decode cX9_init 31 = .ok (.return_, 1) := by decide +kernel
theorem dX11_init_0 : decode cX11_init 0 = .ok (.aload_n 0, 1) := by decide +kernel
theorem dX11_init_1 : decode cX11_init 1 = .ok (.invokespecial 3, 3) := by decide +kernel
theorem dX11_init_4 : decode cX11_init 4 = .ok (.aload_n 0, 1) := by decide +kernel
theorem dX11_init_5 : decode cX11_init 5 = .ok (.iconst 4, 1) := by decide +kernel
theorem dX11_init_6 : decode cX11_init 6 = .ok (.anewarray 9, 3) := by decide +kernel
theorem dX11_init_9 : decode cX11_init 9 = .ok (.putfield 11, 3) := by decide +kernel
theorem dX11_init_12 : decode cX11_init 12 = .ok (.aload_n 0, 1) := by decide +kernel
theorem dX11_init_13 : decode cX11_init 13 = .ok (.new 15, 3) := by decide +kernel
theorem dX11_init_16 : decode cX11_init 16 = .ok (.dup, 1) := by decide +kernel
theorem dX11_init_17 : decode cX11_init 17 = .ok (.invokespecial 17, 3) := by decide +kernel
theorem dX11_init_20 : decode cX11_init 20 = .ok (.putfield 18, 3) := by decide +kernel
theorem dX11_init_23 : decode cX11_init 23 = .ok (.aload_n 0, 1) := by decide +kernel
theorem dX11_init_24 : decode cX11_init 24 = .ok (.new 15, 3) := by decide +kernel
theorem dX11_init_27 : decode cX11_init 27 = .ok (.dup, 1) := by decide +kernel
theorem dX11_init_28 : decode cX11_init 28 = .ok (.invokespecial 17, 3) := by decide +kernel
theorem dX11_init_31 : decode cX11_init 31 = .ok (.putfield 22, 3) := by decide +kernel
theorem dX11_init_34 : decode cX11_init 34 = .ok (.aload_n 0, 1) := by decide +kernel
theorem dX11_init_35 : decode cX11_init 35 = .ok (.new 15, 3) := by decide +kernel
theorem dX11_init_38 : decode cX11_init 38 = .ok (.dup, 1) := by decide +kernel
theorem dX11_init_39 : decode cX11_init 39 = .ok (.invokespecial 17, 3) := by decide +kernel
theorem dX11_init_42 : decode cX11_init 42 = .ok (.putfield 25, 3) := by decide +kernel
theorem dX11_init_45 : decode cX11_init 45 = .ok (.aload_n 0, 1) := by decide +kernel
theorem dX11_init_46 : decode cX11_init 46 = .ok (.sipush 768, 3) := by decide +kernel
theorem dX11_init_49 : decode cX11_init 49 = .ok (.newarray .boolean, 2) := by decide +kernel
theorem dX11_init_51 : decode cX11_init 51 = .ok (.putfield 28, 3) := by decide +kernel
theorem dX11_init_54 : decode cX11_init 54 = .ok (.aload_n 0, 1) := by decide +kernel
theorem dX11_init_55 : decode cX11_init 55 = .ok (.sipush 2197, 3) := by decide +kernel
theorem dX11_init_58 : decode cX11_init 58 = .ok (.newarray .int, 2) := by decide +kernel
theorem dX11_init_60 : decode cX11_init 60 = .ok (.putfield 34, 3) := by decide +kernel
theorem dX11_init_63 : decode cX11_init 63 = .ok (.aload_n 0, 1) := by decide +kernel
theorem dX11_init_64 : decode cX11_init 64 = .ok (.iconst 0, 1) := by decide +kernel
theorem dX11_init_65 : decode cX11_init 65 = .ok (.putfield 38, 3) := by decide +kernel
theorem dX11_init_68 : decode cX11_init 68 = .ok (.aload_n 0, 1) := by decide +kernel
theorem dX11_init_69 : decode cX11_init 69 = .ok (.iconst 0, 1) := by decide +kernel
theorem dX11_init_70 : decode cX11_init 70 = .ok (.putfield 42, 3) := by decide +kernel
theorem dX11_init_73 : decode cX11_init 73 = .ok (.aload_n 0, 1) := by decide +kernel
theorem dX11_init_74 : decode cX11_init 74 = .ok (.iconst 0, 1) := by decide +kernel
theorem dX11_init_75 : decode cX11_init 75 = .ok (.putfield 46, 3) := by decide +kernel
theorem dX11_init_78 : decode cX11_init 78 = .ok (.iconst 0, 1) := by decide +kernel
theorem dX11_init_79 : decode cX11_init 79 = .ok (.istore_n 1, 1) := by decide +kernel
theorem dX11_init_80 : decode cX11_init 80 = .ok (.iload_n 1, 1) := by decide +kernel
theorem dX11_init_81 : decode cX11_init 81 = .ok (.iconst 4, 1) := by decide +kernel
theorem dX11_init_82 : decode cX11_init 82 = .ok (.if_icmp .ge 22, 3) := by decide +kernel
theorem dX11_init_85 : decode cX11_init 85 = .ok (.aload_n 0, 1) := by decide +kernel
theorem dX11_init_86 : decode cX11_init 86 = .ok (.getfield 11, 3) := by decide +kernel
theorem dX11_init_89 : decode cX11_init 89 = .ok (.iload_n 1, 1) := by decide +kernel
theorem dX11_init_90 : decode cX11_init 90 = .ok (.new 9, 3) := by decide +kernel
theorem dX11_init_93 : decode cX11_init 93 = .ok (.dup, 1) := by decide +kernel
theorem dX11_init_94 : decode cX11_init 94 = .ok (.invokespecial 49, 3) := by decide +kernel
theorem dX11_init_97 : decode cX11_init 97 = .ok (.aastore, 1) := by decide +kernel
theorem dX11_init_98 : decode cX11_init 98 = .ok (.iinc 1 1, 3) := by decide +kernel
theorem dX11_init_101 : decode cX11_init 101 = .ok (.goto (-21), 3) := by decide +kernel
theorem dX11_init_104 : decode cX11_init 104 = .ok (.return_, 1) := by decide +kernel
theorem dX11_add_0 : decode cX11_add 0 = .ok (.iload_n 1, 1) := by decide +kernel
theorem dX11_add_1 : decode cX11_add 1 = .ok (.iconst 3, 1) := by decide +kernel
theorem dX11_add_2 : decode cX11_add 2 = .ok (.iload_n 2, 1) := by decide +kernel
theorem dX11_add_3 : decode cX11_add 3 = .ok (.iload_n 3, 1) := by decide +kernel
theorem dX11_add_4 : decode cX11_add 4 = .ok (.iload 4, 2) := by decide +kernel
theorem dX11_add_6 : decode cX11_add 6 = .ok (.invokestatic 50, 3) := by decide +kernel
theorem dX11_add_9 : decode cX11_add 9 = .ok (.istore 5, 2) := by decide +kernel
theorem dX11_add_11 : decode cX11_add 11 = .ok (.aload_n 0, 1) := by decide +kernel
theorem dX11_add_12 : decode cX11_add 12 = .ok (.getfield 11, 3) := by decide +kernel
theorem dX11_add_15 : decode cX11_add 15 = .ok (.iload_n 1, 1) := by decide +kernel
theorem dX11_add_16 : decode cX11_add 16 = .ok (.aaload, 1) := by decide +kernel
theorem dX11_add_17 : decode cX11_add 17 = .ok (.iload 5, 2) := by decide +kernel
theorem dX11_add_19 : decode cX11_add 19 = .ok (.invokevirtual 54, 3) := by decide +kernel
theorem dX11_add_22 : decode cX11_add 22 = .ok (.ifCond .eq 5, 3) := by decide +kernel
theorem dX11_add_25 : decode cX11_add 25 = .ok (.iconst 0, 1) := by decide +kernel
theorem dX11_add_26 : decode cX11_add 26 = .ok (.ireturn, 1) := by decide +kernel
theorem dX11_add_27 : decode cX11_add 27 = .ok (.aload_n 0, 1) := by decide +kernel
theorem dX11_add_28 : decode cX11_add 28 = .ok (.invokevirtual 58, 3) := by decide +kernel
theorem dX11_add_31 : decode cX11_add 31 = .ok (.bipush 60, 2) := by decide +kernel
theorem dX11_add_33 : decode cX11_add 33 = .ok (.if_icmp .lt 11, 3) := by decide +kernel
theorem dX11_add_36 : decode cX11_add 36 = .ok (.new 62, 3) := by decide +kernel
theorem dX11_add_39 : decode cX11_add 39 = .ok (.dup, 1) := by decide +kernel
theorem dX11_add_40 : decode cX11_add 40 = .ok (.invokespecial 64, 3) := by decide +kernel
theorem dX11_add_43 : decode cX11_add 43 = .ok (.athrow, 1) := by decide +kernel
theorem dX11_add_44 : decode cX11_add 44 = .ok (.aload_n 0, 1) := by decide +kernel
theorem dX11_add_45 : decode cX11_add 45 = .ok (.iload_n 1, 1) := by decide +kernel
theorem dX11_add_46 : decode cX11_add 46 = .ok (.iload 5, 2) := by decide +kernel
theorem dX11_add_48 : decode cX11_add 48 = .ok (.invokevirtual 65, 3) := by decide +kernel
theorem dX11_add_51 : decode cX11_add 51 = .ok (.iconst 1, 1) := by decide +kernel
theorem dX11_add_52 : decode cX11_add 52 = .ok (.ireturn, 1) := by decide +kernel
theorem dX11_remove_0 : decode cX11_remove 0 = .ok (.iload_n 1, 1) := by decide +kernel
theorem dX11_remove_1 : decode cX11_remove 1 = .ok (.iconst 3, 1) := by decide +kernel
theorem dX11_remove_2 : decode cX11_remove 2 = .ok (.iload_n 2, 1) := by decide +kernel
theorem dX11_remove_3 : decode cX11_remove 3 = .ok (.iload_n 3, 1) := by decide +kernel
theorem dX11_remove_4 : decode cX11_remove 4 = .ok (.iload 4, 2) := by decide +kernel
theorem dX11_remove_6 : decode cX11_remove 6 = .ok (.invokestatic 50, 3) := by decide +kernel
theorem dX11_remove_9 : decode cX11_remove 9 = .ok (.istore 5, 2) := by decide +kernel
theorem dX11_remove_11 : decode cX11_remove 11 = .ok (.aload_n 0, 1) := by decide +kernel
theorem dX11_remove_12 : decode cX11_remove 12 = .ok (.getfield 11, 3) := by decide +kernel
theorem dX11_remove_15 : decode cX11_remove 15 = .ok (.iload_n 1, 1) := by decide +kernel
theorem dX11_remove_16 : decode cX11_remove 16 = .ok (.aaload, 1) := by decide +kernel
theorem dX11_remove_17 : decode cX11_remove 17 = .ok (.iload 5, 2) := by decide +kernel
theorem dX11_remove_19 : decode cX11_remove 19 = .ok (.invokevirtual 54, 3) := by decide +kernel
theorem dX11_remove_22 : decode cX11_remove 22 = .ok (.ifCond .ne 5, 3) := by decide +kernel
theorem dX11_remove_25 : decode cX11_remove 25 = .ok (.iconst 0, 1) := by decide +kernel
theorem dX11_remove_26 : decode cX11_remove 26 = .ok (.ireturn, 1) := by decide +kernel
theorem dX11_remove_27 : decode cX11_remove 27 = .ok (.aload_n 0, 1) := by decide +kernel
theorem dX11_remove_28 : decode cX11_remove 28 = .ok (.iload_n 1, 1) := by decide +kernel
theorem dX11_remove_29 : decode cX11_remove 29 = .ok (.iload 5, 2) := by decide +kernel
theorem dX11_remove_31 : decode cX11_remove 31 = .ok (.invokevirtual 69, 3) := by decide +kernel
theorem dX11_remove_34 : decode cX11_remove 34 = .ok (.iconst 1, 1) := by decide +kernel
theorem dX11_remove_35 : decode cX11_remove 35 = .ok (.ireturn, 1) := by decide +kernel
theorem dX11_size_0 : decode cX11_size 0 = .ok (.iload_n 1, 1) := by decide +kernel
theorem dX11_size_1 : decode cX11_size 1 = .ok (.iconst 4, 1) := by decide +kernel
theorem dX11_size_2 : decode cX11_size 2 = .ok (.invokestatic 72, 3) := by decide +kernel
theorem dX11_size_5 : decode cX11_size 5 = .ok (.ifCond .ne 11, 3) := by decide +kernel
theorem dX11_size_8 : decode cX11_size 8 = .ok (.new 76, 3) := by decide +kernel
theorem dX11_size_11 : decode cX11_size 11 = .ok (.dup, 1) := by decide +kernel
theorem dX11_size_12 : decode cX11_size 12 = .ok (.invokespecial 78, 3) := by decide +kernel
theorem dX11_size_15 : decode cX11_size 15 = .ok (.athrow, 1) := by decide +kernel
theorem dX11_size_16 : decode cX11_size 16 = .ok (.aload_n 0, 1) := by decide +kernel
theorem dX11_size_17 : decode cX11_size 17 = .ok (.getfield 11, 3) := by decide +kernel
theorem dX11_size_20 : decode cX11_size 20 = .ok (.iload_n 1, 1) := by decide +kernel
theorem dX11_size_21 : decode cX11_size 21 = .ok (.aaload, 1) := by decide +kernel
theorem dX11_size_22 : decode cX11_size 22 = .ok (.getfield 79, 3) := by decide +kernel
theorem dX11_size_25 : decode cX11_size 25 = .ok (.ireturn, 1) := by decide +kernel
theorem dX11_addRule_0 : decode cX11_addRule 0 = .ok (.iload_n 1, 1) := by decide +kernel
theorem dX11_addRule_1 : decode cX11_addRule 1 = .ok (.iload_n 2, 1) := by decide +kernel
theorem dX11_addRule_2 : decode cX11_addRule 2 = .ok (.iload_n 3, 1) := by decide +kernel
theorem dX11_addRule_3 : decode cX11_addRule 3 = .ok (.iload 4, 2) := by decide +kernel
theorem dX11_addRule_5 : decode cX11_addRule 5 = .ok (.invokestatic 82, 3) := by decide +kernel
theorem dX11_addRule_8 : decode cX11_addRule 8 = .ok (.ifCond .ne 11, 3) := by decide +kernel
theorem dX11_addRule_11 : decode cX11_addRule 11 = .ok (.new 76, 3) := by decide +kernel
theorem dX11_addRule_14 : decode cX11_addRule 14 = .ok (.dup, 1) := by decide +kernel
theorem dX11_addRule_15 : decode cX11_addRule 15 = .ok (.invokespecial 78, 3) := by decide +kernel
theorem dX11_addRule_18 : decode cX11_addRule 18 = .ok (.athrow, 1) := by decide +kernel
theorem dX11_addRule_19 : decode cX11_addRule 19 = .ok (.aload_n 0, 1) := by decide +kernel
theorem dX11_addRule_20 : decode cX11_addRule 20 = .ok (.getfield 18, 3) := by decide +kernel
theorem dX11_addRule_23 : decode cX11_addRule 23 = .ok (.invokevirtual 86, 3) := by decide +kernel
theorem dX11_addRule_26 : decode cX11_addRule 26 = .ok (.bipush 8, 2) := by decide +kernel
theorem dX11_addRule_28 : decode cX11_addRule 28 = .ok (.if_icmp .lt 11, 3) := by decide +kernel
theorem dX11_addRule_31 : decode cX11_addRule 31 = .ok (.new 62, 3) := by decide +kernel
theorem dX11_addRule_34 : decode cX11_addRule 34 = .ok (.dup, 1) := by decide +kernel
theorem dX11_addRule_35 : decode cX11_addRule 35 = .ok (.invokespecial 64, 3) := by decide +kernel
theorem dX11_addRule_38 : decode cX11_addRule 38 = .ok (.athrow, 1) := by decide +kernel
theorem dX11_addRule_39 : decode cX11_addRule 39 = .ok (.aload_n 0, 1) := by decide +kernel
theorem dX11_addRule_40 : decode cX11_addRule 40 = .ok (.getfield 18, 3) := by decide +kernel
theorem dX11_addRule_43 : decode cX11_addRule 43 = .ok (.new 89, 3) := by decide +kernel
theorem dX11_addRule_46 : decode cX11_addRule 46 = .ok (.dup, 1) := by decide +kernel
theorem dX11_addRule_47 : decode cX11_addRule 47 = .ok (.iload_n 1, 1) := by decide +kernel
theorem dX11_addRule_48 : decode cX11_addRule 48 = .ok (.iload_n 2, 1) := by decide +kernel
theorem dX11_addRule_49 : decode cX11_addRule 49 = .ok (.iload_n 3, 1) := by decide +kernel
theorem dX11_addRule_50 : decode cX11_addRule 50 = .ok (.iload 4, 2) := by decide +kernel
theorem dX11_addRule_52 : decode cX11_addRule 52 = .ok (.invokespecial 91, 3) := by decide +kernel
theorem dX11_addRule_55 : decode cX11_addRule 55 = .ok (.invokevirtual 94, 3) := by decide +kernel
theorem dX11_addRule_58 : decode cX11_addRule 58 = .ok (.pop, 1) := by decide +kernel
theorem dX11_addRule_59 : decode cX11_addRule 59 = .ok (.aload_n 0, 1) := by decide +kernel
theorem dX11_addRule_60 : decode cX11_addRule 60 = .ok (.invokevirtual 98, 3) := by decide +kernel
theorem dX11_addRule_63 : decode cX11_addRule 63 = .ok (.aload_n 0, 1) := by decide +kernel
theorem dX11_addRule_64 : decode cX11_addRule 64 = .ok (.getfield 18, 3) := by decide +kernel
theorem dX11_addRule_67 : decode cX11_addRule 67 = .ok (.invokevirtual 86, 3) := by decide +kernel
theorem dX11_addRule_70 : decode cX11_addRule 70 = .ok (.iconst 1, 1) := by decide +kernel
theorem dX11_addRule_71 : decode cX11_addRule 71 = .ok (.isub, 1) := by decide +kernel
theorem dX11_addRule_72 : decode cX11_addRule 72 = .ok (.ireturn, 1) := by decide +kernel
theorem dX11_clearRules_0 : decode cX11_clearRules 0 = .ok (.aload_n 0, 1) := by decide +kernel
theorem dX11_clearRules_1 : decode cX11_clearRules 1 = .ok (.getfield 18, 3) := by decide +kernel
theorem dX11_clearRules_4 : decode cX11_clearRules 4 = .ok (.invokevirtual 86, 3) := by decide +kernel
theorem dX11_clearRules_7 : decode cX11_clearRules 7 = .ok (.istore_n 1, 1) := by decide +kernel
theorem dX11_clearRules_8 : decode cX11_clearRules 8 = .ok (.aload_n 0, 1) := by decide +kernel
theorem dX11_clearRules_9 : decode cX11_clearRules 9 = .ok (.getfield 18, 3) := by decide +kernel
theorem dX11_clearRules_12 : decode cX11_clearRules 12 = .ok (.invokevirtual 101, 3) := by decide +kernel
theorem dX11_clearRules_15 : decode cX11_clearRules 15 = .ok (.aload_n 0, 1) := by decide +kernel
theorem dX11_clearRules_16 : decode cX11_clearRules 16 = .ok (.invokevirtual 98, 3) := by decide +kernel
theorem dX11_clearRules_19 : decode cX11_clearRules 19 = .ok (.iload_n 1, 1) := by decide +kernel
theorem dX11_clearRules_20 : decode cX11_clearRules 20 = .ok (.ireturn, 1) := by decide +kernel
theorem dX11_entails_0 : decode cX11_entails 0 = .ok (.iload_n 1, 1) := by decide +kernel
theorem dX11_entails_1 : decode cX11_entails 1 = .ok (.iconst 4, 1) := by decide +kernel
theorem dX11_entails_2 : decode cX11_entails 2 = .ok (.iload_n 2, 1) := by decide +kernel
theorem dX11_entails_3 : decode cX11_entails 3 = .ok (.iload_n 3, 1) := by decide +kernel
theorem dX11_entails_4 : decode cX11_entails 4 = .ok (.iload 4, 2) := by decide +kernel
theorem dX11_entails_6 : decode cX11_entails 6 = .ok (.invokestatic 50, 3) := by decide +kernel
theorem dX11_entails_9 : decode cX11_entails 9 = .ok (.istore 5, 2) := by decide +kernel
theorem dX11_entails_11 : decode cX11_entails 11 = .ok (.aload_n 0, 1) := by decide +kernel
theorem dX11_entails_12 : decode cX11_entails 12 = .ok (.iload_n 1, 1) := by decide +kernel
theorem dX11_entails_13 : decode cX11_entails 13 = .ok (.invokevirtual 104, 3) := by decide +kernel
theorem dX11_entails_16 : decode cX11_entails 16 = .ok (.getfield 108, 3) := by decide +kernel
theorem dX11_entails_19 : decode cX11_entails 19 = .ok (.iload 5, 2) := by decide +kernel
theorem dX11_entails_21 : decode cX11_entails 21 = .ok (.invokevirtual 112, 3) := by decide +kernel
theorem dX11_entails_24 : decode cX11_entails 24 = .ok (.ireturn, 1) := by decide +kernel
theorem dX11_leastProof_0 : decode cX11_leastProof 0 = .ok (.iload_n 1, 1) := by decide +kernel
theorem dX11_leastProof_1 : decode cX11_leastProof 1 = .ok (.iconst 4, 1) := by decide +kernel
theorem dX11_leastProof_2 : decode cX11_leastProof 2 = .ok (.iload_n 2, 1) := by decide +kernel
theorem dX11_leastProof_3 : decode cX11_leastProof 3 = .ok (.iload_n 3, 1) := by decide +kernel
theorem dX11_leastProof_4 : decode cX11_leastProof 4 = .ok (.iload 4, 2) := by decide +kernel
theorem dX11_leastProof_6 : decode cX11_leastProof 6 = .ok (.invokestatic 50, 3) := by decide +kernel
theorem dX11_leastProof_9 : decode cX11_leastProof 9 = .ok (.istore 5, 2) := by decide +kernel
theorem dX11_leastProof_11 : decode cX11_leastProof 11 = .ok (.aload_n 0, 1) := by decide +kernel
theorem dX11_leastProof_12 : decode cX11_leastProof 12 = .ok (.iload_n 1, 1) := by decide +kernel
theorem dX11_leastProof_13 : decode cX11_leastProof 13 = .ok (.invokevirtual 104, 3) := by decide +kernel
theorem dX11_leastProof_16 : decode cX11_leastProof 16 = .ok (.getfield 108, 3) := by decide +kernel
theorem dX11_leastProof_19 : decode cX11_leastProof 19 = .ok (.astore 6, 2) := by decide +kernel
theorem dX11_leastProof_21 : decode cX11_leastProof 21 = .ok (.aload 6, 2) := by decide +kernel
theorem dX11_leastProof_23 : decode cX11_leastProof 23 = .ok (.iload 5, 2) := by decide +kernel
theorem dX11_leastProof_25 : decode cX11_leastProof 25 = .ok (.invokevirtual 112, 3) := by decide +kernel
theorem dX11_leastProof_28 : decode cX11_leastProof 28 = .ok (.ifCond .ne 11, 3) := by decide +kernel
theorem dX11_leastProof_31 : decode cX11_leastProof 31 = .ok (.new 115, 3) := by decide +kernel
theorem dX11_leastProof_34 : decode cX11_leastProof 34 = .ok (.dup, 1) := by decide +kernel
theorem dX11_leastProof_35 : decode cX11_leastProof 35 = .ok (.invokespecial 117, 3) := by decide +kernel
theorem dX11_leastProof_38 : decode cX11_leastProof 38 = .ok (.athrow, 1) := by decide +kernel
theorem dX11_leastProof_39 : decode cX11_leastProof 39 = .ok (.aload 6, 2) := by decide +kernel
theorem dX11_leastProof_41 : decode cX11_leastProof 41 = .ok (.iload 5, 2) := by decide +kernel
theorem dX11_leastProof_43 : decode cX11_leastProof 43 = .ok (.invokevirtual 118, 3) := by decide +kernel
theorem dX11_leastProof_46 : decode cX11_leastProof 46 = .ok (.ireturn, 1) := by decide +kernel
theorem dX11_entailed_0 : decode cX11_entailed 0 = .ok (.iload_n 1, 1) := by decide +kernel
theorem dX11_entailed_1 : decode cX11_entailed 1 = .ok (.iconst 4, 1) := by decide +kernel
theorem dX11_entailed_2 : decode cX11_entailed 2 = .ok (.invokestatic 72, 3) := by decide +kernel
theorem dX11_entailed_5 : decode cX11_entailed 5 = .ok (.ifCond .ne 11, 3) := by decide +kernel
theorem dX11_entailed_8 : decode cX11_entailed 8 = .ok (.new 76, 3) := by decide +kernel
theorem dX11_entailed_11 : decode cX11_entailed 11 = .ok (.dup, 1) := by decide +kernel
theorem dX11_entailed_12 : decode cX11_entailed 12 = .ok (.invokespecial 78, 3) := by decide +kernel
theorem dX11_entailed_15 : decode cX11_entailed 15 = .ok (.athrow, 1) := by decide +kernel
theorem dX11_entailed_16 : decode cX11_entailed 16 = .ok (.aload_n 0, 1) := by decide +kernel
theorem dX11_entailed_17 : decode cX11_entailed 17 = .ok (.iload_n 1, 1) := by decide +kernel
theorem dX11_entailed_18 : decode cX11_entailed 18 = .ok (.invokevirtual 104, 3) := by decide +kernel
theorem dX11_entailed_21 : decode cX11_entailed 21 = .ok (.getfield 108, 3) := by decide +kernel
theorem dX11_entailed_24 : decode cX11_entailed 24 = .ok (.invokevirtual 122, 3) := by decide +kernel
theorem dX11_entailed_27 : decode cX11_entailed 27 = .ok (.ireturn, 1) := by decide +kernel
theorem dX11_setEntailed_0 : decode cX11_setEntailed 0 = .ok (.aload_n 0, 1) := by decide +kernel
theorem dX11_setEntailed_1 : decode cX11_setEntailed 1 = .ok (.getfield 38, 3) := by decide +kernel
theorem dX11_setEntailed_4 : decode cX11_setEntailed 4 = .ok (.istore_n 2, 1) := by decide +kernel
theorem dX11_setEntailed_5 : decode cX11_setEntailed 5 = .ok (.aload_n 0, 1) := by decide +kernel
theorem dX11_setEntailed_6 : decode cX11_setEntailed 6 = .ok (.iload_n 1, 1) := by decide +kernel
theorem dX11_setEntailed_7 : decode cX11_setEntailed 7 = .ok (.putfield 38, 3) := by decide +kernel
theorem dX11_setEntailed_10 : decode cX11_setEntailed 10 = .ok (.iconst 0, 1) := by decide +kernel
theorem dX11_setEntailed_11 : decode cX11_setEntailed 11 = .ok (.istore_n 3, 1) := by decide +kernel
theorem dX11_setEntailed_12 : decode cX11_setEntailed 12 = .ok (.iload_n 3, 1) := by decide +kernel
theorem dX11_setEntailed_13 : decode cX11_setEntailed 13 = .ok (.iconst 4, 1) := by decide +kernel
theorem dX11_setEntailed_14 : decode cX11_setEntailed 14 = .ok (.if_icmp .ge 19, 3) := by decide +kernel
theorem dX11_setEntailed_17 : decode cX11_setEntailed 17 = .ok (.aload_n 0, 1) := by decide +kernel
theorem dX11_setEntailed_18 : decode cX11_setEntailed 18 = .ok (.getfield 11, 3) := by decide +kernel
theorem dX11_setEntailed_21 : decode cX11_setEntailed 21 = .ok (.iload_n 3, 1) := by decide +kernel
theorem dX11_setEntailed_22 : decode cX11_setEntailed 22 = .ok (.aaload, 1) := by decide +kernel
theorem dX11_setEntailed_23 : decode cX11_setEntailed 23 = .ok (.iload_n 1, 1) := by decide +kernel
theorem dX11_setEntailed_24 : decode cX11_setEntailed 24 = .ok (.putfield 124, 3) := by decide +kernel
theorem dX11_setEntailed_27 : decode cX11_setEntailed 27 = .ok (.iinc 3 1, 3) := by decide +kernel
theorem dX11_setEntailed_30 : decode cX11_setEntailed 30 = .ok (.goto (-18), 3) := by decide +kernel
theorem dX11_setEntailed_33 : decode cX11_setEntailed 33 = .ok (.iload_n 1, 1) := by decide +kernel
theorem dX11_setEntailed_34 : decode cX11_setEntailed 34 = .ok (.iload_n 2, 1) := by decide +kernel
theorem dX11_setEntailed_35 : decode cX11_setEntailed 35 = .ok (.if_icmp .eq 7, 3) := by decide +kernel
theorem dX11_setEntailed_38 : decode cX11_setEntailed 38 = .ok (.aload_n 0, 1) := by decide +kernel
theorem dX11_setEntailed_39 : decode cX11_setEntailed 39 = .ok (.invokevirtual 127, 3) := by decide +kernel
theorem dX11_setEntailed_42 : decode cX11_setEntailed 42 = .ok (.iload_n 2, 1) := by decide +kernel
theorem dX11_setEntailed_43 : decode cX11_setEntailed 43 = .ok (.ireturn, 1) := by decide +kernel
theorem dX11_pattern_0 : decode cX11_pattern 0 = .ok (.iload_n 1, 1) := by decide +kernel
theorem dX11_pattern_1 : decode cX11_pattern 1 = .ok (.iconst 4, 1) := by decide +kernel
theorem dX11_pattern_2 : decode cX11_pattern 2 = .ok (.invokestatic 72, 3) := by decide +kernel
theorem dX11_pattern_5 : decode cX11_pattern 5 = .ok (.ifCond .eq 13, 3) := by decide +kernel
theorem dX11_pattern_8 : decode cX11_pattern 8 = .ok (.iload_n 2, 1) := by decide +kernel
theorem dX11_pattern_9 : decode cX11_pattern 9 = .ok (.iload_n 3, 1) := by decide +kernel
theorem dX11_pattern_10 : decode cX11_pattern 10 = .ok (.iload 4, 2) := by decide +kernel
theorem dX11_pattern_12 : decode cX11_pattern 12 = .ok (.invokestatic 130, 3) := by decide +kernel
theorem dX11_pattern_15 : decode cX11_pattern 15 = .ok (.ifCond .ne 11, 3) := by decide +kernel
theorem dX11_pattern_18 : decode cX11_pattern 18 = .ok (.new 76, 3) := by decide +kernel
theorem dX11_pattern_21 : decode cX11_pattern 21 = .ok (.dup, 1) := by decide +kernel
theorem dX11_pattern_22 : decode cX11_pattern 22 = .ok (.invokespecial 78, 3) := by decide +kernel
theorem dX11_pattern_25 : decode cX11_pattern 25 = .ok (.athrow, 1) := by decide +kernel
theorem dX11_pattern_26 : decode cX11_pattern 26 = .ok (.aload_n 0, 1) := by decide +kernel
theorem dX11_pattern_27 : decode cX11_pattern 27 = .ok (.invokevirtual 134, 3) := by decide +kernel
theorem dX11_pattern_30 : decode cX11_pattern 30 = .ok (.aload_n 0, 1) := by decide +kernel
theorem dX11_pattern_31 : decode cX11_pattern 31 = .ok (.new 137, 3) := by decide +kernel
theorem dX11_pattern_34 : decode cX11_pattern 34 = .ok (.dup, 1) := by decide +kernel
theorem dX11_pattern_35 : decode cX11_pattern 35 = .ok (.aload_n 0, 1) := by decide +kernel
theorem dX11_pattern_36 : decode cX11_pattern 36 = .ok (.getfield 11, 3) := by decide +kernel
theorem dX11_pattern_39 : decode cX11_pattern 39 = .ok (.iload_n 1, 1) := by decide +kernel
theorem dX11_pattern_40 : decode cX11_pattern 40 = .ok (.aaload, 1) := by decide +kernel
theorem dX11_pattern_41 : decode cX11_pattern 41 = .ok (.iload_n 2, 1) := by decide +kernel
theorem dX11_pattern_42 : decode cX11_pattern 42 = .ok (.iload_n 3, 1) := by decide +kernel
theorem dX11_pattern_43 : decode cX11_pattern 43 = .ok (.iload 4, 2) := by decide +kernel
theorem dX11_pattern_45 : decode cX11_pattern 45 = .ok (.invokespecial 139, 3) := by decide +kernel
theorem dX11_pattern_48 : decode cX11_pattern 48 = .ok (.invokevirtual 142, 3) := by decide +kernel
theorem dX11_pattern_51 : decode cX11_pattern 51 = .ok (.ireturn, 1) := by decide +kernel
theorem dX11_path_0 : decode cX11_path 0 = .ok (.iload_n 1, 1) := by decide +kernel
theorem dX11_path_1 : decode cX11_path 1 = .ok (.iconst 4, 1) := by decide +kernel
theorem dX11_path_2 : decode cX11_path 2 = .ok (.invokestatic 72, 3) := by decide +kernel
theorem dX11_path_5 : decode cX11_path 5 = .ok (.ifCond .eq 22, 3) := by decide +kernel
theorem dX11_path_8 : decode cX11_path 8 = .ok (.iload_n 2, 1) := by decide +kernel
theorem dX11_path_9 : decode cX11_path 9 = .ok (.iload_n 3, 1) := by decide +kernel
theorem dX11_path_10 : decode cX11_path 10 = .ok (.iload 4, 2) := by decide +kernel
theorem dX11_path_12 : decode cX11_path 12 = .ok (.invokestatic 130, 3) := by decide +kernel
theorem dX11_path_15 : decode cX11_path 15 = .ok (.ifCond .eq 12, 3) := by decide +kernel
theorem dX11_path_18 : decode cX11_path 18 = .ok (.iload_n 3, 1) := by decide +kernel
theorem dX11_path_19 : decode cX11_path 19 = .ok (.bipush 8, 2) := by decide +kernel
theorem dX11_path_21 : decode cX11_path 21 = .ok (.invokestatic 72, 3) := by decide +kernel
theorem dX11_path_24 : decode cX11_path 24 = .ok (.ifCond .ne 11, 3) := by decide +kernel
theorem dX11_path_27 : decode cX11_path 27 = .ok (.new 76, 3) := by decide +kernel
theorem dX11_path_30 : decode cX11_path 30 = .ok (.dup, 1) := by decide +kernel
theorem dX11_path_31 : decode cX11_path 31 = .ok (.invokespecial 78, 3) := by decide +kernel
theorem dX11_path_34 : decode cX11_path 34 = .ok (.athrow, 1) := by decide +kernel
theorem dX11_path_35 : decode cX11_path 35 = .ok (.aload_n 0, 1) := by decide +kernel
theorem dX11_path_36 : decode cX11_path 36 = .ok (.invokevirtual 134, 3) := by decide +kernel
theorem dX11_path_39 : decode cX11_path 39 = .ok (.aload_n 0, 1) := by decide +kernel
theorem dX11_path_40 : decode cX11_path 40 = .ok (.new 146, 3) := by decide +kernel
theorem dX11_path_43 : decode cX11_path 43 = .ok (.dup, 1) := by decide +kernel
theorem dX11_path_44 : decode cX11_path 44 = .ok (.aload_n 0, 1) := by decide +kernel
theorem dX11_path_45 : decode cX11_path 45 = .ok (.getfield 11, 3) := by decide +kernel
theorem dX11_path_48 : decode cX11_path 48 = .ok (.iload_n 1, 1) := by decide +kernel
theorem dX11_path_49 : decode cX11_path 49 = .ok (.aaload, 1) := by decide +kernel
theorem dX11_path_50 : decode cX11_path 50 = .ok (.iload_n 2, 1) := by decide +kernel
theorem dX11_path_51 : decode cX11_path 51 = .ok (.iload_n 3, 1) := by decide +kernel
theorem dX11_path_52 : decode cX11_path 52 = .ok (.iload 4, 2) := by decide +kernel
theorem dX11_path_54 : decode cX11_path 54 = .ok (.iload 5, 2) := by decide +kernel
theorem dX11_path_56 : decode cX11_path 56 = .ok (.invokespecial 148, 3) := by decide +kernel
theorem dX11_path_59 : decode cX11_path 59 = .ok (.invokevirtual 142, 3) := by decide +kernel
theorem dX11_path_62 : decode cX11_path 62 = .ok (.ireturn, 1) := by decide +kernel
theorem dX11_both_0 : decode cX11_both 0 = .ok (.iload_n 1, 1) := by decide +kernel
theorem dX11_both_1 : decode cX11_both 1 = .ok (.bipush 106, 2) := by decide +kernel
theorem dX11_both_3 : decode cX11_both 3 = .ok (.if_icmp .eq 29, 3) := by decide +kernel
theorem dX11_both_6 : decode cX11_both 6 = .ok (.iload_n 1, 1) := by decide +kernel
theorem dX11_both_7 : decode cX11_both 7 = .ok (.bipush 111, 2) := by decide +kernel
theorem dX11_both_9 : decode cX11_both 9 = .ok (.if_icmp .eq 23, 3) := by decide +kernel
theorem dX11_both_12 : decode cX11_both 12 = .ok (.iload_n 1, 1) := by decide +kernel
theorem dX11_both_13 : decode cX11_both 13 = .ok (.bipush 109, 2) := by decide +kernel
theorem dX11_both_15 : decode cX11_both 15 = .ok (.if_icmp .eq 17, 3) := by decide +kernel
theorem dX11_both_18 : decode cX11_both 18 = .ok (.iload_n 1, 1) := by decide +kernel
theorem dX11_both_19 : decode cX11_both 19 = .ok (.bipush 117, 2) := by decide +kernel
theorem dX11_both_21 : decode cX11_both 21 = .ok (.if_icmp .eq 11, 3) := by decide +kernel
theorem dX11_both_24 : decode cX11_both 24 = .ok (.new 76, 3) := by decide +kernel
theorem dX11_both_27 : decode cX11_both 27 = .ok (.dup, 1) := by decide +kernel
theorem dX11_both_28 : decode cX11_both 28 = .ok (.invokespecial 78, 3) := by decide +kernel
theorem dX11_both_31 : decode cX11_both 31 = .ok (.athrow, 1) := by decide +kernel
theorem dX11_both_32 : decode cX11_both 32 = .ok (.aload_n 0, 1) := by decide +kernel
theorem dX11_both_33 : decode cX11_both 33 = .ok (.iload_n 2, 1) := by decide +kernel
theorem dX11_both_34 : decode cX11_both 34 = .ok (.invokevirtual 151, 3) := by decide +kernel
theorem dX11_both_37 : decode cX11_both 37 = .ok (.astore 4, 2) := by decide +kernel
theorem dX11_both_39 : decode cX11_both 39 = .ok (.aload_n 0, 1) := by decide +kernel
theorem dX11_both_40 : decode cX11_both 40 = .ok (.iload_n 3, 1) := by decide +kernel
theorem dX11_both_41 : decode cX11_both 41 = .ok (.invokevirtual 151, 3) := by decide +kernel
theorem dX11_both_44 : decode cX11_both 44 = .ok (.astore 5, 2) := by decide +kernel
theorem dX11_both_46 : decode cX11_both 46 = .ok (.aload_n 0, 1) := by decide +kernel
theorem dX11_both_47 : decode cX11_both 47 = .ok (.invokevirtual 134, 3) := by decide +kernel
theorem dX11_both_50 : decode cX11_both 50 = .ok (.aload_n 0, 1) := by decide +kernel
theorem dX11_both_51 : decode cX11_both 51 = .ok (.new 155, 3) := by decide +kernel
theorem dX11_both_54 : decode cX11_both 54 = .ok (.dup, 1) := by decide +kernel
theorem dX11_both_55 : decode cX11_both 55 = .ok (.iload_n 1, 1) := by decide +kernel
theorem dX11_both_56 : decode cX11_both 56 = .ok (.aload 4, 2) := by decide +kernel
theorem dX11_both_58 : decode cX11_both 58 = .ok (.aload 5, 2) := by decide +kernel
theorem dX11_both_60 : decode cX11_both 60 = .ok (.aload_n 0, 1) := by decide +kernel
theorem dX11_both_61 : decode cX11_both 61 = .ok (.getfield 34, 3) := by decide +kernel
theorem dX11_both_64 : decode cX11_both 64 = .ok (.invokespecial 157, 3) := by decide +kernel
theorem dX11_both_67 : decode cX11_both 67 = .ok (.invokevirtual 142, 3) := by decide +kernel
theorem dX11_both_70 : decode cX11_both 70 = .ok (.ireturn, 1) := by decide +kernel
theorem dX11_filter_0 : decode cX11_filter 0 = .ok (.aload_n 0, 1) := by decide +kernel
theorem dX11_filter_1 : decode cX11_filter 1 = .ok (.iload_n 1, 1) := by decide +kernel
theorem dX11_filter_2 : decode cX11_filter 2 = .ok (.invokevirtual 151, 3) := by decide +kernel
theorem dX11_filter_5 : decode cX11_filter 5 = .ok (.astore 5, 2) := by decide +kernel
theorem dX11_filter_7 : decode cX11_filter 7 = .ok (.iload_n 2, 1) := by decide +kernel
theorem dX11_filter_8 : decode cX11_filter 8 = .ok (.iload_n 3, 1) := by decide +kernel
theorem dX11_filter_9 : decode cX11_filter 9 = .ok (.iload 4, 2) := by decide +kernel
theorem dX11_filter_11 : decode cX11_filter 11 = .ok (.invokestatic 160, 3) := by decide +kernel
theorem dX11_filter_14 : decode cX11_filter 14 = .ok (.ifCond .ne 11, 3) := by decide +kernel
theorem dX11_filter_17 : decode cX11_filter 17 = .ok (.new 76, 3) := by decide +kernel
theorem dX11_filter_20 : decode cX11_filter 20 = .ok (.dup, 1) := by decide +kernel
theorem dX11_filter_21 : decode cX11_filter 21 = .ok (.invokespecial 78, 3) := by decide +kernel
theorem dX11_filter_24 : decode cX11_filter 24 = .ok (.athrow, 1) := by decide +kernel
theorem dX11_filter_25 : decode cX11_filter 25 = .ok (.aload_n 0, 1) := by decide +kernel
theorem dX11_filter_26 : decode cX11_filter 26 = .ok (.invokevirtual 134, 3) := by decide +kernel
theorem dX11_filter_29 : decode cX11_filter 29 = .ok (.aload_n 0, 1) := by decide +kernel
theorem dX11_filter_30 : decode cX11_filter 30 = .ok (.new 164, 3) := by decide +kernel
theorem dX11_filter_33 : decode cX11_filter 33 = .ok (.dup, 1) := by decide +kernel
theorem dX11_filter_34 : decode cX11_filter 34 = .ok (.aload 5, 2) := by decide +kernel
theorem dX11_filter_36 : decode cX11_filter 36 = .ok (.iload_n 2, 1) := by decide +kernel
theorem dX11_filter_37 : decode cX11_filter 37 = .ok (.iload_n 3, 1) := by decide +kernel
theorem dX11_filter_38 : decode cX11_filter 38 = .ok (.iload 4, 2) := by decide +kernel
theorem dX11_filter_40 : decode cX11_filter 40 = .ok (.invokespecial 166, 3) := by decide +kernel
theorem dX11_filter_43 : decode cX11_filter 43 = .ok (.invokevirtual 142, 3) := by decide +kernel
theorem dX11_filter_46 : decode cX11_filter 46 = .ok (.ireturn, 1) := by decide +kernel
theorem dX11_single_0 : decode cX11_single 0 = .ok (.aload_n 0, 1) := by decide +kernel
theorem dX11_single_1 : decode cX11_single 1 = .ok (.iload_n 1, 1) := by decide +kernel
theorem dX11_single_2 : decode cX11_single 2 = .ok (.invokevirtual 151, 3) := by decide +kernel
theorem dX11_single_5 : decode cX11_single 5 = .ok (.astore_n 2, 1) := by decide +kernel
theorem dX11_single_6 : decode cX11_single 6 = .ok (.aload_n 0, 1) := by decide +kernel
theorem dX11_single_7 : decode cX11_single 7 = .ok (.invokevirtual 134, 3) := by decide +kernel
theorem dX11_single_10 : decode cX11_single 10 = .ok (.aload_n 0, 1) := by decide +kernel
theorem dX11_single_11 : decode cX11_single 11 = .ok (.new 169, 3) := by decide +kernel
theorem dX11_single_14 : decode cX11_single 14 = .ok (.dup, 1) := by decide +kernel
theorem dX11_single_15 : decode cX11_single 15 = .ok (.aload_n 2, 1) := by decide +kernel
theorem dX11_single_16 : decode cX11_single 16 = .ok (.invokespecial 171, 3) := by decide +kernel
theorem dX11_single_19 : decode cX11_single 19 = .ok (.invokevirtual 142, 3) := by decide +kernel
theorem dX11_single_22 : decode cX11_single 22 = .ok (.ireturn, 1) := by decide +kernel
theorem dX11_rows_0 : decode cX11_rows 0 = .ok (.aload_n 0, 1) := by decide +kernel
theorem dX11_rows_1 : decode cX11_rows 1 = .ok (.iload_n 1, 1) := by decide +kernel
theorem dX11_rows_2 : decode cX11_rows 2 = .ok (.invokevirtual 151, 3) := by decide +kernel
theorem dX11_rows_5 : decode cX11_rows 5 = .ok (.astore_n 2, 1) := by decide +kernel
theorem dX11_rows_6 : decode cX11_rows 6 = .ok (.aload_n 0, 1) := by decide +kernel
theorem dX11_rows_7 : decode cX11_rows 7 = .ok (.iload_n 1, 1) := by decide +kernel
theorem dX11_rows_8 : decode cX11_rows 8 = .ok (.invokevirtual 174, 3) := by decide +kernel
theorem dX11_rows_11 : decode cX11_rows 11 = .ok (.aload_n 2, 1) := by decide +kernel
theorem dX11_rows_12 : decode cX11_rows 12 = .ok (.getfield 178, 3) := by decide +kernel
theorem dX11_rows_15 : decode cX11_rows 15 = .ok (.invokestatic 183, 3) := by decide +kernel
theorem dX11_rows_18 : decode cX11_rows 18 = .ok (.lreturn, 1) := by decide +kernel
theorem dX11_rowsAnew_0 : decode cX11_rowsAnew 0 = .ok (.aload_n 0, 1) := by decide +kernel
theorem dX11_rowsAnew_1 : decode cX11_rowsAnew 1 = .ok (.iload_n 1, 1) := by decide +kernel
theorem dX11_rowsAnew_2 : decode cX11_rowsAnew 2 = .ok (.invokevirtual 151, 3) := by decide +kernel
theorem dX11_rowsAnew_5 : decode cX11_rowsAnew 5 = .ok (.astore_n 2, 1) := by decide +kernel
theorem dX11_rowsAnew_6 : decode cX11_rowsAnew 6 = .ok (.aload_n 0, 1) := by decide +kernel
theorem dX11_rowsAnew_7 : decode cX11_rowsAnew 7 = .ok (.iload_n 1, 1) := by decide +kernel
theorem dX11_rowsAnew_8 : decode cX11_rowsAnew 8 = .ok (.invokevirtual 187, 3) := by decide +kernel
theorem dX11_rowsAnew_11 : decode cX11_rowsAnew 11 = .ok (.aload_n 2, 1) := by decide +kernel
theorem dX11_rowsAnew_12 : decode cX11_rowsAnew 12 = .ok (.getfield 190, 3) := by decide +kernel
theorem dX11_rowsAnew_15 : decode cX11_rowsAnew 15 = .ok (.invokestatic 183, 3) := by decide +kernel
theorem dX11_rowsAnew_18 : decode cX11_rowsAnew 18 = .ok (.lreturn, 1) := by decide +kernel
theorem dX11_row_0 : decode cX11_row 0 = .ok (.aload_n 0, 1) := by decide +kernel
theorem dX11_row_1 : decode cX11_row 1 = .ok (.iload_n 1, 1) := by decide +kernel
theorem dX11_row_2 : decode cX11_row 2 = .ok (.invokevirtual 151, 3) := by decide +kernel
theorem dX11_row_5 : decode cX11_row 5 = .ok (.astore 4, 2) := by decide +kernel
theorem dX11_row_7 : decode cX11_row 7 = .ok (.iload_n 3, 1) := by decide +kernel
theorem dX11_row_8 : decode cX11_row 8 = .ok (.iconst 3, 1) := by decide +kernel
theorem dX11_row_9 : decode cX11_row 9 = .ok (.invokestatic 72, 3) := by decide +kernel
theorem dX11_row_12 : decode cX11_row 12 = .ok (.ifCond .ne 11, 3) := by decide +kernel
theorem dX11_row_15 : decode cX11_row 15 = .ok (.new 76, 3) := by decide +kernel
theorem dX11_row_18 : decode cX11_row 18 = .ok (.dup, 1) := by decide +kernel
theorem dX11_row_19 : decode cX11_row 19 = .ok (.invokespecial 78, 3) := by decide +kernel
theorem dX11_row_22 : decode cX11_row 22 = .ok (.athrow, 1) := by decide +kernel
theorem dX11_row_23 : decode cX11_row 23 = .ok (.aload_n 0, 1) := by decide +kernel
theorem dX11_row_24 : decode cX11_row 24 = .ok (.iload_n 1, 1) := by decide +kernel
theorem dX11_row_25 : decode cX11_row 25 = .ok (.invokevirtual 174, 3) := by decide +kernel
theorem dX11_row_28 : decode cX11_row 28 = .ok (.aload 4, 2) := by decide +kernel
theorem dX11_row_30 : decode cX11_row 30 = .ok (.iload_n 2, 1) := by decide +kernel
theorem dX11_row_31 : decode cX11_row 31 = .ok (.invokevirtual 193, 3) := by decide +kernel
theorem dX11_row_34 : decode cX11_row 34 = .ok (.istore 5, 2) := by decide +kernel
theorem dX11_row_36 : decode cX11_row 36 = .ok (.iload 5, 2) := by decide +kernel
theorem dX11_row_38 : decode cX11_row 38 = .ok (.ifCond .ge 11, 3) := by decide +kernel
theorem dX11_row_41 : decode cX11_row 41 = .ok (.new 115, 3) := by decide +kernel
theorem dX11_row_44 : decode cX11_row 44 = .ok (.dup, 1) := by decide +kernel
theorem dX11_row_45 : decode cX11_row 45 = .ok (.invokespecial 117, 3) := by decide +kernel
theorem dX11_row_48 : decode cX11_row 48 = .ok (.athrow, 1) := by decide +kernel
theorem dX11_row_49 : decode cX11_row 49 = .ok (.iload 5, 2) := by decide +kernel
theorem dX11_row_51 : decode cX11_row 51 = .ok (.bipush 20, 2) := by decide +kernel
theorem dX11_row_53 : decode cX11_row 53 = .ok (.iload_n 3, 1) := by decide +kernel
theorem dX11_row_54 : decode cX11_row 54 = .ok (.iadd, 1) := by decide +kernel
theorem dX11_row_55 : decode cX11_row 55 = .ok (.invokestatic 196, 3) := by decide +kernel
theorem dX11_row_58 : decode cX11_row 58 = .ok (.ireturn, 1) := by decide +kernel
theorem dX11_different_0 : decode cX11_different 0 = .ok (.aload_n 0, 1) := by decide +kernel
theorem dX11_different_1 : decode cX11_different 1 = .ok (.iload_n 1, 1) := by decide +kernel
theorem dX11_different_2 : decode cX11_different 2 = .ok (.invokevirtual 151, 3) := by decide +kernel
theorem dX11_different_5 : decode cX11_different 5 = .ok (.astore_n 2, 1) := by decide +kernel
theorem dX11_different_6 : decode cX11_different 6 = .ok (.aload_n 0, 1) := by decide +kernel
theorem dX11_different_7 : decode cX11_different 7 = .ok (.iload_n 1, 1) := by decide +kernel
theorem dX11_different_8 : decode cX11_different 8 = .ok (.invokevirtual 174, 3) := by decide +kernel
theorem dX11_different_11 : decode cX11_different 11 = .ok (.aload_n 2, 1) := by decide +kernel
theorem dX11_different_12 : decode cX11_different 12 = .ok (.invokevirtual 200, 3) := by decide +kernel
theorem dX11_different_15 : decode cX11_different 15 = .ok (.ireturn, 1) := by decide +kernel
theorem dX11_addRows_0 : decode cX11_addRows 0 = .ok (.aload_n 0, 1) := by decide +kernel
theorem dX11_addRows_1 : decode cX11_addRows 1 = .ok (.iload_n 1, 1) := by decide +kernel
theorem dX11_addRows_2 : decode cX11_addRows 2 = .ok (.invokevirtual 151, 3) := by decide +kernel
theorem dX11_addRows_5 : decode cX11_addRows 5 = .ok (.astore 6, 2) := by decide +kernel
theorem dX11_addRows_7 : decode cX11_addRows 7 = .ok (.iload_n 2, 1) := by decide +kernel
theorem dX11_addRows_8 : decode cX11_addRows 8 = .ok (.iconst 3, 1) := by decide +kernel
theorem dX11_addRows_9 : decode cX11_addRows 9 = .ok (.invokestatic 72, 3) := by decide +kernel
theorem dX11_addRows_12 : decode cX11_addRows 12 = .ok (.ifCond .eq 14, 3) := by decide +kernel
theorem dX11_addRows_15 : decode cX11_addRows 15 = .ok (.iload_n 3, 1) := by decide +kernel
theorem dX11_addRows_16 : decode cX11_addRows 16 = .ok (.iload 4, 2) := by decide +kernel
theorem dX11_addRows_18 : decode cX11_addRows 18 = .ok (.iload 5, 2) := by decide +kernel
theorem dX11_addRows_20 : decode cX11_addRows 20 = .ok (.invokestatic 130, 3) := by decide +kernel
theorem dX11_addRows_23 : decode cX11_addRows 23 = .ok (.ifCond .ne 11, 3) := by decide +kernel
theorem dX11_addRows_26 : decode cX11_addRows 26 = .ok (.new 76, 3) := by decide +kernel
theorem dX11_addRows_29 : decode cX11_addRows 29 = .ok (.dup, 1) := by decide +kernel
theorem dX11_addRows_30 : decode cX11_addRows 30 = .ok (.invokespecial 78, 3) := by decide +kernel
theorem dX11_addRows_33 : decode cX11_addRows 33 = .ok (.athrow, 1) := by decide +kernel
theorem dX11_addRows_34 : decode cX11_addRows 34 = .ok (.aload_n 0, 1) := by decide +kernel
theorem dX11_addRows_35 : decode cX11_addRows 35 = .ok (.iload_n 1, 1) := by decide +kernel
theorem dX11_addRows_36 : decode cX11_addRows 36 = .ok (.invokevirtual 174, 3) := by decide +kernel
theorem dX11_addRows_39 : decode cX11_addRows 39 = .ok (.aload_n 0, 1) := by decide +kernel
theorem dX11_addRows_40 : decode cX11_addRows 40 = .ok (.aload 6, 2) := by decide +kernel
theorem dX11_addRows_42 : decode cX11_addRows 42 = .ok (.iload_n 3, 1) := by decide +kernel
theorem dX11_addRows_43 : decode cX11_addRows 43 = .ok (.iload 4, 2) := by decide +kernel
theorem dX11_addRows_45 : decode cX11_addRows 45 = .ok (.iload 5, 2) := by decide +kernel
theorem dX11_addRows_47 : decode cX11_addRows 47 = .ok (.invokevirtual 203, 3) := by decide +kernel
theorem dX11_addRows_50 : decode cX11_addRows 50 = .ok (.aload_n 0, 1) := by decide +kernel
theorem dX11_addRows_51 : decode cX11_addRows 51 = .ok (.iload_n 2, 1) := by decide +kernel
theorem dX11_addRows_52 : decode cX11_addRows 52 = .ok (.iconst 0, 1) := by decide +kernel
theorem dX11_addRows_53 : decode cX11_addRows 53 = .ok (.invokevirtual 207, 3) := by decide +kernel
theorem dX11_addRows_56 : decode cX11_addRows 56 = .ok (.istore 7, 2) := by decide +kernel
theorem dX11_addRows_58 : decode cX11_addRows 58 = .ok (.aload_n 0, 1) := by decide +kernel
theorem dX11_addRows_59 : decode cX11_addRows 59 = .ok (.invokevirtual 58, 3) := by decide +kernel
theorem dX11_addRows_62 : decode cX11_addRows 62 = .ok (.iload 7, 2) := by decide +kernel
theorem dX11_addRows_64 : decode cX11_addRows 64 = .ok (.iadd, 1) := by decide +kernel
theorem dX11_addRows_65 : decode cX11_addRows 65 = .ok (.bipush 60, 2) := by decide +kernel
theorem dX11_addRows_67 : decode cX11_addRows 67 = .ok (.if_icmp .le 11, 3) := by decide +kernel
theorem dX11_addRows_70 : decode cX11_addRows 70 = .ok (.new 62, 3) := by decide +kernel
theorem dX11_addRows_73 : decode cX11_addRows 73 = .ok (.dup, 1) := by decide +kernel
theorem dX11_addRows_74 : decode cX11_addRows 74 = .ok (.invokespecial 64, 3) := by decide +kernel
theorem dX11_addRows_77 : decode cX11_addRows 77 = .ok (.athrow, 1) := by decide +kernel
theorem dX11_addRows_78 : decode cX11_addRows 78 = .ok (.iconst 0, 1) := by decide +kernel
theorem dX11_addRows_79 : decode cX11_addRows 79 = .ok (.istore 8, 2) := by decide +kernel
theorem dX11_addRows_81 : decode cX11_addRows 81 = .ok (.iload 8, 2) := by decide +kernel
theorem dX11_addRows_83 : decode cX11_addRows 83 = .ok (.sipush 768, 3) := by decide +kernel
theorem dX11_addRows_86 : decode cX11_addRows 86 = .ok (.if_icmp .ge 26, 3) := by decide +kernel
theorem dX11_addRows_89 : decode cX11_addRows 89 = .ok (.aload_n 0, 1) := by decide +kernel
theorem dX11_addRows_90 : decode cX11_addRows 90 = .ok (.getfield 28, 3) := by decide +kernel
theorem dX11_addRows_93 : decode cX11_addRows 93 = .ok (.iload 8, 2) := by decide +kernel
theorem dX11_addRows_95 : decode cX11_addRows 95 = .ok (.baload, 1) := by decide +kernel
theorem dX11_addRows_96 : decode cX11_addRows 96 = .ok (.ifCond .eq 10, 3) := by decide +kernel
theorem dX11_addRows_99 : decode cX11_addRows 99 = .ok (.aload_n 0, 1) := by decide +kernel
theorem dX11_addRows_100 : decode cX11_addRows 100 = .ok (.iload_n 2, 1) := by decide +kernel
theorem dX11_addRows_101 : decode cX11_addRows 101 = .ok (.iload 8, 2) := by decide +kernel
theorem dX11_addRows_103 : decode cX11_addRows 103 = .ok (.invokevirtual 65, 3) := by decide +kernel
theorem dX11_addRows_106 : decode cX11_addRows 106 = .ok (.iinc 8 1, 3) := by decide +kernel
theorem dX11_addRows_109 : decode cX11_addRows 109 = .ok (.goto (-28), 3) := by decide +kernel
theorem dX11_addRows_112 : decode cX11_addRows 112 = .ok (.iload 7, 2) := by decide +kernel
theorem dX11_addRows_114 : decode cX11_addRows 114 = .ok (.ireturn, 1) := by decide +kernel
theorem dX11_removeRows_0 : decode cX11_removeRows 0 = .ok (.aload_n 0, 1) := by decide +kernel
theorem dX11_removeRows_1 : decode cX11_removeRows 1 = .ok (.iload_n 1, 1) := by decide +kernel
theorem dX11_removeRows_2 : decode cX11_removeRows 2 = .ok (.invokevirtual 151, 3) := by decide +kernel
theorem dX11_removeRows_5 : decode cX11_removeRows 5 = .ok (.astore 6, 2) := by decide +kernel
theorem dX11_removeRows_7 : decode cX11_removeRows 7 = .ok (.iload_n 2, 1) := by decide +kernel
theorem dX11_removeRows_8 : decode cX11_removeRows 8 = .ok (.iconst 3, 1) := by decide +kernel
theorem dX11_removeRows_9 : decode cX11_removeRows 9 = .ok (.invokestatic 72, 3) := by decide +kernel
theorem dX11_removeRows_12 : decode cX11_removeRows 12 = .ok (.ifCond .eq 14, 3) := by decide +kernel
theorem dX11_removeRows_15 : decode cX11_removeRows 15 = .ok (.iload_n 3, 1) := by decide +kernel
theorem dX11_removeRows_16 : decode cX11_removeRows 16 = .ok (.iload 4, 2) := by decide +kernel
theorem dX11_removeRows_18 : decode cX11_removeRows 18 = .ok (.iload 5, 2) := by decide +kernel
theorem dX11_removeRows_20 : decode cX11_removeRows 20 = .ok (.invokestatic 130, 3) := by decide +kernel
theorem dX11_removeRows_23 : decode cX11_removeRows 23 = .ok (.ifCond .ne 11, 3) := by decide +kernel
theorem dX11_removeRows_26 : decode cX11_removeRows 26 = .ok (.new 76, 3) := by decide +kernel
theorem dX11_removeRows_29 : decode cX11_removeRows 29 = .ok (.dup, 1) := by decide +kernel
theorem dX11_removeRows_30 : decode cX11_removeRows 30 = .ok (.invokespecial 78, 3) := by decide +kernel
theorem dX11_removeRows_33 : decode cX11_removeRows 33 = .ok (.athrow, 1) := by decide +kernel
theorem dX11_removeRows_34 : decode cX11_removeRows 34 = .ok (.aload_n 0, 1) := by decide +kernel
theorem dX11_removeRows_35 : decode cX11_removeRows 35 = .ok (.iload_n 1, 1) := by decide +kernel
theorem dX11_removeRows_36 : decode cX11_removeRows 36 = .ok (.invokevirtual 174, 3) := by decide +kernel
theorem dX11_removeRows_39 : decode cX11_removeRows 39 = .ok (.aload_n 0, 1) := by decide +kernel
theorem dX11_removeRows_40 : decode cX11_removeRows 40 = .ok (.aload 6, 2) := by decide +kernel
theorem dX11_removeRows_42 : decode cX11_removeRows 42 = .ok (.iload_n 3, 1) := by decide +kernel
theorem dX11_removeRows_43 : decode cX11_removeRows 43 = .ok (.iload 4, 2) := by decide +kernel
theorem dX11_removeRows_45 : decode cX11_removeRows 45 = .ok (.iload 5, 2) := by decide +kernel
theorem dX11_removeRows_47 : decode cX11_removeRows 47 = .ok (.invokevirtual 203, 3) := by decide +kernel
theorem dX11_removeRows_50 : decode cX11_removeRows 50 = .ok (.aload_n 0, 1) := by decide +kernel
theorem dX11_removeRows_51 : decode cX11_removeRows 51 = .ok (.iload_n 2, 1) := by decide +kernel
theorem dX11_removeRows_52 : decode cX11_removeRows 52 = .ok (.iconst 1, 1) := by decide +kernel
theorem dX11_removeRows_53 : decode cX11_removeRows 53 = .ok (.invokevirtual 207, 3) := by decide +kernel
theorem dX11_removeRows_56 : decode cX11_removeRows 56 = .ok (.istore 7, 2) := by decide +kernel
theorem dX11_removeRows_58 : decode cX11_removeRows 58 = .ok (.iconst 0, 1) := by decide +kernel
theorem dX11_removeRows_59 : decode cX11_removeRows 59 = .ok (.istore 8, 2) := by decide +kernel
theorem dX11_removeRows_61 : decode cX11_removeRows 61 = .ok (.iload 8, 2) := by decide +kernel
theorem dX11_removeRows_63 : decode cX11_removeRows 63 = .ok (.sipush 768, 3) := by decide +kernel
theorem dX11_removeRows_66 : decode cX11_removeRows 66 = .ok (.if_icmp .ge 26, 3) := by decide +kernel
theorem dX11_removeRows_69 : decode cX11_removeRows 69 = .ok (.aload_n 0, 1) := by decide +kernel
theorem dX11_removeRows_70 : decode cX11_removeRows 70 = .ok (.getfield 28, 3) := by decide +kernel
theorem dX11_removeRows_73 : decode cX11_removeRows 73 = .ok (.iload 8, 2) := by decide +kernel
theorem dX11_removeRows_75 : decode cX11_removeRows 75 = .ok (.baload, 1) := by decide +kernel
theorem dX11_removeRows_76 : decode cX11_removeRows 76 = .ok (.ifCond .eq 10, 3) := by decide +kernel
theorem dX11_removeRows_79 : decode cX11_removeRows 79 = .ok (.aload_n 0, 1) := by decide +kernel
theorem dX11_removeRows_80 : decode cX11_removeRows 80 = .ok (.iload_n 2, 1) := by decide +kernel
theorem dX11_removeRows_81 : decode cX11_removeRows 81 = .ok (.iload 8, 2) := by decide +kernel
theorem dX11_removeRows_83 : decode cX11_removeRows 83 = .ok (.invokevirtual 69, 3) := by decide +kernel
theorem dX11_removeRows_86 : decode cX11_removeRows 86 = .ok (.iinc 8 1, 3) := by decide +kernel
theorem dX11_removeRows_89 : decode cX11_removeRows 89 = .ok (.goto (-28), 3) := by decide +kernel
theorem dX11_removeRows_92 : decode cX11_removeRows 92 = .ok (.iload 7, 2) := by decide +kernel
theorem dX11_removeRows_94 : decode cX11_removeRows 94 = .ok (.ireturn, 1) := by decide +kernel
theorem dX11_addShape_0 : decode cX11_addShape 0 = .ok (.iload_n 1, 1) := by decide +kernel
theorem dX11_addShape_1 : decode cX11_addShape 1 = .ok (.iconst 4, 1) := by decide +kernel
theorem dX11_addShape_2 : decode cX11_addShape 2 = .ok (.invokestatic 72, 3) := by decide +kernel
theorem dX11_addShape_5 : decode cX11_addShape 5 = .ok (.ifCond .eq 40, 3) := by decide +kernel
theorem dX11_addShape_8 : decode cX11_addShape 8 = .ok (.iload_n 2, 1) := by decide +kernel
theorem dX11_addShape_9 : decode cX11_addShape 9 = .ok (.bipush 8, 2) := by decide +kernel
theorem dX11_addShape_11 : decode cX11_addShape 11 = .ok (.invokestatic 72, 3) := by decide +kernel
theorem dX11_addShape_14 : decode cX11_addShape 14 = .ok (.ifCond .eq 31, 3) := by decide +kernel
theorem dX11_addShape_17 : decode cX11_addShape 17 = .ok (.iload_n 3, 1) := by decide +kernel
theorem dX11_addShape_18 : decode cX11_addShape 18 = .ok (.bipush 8, 2) := by decide +kernel
theorem dX11_addShape_20 : decode cX11_addShape 20 = .ok (.invokestatic 72, 3) := by decide +kernel
theorem dX11_addShape_23 : decode cX11_addShape 23 = .ok (.ifCond .eq 22, 3) := by decide +kernel
theorem dX11_addShape_26 : decode cX11_addShape 26 = .ok (.iload 4, 2) := by decide +kernel
theorem dX11_addShape_28 : decode cX11_addShape 28 = .ok (.ifCond .lt 17, 3) := by decide +kernel
theorem dX11_addShape_31 : decode cX11_addShape 31 = .ok (.iload 5, 2) := by decide +kernel
theorem dX11_addShape_33 : decode cX11_addShape 33 = .ok (.bipush 9, 2) := by decide +kernel
theorem dX11_addShape_35 : decode cX11_addShape 35 = .ok (.if_icmp .gt 10, 3) := by decide +kernel
theorem dX11_addShape_38 : decode cX11_addShape 38 = .ok (.iload 5, 2) := by decide +kernel
theorem dX11_addShape_40 : decode cX11_addShape 40 = .ok (.iload 4, 2) := by decide +kernel
theorem dX11_addShape_42 : decode cX11_addShape 42 = .ok (.if_icmp .ge 11, 3) := by decide +kernel
theorem dX11_addShape_45 : decode cX11_addShape 45 = .ok (.new 76, 3) := by decide +kernel
theorem dX11_addShape_48 : decode cX11_addShape 48 = .ok (.dup, 1) := by decide +kernel
theorem dX11_addShape_49 : decode cX11_addShape 49 = .ok (.invokespecial 78, 3) := by decide +kernel
theorem dX11_addShape_52 : decode cX11_addShape 52 = .ok (.athrow, 1) := by decide +kernel
theorem dX11_addShape_53 : decode cX11_addShape 53 = .ok (.aload_n 0, 1) := by decide +kernel
theorem dX11_addShape_54 : decode cX11_addShape 54 = .ok (.getfield 25, 3) := by decide +kernel
theorem dX11_addShape_57 : decode cX11_addShape 57 = .ok (.invokevirtual 86, 3) := by decide +kernel
theorem dX11_addShape_60 : decode cX11_addShape 60 = .ok (.bipush 6, 2) := by decide +kernel
theorem dX11_addShape_62 : decode cX11_addShape 62 = .ok (.if_icmp .lt 11, 3) := by decide +kernel
theorem dX11_addShape_65 : decode cX11_addShape 65 = .ok (.new 62, 3) := by decide +kernel
theorem dX11_addShape_68 : decode cX11_addShape 68 = .ok (.dup, 1) := by decide +kernel
theorem dX11_addShape_69 : decode cX11_addShape 69 = .ok (.invokespecial 64, 3) := by decide +kernel
theorem dX11_addShape_72 : decode cX11_addShape 72 = .ok (.athrow, 1) := by decide +kernel
theorem dX11_addShape_73 : decode cX11_addShape 73 = .ok (.aload_n 0, 1) := by decide +kernel
theorem dX11_addShape_74 : decode cX11_addShape 74 = .ok (.getfield 25, 3) := by decide +kernel
theorem dX11_addShape_77 : decode cX11_addShape 77 = .ok (.new 211, 3) := by decide +kernel
theorem dX11_addShape_80 : decode cX11_addShape 80 = .ok (.dup, 1) := by decide +kernel
theorem dX11_addShape_81 : decode cX11_addShape 81 = .ok (.aload_n 0, 1) := by decide +kernel
theorem dX11_addShape_82 : decode cX11_addShape 82 = .ok (.getfield 11, 3) := by decide +kernel
theorem dX11_addShape_85 : decode cX11_addShape 85 = .ok (.iload_n 1, 1) := by decide +kernel
theorem dX11_addShape_86 : decode cX11_addShape 86 = .ok (.aaload, 1) := by decide +kernel
theorem dX11_addShape_87 : decode cX11_addShape 87 = .ok (.iload_n 2, 1) := by decide +kernel
theorem dX11_addShape_88 : decode cX11_addShape 88 = .ok (.iload_n 3, 1) := by decide +kernel
theorem dX11_addShape_89 : decode cX11_addShape 89 = .ok (.iload 4, 2) := by decide +kernel
theorem dX11_addShape_91 : decode cX11_addShape 91 = .ok (.iload 5, 2) := by decide +kernel
theorem dX11_addShape_93 : decode cX11_addShape 93 = .ok (.invokespecial 213, 3) := by decide +kernel
theorem dX11_addShape_96 : decode cX11_addShape 96 = .ok (.invokevirtual 94, 3) := by decide +kernel
theorem dX11_addShape_99 : decode cX11_addShape 99 = .ok (.pop, 1) := by decide +kernel
theorem dX11_addShape_100 : decode cX11_addShape 100 = .ok (.aload_n 0, 1) := by decide +kernel
theorem dX11_addShape_101 : decode cX11_addShape 101 = .ok (.getfield 25, 3) := by decide +kernel
theorem dX11_addShape_104 : decode cX11_addShape 104 = .ok (.invokevirtual 86, 3) := by decide +kernel
theorem dX11_addShape_107 : decode cX11_addShape 107 = .ok (.iconst 1, 1) := by decide +kernel
theorem dX11_addShape_108 : decode cX11_addShape 108 = .ok (.isub, 1) := by decide +kernel
theorem dX11_addShape_109 : decode cX11_addShape 109 = .ok (.ireturn, 1) := by decide +kernel
theorem dX11_faults_0 : decode cX11_faults 0 = .ok (.aload_n 0, 1) := by decide +kernel
theorem dX11_faults_1 : decode cX11_faults 1 = .ok (.invokevirtual 216, 3) := by decide +kernel
theorem dX11_faults_4 : decode cX11_faults 4 = .ok (.iconst 0, 1) := by decide +kernel
theorem dX11_faults_5 : decode cX11_faults 5 = .ok (.istore_n 1, 1) := by decide +kernel
theorem dX11_faults_6 : decode cX11_faults 6 = .ok (.iconst 0, 1) := by decide +kernel
theorem dX11_faults_7 : decode cX11_faults 7 = .ok (.istore_n 2, 1) := by decide +kernel
theorem dX11_faults_8 : decode cX11_faults 8 = .ok (.iload_n 2, 1) := by decide +kernel
theorem dX11_faults_9 : decode cX11_faults 9 = .ok (.aload_n 0, 1) := by decide +kernel
theorem dX11_faults_10 : decode cX11_faults 10 = .ok (.getfield 25, 3) := by decide +kernel
theorem dX11_faults_13 : decode cX11_faults 13 = .ok (.invokevirtual 86, 3) := by decide +kernel
theorem dX11_faults_16 : decode cX11_faults 16 = .ok (.if_icmp .ge 44, 3) := by decide +kernel
theorem dX11_faults_19 : decode cX11_faults 19 = .ok (.iconst 0, 1) := by decide +kernel
theorem dX11_faults_20 : decode cX11_faults 20 = .ok (.istore_n 3, 1) := by decide +kernel
theorem dX11_faults_21 : decode cX11_faults 21 = .ok (.iload_n 3, 1) := by decide +kernel
theorem dX11_faults_22 : decode cX11_faults 22 = .ok (.bipush 8, 2) := by decide +kernel
theorem dX11_faults_24 : decode cX11_faults 24 = .ok (.if_icmp .ge 30, 3) := by decide +kernel
theorem dX11_faults_27 : decode cX11_faults 27 = .ok (.aload_n 0, 1) := by decide +kernel
theorem dX11_faults_28 : decode cX11_faults 28 = .ok (.getfield 25, 3) := by decide +kernel
theorem dX11_faults_31 : decode cX11_faults 31 = .ok (.iload_n 2, 1) := by decide +kernel
theorem dX11_faults_32 : decode cX11_faults 32 = .ok (.invokevirtual 219, 3) := by decide +kernel
theorem dX11_faults_35 : decode cX11_faults 35 = .ok (.checkcast 211, 3) := by decide +kernel
theorem dX11_faults_38 : decode cX11_faults 38 = .ok (.iload_n 3, 1) := by decide +kernel
theorem dX11_faults_39 : decode cX11_faults 39 = .ok (.invokevirtual 223, 3) := by decide +kernel
theorem dX11_faults_42 : decode cX11_faults 42 = .ok (.ifCond .eq 6, 3) := by decide +kernel
theorem dX11_faults_45 : decode cX11_faults 45 = .ok (.iinc 1 1, 3) := by decide +kernel
theorem dX11_faults_48 : decode cX11_faults 48 = .ok (.iinc 3 1, 3) := by decide +kernel
theorem dX11_faults_51 : decode cX11_faults 51 = .ok (.goto (-30), 3) := by decide +kernel
theorem dX11_faults_54 : decode cX11_faults 54 = .ok (.iinc 2 1, 3) := by decide +kernel
theorem dX11_faults_57 : decode cX11_faults 57 = .ok (.goto (-49), 3) := by decide +kernel
theorem dX11_faults_60 : decode cX11_faults 60 = .ok (.iload_n 1, 1) := by decide +kernel
theorem dX11_faults_61 : decode cX11_faults 61 = .ok (.ireturn, 1) := by decide +kernel
theorem dX11_faultAt_0 : decode cX11_faultAt 0 = .ok (.aload_n 0, 1) := by decide +kernel
theorem dX11_faultAt_1 : decode cX11_faultAt 1 = .ok (.invokevirtual 216, 3) := by decide +kernel
theorem dX11_faultAt_4 : decode cX11_faultAt 4 = .ok (.iconst 0, 1) := by decide +kernel
theorem dX11_faultAt_5 : decode cX11_faultAt 5 = .ok (.istore_n 2, 1) := by decide +kernel
theorem dX11_faultAt_6 : decode cX11_faultAt 6 = .ok (.iconst 0, 1) := by decide +kernel
theorem dX11_faultAt_7 : decode cX11_faultAt 7 = .ok (.istore_n 3, 1) := by decide +kernel
theorem dX11_faultAt_8 : decode cX11_faultAt 8 = .ok (.iload_n 3, 1) := by decide +kernel
theorem dX11_faultAt_9 : decode cX11_faultAt 9 = .ok (.aload_n 0, 1) := by decide +kernel
theorem dX11_faultAt_10 : decode cX11_faultAt 10 = .ok (.getfield 25, 3) := by decide +kernel
theorem dX11_faultAt_13 : decode cX11_faultAt 13 = .ok (.invokevirtual 86, 3) := by decide +kernel
theorem dX11_faultAt_16 : decode cX11_faultAt 16 = .ok (.if_icmp .ge 60, 3) := by decide +kernel
theorem dX11_faultAt_19 : decode cX11_faultAt 19 = .ok (.iconst 0, 1) := by decide +kernel
theorem dX11_faultAt_20 : decode cX11_faultAt 20 = .ok (.istore 4, 2) := by decide +kernel
theorem dX11_faultAt_22 : decode cX11_faultAt 22 = .ok (.iload 4, 2) := by decide +kernel
theorem dX11_faultAt_24 : decode cX11_faultAt 24 = .ok (.bipush 8, 2) := by decide +kernel
theorem dX11_faultAt_26 : decode cX11_faultAt 26 = .ok (.if_icmp .ge 44, 3) := by decide +kernel
theorem dX11_faultAt_29 : decode cX11_faultAt 29 = .ok (.aload_n 0, 1) := by decide +kernel
theorem dX11_faultAt_30 : decode cX11_faultAt 30 = .ok (.getfield 25, 3) := by decide +kernel
theorem dX11_faultAt_33 : decode cX11_faultAt 33 = .ok (.iload_n 3, 1) := by decide +kernel
theorem dX11_faultAt_34 : decode cX11_faultAt 34 = .ok (.invokevirtual 219, 3) := by decide +kernel
theorem dX11_faultAt_37 : decode cX11_faultAt 37 = .ok (.checkcast 211, 3) := by decide +kernel
theorem dX11_faultAt_40 : decode cX11_faultAt 40 = .ok (.iload 4, 2) := by decide +kernel
theorem dX11_faultAt_42 : decode cX11_faultAt 42 = .ok (.invokevirtual 223, 3) := by decide +kernel
theorem dX11_faultAt_45 : decode cX11_faultAt 45 = .ok (.ifCond .eq 19, 3) := by decide +kernel
theorem dX11_faultAt_48 : decode cX11_faultAt 48 = .ok (.iload_n 2, 1) := by decide +kernel
theorem dX11_faultAt_49 : decode cX11_faultAt 49 = .ok (.iload_n 1, 1) := by decide +kernel
theorem dX11_faultAt_50 : decode cX11_faultAt 50 = .ok (.if_icmp .ne 11, 3) := by decide +kernel
theorem dX11_faultAt_53 : decode cX11_faultAt 53 = .ok (.bipush 10, 2) := by decide +kernel
theorem dX11_faultAt_55 : decode cX11_faultAt 55 = .ok (.iload_n 3, 1) := by decide +kernel
theorem dX11_faultAt_56 : decode cX11_faultAt 56 = .ok (.imul, 1) := by decide +kernel
theorem dX11_faultAt_57 : decode cX11_faultAt 57 = .ok (.iload 4, 2) := by decide +kernel
theorem dX11_faultAt_59 : decode cX11_faultAt 59 = .ok (.iadd, 1) := by decide +kernel
theorem dX11_faultAt_60 : decode cX11_faultAt 60 = .ok (.ireturn, 1) := by decide +kernel
theorem dX11_faultAt_61 : decode cX11_faultAt 61 = .ok (.iinc 2 1, 3) := by decide +kernel
theorem dX11_faultAt_64 : decode cX11_faultAt 64 = .ok (.iinc 4 1, 3) := by decide +kernel
theorem dX11_faultAt_67 : decode cX11_faultAt 67 = .ok (.goto (-45), 3) := by decide +kernel
theorem dX11_faultAt_70 : decode cX11_faultAt 70 = .ok (.iinc 3 1, 3) := by decide +kernel
theorem dX11_faultAt_73 : decode cX11_faultAt 73 = .ok (.goto (-65), 3) := by decide +kernel
theorem dX11_faultAt_76 : decode cX11_faultAt 76 = .ok (.new 226, 3) := by decide +kernel
theorem dX11_faultAt_79 : decode cX11_faultAt 79 = .ok (.dup, 1) := by decide +kernel
theorem dX11_faultAt_80 : decode cX11_faultAt 80 = .ok (.invokespecial 228, 3) := by decide +kernel
theorem dX11_faultAt_83 : decode cX11_faultAt 83 = .ok (.athrow, 1) := by decide +kernel
theorem dX11_checksum_0 : decode cX11_checksum 0 = .ok (.lconst 0, 1) := by decide +kernel
theorem dX11_checksum_1 : decode cX11_checksum 1 = .ok (.lstore_n 1, 1) := by decide +kernel
theorem dX11_checksum_2 : decode cX11_checksum 2 = .ok (.iconst 0, 1) := by decide +kernel
theorem dX11_checksum_3 : decode cX11_checksum 3 = .ok (.istore_n 3, 1) := by decide +kernel
theorem dX11_checksum_4 : decode cX11_checksum 4 = .ok (.iload_n 3, 1) := by decide +kernel
theorem dX11_checksum_5 : decode cX11_checksum 5 = .ok (.iconst 3, 1) := by decide +kernel
theorem dX11_checksum_6 : decode cX11_checksum 6 = .ok (.if_icmp .ge 77, 3) := by decide +kernel
theorem dX11_checksum_9 : decode cX11_checksum 9 = .ok (.iconst 0, 1) := by decide +kernel
theorem dX11_checksum_10 : decode cX11_checksum 10 = .ok (.istore 4, 2) := by decide +kernel
theorem dX11_checksum_12 : decode cX11_checksum 12 = .ok (.iload 4, 2) := by decide +kernel
theorem dX11_checksum_14 : decode cX11_checksum 14 = .ok (.sipush 768, 3) := by decide +kernel
theorem dX11_checksum_17 : decode cX11_checksum 17 = .ok (.if_icmp .ge 60, 3) := by decide +kernel
theorem dX11_checksum_20 : decode cX11_checksum 20 = .ok (.aload_n 0, 1) := by decide +kernel
theorem dX11_checksum_21 : decode cX11_checksum 21 = .ok (.getfield 11, 3) := by decide +kernel
theorem dX11_checksum_24 : decode cX11_checksum 24 = .ok (.iload_n 3, 1) := by decide +kernel
theorem dX11_checksum_25 : decode cX11_checksum 25 = .ok (.aaload, 1) := by decide +kernel
theorem dX11_checksum_26 : decode cX11_checksum 26 = .ok (.iload 4, 2) := by decide +kernel
theorem dX11_checksum_28 : decode cX11_checksum 28 = .ok (.invokevirtual 54, 3) := by decide +kernel
theorem dX11_checksum_31 : decode cX11_checksum 31 = .ok (.ifCond .eq 40, 3) := by decide +kernel
theorem dX11_checksum_34 : decode cX11_checksum 34 = .ok (.ldc2_w 229, 3) := by decide +kernel
theorem dX11_checksum_37 : decode cX11_checksum 37 = .ok (.lload_n 1, 1) := by decide +kernel
theorem dX11_checksum_38 : decode cX11_checksum 38 = .ok (.lmul, 1) := by decide +kernel
theorem dX11_checksum_39 : decode cX11_checksum 39 = .ok (.iload_n 3, 1) := by decide +kernel
theorem dX11_checksum_40 : decode cX11_checksum 40 = .ok (.i2l, 1) := by decide +kernel
theorem dX11_checksum_41 : decode cX11_checksum 41 = .ok (.ladd, 1) := by decide +kernel
theorem dX11_checksum_42 : decode cX11_checksum 42 = .ok (.iconst 3, 1) := by decide +kernel
theorem dX11_checksum_43 : decode cX11_checksum 43 = .ok (.iload 4, 2) := by decide +kernel
theorem dX11_checksum_45 : decode cX11_checksum 45 = .ok (.invokestatic 231, 3) := by decide +kernel
theorem dX11_checksum_48 : decode cX11_checksum 48 = .ok (.imul, 1) := by decide +kernel
theorem dX11_checksum_49 : decode cX11_checksum 49 = .ok (.i2l, 1) := by decide +kernel
theorem dX11_checksum_50 : decode cX11_checksum 50 = .ok (.ladd, 1) := by decide +kernel
theorem dX11_checksum_51 : decode cX11_checksum 51 = .ok (.iconst 5, 1) := by decide +kernel
theorem dX11_checksum_52 : decode cX11_checksum 52 = .ok (.iload 4, 2) := by decide +kernel
theorem dX11_checksum_54 : decode cX11_checksum 54 = .ok (.invokestatic 234, 3) := by decide +kernel
theorem dX11_checksum_57 : decode cX11_checksum 57 = .ok (.imul, 1) := by decide +kernel
theorem dX11_checksum_58 : decode cX11_checksum 58 = .ok (.i2l, 1) := by decide +kernel
theorem dX11_checksum_59 : decode cX11_checksum 59 = .ok (.ladd, 1) := by decide +kernel
theorem dX11_checksum_60 : decode cX11_checksum 60 = .ok (.bipush 7, 2) := by decide +kernel
theorem dX11_checksum_62 : decode cX11_checksum 62 = .ok (.iload 4, 2) := by decide +kernel
theorem dX11_checksum_64 : decode cX11_checksum 64 = .ok (.invokestatic 237, 3) := by decide +kernel
theorem dX11_checksum_67 : decode cX11_checksum 67 = .ok (.imul, 1) := by decide +kernel
theorem dX11_checksum_68 : decode cX11_checksum 68 = .ok (.i2l, 1) := by decide +kernel
theorem dX11_checksum_69 : decode cX11_checksum 69 = .ok (.ladd, 1) := by decide +kernel
theorem dX11_checksum_70 : decode cX11_checksum 70 = .ok (.lstore_n 1, 1) := by decide +kernel
theorem dX11_checksum_71 : decode cX11_checksum 71 = .ok (.iinc 4 1, 3) := by decide +kernel
theorem dX11_checksum_74 : decode cX11_checksum 74 = .ok (.goto (-62), 3) := by decide +kernel
theorem dX11_checksum_77 : decode cX11_checksum 77 = .ok (.iinc 3 1, 3) := by decide +kernel
theorem dX11_checksum_80 : decode cX11_checksum 80 = .ok (.goto (-76), 3) := by decide +kernel
theorem dX11_checksum_83 : decode cX11_checksum 83 = .ok (.lload_n 1, 1) := by decide +kernel
theorem dX11_checksum_84 : decode cX11_checksum 84 = .ok (.lreturn, 1) := by decide +kernel
theorem dX11_thereShare_0 : decode cX11_thereShare 0 = .ok (.aload_n 0, 1) := by decide +kernel
theorem dX11_thereShare_1 : decode cX11_thereShare 1 = .ok (.iconst 3, 1) := by decide +kernel
theorem dX11_thereShare_2 : decode cX11_thereShare 2 = .ok (.invokevirtual 104, 3) := by decide +kernel
theorem dX11_thereShare_5 : decode cX11_thereShare 5 = .ok (.astore_n 1, 1) := by decide +kernel
theorem dX11_thereShare_6 : decode cX11_thereShare 6 = .ok (.aload_n 1, 1) := by decide +kernel
theorem dX11_thereShare_7 : decode cX11_thereShare 7 = .ok (.getfield 108, 3) := by decide +kernel
theorem dX11_thereShare_10 : decode cX11_thereShare 10 = .ok (.invokevirtual 122, 3) := by decide +kernel
theorem dX11_thereShare_13 : decode cX11_thereShare 13 = .ok (.istore_n 2, 1) := by decide +kernel
theorem dX11_thereShare_14 : decode cX11_thereShare 14 = .ok (.iload_n 2, 1) := by decide +kernel
theorem dX11_thereShare_15 : decode cX11_thereShare 15 = .ok (.ifCond .gt 11, 3) := by decide +kernel
theorem dX11_thereShare_18 : decode cX11_thereShare 18 = .ok (.new 240, 3) := by decide +kernel
theorem dX11_thereShare_21 : decode cX11_thereShare 21 = .ok (.dup, 1) := by decide +kernel
theorem dX11_thereShare_22 : decode cX11_thereShare 22 = .ok (.invokespecial 242, 3) := by decide +kernel
theorem dX11_thereShare_25 : decode cX11_thereShare 25 = .ok (.athrow, 1) := by decide +kernel
theorem dX11_thereShare_26 : decode cX11_thereShare 26 = .ok (.aload_n 1, 1) := by decide +kernel
theorem dX11_thereShare_27 : decode cX11_thereShare 27 = .ok (.getfield 79, 3) := by decide +kernel
theorem dX11_thereShare_30 : decode cX11_thereShare 30 = .ok (.i2f, 1) := by decide +kernel
theorem dX11_thereShare_31 : decode cX11_thereShare 31 = .ok (.iload_n 2, 1) := by decide +kernel
theorem dX11_thereShare_32 : decode cX11_thereShare 32 = .ok (.i2f, 1) := by decide +kernel
theorem dX11_thereShare_33 : decode cX11_thereShare 33 = .ok (.fdiv, 1) := by decide +kernel
theorem dX11_thereShare_34 : decode cX11_thereShare 34 = .ok (.freturn, 1) := by decide +kernel
theorem dX11_meanProof_0 : decode cX11_meanProof 0 = .ok (.aload_n 0, 1) := by decide +kernel
theorem dX11_meanProof_1 : decode cX11_meanProof 1 = .ok (.iconst 3, 1) := by decide +kernel
theorem dX11_meanProof_2 : decode cX11_meanProof 2 = .ok (.invokevirtual 104, 3) := by decide +kernel
theorem dX11_meanProof_5 : decode cX11_meanProof 5 = .ok (.astore_n 1, 1) := by decide +kernel
theorem dX11_meanProof_6 : decode cX11_meanProof 6 = .ok (.aload_n 1, 1) := by decide +kernel
theorem dX11_meanProof_7 : decode cX11_meanProof 7 = .ok (.getfield 108, 3) := by decide +kernel
theorem dX11_meanProof_10 : decode cX11_meanProof 10 = .ok (.invokevirtual 122, 3) := by decide +kernel
theorem dX11_meanProof_13 : decode cX11_meanProof 13 = .ok (.istore_n 2, 1) := by decide +kernel
theorem dX11_meanProof_14 : decode cX11_meanProof 14 = .ok (.iload_n 2, 1) := by decide +kernel
theorem dX11_meanProof_15 : decode cX11_meanProof 15 = .ok (.ifCond .gt 11, 3) := by decide +kernel
theorem dX11_meanProof_18 : decode cX11_meanProof 18 = .ok (.new 240, 3) := by decide +kernel
theorem dX11_meanProof_21 : decode cX11_meanProof 21 = .ok (.dup, 1) := by decide +kernel
theorem dX11_meanProof_22 : decode cX11_meanProof 22 = .ok (.invokespecial 242, 3) := by decide +kernel
theorem dX11_meanProof_25 : decode cX11_meanProof 25 = .ok (.athrow, 1) := by decide +kernel
theorem dX11_meanProof_26 : decode cX11_meanProof 26 = .ok (.aload_n 1, 1) := by decide +kernel
theorem dX11_meanProof_27 : decode cX11_meanProof 27 = .ok (.getfield 108, 3) := by decide +kernel
theorem dX11_meanProof_30 : decode cX11_meanProof 30 = .ok (.invokevirtual 243, 3) := by decide +kernel
theorem dX11_meanProof_33 : decode cX11_meanProof 33 = .ok (.iload_n 2, 1) := by decide +kernel
theorem dX11_meanProof_34 : decode cX11_meanProof 34 = .ok (.i2d, 1) := by decide +kernel
theorem dX11_meanProof_35 : decode cX11_meanProof 35 = .ok (.ddiv, 1) := by decide +kernel
theorem dX11_meanProof_36 : decode cX11_meanProof 36 = .ok (.dreturn, 1) := by decide +kernel
theorem dX11_isSound_0 : decode cX11_isSound 0 = .ok (.aload_n 0, 1) := by decide +kernel
theorem dX11_isSound_1 : decode cX11_isSound 1 = .ok (.aload_n 0, 1) := by decide +kernel
theorem dX11_isSound_2 : decode cX11_isSound 2 = .ok (.getfield 22, 3) := by decide +kernel
theorem dX11_isSound_5 : decode cX11_isSound 5 = .ok (.invokevirtual 86, 3) := by decide +kernel
theorem dX11_isSound_8 : decode cX11_isSound 8 = .ok (.iconst 1, 1) := by decide +kernel
theorem dX11_isSound_9 : decode cX11_isSound 9 = .ok (.isub, 1) := by decide +kernel
theorem dX11_isSound_10 : decode cX11_isSound 10 = .ok (.invokevirtual 174, 3) := by decide +kernel
theorem dX11_isSound_13 : decode cX11_isSound 13 = .ok (.aload_n 0, 1) := by decide +kernel
theorem dX11_isSound_14 : decode cX11_isSound 14 = .ok (.aload_n 0, 1) := by decide +kernel
theorem dX11_isSound_15 : decode cX11_isSound 15 = .ok (.getfield 22, 3) := by decide +kernel
theorem dX11_isSound_18 : decode cX11_isSound 18 = .ok (.invokevirtual 86, 3) := by decide +kernel
theorem dX11_isSound_21 : decode cX11_isSound 21 = .ok (.iconst 1, 1) := by decide +kernel
theorem dX11_isSound_22 : decode cX11_isSound 22 = .ok (.isub, 1) := by decide +kernel
theorem dX11_isSound_23 : decode cX11_isSound 23 = .ok (.invokevirtual 187, 3) := by decide +kernel
theorem dX11_isSound_26 : decode cX11_isSound 26 = .ok (.iconst 0, 1) := by decide +kernel
theorem dX11_isSound_27 : decode cX11_isSound 27 = .ok (.istore_n 1, 1) := by decide +kernel
theorem dX11_isSound_28 : decode cX11_isSound 28 = .ok (.iload_n 1, 1) := by decide +kernel
theorem dX11_isSound_29 : decode cX11_isSound 29 = .ok (.aload_n 0, 1) := by decide +kernel
theorem dX11_isSound_30 : decode cX11_isSound 30 = .ok (.getfield 22, 3) := by decide +kernel
theorem dX11_isSound_33 : decode cX11_isSound 33 = .ok (.invokevirtual 86, 3) := by decide +kernel
theorem dX11_isSound_36 : decode cX11_isSound 36 = .ok (.if_icmp .ge 28, 3) := by decide +kernel
theorem dX11_isSound_39 : decode cX11_isSound 39 = .ok (.aload_n 0, 1) := by decide +kernel
theorem dX11_isSound_40 : decode cX11_isSound 40 = .ok (.getfield 22, 3) := by decide +kernel
theorem dX11_isSound_43 : decode cX11_isSound 43 = .ok (.iload_n 1, 1) := by decide +kernel
theorem dX11_isSound_44 : decode cX11_isSound 44 = .ok (.invokevirtual 219, 3) := by decide +kernel
theorem dX11_isSound_47 : decode cX11_isSound 47 = .ok (.checkcast 179, 3) := by decide +kernel
theorem dX11_isSound_50 : decode cX11_isSound 50 = .ok (.invokevirtual 246, 3) := by decide +kernel
theorem dX11_isSound_53 : decode cX11_isSound 53 = .ok (.ifCond .ne 5, 3) := by decide +kernel
theorem dX11_isSound_56 : decode cX11_isSound 56 = .ok (.iconst 0, 1) := by decide +kernel
theorem dX11_isSound_57 : decode cX11_isSound 57 = .ok (.ireturn, 1) := by decide +kernel
theorem dX11_isSound_58 : decode cX11_isSound 58 = .ok (.iinc 1 1, 3) := by decide +kernel
theorem dX11_isSound_61 : decode cX11_isSound 61 = .ok (.goto (-33), 3) := by decide +kernel
theorem dX11_isSound_64 : decode cX11_isSound 64 = .ok (.iconst 1, 1) := by decide +kernel
theorem dX11_isSound_65 : decode cX11_isSound 65 = .ok (.ireturn, 1) := by decide +kernel
theorem dX11_isBelow_0 : decode cX11_isBelow 0 = .ok (.iload_n 0, 1) := by decide +kernel
theorem dX11_isBelow_1 : decode cX11_isBelow 1 = .ok (.ifCond .lt 12, 3) := by decide +kernel
theorem dX11_isBelow_4 : decode cX11_isBelow 4 = .ok (.iload_n 0, 1) := by decide +kernel
theorem dX11_isBelow_5 : decode cX11_isBelow 5 = .ok (.iload_n 1, 1) := by decide +kernel
theorem dX11_isBelow_6 : decode cX11_isBelow 6 = .ok (.if_icmp .ge 7, 3) := by decide +kernel
theorem dX11_isBelow_9 : decode cX11_isBelow 9 = .ok (.iconst 1, 1) := by decide +kernel
theorem dX11_isBelow_10 : decode cX11_isBelow 10 = .ok (.goto 4, 3) := by decide +kernel
theorem dX11_isBelow_13 : decode cX11_isBelow 13 = .ok (.iconst 0, 1) := by decide +kernel
theorem dX11_isBelow_14 : decode cX11_isBelow 14 = .ok (.ireturn, 1) := by decide +kernel
theorem dX11_isPlace_0 : decode cX11_isPlace 0 = .ok (.iload_n 0, 1) := by decide +kernel
theorem dX11_isPlace_1 : decode cX11_isPlace 1 = .ok (.bipush 12, 2) := by decide +kernel
theorem dX11_isPlace_3 : decode cX11_isPlace 3 = .ok (.invokestatic 72, 3) := by decide +kernel
theorem dX11_isPlace_6 : decode cX11_isPlace 6 = .ok (.ifCond .ne 14, 3) := by decide +kernel
theorem dX11_isPlace_9 : decode cX11_isPlace 9 = .ok (.iload_n 0, 1) := by decide +kernel
theorem dX11_isPlace_10 : decode cX11_isPlace 10 = .ok (.bipush 20, 2) := by decide +kernel
theorem dX11_isPlace_12 : decode cX11_isPlace 12 = .ok (.isub, 1) := by decide +kernel
theorem dX11_isPlace_13 : decode cX11_isPlace 13 = .ok (.iconst 3, 1) := by decide +kernel
theorem dX11_isPlace_14 : decode cX11_isPlace 14 = .ok (.invokestatic 72, 3) := by decide +kernel
theorem dX11_isPlace_17 : decode cX11_isPlace 17 = .ok (.ifCond .eq 7, 3) := by decide +kernel
theorem dX11_isPlace_20 : decode cX11_isPlace 20 = .ok (.iconst 1, 1) := by decide +kernel
theorem dX11_isPlace_21 : decode cX11_isPlace 21 = .ok (.goto 4, 3) := by decide +kernel
theorem dX11_isPlace_24 : decode cX11_isPlace 24 = .ok (.iconst 0, 1) := by decide +kernel
theorem dX11_isPlace_25 : decode cX11_isPlace 25 = .ok (.ireturn, 1) := by decide +kernel
theorem dX11_arePlaces_0 : decode cX11_arePlaces 0 = .ok (.iload_n 0, 1) := by decide +kernel
theorem dX11_arePlaces_1 : decode cX11_arePlaces 1 = .ok (.invokestatic 250, 3) := by decide +kernel
theorem dX11_arePlaces_4 : decode cX11_arePlaces 4 = .ok (.ifCond .eq 21, 3) := by decide +kernel
theorem dX11_arePlaces_7 : decode cX11_arePlaces 7 = .ok (.iload_n 1, 1) := by decide +kernel
theorem dX11_arePlaces_8 : decode cX11_arePlaces 8 = .ok (.invokestatic 250, 3) := by decide +kernel
theorem dX11_arePlaces_11 : decode cX11_arePlaces 11 = .ok (.ifCond .eq 14, 3) := by decide +kernel
theorem dX11_arePlaces_14 : decode cX11_arePlaces 14 = .ok (.iload_n 2, 1) := by decide +kernel
theorem dX11_arePlaces_15 : decode cX11_arePlaces 15 = .ok (.invokestatic 250, 3) := by decide +kernel
theorem dX11_arePlaces_18 : decode cX11_arePlaces 18 = .ok (.ifCond .eq 7, 3) := by decide +kernel
theorem dX11_arePlaces_21 : decode cX11_arePlaces 21 = .ok (.iconst 1, 1) := by decide +kernel
theorem dX11_arePlaces_22 : decode cX11_arePlaces 22 = .ok (.goto 4, 3) := by decide +kernel
theorem dX11_arePlaces_25 : decode cX11_arePlaces 25 = .ok (.iconst 0, 1) := by decide +kernel
theorem dX11_arePlaces_26 : decode cX11_arePlaces 26 = .ok (.ireturn, 1) := by decide +kernel
theorem dX11_isRule_0 : decode cX11_isRule 0 = .ok (.iload_n 1, 1) := by decide +kernel
theorem dX11_isRule_1 : decode cX11_isRule 1 = .ok (.bipush 8, 2) := by decide +kernel
theorem dX11_isRule_3 : decode cX11_isRule 3 = .ok (.invokestatic 72, 3) := by decide +kernel
theorem dX11_isRule_6 : decode cX11_isRule 6 = .ok (.ifCond .ne 5, 3) := by decide +kernel
theorem dX11_isRule_9 : decode cX11_isRule 9 = .ok (.iconst 0, 1) := by decide +kernel
theorem dX11_isRule_10 : decode cX11_isRule 10 = .ok (.ireturn, 1) := by decide +kernel
theorem dX11_isRule_11 : decode cX11_isRule 11 = .ok (.iload_n 0, 1) := by decide +kernel
theorem dX11_isRule_12 : decode cX11_isRule 12 = .ok (.bipush 116, 2) := by decide +kernel
theorem dX11_isRule_14 : decode cX11_isRule 14 = .ok (.if_icmp .ne 5, 3) := by decide +kernel
theorem dX11_isRule_17 : decode cX11_isRule 17 = .ok (.iconst 1, 1) := by decide +kernel
theorem dX11_isRule_18 : decode cX11_isRule 18 = .ok (.ireturn, 1) := by decide +kernel
theorem dX11_isRule_19 : decode cX11_isRule 19 = .ok (.iload_n 0, 1) := by decide +kernel
theorem dX11_isRule_20 : decode cX11_isRule 20 = .ok (.bipush 99, 2) := by decide +kernel
theorem dX11_isRule_22 : decode cX11_isRule 22 = .ok (.if_icmp .ne 27, 3) := by decide +kernel
theorem dX11_isRule_25 : decode cX11_isRule 25 = .ok (.iload_n 2, 1) := by decide +kernel
theorem dX11_isRule_26 : decode cX11_isRule 26 = .ok (.bipush 8, 2) := by decide +kernel
theorem dX11_isRule_28 : decode cX11_isRule 28 = .ok (.invokestatic 72, 3) := by decide +kernel
theorem dX11_isRule_31 : decode cX11_isRule 31 = .ok (.ifCond .eq 16, 3) := by decide +kernel
theorem dX11_isRule_34 : decode cX11_isRule 34 = .ok (.iload_n 3, 1) := by decide +kernel
theorem dX11_isRule_35 : decode cX11_isRule 35 = .ok (.bipush 8, 2) := by decide +kernel
theorem dX11_isRule_37 : decode cX11_isRule 37 = .ok (.invokestatic 72, 3) := by decide +kernel
theorem dX11_isRule_40 : decode cX11_isRule 40 = .ok (.ifCond .eq 7, 3) := by decide +kernel
theorem dX11_isRule_43 : decode cX11_isRule 43 = .ok (.iconst 1, 1) := by decide +kernel
theorem dX11_isRule_44 : decode cX11_isRule 44 = .ok (.goto 4, 3) := by decide +kernel
theorem dX11_isRule_47 : decode cX11_isRule 47 = .ok (.iconst 0, 1) := by decide +kernel
theorem dX11_isRule_48 : decode cX11_isRule 48 = .ok (.ireturn, 1) := by decide +kernel
theorem dX11_isRule_49 : decode cX11_isRule 49 = .ok (.iload_n 0, 1) := by decide +kernel
theorem dX11_isRule_50 : decode cX11_isRule 50 = .ok (.bipush 115, 2) := by decide +kernel
theorem dX11_isRule_52 : decode cX11_isRule 52 = .ok (.if_icmp .eq 9, 3) := by decide +kernel
theorem dX11_isRule_55 : decode cX11_isRule 55 = .ok (.iload_n 0, 1) := by decide +kernel
theorem dX11_isRule_56 : decode cX11_isRule 56 = .ok (.bipush 105, 2) := by decide +kernel
theorem dX11_isRule_58 : decode cX11_isRule 58 = .ok (.if_icmp .ne 16, 3) := by decide +kernel
theorem dX11_isRule_61 : decode cX11_isRule 61 = .ok (.iload_n 2, 1) := by decide +kernel
theorem dX11_isRule_62 : decode cX11_isRule 62 = .ok (.bipush 8, 2) := by decide +kernel
theorem dX11_isRule_64 : decode cX11_isRule 64 = .ok (.invokestatic 72, 3) := by decide +kernel
theorem dX11_isRule_67 : decode cX11_isRule 67 = .ok (.ifCond .eq 7, 3) := by decide +kernel
theorem dX11_isRule_70 : decode cX11_isRule 70 = .ok (.iconst 1, 1) := by decide +kernel
theorem dX11_isRule_71 : decode cX11_isRule 71 = .ok (.goto 4, 3) := by decide +kernel
theorem dX11_isRule_74 : decode cX11_isRule 74 = .ok (.iconst 0, 1) := by decide +kernel
theorem dX11_isRule_75 : decode cX11_isRule 75 = .ok (.ireturn, 1) := by decide +kernel
theorem dX11_indexOf_0 : decode cX11_indexOf 0 = .ok (.iload_n 0, 1) := by decide +kernel
theorem dX11_indexOf_1 : decode cX11_indexOf 1 = .ok (.ifCond .lt 33, 3) := by decide +kernel
theorem dX11_indexOf_4 : decode cX11_indexOf 4 = .ok (.iload_n 0, 1) := by decide +kernel
theorem dX11_indexOf_5 : decode cX11_indexOf 5 = .ok (.bipush 8, 2) := by decide +kernel
theorem dX11_indexOf_7 : decode cX11_indexOf 7 = .ok (.if_icmp .ge 27, 3) := by decide +kernel
theorem dX11_indexOf_10 : decode cX11_indexOf 10 = .ok (.iload_n 1, 1) := by decide +kernel
theorem dX11_indexOf_11 : decode cX11_indexOf 11 = .ok (.ifCond .lt 23, 3) := by decide +kernel
theorem dX11_indexOf_14 : decode cX11_indexOf 14 = .ok (.iload_n 1, 1) := by decide +kernel
theorem dX11_indexOf_15 : decode cX11_indexOf 15 = .ok (.bipush 8, 2) := by decide +kernel
theorem dX11_indexOf_17 : decode cX11_indexOf 17 = .ok (.if_icmp .ge 17, 3) := by decide +kernel
theorem dX11_indexOf_20 : decode cX11_indexOf 20 = .ok (.iload_n 2, 1) := by decide +kernel
theorem dX11_indexOf_21 : decode cX11_indexOf 21 = .ok (.ifCond .lt 13, 3) := by decide +kernel
theorem dX11_indexOf_24 : decode cX11_indexOf 24 = .ok (.iload_n 2, 1) := by decide +kernel
theorem dX11_indexOf_25 : decode cX11_indexOf 25 = .ok (.bipush 12, 2) := by decide +kernel
theorem dX11_indexOf_27 : decode cX11_indexOf 27 = .ok (.if_icmp .ge 7, 3) := by decide +kernel
theorem dX11_indexOf_30 : decode cX11_indexOf 30 = .ok (.iconst 1, 1) := by decide +kernel
theorem dX11_indexOf_31 : decode cX11_indexOf 31 = .ok (.goto 4, 3) := by decide +kernel
theorem dX11_indexOf_34 : decode cX11_indexOf 34 = .ok (.iconst 0, 1) := by decide +kernel
theorem dX11_indexOf_35 : decode cX11_indexOf 35 = .ok (.istore_n 3, 1) := by decide +kernel
theorem dX11_indexOf_36 : decode cX11_indexOf 36 = .ok (.iload_n 3, 1) := by decide +kernel
theorem dX11_indexOf_37 : decode cX11_indexOf 37 = .ok (.ifCond .eq 17, 3) := by decide +kernel
theorem dX11_indexOf_40 : decode cX11_indexOf 40 = .ok (.iload_n 0, 1) := by decide +kernel
theorem dX11_indexOf_41 : decode cX11_indexOf 41 = .ok (.bipush 8, 2) := by decide +kernel
theorem dX11_indexOf_43 : decode cX11_indexOf 43 = .ok (.imul, 1) := by decide +kernel
theorem dX11_indexOf_44 : decode cX11_indexOf 44 = .ok (.iload_n 1, 1) := by decide +kernel
theorem dX11_indexOf_45 : decode cX11_indexOf 45 = .ok (.iadd, 1) := by decide +kernel
theorem dX11_indexOf_46 : decode cX11_indexOf 46 = .ok (.bipush 12, 2) := by decide +kernel
theorem dX11_indexOf_48 : decode cX11_indexOf 48 = .ok (.imul, 1) := by decide +kernel
theorem dX11_indexOf_49 : decode cX11_indexOf 49 = .ok (.iload_n 2, 1) := by decide +kernel
theorem dX11_indexOf_50 : decode cX11_indexOf 50 = .ok (.iadd, 1) := by decide +kernel
theorem dX11_indexOf_51 : decode cX11_indexOf 51 = .ok (.goto 4, 3) := by decide +kernel
theorem dX11_indexOf_54 : decode cX11_indexOf 54 = .ok (.iconst (-1), 1) := by decide +kernel
theorem dX11_indexOf_55 : decode cX11_indexOf 55 = .ok (.ireturn, 1) := by decide +kernel
theorem dX11_askedTriple_0 : decode cX11_askedTriple 0 = .ok (.iload_n 2, 1) := by decide +kernel
theorem dX11_askedTriple_1 : decode cX11_askedTriple 1 = .ok (.iload_n 3, 1) := by decide +kernel
theorem dX11_askedTriple_2 : decode cX11_askedTriple 2 = .ok (.iload 4, 2) := by decide +kernel
theorem dX11_askedTriple_4 : decode cX11_askedTriple 4 = .ok (.invokestatic 253, 3) := by decide +kernel
theorem dX11_askedTriple_7 : decode cX11_askedTriple 7 = .ok (.istore 5, 2) := by decide +kernel
theorem dX11_askedTriple_9 : decode cX11_askedTriple 9 = .ok (.iload_n 0, 1) := by decide +kernel
theorem dX11_askedTriple_10 : decode cX11_askedTriple 10 = .ok (.iload_n 1, 1) := by decide +kernel
theorem dX11_askedTriple_11 : decode cX11_askedTriple 11 = .ok (.invokestatic 72, 3) := by decide +kernel
theorem dX11_askedTriple_14 : decode cX11_askedTriple 14 = .ok (.ifCond .eq 8, 3) := by decide +kernel
theorem dX11_askedTriple_17 : decode cX11_askedTriple 17 = .ok (.iload 5, 2) := by decide +kernel
theorem dX11_askedTriple_19 : decode cX11_askedTriple 19 = .ok (.ifCond .ge 11, 3) := by decide +kernel
theorem dX11_askedTriple_22 : decode cX11_askedTriple 22 = .ok (.new 76, 3) := by decide +kernel
theorem dX11_askedTriple_25 : decode cX11_askedTriple 25 = .ok (.dup, 1) := by decide +kernel
theorem dX11_askedTriple_26 : decode cX11_askedTriple 26 = .ok (.invokespecial 78, 3) := by decide +kernel
theorem dX11_askedTriple_29 : decode cX11_askedTriple 29 = .ok (.athrow, 1) := by decide +kernel
theorem dX11_askedTriple_30 : decode cX11_askedTriple 30 = .ok (.iload 5, 2) := by decide +kernel
theorem dX11_askedTriple_32 : decode cX11_askedTriple 32 = .ok (.ireturn, 1) := by decide +kernel
theorem dX11_askedQuery_0 : decode cX11_askedQuery 0 = .ok (.iload_n 1, 1) := by decide +kernel
theorem dX11_askedQuery_1 : decode cX11_askedQuery 1 = .ok (.aload_n 0, 1) := by decide +kernel
theorem dX11_askedQuery_2 : decode cX11_askedQuery 2 = .ok (.getfield 22, 3) := by decide +kernel
theorem dX11_askedQuery_5 : decode cX11_askedQuery 5 = .ok (.invokevirtual 86, 3) := by decide +kernel
theorem dX11_askedQuery_8 : decode cX11_askedQuery 8 = .ok (.invokestatic 72, 3) := by decide +kernel
theorem dX11_askedQuery_11 : decode cX11_askedQuery 11 = .ok (.ifCond .ne 11, 3) := by decide +kernel
theorem dX11_askedQuery_14 : decode cX11_askedQuery 14 = .ok (.new 226, 3) := by decide +kernel
theorem dX11_askedQuery_17 : decode cX11_askedQuery 17 = .ok (.dup, 1) := by decide +kernel
theorem dX11_askedQuery_18 : decode cX11_askedQuery 18 = .ok (.invokespecial 228, 3) := by decide +kernel
theorem dX11_askedQuery_21 : decode cX11_askedQuery 21 = .ok (.athrow, 1) := by decide +kernel
theorem dX11_askedQuery_22 : decode cX11_askedQuery 22 = .ok (.aload_n 0, 1) := by decide +kernel
theorem dX11_askedQuery_23 : decode cX11_askedQuery 23 = .ok (.getfield 22, 3) := by decide +kernel
theorem dX11_askedQuery_26 : decode cX11_askedQuery 26 = .ok (.iload_n 1, 1) := by decide +kernel
theorem dX11_askedQuery_27 : decode cX11_askedQuery 27 = .ok (.invokevirtual 219, 3) := by decide +kernel
theorem dX11_askedQuery_30 : decode cX11_askedQuery 30 = .ok (.checkcast 179, 3) := by decide +kernel
theorem dX11_askedQuery_33 : decode cX11_askedQuery 33 = .ok (.areturn, 1) := by decide +kernel
theorem dX11_needRoomForQuery_0 : decode cX11_needRoomForQuery 0 = .ok (.aload_n 0, 1) := by decide +kernel
theorem dX11_needRoomForQuery_1 : decode cX11_needRoomForQuery 1 = .ok (.getfield 22, 3) := by decide +kernel
theorem dX11_needRoomForQuery_4 : decode cX11_needRoomForQuery 4 = .ok (.invokevirtual 86, 3) := by decide +kernel
theorem dX11_needRoomForQuery_7 : decode cX11_needRoomForQuery 7 = .ok (.bipush 20, 2) := by decide +kernel
theorem dX11_needRoomForQuery_9 : decode cX11_needRoomForQuery 9 = .ok (.if_icmp .lt 11, 3) := by decide +kernel
theorem dX11_needRoomForQuery_12 : decode cX11_needRoomForQuery 12 = .ok (.new 62, 3) := by decide +kernel
theorem dX11_needRoomForQuery_15 : decode cX11_needRoomForQuery 15 = .ok (.dup, 1) := by decide +kernel
theorem dX11_needRoomForQuery_16 : decode cX11_needRoomForQuery 16 = .ok (.invokespecial 64, 3) := by decide +kernel
theorem dX11_needRoomForQuery_19 : decode cX11_needRoomForQuery 19 = .ok (.athrow, 1) := by decide +kernel
theorem dX11_needRoomForQuery_20 : decode cX11_needRoomForQuery 20 = .ok (.return_, 1) := by decide +kernel
theorem dX11_put_0 : decode cX11_put 0 = .ok (.aload_n 0, 1) := by decide +kernel
theorem dX11_put_1 : decode cX11_put 1 = .ok (.getfield 11, 3) := by decide +kernel
theorem dX11_put_4 : decode cX11_put 4 = .ok (.iload_n 1, 1) := by decide +kernel
theorem dX11_put_5 : decode cX11_put 5 = .ok (.aaload, 1) := by decide +kernel
theorem dX11_put_6 : decode cX11_put 6 = .ok (.iload_n 2, 1) := by decide +kernel
theorem dX11_put_7 : decode cX11_put 7 = .ok (.invokevirtual 257, 3) := by decide +kernel
theorem dX11_put_10 : decode cX11_put 10 = .ok (.aload_n 0, 1) := by decide +kernel
theorem dX11_put_11 : decode cX11_put 11 = .ok (.getfield 11, 3) := by decide +kernel
theorem dX11_put_14 : decode cX11_put 14 = .ok (.iconst 3, 1) := by decide +kernel
theorem dX11_put_15 : decode cX11_put 15 = .ok (.aaload, 1) := by decide +kernel
theorem dX11_put_16 : decode cX11_put 16 = .ok (.iload_n 2, 1) := by decide +kernel
theorem dX11_put_17 : decode cX11_put 17 = .ok (.invokevirtual 257, 3) := by decide +kernel
theorem dX11_put_20 : decode cX11_put 20 = .ok (.aload_n 0, 1) := by decide +kernel
theorem dX11_put_21 : decode cX11_put 21 = .ok (.invokevirtual 127, 3) := by decide +kernel
theorem dX11_put_24 : decode cX11_put 24 = .ok (.return_, 1) := by decide +kernel
theorem dX11_total_0 : decode cX11_total 0 = .ok (.iconst 0, 1) := by decide +kernel
theorem dX11_total_1 : decode cX11_total 1 = .ok (.istore_n 1, 1) := by decide +kernel
theorem dX11_total_2 : decode cX11_total 2 = .ok (.iconst 0, 1) := by decide +kernel
theorem dX11_total_3 : decode cX11_total 3 = .ok (.istore_n 2, 1) := by decide +kernel
theorem dX11_total_4 : decode cX11_total 4 = .ok (.iload_n 2, 1) := by decide +kernel
theorem dX11_total_5 : decode cX11_total 5 = .ok (.iconst 3, 1) := by decide +kernel
theorem dX11_total_6 : decode cX11_total 6 = .ok (.if_icmp .ge 21, 3) := by decide +kernel
theorem dX11_total_9 : decode cX11_total 9 = .ok (.iload_n 1, 1) := by decide +kernel
theorem dX11_total_10 : decode cX11_total 10 = .ok (.aload_n 0, 1) := by decide +kernel
theorem dX11_total_11 : decode cX11_total 11 = .ok (.getfield 11, 3) := by decide +kernel
theorem dX11_total_14 : decode cX11_total 14 = .ok (.iload_n 2, 1) := by decide +kernel
theorem dX11_total_15 : decode cX11_total 15 = .ok (.aaload, 1) := by decide +kernel
theorem dX11_total_16 : decode cX11_total 16 = .ok (.getfield 79, 3) := by decide +kernel
theorem dX11_total_19 : decode cX11_total 19 = .ok (.iadd, 1) := by decide +kernel
theorem dX11_total_20 : decode cX11_total 20 = .ok (.istore_n 1, 1) := by decide +kernel
theorem dX11_total_21 : decode cX11_total 21 = .ok (.iinc 2 1, 3) := by decide +kernel
theorem dX11_total_24 : decode cX11_total 24 = .ok (.goto (-20), 3) := by decide +kernel
theorem dX11_total_27 : decode cX11_total 27 = .ok (.iload_n 1, 1) := by decide +kernel
theorem dX11_total_28 : decode cX11_total 28 = .ok (.ireturn, 1) := by decide +kernel
theorem dX11_numbered_0 : decode cX11_numbered 0 = .ok (.aload_n 0, 1) := by decide +kernel
theorem dX11_numbered_1 : decode cX11_numbered 1 = .ok (.getfield 22, 3) := by decide +kernel
theorem dX11_numbered_4 : decode cX11_numbered 4 = .ok (.aload_n 1, 1) := by decide +kernel
theorem dX11_numbered_5 : decode cX11_numbered 5 = .ok (.invokevirtual 94, 3) := by decide +kernel
theorem dX11_numbered_8 : decode cX11_numbered 8 = .ok (.pop, 1) := by decide +kernel
theorem dX11_numbered_9 : decode cX11_numbered 9 = .ok (.aload_n 0, 1) := by decide +kernel
theorem dX11_numbered_10 : decode cX11_numbered 10 = .ok (.getfield 22, 3) := by decide +kernel
theorem dX11_numbered_13 : decode cX11_numbered 13 = .ok (.invokevirtual 86, 3) := by decide +kernel
theorem dX11_numbered_16 : decode cX11_numbered 16 = .ok (.iconst 1, 1) := by decide +kernel
theorem dX11_numbered_17 : decode cX11_numbered 17 = .ok (.isub, 1) := by decide +kernel
theorem dX11_numbered_18 : decode cX11_numbered 18 = .ok (.ireturn, 1) := by decide +kernel
theorem dX11_forgetRows_0 : decode cX11_forgetRows 0 = .ok (.aload_n 0, 1) := by decide +kernel
theorem dX11_forgetRows_1 : decode cX11_forgetRows 1 = .ok (.iconst 0, 1) := by decide +kernel
theorem dX11_forgetRows_2 : decode cX11_forgetRows 2 = .ok (.putfield 42, 3) := by decide +kernel
theorem dX11_forgetRows_5 : decode cX11_forgetRows 5 = .ok (.aload_n 0, 1) := by decide +kernel
theorem dX11_forgetRows_6 : decode cX11_forgetRows 6 = .ok (.iconst 0, 1) := by decide +kernel
theorem dX11_forgetRows_7 : decode cX11_forgetRows 7 = .ok (.putfield 46, 3) := by decide +kernel
theorem dX11_forgetRows_10 : decode cX11_forgetRows 10 = .ok (.return_, 1) := by decide +kernel
theorem dX11_openGraphs_0 : decode cX11_openGraphs 0 = .ok (.iconst 0, 1) := by decide +kernel
theorem dX11_openGraphs_1 : decode cX11_openGraphs 1 = .ok (.istore_n 1, 1) := by decide +kernel
theorem dX11_openGraphs_2 : decode cX11_openGraphs 2 = .ok (.iload_n 1, 1) := by decide +kernel
theorem dX11_openGraphs_3 : decode cX11_openGraphs 3 = .ok (.iconst 4, 1) := by decide +kernel
theorem dX11_openGraphs_4 : decode cX11_openGraphs 4 = .ok (.if_icmp .ge 19, 3) := by decide +kernel
theorem dX11_openGraphs_7 : decode cX11_openGraphs 7 = .ok (.aload_n 0, 1) := by decide +kernel
theorem dX11_openGraphs_8 : decode cX11_openGraphs 8 = .ok (.getfield 11, 3) := by decide +kernel
theorem dX11_openGraphs_11 : decode cX11_openGraphs 11 = .ok (.iload_n 1, 1) := by decide +kernel
theorem dX11_openGraphs_12 : decode cX11_openGraphs 12 = .ok (.aaload, 1) := by decide +kernel
theorem dX11_openGraphs_13 : decode cX11_openGraphs 13 = .ok (.iconst 0, 1) := by decide +kernel
theorem dX11_openGraphs_14 : decode cX11_openGraphs 14 = .ok (.putfield 261, 3) := by decide +kernel
theorem dX11_openGraphs_17 : decode cX11_openGraphs 17 = .ok (.iinc 1 1, 3) := by decide +kernel
theorem dX11_openGraphs_20 : decode cX11_openGraphs 20 = .ok (.goto (-18), 3) := by decide +kernel
theorem dX11_openGraphs_23 : decode cX11_openGraphs 23 = .ok (.aload_n 0, 1) := by decide +kernel
theorem dX11_openGraphs_24 : decode cX11_openGraphs 24 = .ok (.invokevirtual 127, 3) := by decide +kernel
theorem dX11_openGraphs_27 : decode cX11_openGraphs 27 = .ok (.return_, 1) := by decide +kernel
theorem dX11_closed_0 : decode cX11_closed 0 = .ok (.aload_n 0, 1) := by decide +kernel
theorem dX11_closed_1 : decode cX11_closed 1 = .ok (.getfield 11, 3) := by decide +kernel
theorem dX11_closed_4 : decode cX11_closed 4 = .ok (.iload_n 1, 1) := by decide +kernel
theorem dX11_closed_5 : decode cX11_closed 5 = .ok (.aaload, 1) := by decide +kernel
theorem dX11_closed_6 : decode cX11_closed 6 = .ok (.aload_n 0, 1) := by decide +kernel
theorem dX11_closed_7 : decode cX11_closed 7 = .ok (.getfield 18, 3) := by decide +kernel
theorem dX11_closed_10 : decode cX11_closed 10 = .ok (.invokevirtual 264, 3) := by decide +kernel
theorem dX11_closed_13 : decode cX11_closed 13 = .ok (.aload_n 0, 1) := by decide +kernel
theorem dX11_closed_14 : decode cX11_closed 14 = .ok (.getfield 11, 3) := by decide +kernel
theorem dX11_closed_17 : decode cX11_closed 17 = .ok (.iload_n 1, 1) := by decide +kernel
theorem dX11_closed_18 : decode cX11_closed 18 = .ok (.aaload, 1) := by decide +kernel
theorem dX11_closed_19 : decode cX11_closed 19 = .ok (.areturn, 1) := by decide +kernel
theorem dX11_closeSeenGraphs_0 : decode cX11_closeSeenGraphs 0 = .ok (.iconst 0, 1) := by decide +kernel
theorem dX11_closeSeenGraphs_1 : decode cX11_closeSeenGraphs 1 = .ok (.istore_n 1, 1) := by decide +kernel
theorem dX11_closeSeenGraphs_2 : decode cX11_closeSeenGraphs 2 = .ok (.aload_n 0, 1) := by decide +kernel
theorem dX11_closeSeenGraphs_3 : decode cX11_closeSeenGraphs 3 = .ok (.getfield 38, 3) := by decide +kernel
theorem dX11_closeSeenGraphs_6 : decode cX11_closeSeenGraphs 6 = .ok (.ifCond .eq 27, 3) := by decide +kernel
theorem dX11_closeSeenGraphs_9 : decode cX11_closeSeenGraphs 9 = .ok (.iload_n 1, 1) := by decide +kernel
theorem dX11_closeSeenGraphs_10 : decode cX11_closeSeenGraphs 10 = .ok (.iconst 4, 1) := by decide +kernel
theorem dX11_closeSeenGraphs_11 : decode cX11_closeSeenGraphs 11 = .ok (.if_icmp .ge 22, 3) := by decide +kernel
theorem dX11_closeSeenGraphs_14 : decode cX11_closeSeenGraphs 14 = .ok (.aload_n 0, 1) := by decide +kernel
theorem dX11_closeSeenGraphs_15 : decode cX11_closeSeenGraphs 15 = .ok (.getfield 11, 3) := by decide +kernel
theorem dX11_closeSeenGraphs_18 : decode cX11_closeSeenGraphs 18 = .ok (.iload_n 1, 1) := by decide +kernel
theorem dX11_closeSeenGraphs_19 : decode cX11_closeSeenGraphs 19 = .ok (.aaload, 1) := by decide +kernel
theorem dX11_closeSeenGraphs_20 : decode cX11_closeSeenGraphs 20 = .ok (.aload_n 0, 1) := by decide +kernel
theorem dX11_closeSeenGraphs_21 : decode cX11_closeSeenGraphs 21 = .ok (.getfield 18, 3) := by decide +kernel
theorem dX11_closeSeenGraphs_24 : decode cX11_closeSeenGraphs 24 = .ok (.invokevirtual 264, 3) := by decide +kernel
theorem dX11_closeSeenGraphs_27 : decode cX11_closeSeenGraphs 27 = .ok (.iinc 1 1, 3) := by decide +kernel
theorem dX11_closeSeenGraphs_30 : decode cX11_closeSeenGraphs 30 = .ok (.goto (-28), 3) := by decide +kernel
theorem dX11_closeSeenGraphs_33 : decode cX11_closeSeenGraphs 33 = .ok (.return_, 1) := by decide +kernel
theorem dX11_reckonTo_0 : decode cX11_reckonTo 0 = .ok (.aload_n 0, 1) := by decide +kernel
theorem dX11_reckonTo_1 : decode cX11_reckonTo 1 = .ok (.invokevirtual 216, 3) := by decide +kernel
theorem dX11_reckonTo_4 : decode cX11_reckonTo 4 = .ok (.aload_n 0, 1) := by decide +kernel
theorem dX11_reckonTo_5 : decode cX11_reckonTo 5 = .ok (.getfield 42, 3) := by decide +kernel
theorem dX11_reckonTo_8 : decode cX11_reckonTo 8 = .ok (.istore_n 2, 1) := by decide +kernel
theorem dX11_reckonTo_9 : decode cX11_reckonTo 9 = .ok (.iload_n 2, 1) := by decide +kernel
theorem dX11_reckonTo_10 : decode cX11_reckonTo 10 = .ok (.iload_n 1, 1) := by decide +kernel
theorem dX11_reckonTo_11 : decode cX11_reckonTo 11 = .ok (.if_icmp .gt 55, 3) := by decide +kernel
theorem dX11_reckonTo_14 : decode cX11_reckonTo 14 = .ok (.iload_n 2, 1) := by decide +kernel
theorem dX11_reckonTo_15 : decode cX11_reckonTo 15 = .ok (.aload_n 0, 1) := by decide +kernel
theorem dX11_reckonTo_16 : decode cX11_reckonTo 16 = .ok (.getfield 22, 3) := by decide +kernel
theorem dX11_reckonTo_19 : decode cX11_reckonTo 19 = .ok (.invokevirtual 86, 3) := by decide +kernel
theorem dX11_reckonTo_22 : decode cX11_reckonTo 22 = .ok (.if_icmp .ge 44, 3) := by decide +kernel
theorem dX11_reckonTo_25 : decode cX11_reckonTo 25 = .ok (.aload_n 0, 1) := by decide +kernel
theorem dX11_reckonTo_26 : decode cX11_reckonTo 26 = .ok (.getfield 22, 3) := by decide +kernel
theorem dX11_reckonTo_29 : decode cX11_reckonTo 29 = .ok (.iload_n 2, 1) := by decide +kernel
theorem dX11_reckonTo_30 : decode cX11_reckonTo 30 = .ok (.invokevirtual 219, 3) := by decide +kernel
theorem dX11_reckonTo_33 : decode cX11_reckonTo 33 = .ok (.checkcast 179, 3) := by decide +kernel
theorem dX11_reckonTo_36 : decode cX11_reckonTo 36 = .ok (.invokevirtual 268, 3) := by decide +kernel
theorem dX11_reckonTo_39 : decode cX11_reckonTo 39 = .ok (.aload_n 0, 1) := by decide +kernel
theorem dX11_reckonTo_40 : decode cX11_reckonTo 40 = .ok (.getfield 22, 3) := by decide +kernel
theorem dX11_reckonTo_43 : decode cX11_reckonTo 43 = .ok (.iload_n 2, 1) := by decide +kernel
theorem dX11_reckonTo_44 : decode cX11_reckonTo 44 = .ok (.invokevirtual 219, 3) := by decide +kernel
theorem dX11_reckonTo_47 : decode cX11_reckonTo 47 = .ok (.checkcast 179, 3) := by decide +kernel
theorem dX11_reckonTo_50 : decode cX11_reckonTo 50 = .ok (.invokevirtual 269, 3) := by decide +kernel
theorem dX11_reckonTo_53 : decode cX11_reckonTo 53 = .ok (.aload_n 0, 1) := by decide +kernel
theorem dX11_reckonTo_54 : decode cX11_reckonTo 54 = .ok (.iload_n 2, 1) := by decide +kernel
theorem dX11_reckonTo_55 : decode cX11_reckonTo 55 = .ok (.iconst 1, 1) := by decide +kernel
theorem dX11_reckonTo_56 : decode cX11_reckonTo 56 = .ok (.iadd, 1) := by decide +kernel
theorem dX11_reckonTo_57 : decode cX11_reckonTo 57 = .ok (.putfield 42, 3) := by decide +kernel
theorem dX11_reckonTo_60 : decode cX11_reckonTo 60 = .ok (.iinc 2 1, 3) := by decide +kernel
theorem dX11_reckonTo_63 : decode cX11_reckonTo 63 = .ok (.goto (-54), 3) := by decide +kernel
theorem dX11_reckonTo_66 : decode cX11_reckonTo 66 = .ok (.return_, 1) := by decide +kernel
theorem dX11_tryTo_0 : decode cX11_tryTo 0 = .ok (.aload_n 0, 1) := by decide +kernel
theorem dX11_tryTo_1 : decode cX11_tryTo 1 = .ok (.invokevirtual 216, 3) := by decide +kernel
theorem dX11_tryTo_4 : decode cX11_tryTo 4 = .ok (.aload_n 0, 1) := by decide +kernel
theorem dX11_tryTo_5 : decode cX11_tryTo 5 = .ok (.getfield 46, 3) := by decide +kernel
theorem dX11_tryTo_8 : decode cX11_tryTo 8 = .ok (.istore_n 2, 1) := by decide +kernel
theorem dX11_tryTo_9 : decode cX11_tryTo 9 = .ok (.iload_n 2, 1) := by decide +kernel
theorem dX11_tryTo_10 : decode cX11_tryTo 10 = .ok (.iload_n 1, 1) := by decide +kernel
theorem dX11_tryTo_11 : decode cX11_tryTo 11 = .ok (.if_icmp .gt 41, 3) := by decide +kernel
theorem dX11_tryTo_14 : decode cX11_tryTo 14 = .ok (.iload_n 2, 1) := by decide +kernel
theorem dX11_tryTo_15 : decode cX11_tryTo 15 = .ok (.aload_n 0, 1) := by decide +kernel
theorem dX11_tryTo_16 : decode cX11_tryTo 16 = .ok (.getfield 22, 3) := by decide +kernel
theorem dX11_tryTo_19 : decode cX11_tryTo 19 = .ok (.invokevirtual 86, 3) := by decide +kernel
theorem dX11_tryTo_22 : decode cX11_tryTo 22 = .ok (.if_icmp .ge 30, 3) := by decide +kernel
theorem dX11_tryTo_25 : decode cX11_tryTo 25 = .ok (.aload_n 0, 1) := by decide +kernel
theorem dX11_tryTo_26 : decode cX11_tryTo 26 = .ok (.getfield 22, 3) := by decide +kernel
theorem dX11_tryTo_29 : decode cX11_tryTo 29 = .ok (.iload_n 2, 1) := by decide +kernel
theorem dX11_tryTo_30 : decode cX11_tryTo 30 = .ok (.invokevirtual 219, 3) := by decide +kernel
theorem dX11_tryTo_33 : decode cX11_tryTo 33 = .ok (.checkcast 179, 3) := by decide +kernel
theorem dX11_tryTo_36 : decode cX11_tryTo 36 = .ok (.invokevirtual 272, 3) := by decide +kernel
theorem dX11_tryTo_39 : decode cX11_tryTo 39 = .ok (.aload_n 0, 1) := by decide +kernel
theorem dX11_tryTo_40 : decode cX11_tryTo 40 = .ok (.iload_n 2, 1) := by decide +kernel
theorem dX11_tryTo_41 : decode cX11_tryTo 41 = .ok (.iconst 1, 1) := by decide +kernel
theorem dX11_tryTo_42 : decode cX11_tryTo 42 = .ok (.iadd, 1) := by decide +kernel
theorem dX11_tryTo_43 : decode cX11_tryTo 43 = .ok (.putfield 46, 3) := by decide +kernel
theorem dX11_tryTo_46 : decode cX11_tryTo 46 = .ok (.iinc 2 1, 3) := by decide +kernel
theorem dX11_tryTo_49 : decode cX11_tryTo 49 = .ok (.goto (-40), 3) := by decide +kernel
theorem dX11_tryTo_52 : decode cX11_tryTo 52 = .ok (.return_, 1) := by decide +kernel
theorem dX12_init_0 : decode cX12_init 0 = .ok (.aload_n 0, 1) := by decide +kernel
theorem dX12_init_1 : decode cX12_init 1 = .ok (.invokespecial 1, 3) := by decide +kernel
theorem dX12_init_4 : decode cX12_init 4 = .ok (.aload_n 0, 1) := by decide +kernel
theorem dX12_init_5 : decode cX12_init 5 = .ok (.iconst 3, 1) := by decide +kernel
theorem dX12_init_6 : decode cX12_init 6 = .ok (.sipush 768, 3) := by decide +kernel
theorem dX12_init_9 : decode cX12_init 9 = .ok (.multianewarray 9 2, 4) := by decide +kernel
theorem dX12_init_13 : decode cX12_init 13 = .ok (.putfield 11, 3) := by decide +kernel
theorem dX12_init_16 : decode cX12_init 16 = .ok (.aload_n 0, 1) := by decide +kernel
theorem dX12_init_17 : decode cX12_init 17 = .ok (.bipush 8, 2) := by decide +kernel
theorem dX12_init_19 : decode cX12_init 19 = .ok (.anewarray 14, 3) := by decide +kernel
theorem dX12_init_22 : decode cX12_init 22 = .ok (.putfield 16, 3) := by decide +kernel
theorem dX12_init_25 : decode cX12_init 25 = .ok (.aload_n 0, 1) := by decide +kernel
theorem dX12_init_26 : decode cX12_init 26 = .ok (.bipush 20, 2) := by decide +kernel
theorem dX12_init_28 : decode cX12_init 28 = .ok (.anewarray 14, 3) := by decide +kernel
theorem dX12_init_31 : decode cX12_init 31 = .ok (.putfield 20, 3) := by decide +kernel
theorem dX12_init_34 : decode cX12_init 34 = .ok (.aload_n 0, 1) := by decide +kernel
theorem dX12_init_35 : decode cX12_init 35 = .ok (.bipush 20, 2) := by decide +kernel
theorem dX12_init_37 : decode cX12_init 37 = .ok (.anewarray 23, 3) := by decide +kernel
theorem dX12_init_40 : decode cX12_init 40 = .ok (.putfield 25, 3) := by decide +kernel
theorem dX12_init_43 : decode cX12_init 43 = .ok (.aload_n 0, 1) := by decide +kernel
theorem dX12_init_44 : decode cX12_init 44 = .ok (.bipush 6, 2) := by decide +kernel
theorem dX12_init_46 : decode cX12_init 46 = .ok (.anewarray 14, 3) := by decide +kernel
theorem dX12_init_49 : decode cX12_init 49 = .ok (.putfield 29, 3) := by decide +kernel
theorem dX12_init_52 : decode cX12_init 52 = .ok (.return_, 1) := by decide +kernel
theorem dX12_thrown_0 : decode cX12_thrown 0 = .ok (.aload_n 0, 1) := by decide +kernel
theorem dX12_thrown_1 : decode cX12_thrown 1 = .ok (.getfield 32, 3) := by decide +kernel
theorem dX12_thrown_4 : decode cX12_thrown 4 = .ok (.ireturn, 1) := by decide +kernel
theorem dX12_fails_0 : decode cX12_fails 0 = .ok (.aload_n 0, 1) := by decide +kernel
theorem dX12_fails_1 : decode cX12_fails 1 = .ok (.iload_n 1, 1) := by decide +kernel
theorem dX12_fails_2 : decode cX12_fails 2 = .ok (.putfield 32, 3) := by decide +kernel
theorem dX12_fails_5 : decode cX12_fails 5 = .ok (.iload_n 1, 1) := by decide +kernel
theorem dX12_fails_6 : decode cX12_fails 6 = .ok (.ifCond .le 7, 3) := by decide +kernel
theorem dX12_fails_9 : decode cX12_fails 9 = .ok (.iconst 1, 1) := by decide +kernel
theorem dX12_fails_10 : decode cX12_fails 10 = .ok (.goto 4, 3) := by decide +kernel
theorem dX12_fails_13 : decode cX12_fails 13 = .ok (.iconst 0, 1) := by decide +kernel
theorem dX12_fails_14 : decode cX12_fails 14 = .ok (.ireturn, 1) := by decide +kernel
theorem dX12_in_0 : decode cX12_in 0 = .ok (.iload_n 0, 1) := by decide +kernel
theorem dX12_in_1 : decode cX12_in 1 = .ok (.iload_n 1, 1) := by decide +kernel
theorem dX12_in_2 : decode cX12_in 2 = .ok (.if_icmp .lt 12, 3) := by decide +kernel
theorem dX12_in_5 : decode cX12_in 5 = .ok (.iload_n 0, 1) := by decide +kernel
theorem dX12_in_6 : decode cX12_in 6 = .ok (.iload_n 2, 1) := by decide +kernel
theorem dX12_in_7 : decode cX12_in 7 = .ok (.if_icmp .gt 7, 3) := by decide +kernel
theorem dX12_in_10 : decode cX12_in 10 = .ok (.iconst 1, 1) := by decide +kernel
theorem dX12_in_11 : decode cX12_in 11 = .ok (.goto 4, 3) := by decide +kernel
theorem dX12_in_14 : decode cX12_in 14 = .ok (.iconst 0, 1) := by decide +kernel
theorem dX12_in_15 : decode cX12_in 15 = .ok (.ireturn, 1) := by decide +kernel
theorem dX12_isTriple_0 : decode cX12_isTriple 0 = .ok (.iload_n 0, 1) := by decide +kernel
theorem dX12_isTriple_1 : decode cX12_isTriple 1 = .ok (.iconst 0, 1) := by decide +kernel
theorem dX12_isTriple_2 : decode cX12_isTriple 2 = .ok (.bipush 7, 2) := by decide +kernel
theorem dX12_isTriple_4 : decode cX12_isTriple 4 = .ok (.invokestatic 36, 3) := by decide +kernel
theorem dX12_isTriple_7 : decode cX12_isTriple 7 = .ok (.ifCond .eq 27, 3) := by decide +kernel
theorem dX12_isTriple_10 : decode cX12_isTriple 10 = .ok (.iload_n 1, 1) := by decide +kernel
theorem dX12_isTriple_11 : decode cX12_isTriple 11 = .ok (.iconst 0, 1) := by decide +kernel
theorem dX12_isTriple_12 : decode cX12_isTriple 12 = .ok (.bipush 7, 2) := by decide +kernel
theorem dX12_isTriple_14 : decode cX12_isTriple 14 = .ok (.invokestatic 36, 3) := by decide +kernel
theorem dX12_isTriple_17 : decode cX12_isTriple 17 = .ok (.ifCond .eq 17, 3) := by decide +kernel
theorem dX12_isTriple_20 : decode cX12_isTriple 20 = .ok (.iload_n 2, 1) := by decide +kernel
theorem dX12_isTriple_21 : decode cX12_isTriple 21 = .ok (.iconst 0, 1) := by decide +kernel
theorem dX12_isTriple_22 : decode cX12_isTriple 22 = .ok (.bipush 11, 2) := by decide +kernel
theorem dX12_isTriple_24 : decode cX12_isTriple 24 = .ok (.invokestatic 36, 3) := by decide +kernel
theorem dX12_isTriple_27 : decode cX12_isTriple 27 = .ok (.ifCond .eq 7, 3) := by decide +kernel
theorem dX12_isTriple_30 : decode cX12_isTriple 30 = .ok (.iconst 1, 1) := by decide +kernel
theorem dX12_isTriple_31 : decode cX12_isTriple 31 = .ok (.goto 4, 3) := by decide +kernel
theorem dX12_isTriple_34 : decode cX12_isTriple 34 = .ok (.iconst 0, 1) := by decide +kernel
theorem dX12_isTriple_35 : decode cX12_isTriple 35 = .ok (.ireturn, 1) := by decide +kernel
theorem dX12_cell_0 : decode cX12_cell 0 = .ok (.iload_n 0, 1) := by decide +kernel
theorem dX12_cell_1 : decode cX12_cell 1 = .ok (.bipush 8, 2) := by decide +kernel
theorem dX12_cell_3 : decode cX12_cell 3 = .ok (.imul, 1) := by decide +kernel
theorem dX12_cell_4 : decode cX12_cell 4 = .ok (.iload_n 1, 1) := by decide +kernel
theorem dX12_cell_5 : decode cX12_cell 5 = .ok (.iadd, 1) := by decide +kernel
theorem dX12_cell_6 : decode cX12_cell 6 = .ok (.bipush 12, 2) := by decide +kernel
theorem dX12_cell_8 : decode cX12_cell 8 = .ok (.imul, 1) := by decide +kernel
theorem dX12_cell_9 : decode cX12_cell 9 = .ok (.iload_n 2, 1) := by decide +kernel
theorem dX12_cell_10 : decode cX12_cell 10 = .ok (.iadd, 1) := by decide +kernel
theorem dX12_cell_11 : decode cX12_cell 11 = .ok (.ireturn, 1) := by decide +kernel
theorem dX12_add_0 : decode cX12_add 0 = .ok (.aload_n 0, 1) := by decide +kernel
theorem dX12_add_1 : decode cX12_add 1 = .ok (.iload_n 1, 1) := by decide +kernel
theorem dX12_add_2 : decode cX12_add 2 = .ok (.iconst 0, 1) := by decide +kernel
theorem dX12_add_3 : decode cX12_add 3 = .ok (.iconst 2, 1) := by decide +kernel
theorem dX12_add_4 : decode cX12_add 4 = .ok (.invokestatic 36, 3) := by decide +kernel
theorem dX12_add_7 : decode cX12_add 7 = .ok (.ifCond .eq 13, 3) := by decide +kernel
theorem dX12_add_10 : decode cX12_add 10 = .ok (.iload_n 2, 1) := by decide +kernel
theorem dX12_add_11 : decode cX12_add 11 = .ok (.iload_n 3, 1) := by decide +kernel
theorem dX12_add_12 : decode cX12_add 12 = .ok (.iload 4, 2) := by decide +kernel
theorem dX12_add_14 : decode cX12_add 14 = .ok (.invokestatic 40, 3) := by decide +kernel
theorem dX12_add_17 : decode cX12_add 17 = .ok (.ifCond .ne 7, 3) := by decide +kernel
theorem dX12_add_20 : decode cX12_add 20 = .ok (.iconst 1, 1) := by decide +kernel
theorem dX12_add_21 : decode cX12_add 21 = .ok (.goto 4, 3) := by decide +kernel
theorem dX12_add_24 : decode cX12_add 24 = .ok (.iconst 0, 1) := by decide +kernel
theorem dX12_add_25 : decode cX12_add 25 = .ok (.invokevirtual 43, 3) := by decide +kernel
theorem dX12_add_28 : decode cX12_add 28 = .ok (.ifCond .eq 5, 3) := by decide +kernel
theorem dX12_add_31 : decode cX12_add 31 = .ok (.iconst 0, 1) := by decide +kernel
theorem dX12_add_32 : decode cX12_add 32 = .ok (.ireturn, 1) := by decide +kernel
theorem dX12_add_33 : decode cX12_add 33 = .ok (.iload_n 2, 1) := by decide +kernel
theorem dX12_add_34 : decode cX12_add 34 = .ok (.iload_n 3, 1) := by decide +kernel
theorem dX12_add_35 : decode cX12_add 35 = .ok (.iload 4, 2) := by decide +kernel
theorem dX12_add_37 : decode cX12_add 37 = .ok (.invokestatic 47, 3) := by decide +kernel
theorem dX12_add_40 : decode cX12_add 40 = .ok (.istore 5, 2) := by decide +kernel
theorem dX12_add_42 : decode cX12_add 42 = .ok (.aload_n 0, 1) := by decide +kernel
theorem dX12_add_43 : decode cX12_add 43 = .ok (.getfield 11, 3) := by decide +kernel
theorem dX12_add_46 : decode cX12_add 46 = .ok (.iload_n 1, 1) := by decide +kernel
theorem dX12_add_47 : decode cX12_add 47 = .ok (.aaload, 1) := by decide +kernel
theorem dX12_add_48 : decode cX12_add 48 = .ok (.iload 5, 2) := by decide +kernel
theorem dX12_add_50 : decode cX12_add 50 = .ok (.baload, 1) := by decide +kernel
theorem dX12_add_51 : decode cX12_add 51 = .ok (.ifCond .ne 24, 3) := by decide +kernel
theorem dX12_add_54 : decode cX12_add 54 = .ok (.aload_n 0, 1) := by decide +kernel
theorem dX12_add_55 : decode cX12_add 55 = .ok (.aload_n 0, 1) := by decide +kernel
theorem dX12_add_56 : decode cX12_add 56 = .ok (.getfield 51, 3) := by decide +kernel
theorem dX12_add_59 : decode cX12_add 59 = .ok (.bipush 60, 2) := by decide +kernel
theorem dX12_add_61 : decode cX12_add 61 = .ok (.if_icmp .ne 7, 3) := by decide +kernel
theorem dX12_add_64 : decode cX12_add 64 = .ok (.iconst 2, 1) := by decide +kernel
theorem dX12_add_65 : decode cX12_add 65 = .ok (.goto 4, 3) := by decide +kernel
theorem dX12_add_68 : decode cX12_add 68 = .ok (.iconst 0, 1) := by decide +kernel
theorem dX12_add_69 : decode cX12_add 69 = .ok (.invokevirtual 43, 3) := by decide +kernel
theorem dX12_add_72 : decode cX12_add 72 = .ok (.ifCond .eq 5, 3) := by decide +kernel
theorem dX12_add_75 : decode cX12_add 75 = .ok (.iconst 0, 1) := by decide +kernel
theorem dX12_add_76 : decode cX12_add 76 = .ok (.ireturn, 1) := by decide +kernel
theorem dX12_add_77 : decode cX12_add 77 = .ok (.aload_n 0, 1) := by decide +kernel
theorem dX12_add_78 : decode cX12_add 78 = .ok (.getfield 11, 3) := by decide +kernel
theorem dX12_add_81 : decode cX12_add 81 = .ok (.iload_n 1, 1) := by decide +kernel
theorem dX12_add_82 : decode cX12_add 82 = .ok (.aaload, 1) := by decide +kernel
theorem dX12_add_83 : decode cX12_add 83 = .ok (.iload 5, 2) := by decide +kernel
theorem dX12_add_85 : decode cX12_add 85 = .ok (.iconst 1, 1) := by decide +kernel
theorem dX12_add_86 : decode cX12_add 86 = .ok (.bastore, 1) := by decide +kernel
theorem dX12_add_87 : decode cX12_add 87 = .ok (.aload_n 0, 1) := by decide +kernel
theorem dX12_add_88 : decode cX12_add 88 = .ok (.dup, 1) := by decide +kernel
theorem dX12_add_89 : decode cX12_add 89 = .ok (.getfield 51, 3) := by decide +kernel
theorem dX12_add_92 : decode cX12_add 92 = .ok (.iconst 1, 1) := by decide +kernel
theorem dX12_add_93 : decode cX12_add 93 = .ok (.iadd, 1) := by decide +kernel
theorem dX12_add_94 : decode cX12_add 94 = .ok (.putfield 51, 3) := by decide +kernel
theorem dX12_add_97 : decode cX12_add 97 = .ok (.iconst 1, 1) := by decide +kernel
theorem dX12_add_98 : decode cX12_add 98 = .ok (.ireturn, 1) := by decide +kernel
theorem dX12_remove_0 : decode cX12_remove 0 = .ok (.aload_n 0, 1) := by decide +kernel
theorem dX12_remove_1 : decode cX12_remove 1 = .ok (.iload_n 1, 1) := by decide +kernel
theorem dX12_remove_2 : decode cX12_remove 2 = .ok (.iconst 0, 1) := by decide +kernel
theorem dX12_remove_3 : decode cX12_remove 3 = .ok (.iconst 2, 1) := by decide +kernel
theorem dX12_remove_4 : decode cX12_remove 4 = .ok (.invokestatic 36, 3) := by decide +kernel
theorem dX12_remove_7 : decode cX12_remove 7 = .ok (.ifCond .eq 13, 3) := by decide +kernel
theorem dX12_remove_10 : decode cX12_remove 10 = .ok (.iload_n 2, 1) := by decide +kernel
theorem dX12_remove_11 : decode cX12_remove 11 = .ok (.iload_n 3, 1) := by decide +kernel
theorem dX12_remove_12 : decode cX12_remove 12 = .ok (.iload 4, 2) := by decide +kernel
theorem dX12_remove_14 : decode cX12_remove 14 = .ok (.invokestatic 40, 3) := by decide +kernel
theorem dX12_remove_17 : decode cX12_remove 17 = .ok (.ifCond .ne 7, 3) := by decide +kernel
theorem dX12_remove_20 : decode cX12_remove 20 = .ok (.iconst 1, 1) := by decide +kernel
theorem dX12_remove_21 : decode cX12_remove 21 = .ok (.goto 4, 3) := by decide +kernel
theorem dX12_remove_24 : decode cX12_remove 24 = .ok (.iconst 0, 1) := by decide +kernel
theorem dX12_remove_25 : decode cX12_remove 25 = .ok (.invokevirtual 43, 3) := by decide +kernel
theorem dX12_remove_28 : decode cX12_remove 28 = .ok (.ifCond .eq 5, 3) := by decide +kernel
theorem dX12_remove_31 : decode cX12_remove 31 = .ok (.iconst 0, 1) := by decide +kernel
theorem dX12_remove_32 : decode cX12_remove 32 = .ok (.ireturn, 1) := by decide +kernel
theorem dX12_remove_33 : decode cX12_remove 33 = .ok (.iload_n 2, 1) := by decide +kernel
theorem dX12_remove_34 : decode cX12_remove 34 = .ok (.iload_n 3, 1) := by decide +kernel
theorem dX12_remove_35 : decode cX12_remove 35 = .ok (.iload 4, 2) := by decide +kernel
theorem dX12_remove_37 : decode cX12_remove 37 = .ok (.invokestatic 47, 3) := by decide +kernel
theorem dX12_remove_40 : decode cX12_remove 40 = .ok (.istore 5, 2) := by decide +kernel
theorem dX12_remove_42 : decode cX12_remove 42 = .ok (.aload_n 0, 1) := by decide +kernel
theorem dX12_remove_43 : decode cX12_remove 43 = .ok (.getfield 11, 3) := by decide +kernel
theorem dX12_remove_46 : decode cX12_remove 46 = .ok (.iload_n 1, 1) := by decide +kernel
theorem dX12_remove_47 : decode cX12_remove 47 = .ok (.aaload, 1) := by decide +kernel
theorem dX12_remove_48 : decode cX12_remove 48 = .ok (.iload 5, 2) := by decide +kernel
theorem dX12_remove_50 : decode cX12_remove 50 = .ok (.baload, 1) := by decide +kernel
theorem dX12_remove_51 : decode cX12_remove 51 = .ok (.istore 6, 2) := by decide +kernel
theorem dX12_remove_53 : decode cX12_remove 53 = .ok (.aload_n 0, 1) := by decide +kernel
theorem dX12_remove_54 : decode cX12_remove 54 = .ok (.getfield 11, 3) := by decide +kernel
theorem dX12_remove_57 : decode cX12_remove 57 = .ok (.iload_n 1, 1) := by decide +kernel
theorem dX12_remove_58 : decode cX12_remove 58 = .ok (.aaload, 1) := by decide +kernel
theorem dX12_remove_59 : decode cX12_remove 59 = .ok (.iload 5, 2) := by decide +kernel
theorem dX12_remove_61 : decode cX12_remove 61 = .ok (.iconst 0, 1) := by decide +kernel
theorem dX12_remove_62 : decode cX12_remove 62 = .ok (.bastore, 1) := by decide +kernel
theorem dX12_remove_63 : decode cX12_remove 63 = .ok (.aload_n 0, 1) := by decide +kernel
theorem dX12_remove_64 : decode cX12_remove 64 = .ok (.dup, 1) := by decide +kernel
theorem dX12_remove_65 : decode cX12_remove 65 = .ok (.getfield 51, 3) := by decide +kernel
theorem dX12_remove_68 : decode cX12_remove 68 = .ok (.iload 6, 2) := by decide +kernel
theorem dX12_remove_70 : decode cX12_remove 70 = .ok (.ifCond .eq 7, 3) := by decide +kernel
theorem dX12_remove_73 : decode cX12_remove 73 = .ok (.iconst 1, 1) := by decide +kernel
theorem dX12_remove_74 : decode cX12_remove 74 = .ok (.goto 4, 3) := by decide +kernel
theorem dX12_remove_77 : decode cX12_remove 77 = .ok (.iconst 0, 1) := by decide +kernel
theorem dX12_remove_78 : decode cX12_remove 78 = .ok (.isub, 1) := by decide +kernel
theorem dX12_remove_79 : decode cX12_remove 79 = .ok (.putfield 51, 3) := by decide +kernel
theorem dX12_remove_82 : decode cX12_remove 82 = .ok (.iload 6, 2) := by decide +kernel
theorem dX12_remove_84 : decode cX12_remove 84 = .ok (.ireturn, 1) := by decide +kernel
theorem dX12_has_0 : decode cX12_has 0 = .ok (.iload_n 1, 1) := by decide +kernel
theorem dX12_has_1 : decode cX12_has 1 = .ok (.iconst 3, 1) := by decide +kernel
theorem dX12_has_2 : decode cX12_has 2 = .ok (.if_icmp .ge 14, 3) := by decide +kernel
theorem dX12_has_5 : decode cX12_has 5 = .ok (.aload_n 0, 1) := by decide +kernel
theorem dX12_has_6 : decode cX12_has 6 = .ok (.getfield 11, 3) := by decide +kernel
theorem dX12_has_9 : decode cX12_has 9 = .ok (.iload_n 1, 1) := by decide +kernel
theorem dX12_has_10 : decode cX12_has 10 = .ok (.aaload, 1) := by decide +kernel
theorem dX12_has_11 : decode cX12_has 11 = .ok (.iload_n 2, 1) := by decide +kernel
theorem dX12_has_12 : decode cX12_has 12 = .ok (.baload, 1) := by decide +kernel
theorem dX12_has_13 : decode cX12_has 13 = .ok (.goto 41, 3) := by decide +kernel
theorem dX12_has_16 : decode cX12_has 16 = .ok (.aload_n 0, 1) := by decide +kernel
theorem dX12_has_17 : decode cX12_has 17 = .ok (.getfield 11, 3) := by decide +kernel
theorem dX12_has_20 : decode cX12_has 20 = .ok (.iconst 0, 1) := by decide +kernel
theorem dX12_has_21 : decode cX12_has 21 = .ok (.aaload, 1) := by decide +kernel
theorem dX12_has_22 : decode cX12_has 22 = .ok (.iload_n 2, 1) := by decide +kernel
theorem dX12_has_23 : decode cX12_has 23 = .ok (.baload, 1) := by decide +kernel
theorem dX12_has_24 : decode cX12_has 24 = .ok (.ifCond .ne 25, 3) := by decide +kernel
theorem dX12_has_27 : decode cX12_has 27 = .ok (.aload_n 0, 1) := by decide +kernel
theorem dX12_has_28 : decode cX12_has 28 = .ok (.getfield 11, 3) := by decide +kernel
theorem dX12_has_31 : decode cX12_has 31 = .ok (.iconst 1, 1) := by decide +kernel
theorem dX12_has_32 : decode cX12_has 32 = .ok (.aaload, 1) := by decide +kernel
theorem dX12_has_33 : decode cX12_has 33 = .ok (.iload_n 2, 1) := by decide +kernel
theorem dX12_has_34 : decode cX12_has 34 = .ok (.baload, 1) := by decide +kernel
theorem dX12_has_35 : decode cX12_has 35 = .ok (.ifCond .ne 14, 3) := by decide +kernel
theorem dX12_has_38 : decode cX12_has 38 = .ok (.aload_n 0, 1) := by decide +kernel
theorem dX12_has_39 : decode cX12_has 39 = .ok (.getfield 11, 3) := by decide +kernel
theorem dX12_has_42 : decode cX12_has 42 = .ok (.iconst 2, 1) := by decide +kernel
theorem dX12_has_43 : decode cX12_has 43 = .ok (.aaload, 1) := by decide +kernel
theorem dX12_has_44 : decode cX12_has 44 = .ok (.iload_n 2, 1) := by decide +kernel
theorem dX12_has_45 : decode cX12_has 45 = .ok (.baload, 1) := by decide +kernel
theorem dX12_has_46 : decode cX12_has 46 = .ok (.ifCond .eq 7, 3) := by decide +kernel
theorem dX12_has_49 : decode cX12_has 49 = .ok (.iconst 1, 1) := by decide +kernel
theorem dX12_has_50 : decode cX12_has 50 = .ok (.goto 4, 3) := by decide +kernel
theorem dX12_has_53 : decode cX12_has 53 = .ok (.iconst 0, 1) := by decide +kernel
theorem dX12_has_54 : decode cX12_has 54 = .ok (.ireturn, 1) := by decide +kernel
theorem dX12_count_0 : decode cX12_count 0 = .ok (.iconst 0, 1) := by decide +kernel
theorem dX12_count_1 : decode cX12_count 1 = .ok (.istore_n 2, 1) := by decide +kernel
theorem dX12_count_2 : decode cX12_count 2 = .ok (.iconst 0, 1) := by decide +kernel
theorem dX12_count_3 : decode cX12_count 3 = .ok (.istore_n 3, 1) := by decide +kernel
theorem dX12_count_4 : decode cX12_count 4 = .ok (.iload_n 3, 1) := by decide +kernel
theorem dX12_count_5 : decode cX12_count 5 = .ok (.sipush 768, 3) := by decide +kernel
theorem dX12_count_8 : decode cX12_count 8 = .ok (.if_icmp .ge 26, 3) := by decide +kernel
theorem dX12_count_11 : decode cX12_count 11 = .ok (.iload_n 2, 1) := by decide +kernel
theorem dX12_count_12 : decode cX12_count 12 = .ok (.aload_n 0, 1) := by decide +kernel
theorem dX12_count_13 : decode cX12_count 13 = .ok (.iload_n 1, 1) := by decide +kernel
theorem dX12_count_14 : decode cX12_count 14 = .ok (.iload_n 3, 1) := by decide +kernel
theorem dX12_count_15 : decode cX12_count 15 = .ok (.invokevirtual 54, 3) := by decide +kernel
theorem dX12_count_18 : decode cX12_count 18 = .ok (.ifCond .eq 7, 3) := by decide +kernel
theorem dX12_count_21 : decode cX12_count 21 = .ok (.iconst 1, 1) := by decide +kernel
theorem dX12_count_22 : decode cX12_count 22 = .ok (.goto 4, 3) := by decide +kernel
theorem dX12_count_25 : decode cX12_count 25 = .ok (.iconst 0, 1) := by decide +kernel
theorem dX12_count_26 : decode cX12_count 26 = .ok (.iadd, 1) := by decide +kernel
theorem dX12_count_27 : decode cX12_count 27 = .ok (.istore_n 2, 1) := by decide +kernel
theorem dX12_count_28 : decode cX12_count 28 = .ok (.iinc 3 1, 3) := by decide +kernel
theorem dX12_count_31 : decode cX12_count 31 = .ok (.goto (-27), 3) := by decide +kernel
theorem dX12_count_34 : decode cX12_count 34 = .ok (.iload_n 2, 1) := by decide +kernel
theorem dX12_count_35 : decode cX12_count 35 = .ok (.ireturn, 1) := by decide +kernel
theorem dX12_size_0 : decode cX12_size 0 = .ok (.aload_n 0, 1) := by decide +kernel
theorem dX12_size_1 : decode cX12_size 1 = .ok (.iload_n 1, 1) := by decide +kernel
theorem dX12_size_2 : decode cX12_size 2 = .ok (.iconst 0, 1) := by decide +kernel
theorem dX12_size_3 : decode cX12_size 3 = .ok (.iconst 3, 1) := by decide +kernel
theorem dX12_size_4 : decode cX12_size 4 = .ok (.invokestatic 36, 3) := by decide +kernel
theorem dX12_size_7 : decode cX12_size 7 = .ok (.ifCond .eq 7, 3) := by decide +kernel
theorem dX12_size_10 : decode cX12_size 10 = .ok (.iconst 0, 1) := by decide +kernel
theorem dX12_size_11 : decode cX12_size 11 = .ok (.goto 4, 3) := by decide +kernel
theorem dX12_size_14 : decode cX12_size 14 = .ok (.iconst 1, 1) := by decide +kernel
theorem dX12_size_15 : decode cX12_size 15 = .ok (.invokevirtual 43, 3) := by decide +kernel
theorem dX12_size_18 : decode cX12_size 18 = .ok (.ifCond .eq 7, 3) := by decide +kernel
theorem dX12_size_21 : decode cX12_size 21 = .ok (.iconst 0, 1) := by decide +kernel
theorem dX12_size_22 : decode cX12_size 22 = .ok (.goto 8, 3) := by decide +kernel
theorem dX12_size_25 : decode cX12_size 25 = .ok (.aload_n 0, 1) := by decide +kernel
theorem dX12_size_26 : decode cX12_size 26 = .ok (.iload_n 1, 1) := by decide +kernel
theorem dX12_size_27 : decode cX12_size 27 = .ok (.invokevirtual 58, 3) := by decide +kernel
theorem dX12_size_30 : decode cX12_size 30 = .ok (.ireturn, 1) := by decide +kernel
theorem dX12_isName_0 : decode cX12_isName 0 = .ok (.iload_n 0, 1) := by decide +kernel
theorem dX12_isName_1 : decode cX12_isName 1 = .ok (.iconst 0, 1) := by decide +kernel
theorem dX12_isName_2 : decode cX12_isName 2 = .ok (.bipush 7, 2) := by decide +kernel
theorem dX12_isName_4 : decode cX12_isName 4 = .ok (.invokestatic 36, 3) := by decide +kernel
theorem dX12_isName_7 : decode cX12_isName 7 = .ok (.ireturn, 1) := by decide +kernel
theorem dX12_addRule_0 : decode cX12_addRule 0 = .ok (.iload_n 1, 1) := by decide +kernel
theorem dX12_addRule_1 : decode cX12_addRule 1 = .ok (.bipush 115, 2) := by decide +kernel
theorem dX12_addRule_3 : decode cX12_addRule 3 = .ok (.if_icmp .eq 21, 3) := by decide +kernel
theorem dX12_addRule_6 : decode cX12_addRule 6 = .ok (.iload_n 1, 1) := by decide +kernel
theorem dX12_addRule_7 : decode cX12_addRule 7 = .ok (.bipush 105, 2) := by decide +kernel
theorem dX12_addRule_9 : decode cX12_addRule 9 = .ok (.if_icmp .eq 15, 3) := by decide +kernel
theorem dX12_addRule_12 : decode cX12_addRule 12 = .ok (.iload_n 1, 1) := by decide +kernel
theorem dX12_addRule_13 : decode cX12_addRule 13 = .ok (.bipush 116, 2) := by decide +kernel
theorem dX12_addRule_15 : decode cX12_addRule 15 = .ok (.if_icmp .eq 9, 3) := by decide +kernel
theorem dX12_addRule_18 : decode cX12_addRule 18 = .ok (.iload_n 1, 1) := by decide +kernel
theorem dX12_addRule_19 : decode cX12_addRule 19 = .ok (.bipush 99, 2) := by decide +kernel
theorem dX12_addRule_21 : decode cX12_addRule 21 = .ok (.if_icmp .ne 7, 3) := by decide +kernel
theorem dX12_addRule_24 : decode cX12_addRule 24 = .ok (.iconst 1, 1) := by decide +kernel
theorem dX12_addRule_25 : decode cX12_addRule 25 = .ok (.goto 4, 3) := by decide +kernel
theorem dX12_addRule_28 : decode cX12_addRule 28 = .ok (.iconst 0, 1) := by decide +kernel
theorem dX12_addRule_29 : decode cX12_addRule 29 = .ok (.istore 5, 2) := by decide +kernel
theorem dX12_addRule_31 : decode cX12_addRule 31 = .ok (.iload 5, 2) := by decide +kernel
theorem dX12_addRule_33 : decode cX12_addRule 33 = .ok (.ifCond .eq 41, 3) := by decide +kernel
theorem dX12_addRule_36 : decode cX12_addRule 36 = .ok (.iload_n 2, 1) := by decide +kernel
theorem dX12_addRule_37 : decode cX12_addRule 37 = .ok (.invokestatic 62, 3) := by decide +kernel
theorem dX12_addRule_40 : decode cX12_addRule 40 = .ok (.ifCond .eq 34, 3) := by decide +kernel
theorem dX12_addRule_43 : decode cX12_addRule 43 = .ok (.iload_n 1, 1) := by decide +kernel
theorem dX12_addRule_44 : decode cX12_addRule 44 = .ok (.bipush 116, 2) := by decide +kernel
theorem dX12_addRule_46 : decode cX12_addRule 46 = .ok (.if_icmp .eq 10, 3) := by decide +kernel
theorem dX12_addRule_49 : decode cX12_addRule 49 = .ok (.iload_n 3, 1) := by decide +kernel
theorem dX12_addRule_50 : decode cX12_addRule 50 = .ok (.invokestatic 62, 3) := by decide +kernel
theorem dX12_addRule_53 : decode cX12_addRule 53 = .ok (.ifCond .eq 21, 3) := by decide +kernel
theorem dX12_addRule_56 : decode cX12_addRule 56 = .ok (.iload_n 1, 1) := by decide +kernel
theorem dX12_addRule_57 : decode cX12_addRule 57 = .ok (.bipush 99, 2) := by decide +kernel
theorem dX12_addRule_59 : decode cX12_addRule 59 = .ok (.if_icmp .ne 11, 3) := by decide +kernel
theorem dX12_addRule_62 : decode cX12_addRule 62 = .ok (.iload 4, 2) := by decide +kernel
theorem dX12_addRule_64 : decode cX12_addRule 64 = .ok (.invokestatic 62, 3) := by decide +kernel
theorem dX12_addRule_67 : decode cX12_addRule 67 = .ok (.ifCond .eq 7, 3) := by decide +kernel
theorem dX12_addRule_70 : decode cX12_addRule 70 = .ok (.iconst 1, 1) := by decide +kernel
theorem dX12_addRule_71 : decode cX12_addRule 71 = .ok (.goto 4, 3) := by decide +kernel
theorem dX12_addRule_74 : decode cX12_addRule 74 = .ok (.iconst 0, 1) := by decide +kernel
theorem dX12_addRule_75 : decode cX12_addRule 75 = .ok (.istore 6, 2) := by decide +kernel
theorem dX12_addRule_77 : decode cX12_addRule 77 = .ok (.aload_n 0, 1) := by decide +kernel
theorem dX12_addRule_78 : decode cX12_addRule 78 = .ok (.iload 6, 2) := by decide +kernel
theorem dX12_addRule_80 : decode cX12_addRule 80 = .ok (.ifCond .ne 7, 3) := by decide +kernel
theorem dX12_addRule_83 : decode cX12_addRule 83 = .ok (.iconst 1, 1) := by decide +kernel
theorem dX12_addRule_84 : decode cX12_addRule 84 = .ok (.goto 17, 3) := by decide +kernel
theorem dX12_addRule_87 : decode cX12_addRule 87 = .ok (.aload_n 0, 1) := by decide +kernel
theorem dX12_addRule_88 : decode cX12_addRule 88 = .ok (.getfield 65, 3) := by decide +kernel
theorem dX12_addRule_91 : decode cX12_addRule 91 = .ok (.bipush 8, 2) := by decide +kernel
theorem dX12_addRule_93 : decode cX12_addRule 93 = .ok (.if_icmp .ne 7, 3) := by decide +kernel
theorem dX12_addRule_96 : decode cX12_addRule 96 = .ok (.iconst 2, 1) := by decide +kernel
theorem dX12_addRule_97 : decode cX12_addRule 97 = .ok (.goto 4, 3) := by decide +kernel
theorem dX12_addRule_100 : decode cX12_addRule 100 = .ok (.iconst 0, 1) := by decide +kernel
theorem dX12_addRule_101 : decode cX12_addRule 101 = .ok (.invokevirtual 43, 3) := by decide +kernel
theorem dX12_addRule_104 : decode cX12_addRule 104 = .ok (.ifCond .eq 5, 3) := by decide +kernel
theorem dX12_addRule_107 : decode cX12_addRule 107 = .ok (.iconst 0, 1) := by decide +kernel
theorem dX12_addRule_108 : decode cX12_addRule 108 = .ok (.ireturn, 1) := by decide +kernel
theorem dX12_addRule_109 : decode cX12_addRule 109 = .ok (.aload_n 0, 1) := by decide +kernel
theorem dX12_addRule_110 : decode cX12_addRule 110 = .ok (.getfield 16, 3) := by decide +kernel
theorem dX12_addRule_113 : decode cX12_addRule 113 = .ok (.aload_n 0, 1) := by decide +kernel
theorem dX12_addRule_114 : decode cX12_addRule 114 = .ok (.getfield 65, 3) := by decide +kernel
theorem dX12_addRule_117 : decode cX12_addRule 117 = .ok (.iconst 4, 1) := by decide +kernel
theorem dX12_addRule_118 : decode cX12_addRule 118 = .ok (.newarray .int, 2) := by decide +kernel
theorem dX12_addRule_120 : decode cX12_addRule 120 = .ok (.dup, 1) := by decide +kernel
theorem dX12_addRule_121 : decode cX12_addRule 121 = .ok (.iconst 0, 1) := by decide +kernel
theorem dX12_addRule_122 : decode cX12_addRule 122 = .ok (.iload_n 1, 1) := by decide +kernel
theorem dX12_addRule_123 : decode cX12_addRule 123 = .ok (.iastore, 1) := by decide +kernel
theorem dX12_addRule_124 : decode cX12_addRule 124 = .ok (.dup, 1) := by decide +kernel
theorem dX12_addRule_125 : decode cX12_addRule 125 = .ok (.iconst 1, 1) := by decide +kernel
theorem dX12_addRule_126 : decode cX12_addRule 126 = .ok (.iload_n 2, 1) := by decide +kernel
theorem dX12_addRule_127 : decode cX12_addRule 127 = .ok (.iastore, 1) := by decide +kernel
theorem dX12_addRule_128 : decode cX12_addRule 128 = .ok (.dup, 1) := by decide +kernel
theorem dX12_addRule_129 : decode cX12_addRule 129 = .ok (.iconst 2, 1) := by decide +kernel
theorem dX12_addRule_130 : decode cX12_addRule 130 = .ok (.iload_n 3, 1) := by decide +kernel
theorem dX12_addRule_131 : decode cX12_addRule 131 = .ok (.iastore, 1) := by decide +kernel
theorem dX12_addRule_132 : decode cX12_addRule 132 = .ok (.dup, 1) := by decide +kernel
theorem dX12_addRule_133 : decode cX12_addRule 133 = .ok (.iconst 3, 1) := by decide +kernel
theorem dX12_addRule_134 : decode cX12_addRule 134 = .ok (.iload 4, 2) := by decide +kernel
theorem dX12_addRule_136 : decode cX12_addRule 136 = .ok (.iastore, 1) := by decide +kernel
theorem dX12_addRule_137 : decode cX12_addRule 137 = .ok (.aastore, 1) := by decide +kernel
theorem dX12_addRule_138 : decode cX12_addRule 138 = .ok (.aload_n 0, 1) := by decide +kernel
theorem dX12_addRule_139 : decode cX12_addRule 139 = .ok (.dup, 1) := by decide +kernel
theorem dX12_addRule_140 : decode cX12_addRule 140 = .ok (.getfield 65, 3) := by decide +kernel
theorem dX12_addRule_143 : decode cX12_addRule 143 = .ok (.iconst 1, 1) := by decide +kernel
theorem dX12_addRule_144 : decode cX12_addRule 144 = .ok (.iadd, 1) := by decide +kernel
theorem dX12_addRule_145 : decode cX12_addRule 145 = .ok (.putfield 65, 3) := by decide +kernel
theorem dX12_addRule_148 : decode cX12_addRule 148 = .ok (.aload_n 0, 1) := by decide +kernel
theorem dX12_addRule_149 : decode cX12_addRule 149 = .ok (.getfield 65, 3) := by decide +kernel
theorem dX12_addRule_152 : decode cX12_addRule 152 = .ok (.iconst 1, 1) := by decide +kernel
theorem dX12_addRule_153 : decode cX12_addRule 153 = .ok (.isub, 1) := by decide +kernel
theorem dX12_addRule_154 : decode cX12_addRule 154 = .ok (.ireturn, 1) := by decide +kernel
theorem dX12_clearRules_0 : decode cX12_clearRules 0 = .ok (.aload_n 0, 1) := by decide +kernel
theorem dX12_clearRules_1 : decode cX12_clearRules 1 = .ok (.iconst 0, 1) := by decide +kernel
theorem dX12_clearRules_2 : decode cX12_clearRules 2 = .ok (.putfield 32, 3) := by decide +kernel
theorem dX12_clearRules_5 : decode cX12_clearRules 5 = .ok (.aload_n 0, 1) := by decide +kernel
theorem dX12_clearRules_6 : decode cX12_clearRules 6 = .ok (.getfield 65, 3) := by decide +kernel
theorem dX12_clearRules_9 : decode cX12_clearRules 9 = .ok (.istore_n 1, 1) := by decide +kernel
theorem dX12_clearRules_10 : decode cX12_clearRules 10 = .ok (.aload_n 0, 1) := by decide +kernel
theorem dX12_clearRules_11 : decode cX12_clearRules 11 = .ok (.iconst 0, 1) := by decide +kernel
theorem dX12_clearRules_12 : decode cX12_clearRules 12 = .ok (.putfield 65, 3) := by decide +kernel
theorem dX12_clearRules_15 : decode cX12_clearRules 15 = .ok (.iload_n 1, 1) := by decide +kernel
theorem dX12_clearRules_16 : decode cX12_clearRules 16 = .ok (.ireturn, 1) := by decide +kernel
theorem dX12_proofs_0 : decode cX12_proofs 0 = .ok (.sipush 768, 3) := by decide +kernel
theorem dX12_proofs_3 : decode cX12_proofs 3 = .ok (.newarray .int, 2) := by decide +kernel
theorem dX12_proofs_5 : decode cX12_proofs 5 = .ok (.astore_n 2, 1) := by decide +kernel
theorem dX12_proofs_6 : decode cX12_proofs 6 = .ok (.iconst 0, 1) := by decide +kernel
theorem dX12_proofs_7 : decode cX12_proofs 7 = .ok (.istore_n 3, 1) := by decide +kernel
theorem dX12_proofs_8 : decode cX12_proofs 8 = .ok (.iload_n 3, 1) := by decide +kernel
theorem dX12_proofs_9 : decode cX12_proofs 9 = .ok (.sipush 768, 3) := by decide +kernel
theorem dX12_proofs_12 : decode cX12_proofs 12 = .ok (.if_icmp .ge 26, 3) := by decide +kernel
theorem dX12_proofs_15 : decode cX12_proofs 15 = .ok (.aload_n 2, 1) := by decide +kernel
theorem dX12_proofs_16 : decode cX12_proofs 16 = .ok (.iload_n 3, 1) := by decide +kernel
theorem dX12_proofs_17 : decode cX12_proofs 17 = .ok (.aload_n 0, 1) := by decide +kernel
theorem dX12_proofs_18 : decode cX12_proofs 18 = .ok (.iload_n 1, 1) := by decide +kernel
theorem dX12_proofs_19 : decode cX12_proofs 19 = .ok (.iload_n 3, 1) := by decide +kernel
theorem dX12_proofs_20 : decode cX12_proofs 20 = .ok (.invokevirtual 54, 3) := by decide +kernel
theorem dX12_proofs_23 : decode cX12_proofs 23 = .ok (.ifCond .eq 7, 3) := by decide +kernel
theorem dX12_proofs_26 : decode cX12_proofs 26 = .ok (.iconst 1, 1) := by decide +kernel
theorem dX12_proofs_27 : decode cX12_proofs 27 = .ok (.goto 4, 3) := by decide +kernel
theorem dX12_proofs_30 : decode cX12_proofs 30 = .ok (.iconst 0, 1) := by decide +kernel
theorem dX12_proofs_31 : decode cX12_proofs 31 = .ok (.iastore, 1) := by decide +kernel
theorem dX12_proofs_32 : decode cX12_proofs 32 = .ok (.iinc 3 1, 3) := by decide +kernel
theorem dX12_proofs_35 : decode cX12_proofs 35 = .ok (.goto (-27), 3) := by decide +kernel
theorem dX12_proofs_38 : decode cX12_proofs 38 = .ok (.iconst 1, 1) := by decide +kernel
theorem dX12_proofs_39 : decode cX12_proofs 39 = .ok (.istore_n 3, 1) := by decide +kernel
theorem dX12_proofs_40 : decode cX12_proofs 40 = .ok (.iload_n 3, 1) := by decide +kernel
theorem dX12_proofs_41 : decode cX12_proofs 41 = .ok (.ifCond .eq 96, 3) := by decide +kernel
theorem dX12_proofs_44 : decode cX12_proofs 44 = .ok (.iconst 0, 1) := by decide +kernel
theorem dX12_proofs_45 : decode cX12_proofs 45 = .ok (.istore_n 3, 1) := by decide +kernel
theorem dX12_proofs_46 : decode cX12_proofs 46 = .ok (.iconst 0, 1) := by decide +kernel
theorem dX12_proofs_47 : decode cX12_proofs 47 = .ok (.istore 4, 2) := by decide +kernel
theorem dX12_proofs_49 : decode cX12_proofs 49 = .ok (.iload 4, 2) := by decide +kernel
theorem dX12_proofs_51 : decode cX12_proofs 51 = .ok (.aload_n 0, 1) := by decide +kernel
theorem dX12_proofs_52 : decode cX12_proofs 52 = .ok (.getfield 65, 3) := by decide +kernel
theorem dX12_proofs_55 : decode cX12_proofs 55 = .ok (.if_icmp .ge 79, 3) := by decide +kernel
theorem dX12_proofs_58 : decode cX12_proofs 58 = .ok (.aload_n 0, 1) := by decide +kernel
theorem dX12_proofs_59 : decode cX12_proofs 59 = .ok (.getfield 16, 3) := by decide +kernel
theorem dX12_proofs_62 : decode cX12_proofs 62 = .ok (.iload 4, 2) := by decide +kernel
theorem dX12_proofs_64 : decode cX12_proofs 64 = .ok (.aaload, 1) := by decide +kernel
theorem dX12_proofs_65 : decode cX12_proofs 65 = .ok (.iconst 0, 1) := by decide +kernel
theorem dX12_proofs_66 : decode cX12_proofs 66 = .ok (.iaload, 1) := by decide +kernel
theorem dX12_proofs_67 : decode cX12_proofs 67 = .ok (.bipush 115, 2) := by decide +kernel
theorem dX12_proofs_69 : decode cX12_proofs 69 = .ok (.if_icmp .eq 17, 3) := by decide +kernel
theorem dX12_proofs_72 : decode cX12_proofs 72 = .ok (.aload_n 0, 1) := by decide +kernel
theorem dX12_proofs_73 : decode cX12_proofs 73 = .ok (.getfield 16, 3) := by decide +kernel
theorem dX12_proofs_76 : decode cX12_proofs 76 = .ok (.iload 4, 2) := by decide +kernel
theorem dX12_proofs_78 : decode cX12_proofs 78 = .ok (.aaload, 1) := by decide +kernel
theorem dX12_proofs_79 : decode cX12_proofs 79 = .ok (.iconst 0, 1) := by decide +kernel
theorem dX12_proofs_80 : decode cX12_proofs 80 = .ok (.iaload, 1) := by decide +kernel
theorem dX12_proofs_81 : decode cX12_proofs 81 = .ok (.bipush 105, 2) := by decide +kernel
theorem dX12_proofs_83 : decode cX12_proofs 83 = .ok (.if_icmp .ne 17, 3) := by decide +kernel
theorem dX12_proofs_86 : decode cX12_proofs 86 = .ok (.aload_n 2, 1) := by decide +kernel
theorem dX12_proofs_87 : decode cX12_proofs 87 = .ok (.aload_n 0, 1) := by decide +kernel
theorem dX12_proofs_88 : decode cX12_proofs 88 = .ok (.getfield 16, 3) := by decide +kernel
theorem dX12_proofs_91 : decode cX12_proofs 91 = .ok (.iload 4, 2) := by decide +kernel
theorem dX12_proofs_93 : decode cX12_proofs 93 = .ok (.aaload, 1) := by decide +kernel
theorem dX12_proofs_94 : decode cX12_proofs 94 = .ok (.invokestatic 68, 3) := by decide +kernel
theorem dX12_proofs_97 : decode cX12_proofs 97 = .ok (.goto 14, 3) := by decide +kernel
theorem dX12_proofs_100 : decode cX12_proofs 100 = .ok (.aload_n 2, 1) := by decide +kernel
theorem dX12_proofs_101 : decode cX12_proofs 101 = .ok (.aload_n 0, 1) := by decide +kernel
theorem dX12_proofs_102 : decode cX12_proofs 102 = .ok (.getfield 16, 3) := by decide +kernel
theorem dX12_proofs_105 : decode cX12_proofs 105 = .ok (.iload 4, 2) := by decide +kernel
theorem dX12_proofs_107 : decode cX12_proofs 107 = .ok (.aaload, 1) := by decide +kernel
theorem dX12_proofs_108 : decode cX12_proofs 108 = .ok (.invokestatic 72, 3) := by decide +kernel
theorem dX12_proofs_111 : decode cX12_proofs 111 = .ok (.istore 5, 2) := by decide +kernel
theorem dX12_proofs_113 : decode cX12_proofs 113 = .ok (.iload_n 3, 1) := by decide +kernel
theorem dX12_proofs_114 : decode cX12_proofs 114 = .ok (.ifCond .ne 8, 3) := by decide +kernel
theorem dX12_proofs_117 : decode cX12_proofs 117 = .ok (.iload 5, 2) := by decide +kernel
theorem dX12_proofs_119 : decode cX12_proofs 119 = .ok (.ifCond .eq 7, 3) := by decide +kernel
theorem dX12_proofs_122 : decode cX12_proofs 122 = .ok (.iconst 1, 1) := by decide +kernel
theorem dX12_proofs_123 : decode cX12_proofs 123 = .ok (.goto 4, 3) := by decide +kernel
theorem dX12_proofs_126 : decode cX12_proofs 126 = .ok (.iconst 0, 1) := by decide +kernel
theorem dX12_proofs_127 : decode cX12_proofs 127 = .ok (.istore_n 3, 1) := by decide +kernel
theorem dX12_proofs_128 : decode cX12_proofs 128 = .ok (.iinc 4 1, 3) := by decide +kernel
theorem dX12_proofs_131 : decode cX12_proofs 131 = .ok (.goto (-82), 3) := by decide +kernel
theorem dX12_proofs_134 : decode cX12_proofs 134 = .ok (.goto (-94), 3) := by decide +kernel
theorem dX12_proofs_137 : decode cX12_proofs 137 = .ok (.aload_n 2, 1) := by decide +kernel
theorem dX12_proofs_138 : decode cX12_proofs 138 = .ok (.areturn, 1) := by decide +kernel
theorem dX12_failsTriple_0 : decode cX12_failsTriple 0 = .ok (.aload_n 0, 1) := by decide +kernel
theorem dX12_failsTriple_1 : decode cX12_failsTriple 1 = .ok (.iload_n 1, 1) := by decide +kernel
theorem dX12_failsTriple_2 : decode cX12_failsTriple 2 = .ok (.iconst 0, 1) := by decide +kernel
theorem dX12_failsTriple_3 : decode cX12_failsTriple 3 = .ok (.iconst 3, 1) := by decide +kernel
theorem dX12_failsTriple_4 : decode cX12_failsTriple 4 = .ok (.invokestatic 36, 3) := by decide +kernel
theorem dX12_failsTriple_7 : decode cX12_failsTriple 7 = .ok (.ifCond .eq 13, 3) := by decide +kernel
theorem dX12_failsTriple_10 : decode cX12_failsTriple 10 = .ok (.iload_n 2, 1) := by decide +kernel
theorem dX12_failsTriple_11 : decode cX12_failsTriple 11 = .ok (.iload_n 3, 1) := by decide +kernel
theorem dX12_failsTriple_12 : decode cX12_failsTriple 12 = .ok (.iload 4, 2) := by decide +kernel
theorem dX12_failsTriple_14 : decode cX12_failsTriple 14 = .ok (.invokestatic 40, 3) := by decide +kernel
theorem dX12_failsTriple_17 : decode cX12_failsTriple 17 = .ok (.ifCond .ne 7, 3) := by decide +kernel
theorem dX12_failsTriple_20 : decode cX12_failsTriple 20 = .ok (.iconst 1, 1) := by decide +kernel
theorem dX12_failsTriple_21 : decode cX12_failsTriple 21 = .ok (.goto 4, 3) := by decide +kernel
theorem dX12_failsTriple_24 : decode cX12_failsTriple 24 = .ok (.iconst 0, 1) := by decide +kernel
theorem dX12_failsTriple_25 : decode cX12_failsTriple 25 = .ok (.invokevirtual 43, 3) := by decide +kernel
theorem dX12_failsTriple_28 : decode cX12_failsTriple 28 = .ok (.ireturn, 1) := by decide +kernel
theorem dX12_entails_0 : decode cX12_entails 0 = .ok (.aload_n 0, 1) := by decide +kernel
theorem dX12_entails_1 : decode cX12_entails 1 = .ok (.iload_n 1, 1) := by decide +kernel
theorem dX12_entails_2 : decode cX12_entails 2 = .ok (.iload_n 2, 1) := by decide +kernel
theorem dX12_entails_3 : decode cX12_entails 3 = .ok (.iload_n 3, 1) := by decide +kernel
theorem dX12_entails_4 : decode cX12_entails 4 = .ok (.iload 4, 2) := by decide +kernel
theorem dX12_entails_6 : decode cX12_entails 6 = .ok (.invokevirtual 79, 3) := by decide +kernel
theorem dX12_entails_9 : decode cX12_entails 9 = .ok (.ifCond .ne 23, 3) := by decide +kernel
theorem dX12_entails_12 : decode cX12_entails 12 = .ok (.aload_n 0, 1) := by decide +kernel
theorem dX12_entails_13 : decode cX12_entails 13 = .ok (.iload_n 1, 1) := by decide +kernel
theorem dX12_entails_14 : decode cX12_entails 14 = .ok (.invokevirtual 83, 3) := by decide +kernel
theorem dX12_entails_17 : decode cX12_entails 17 = .ok (.iload_n 2, 1) := by decide +kernel
theorem dX12_entails_18 : decode cX12_entails 18 = .ok (.iload_n 3, 1) := by decide +kernel
theorem dX12_entails_19 : decode cX12_entails 19 = .ok (.iload 4, 2) := by decide +kernel
theorem dX12_entails_21 : decode cX12_entails 21 = .ok (.invokestatic 47, 3) := by decide +kernel
theorem dX12_entails_24 : decode cX12_entails 24 = .ok (.iaload, 1) := by decide +kernel
theorem dX12_entails_25 : decode cX12_entails 25 = .ok (.ifCond .le 7, 3) := by decide +kernel
theorem dX12_entails_28 : decode cX12_entails 28 = .ok (.iconst 1, 1) := by decide +kernel
theorem dX12_entails_29 : decode cX12_entails 29 = .ok (.goto 4, 3) := by decide +kernel
theorem dX12_entails_32 : decode cX12_entails 32 = .ok (.iconst 0, 1) := by decide +kernel
theorem dX12_entails_33 : decode cX12_entails 33 = .ok (.ireturn, 1) := by decide +kernel
theorem dX12_leastProof_0 : decode cX12_leastProof 0 = .ok (.aload_n 0, 1) := by decide +kernel
theorem dX12_leastProof_1 : decode cX12_leastProof 1 = .ok (.iload_n 1, 1) := by decide +kernel
theorem dX12_leastProof_2 : decode cX12_leastProof 2 = .ok (.iload_n 2, 1) := by decide +kernel
theorem dX12_leastProof_3 : decode cX12_leastProof 3 = .ok (.iload_n 3, 1) := by decide +kernel
theorem dX12_leastProof_4 : decode cX12_leastProof 4 = .ok (.iload 4, 2) := by decide +kernel
theorem dX12_leastProof_6 : decode cX12_leastProof 6 = .ok (.invokevirtual 79, 3) := by decide +kernel
theorem dX12_leastProof_9 : decode cX12_leastProof 9 = .ok (.ifCond .eq 5, 3) := by decide +kernel
theorem dX12_leastProof_12 : decode cX12_leastProof 12 = .ok (.iconst 0, 1) := by decide +kernel
theorem dX12_leastProof_13 : decode cX12_leastProof 13 = .ok (.ireturn, 1) := by decide +kernel
theorem dX12_leastProof_14 : decode cX12_leastProof 14 = .ok (.aload_n 0, 1) := by decide +kernel
theorem dX12_leastProof_15 : decode cX12_leastProof 15 = .ok (.iload_n 1, 1) := by decide +kernel
theorem dX12_leastProof_16 : decode cX12_leastProof 16 = .ok (.invokevirtual 83, 3) := by decide +kernel
theorem dX12_leastProof_19 : decode cX12_leastProof 19 = .ok (.iload_n 2, 1) := by decide +kernel
theorem dX12_leastProof_20 : decode cX12_leastProof 20 = .ok (.iload_n 3, 1) := by decide +kernel
theorem dX12_leastProof_21 : decode cX12_leastProof 21 = .ok (.iload 4, 2) := by decide +kernel
theorem dX12_leastProof_23 : decode cX12_leastProof 23 = .ok (.invokestatic 47, 3) := by decide +kernel
theorem dX12_leastProof_26 : decode cX12_leastProof 26 = .ok (.iaload, 1) := by decide +kernel
theorem dX12_leastProof_27 : decode cX12_leastProof 27 = .ok (.istore 5, 2) := by decide +kernel
theorem dX12_leastProof_29 : decode cX12_leastProof 29 = .ok (.aload_n 0, 1) := by decide +kernel
theorem dX12_leastProof_30 : decode cX12_leastProof 30 = .ok (.iload 5, 2) := by decide +kernel
theorem dX12_leastProof_32 : decode cX12_leastProof 32 = .ok (.ifCond .ne 7, 3) := by decide +kernel
theorem dX12_leastProof_35 : decode cX12_leastProof 35 = .ok (.iconst 2, 1) := by decide +kernel
theorem dX12_leastProof_36 : decode cX12_leastProof 36 = .ok (.goto 4, 3) := by decide +kernel
theorem dX12_leastProof_39 : decode cX12_leastProof 39 = .ok (.iconst 0, 1) := by decide +kernel
theorem dX12_leastProof_40 : decode cX12_leastProof 40 = .ok (.invokevirtual 43, 3) := by decide +kernel
theorem dX12_leastProof_43 : decode cX12_leastProof 43 = .ok (.ifCond .eq 7, 3) := by decide +kernel
theorem dX12_leastProof_46 : decode cX12_leastProof 46 = .ok (.iconst 0, 1) := by decide +kernel
theorem dX12_leastProof_47 : decode cX12_leastProof 47 = .ok (.goto 5, 3) := by decide +kernel
theorem dX12_leastProof_50 : decode cX12_leastProof 50 = .ok (.iload 5, 2) := by decide +kernel
theorem dX12_leastProof_52 : decode cX12_leastProof 52 = .ok (.ireturn, 1) := by decide +kernel
theorem dX12_entailed_0 : decode cX12_entailed 0 = .ok (.aload_n 0, 1) := by decide +kernel
theorem dX12_entailed_1 : decode cX12_entailed 1 = .ok (.iload_n 1, 1) := by decide +kernel
theorem dX12_entailed_2 : decode cX12_entailed 2 = .ok (.iconst 0, 1) := by decide +kernel
theorem dX12_entailed_3 : decode cX12_entailed 3 = .ok (.iconst 3, 1) := by decide +kernel
theorem dX12_entailed_4 : decode cX12_entailed 4 = .ok (.invokestatic 36, 3) := by decide +kernel
theorem dX12_entailed_7 : decode cX12_entailed 7 = .ok (.ifCond .eq 7, 3) := by decide +kernel
theorem dX12_entailed_10 : decode cX12_entailed 10 = .ok (.iconst 0, 1) := by decide +kernel
theorem dX12_entailed_11 : decode cX12_entailed 11 = .ok (.goto 4, 3) := by decide +kernel
theorem dX12_entailed_14 : decode cX12_entailed 14 = .ok (.iconst 1, 1) := by decide +kernel
theorem dX12_entailed_15 : decode cX12_entailed 15 = .ok (.invokevirtual 43, 3) := by decide +kernel
theorem dX12_entailed_18 : decode cX12_entailed 18 = .ok (.ifCond .eq 5, 3) := by decide +kernel
theorem dX12_entailed_21 : decode cX12_entailed 21 = .ok (.iconst 0, 1) := by decide +kernel
theorem dX12_entailed_22 : decode cX12_entailed 22 = .ok (.ireturn, 1) := by decide +kernel
theorem dX12_entailed_23 : decode cX12_entailed 23 = .ok (.iconst 0, 1) := by decide +kernel
theorem dX12_entailed_24 : decode cX12_entailed 24 = .ok (.istore_n 2, 1) := by decide +kernel
theorem dX12_entailed_25 : decode cX12_entailed 25 = .ok (.aload_n 0, 1) := by decide +kernel
theorem dX12_entailed_26 : decode cX12_entailed 26 = .ok (.iload_n 1, 1) := by decide +kernel
theorem dX12_entailed_27 : decode cX12_entailed 27 = .ok (.invokevirtual 83, 3) := by decide +kernel
theorem dX12_entailed_30 : decode cX12_entailed 30 = .ok (.astore_n 3, 1) := by decide +kernel
theorem dX12_entailed_31 : decode cX12_entailed 31 = .ok (.aload_n 3, 1) := by decide +kernel
theorem dX12_entailed_32 : decode cX12_entailed 32 = .ok (.arraylength, 1) := by decide +kernel
theorem dX12_entailed_33 : decode cX12_entailed 33 = .ok (.istore 4, 2) := by decide +kernel
theorem dX12_entailed_35 : decode cX12_entailed 35 = .ok (.iconst 0, 1) := by decide +kernel
theorem dX12_entailed_36 : decode cX12_entailed 36 = .ok (.istore 5, 2) := by decide +kernel
theorem dX12_entailed_38 : decode cX12_entailed 38 = .ok (.iload 5, 2) := by decide +kernel
theorem dX12_entailed_40 : decode cX12_entailed 40 = .ok (.iload 4, 2) := by decide +kernel
theorem dX12_entailed_42 : decode cX12_entailed 42 = .ok (.if_icmp .ge 28, 3) := by decide +kernel
theorem dX12_entailed_45 : decode cX12_entailed 45 = .ok (.aload_n 3, 1) := by decide +kernel
theorem dX12_entailed_46 : decode cX12_entailed 46 = .ok (.iload 5, 2) := by decide +kernel
theorem dX12_entailed_48 : decode cX12_entailed 48 = .ok (.iaload, 1) := by decide +kernel
theorem dX12_entailed_49 : decode cX12_entailed 49 = .ok (.istore 6, 2) := by decide +kernel
theorem dX12_entailed_51 : decode cX12_entailed 51 = .ok (.iload_n 2, 1) := by decide +kernel
theorem dX12_entailed_52 : decode cX12_entailed 52 = .ok (.iload 6, 2) := by decide +kernel
theorem dX12_entailed_54 : decode cX12_entailed 54 = .ok (.ifCond .le 7, 3) := by decide +kernel
theorem dX12_entailed_57 : decode cX12_entailed 57 = .ok (.iconst 1, 1) := by decide +kernel
theorem dX12_entailed_58 : decode cX12_entailed 58 = .ok (.goto 4, 3) := by decide +kernel
theorem dX12_entailed_61 : decode cX12_entailed 61 = .ok (.iconst 0, 1) := by decide +kernel
theorem dX12_entailed_62 : decode cX12_entailed 62 = .ok (.iadd, 1) := by decide +kernel
theorem dX12_entailed_63 : decode cX12_entailed 63 = .ok (.istore_n 2, 1) := by decide +kernel
theorem dX12_entailed_64 : decode cX12_entailed 64 = .ok (.iinc 5 1, 3) := by decide +kernel
theorem dX12_entailed_67 : decode cX12_entailed 67 = .ok (.goto (-29), 3) := by decide +kernel
theorem dX12_entailed_70 : decode cX12_entailed 70 = .ok (.iload_n 2, 1) := by decide +kernel
theorem dX12_entailed_71 : decode cX12_entailed 71 = .ok (.ireturn, 1) := by decide +kernel
theorem dX12_setEntailed_0 : decode cX12_setEntailed 0 = .ok (.aload_n 0, 1) := by decide +kernel
theorem dX12_setEntailed_1 : decode cX12_setEntailed 1 = .ok (.iconst 0, 1) := by decide +kernel
theorem dX12_setEntailed_2 : decode cX12_setEntailed 2 = .ok (.putfield 32, 3) := by decide +kernel
theorem dX12_setEntailed_5 : decode cX12_setEntailed 5 = .ok (.aload_n 0, 1) := by decide +kernel
theorem dX12_setEntailed_6 : decode cX12_setEntailed 6 = .ok (.getfield 87, 3) := by decide +kernel
theorem dX12_setEntailed_9 : decode cX12_setEntailed 9 = .ok (.istore_n 2, 1) := by decide +kernel
theorem dX12_setEntailed_10 : decode cX12_setEntailed 10 = .ok (.aload_n 0, 1) := by decide +kernel
theorem dX12_setEntailed_11 : decode cX12_setEntailed 11 = .ok (.iload_n 1, 1) := by decide +kernel
theorem dX12_setEntailed_12 : decode cX12_setEntailed 12 = .ok (.putfield 87, 3) := by decide +kernel
theorem dX12_setEntailed_15 : decode cX12_setEntailed 15 = .ok (.iload_n 2, 1) := by decide +kernel
theorem dX12_setEntailed_16 : decode cX12_setEntailed 16 = .ok (.ireturn, 1) := by decide +kernel
theorem dX12_isPlace_0 : decode cX12_isPlace 0 = .ok (.iload_n 0, 1) := by decide +kernel
theorem dX12_isPlace_1 : decode cX12_isPlace 1 = .ok (.iconst 0, 1) := by decide +kernel
theorem dX12_isPlace_2 : decode cX12_isPlace 2 = .ok (.bipush 11, 2) := by decide +kernel
theorem dX12_isPlace_4 : decode cX12_isPlace 4 = .ok (.invokestatic 36, 3) := by decide +kernel
theorem dX12_isPlace_7 : decode cX12_isPlace 7 = .ok (.ifCond .ne 14, 3) := by decide +kernel
theorem dX12_isPlace_10 : decode cX12_isPlace 10 = .ok (.iload_n 0, 1) := by decide +kernel
theorem dX12_isPlace_11 : decode cX12_isPlace 11 = .ok (.bipush 20, 2) := by decide +kernel
theorem dX12_isPlace_13 : decode cX12_isPlace 13 = .ok (.bipush 22, 2) := by decide +kernel
theorem dX12_isPlace_15 : decode cX12_isPlace 15 = .ok (.invokestatic 36, 3) := by decide +kernel
theorem dX12_isPlace_18 : decode cX12_isPlace 18 = .ok (.ifCond .eq 7, 3) := by decide +kernel
theorem dX12_isPlace_21 : decode cX12_isPlace 21 = .ok (.iconst 1, 1) := by decide +kernel
theorem dX12_isPlace_22 : decode cX12_isPlace 22 = .ok (.goto 4, 3) := by decide +kernel
theorem dX12_isPlace_25 : decode cX12_isPlace 25 = .ok (.iconst 0, 1) := by decide +kernel
theorem dX12_isPlace_26 : decode cX12_isPlace 26 = .ok (.ireturn, 1) := by decide +kernel
theorem dX12_made_0 : decode cX12_made 0 = .ok (.aload_n 0, 1) := by decide +kernel
theorem dX12_made_1 : decode cX12_made 1 = .ok (.getfield 20, 3) := by decide +kernel
theorem dX12_made_4 : decode cX12_made 4 = .ok (.aload_n 0, 1) := by decide +kernel
theorem dX12_made_5 : decode cX12_made 5 = .ok (.getfield 91, 3) := by decide +kernel
theorem dX12_made_8 : decode cX12_made 8 = .ok (.aload_n 1, 1) := by decide +kernel
theorem dX12_made_9 : decode cX12_made 9 = .ok (.aastore, 1) := by decide +kernel
theorem dX12_made_10 : decode cX12_made 10 = .ok (.aload_n 0, 1) := by decide +kernel
theorem dX12_made_11 : decode cX12_made 11 = .ok (.dup, 1) := by decide +kernel
theorem dX12_made_12 : decode cX12_made 12 = .ok (.getfield 91, 3) := by decide +kernel
theorem dX12_made_15 : decode cX12_made 15 = .ok (.iconst 1, 1) := by decide +kernel
theorem dX12_made_16 : decode cX12_made 16 = .ok (.iadd, 1) := by decide +kernel
theorem dX12_made_17 : decode cX12_made 17 = .ok (.putfield 91, 3) := by decide +kernel
theorem dX12_made_20 : decode cX12_made 20 = .ok (.aload_n 0, 1) := by decide +kernel
theorem dX12_made_21 : decode cX12_made 21 = .ok (.getfield 91, 3) := by decide +kernel
theorem dX12_made_24 : decode cX12_made 24 = .ok (.iconst 1, 1) := by decide +kernel
theorem dX12_made_25 : decode cX12_made 25 = .ok (.isub, 1) := by decide +kernel
theorem dX12_made_26 : decode cX12_made 26 = .ok (.ireturn, 1) := by decide +kernel
theorem dX12_pattern_0 : decode cX12_pattern 0 = .ok (.iload_n 1, 1) := by decide +kernel
theorem dX12_pattern_1 : decode cX12_pattern 1 = .ok (.iconst 0, 1) := by decide +kernel
theorem dX12_pattern_2 : decode cX12_pattern 2 = .ok (.iconst 3, 1) := by decide +kernel
theorem dX12_pattern_3 : decode cX12_pattern 3 = .ok (.invokestatic 36, 3) := by decide +kernel
theorem dX12_pattern_6 : decode cX12_pattern 6 = .ok (.ifCond .eq 29, 3) := by decide +kernel
theorem dX12_pattern_9 : decode cX12_pattern 9 = .ok (.iload_n 2, 1) := by decide +kernel
theorem dX12_pattern_10 : decode cX12_pattern 10 = .ok (.invokestatic 94, 3) := by decide +kernel
theorem dX12_pattern_13 : decode cX12_pattern 13 = .ok (.ifCond .eq 22, 3) := by decide +kernel
theorem dX12_pattern_16 : decode cX12_pattern 16 = .ok (.iload_n 3, 1) := by decide +kernel
theorem dX12_pattern_17 : decode cX12_pattern 17 = .ok (.invokestatic 94, 3) := by decide +kernel
theorem dX12_pattern_20 : decode cX12_pattern 20 = .ok (.ifCond .eq 15, 3) := by decide +kernel
theorem dX12_pattern_23 : decode cX12_pattern 23 = .ok (.iload 4, 2) := by decide +kernel
theorem dX12_pattern_25 : decode cX12_pattern 25 = .ok (.invokestatic 94, 3) := by decide +kernel
theorem dX12_pattern_28 : decode cX12_pattern 28 = .ok (.ifCond .eq 7, 3) := by decide +kernel
theorem dX12_pattern_31 : decode cX12_pattern 31 = .ok (.iconst 1, 1) := by decide +kernel
theorem dX12_pattern_32 : decode cX12_pattern 32 = .ok (.goto 4, 3) := by decide +kernel
theorem dX12_pattern_35 : decode cX12_pattern 35 = .ok (.iconst 0, 1) := by decide +kernel
theorem dX12_pattern_36 : decode cX12_pattern 36 = .ok (.istore 5, 2) := by decide +kernel
theorem dX12_pattern_38 : decode cX12_pattern 38 = .ok (.aload_n 0, 1) := by decide +kernel
theorem dX12_pattern_39 : decode cX12_pattern 39 = .ok (.iload 5, 2) := by decide +kernel
theorem dX12_pattern_41 : decode cX12_pattern 41 = .ok (.ifCond .ne 7, 3) := by decide +kernel
theorem dX12_pattern_44 : decode cX12_pattern 44 = .ok (.iconst 1, 1) := by decide +kernel
theorem dX12_pattern_45 : decode cX12_pattern 45 = .ok (.goto 17, 3) := by decide +kernel
theorem dX12_pattern_48 : decode cX12_pattern 48 = .ok (.aload_n 0, 1) := by decide +kernel
theorem dX12_pattern_49 : decode cX12_pattern 49 = .ok (.getfield 91, 3) := by decide +kernel
theorem dX12_pattern_52 : decode cX12_pattern 52 = .ok (.bipush 20, 2) := by decide +kernel
theorem dX12_pattern_54 : decode cX12_pattern 54 = .ok (.if_icmp .ne 7, 3) := by decide +kernel
theorem dX12_pattern_57 : decode cX12_pattern 57 = .ok (.iconst 2, 1) := by decide +kernel
theorem dX12_pattern_58 : decode cX12_pattern 58 = .ok (.goto 4, 3) := by decide +kernel
theorem dX12_pattern_61 : decode cX12_pattern 61 = .ok (.iconst 0, 1) := by decide +kernel
theorem dX12_pattern_62 : decode cX12_pattern 62 = .ok (.invokevirtual 43, 3) := by decide +kernel
theorem dX12_pattern_65 : decode cX12_pattern 65 = .ok (.ifCond .eq 7, 3) := by decide +kernel
theorem dX12_pattern_68 : decode cX12_pattern 68 = .ok (.iconst 0, 1) := by decide +kernel
theorem dX12_pattern_69 : decode cX12_pattern 69 = .ok (.goto 32, 3) := by decide +kernel
theorem dX12_pattern_72 : decode cX12_pattern 72 = .ok (.aload_n 0, 1) := by decide +kernel
theorem dX12_pattern_73 : decode cX12_pattern 73 = .ok (.iconst 5, 1) := by decide +kernel
theorem dX12_pattern_74 : decode cX12_pattern 74 = .ok (.newarray .int, 2) := by decide +kernel
theorem dX12_pattern_76 : decode cX12_pattern 76 = .ok (.dup, 1) := by decide +kernel
theorem dX12_pattern_77 : decode cX12_pattern 77 = .ok (.iconst 0, 1) := by decide +kernel
theorem dX12_pattern_78 : decode cX12_pattern 78 = .ok (.bipush 112, 2) := by decide +kernel
theorem dX12_pattern_80 : decode cX12_pattern 80 = .ok (.iastore, 1) := by decide +kernel
theorem dX12_pattern_81 : decode cX12_pattern 81 = .ok (.dup, 1) := by decide +kernel
theorem dX12_pattern_82 : decode cX12_pattern 82 = .ok (.iconst 1, 1) := by decide +kernel
theorem dX12_pattern_83 : decode cX12_pattern 83 = .ok (.iload_n 1, 1) := by decide +kernel
theorem dX12_pattern_84 : decode cX12_pattern 84 = .ok (.iastore, 1) := by decide +kernel
theorem dX12_pattern_85 : decode cX12_pattern 85 = .ok (.dup, 1) := by decide +kernel
theorem dX12_pattern_86 : decode cX12_pattern 86 = .ok (.iconst 2, 1) := by decide +kernel
theorem dX12_pattern_87 : decode cX12_pattern 87 = .ok (.iload_n 2, 1) := by decide +kernel
theorem dX12_pattern_88 : decode cX12_pattern 88 = .ok (.iastore, 1) := by decide +kernel
theorem dX12_pattern_89 : decode cX12_pattern 89 = .ok (.dup, 1) := by decide +kernel
theorem dX12_pattern_90 : decode cX12_pattern 90 = .ok (.iconst 3, 1) := by decide +kernel
theorem dX12_pattern_91 : decode cX12_pattern 91 = .ok (.iload_n 3, 1) := by decide +kernel
theorem dX12_pattern_92 : decode cX12_pattern 92 = .ok (.iastore, 1) := by decide +kernel
theorem dX12_pattern_93 : decode cX12_pattern 93 = .ok (.dup, 1) := by decide +kernel
theorem dX12_pattern_94 : decode cX12_pattern 94 = .ok (.iconst 4, 1) := by decide +kernel
theorem dX12_pattern_95 : decode cX12_pattern 95 = .ok (.iload 4, 2) := by decide +kernel
theorem dX12_pattern_97 : decode cX12_pattern 97 = .ok (.iastore, 1) := by decide +kernel
theorem dX12_pattern_98 : decode cX12_pattern 98 = .ok (.invokevirtual 97, 3) := by decide +kernel
theorem dX12_pattern_101 : decode cX12_pattern 101 = .ok (.ireturn, 1) := by decide +kernel
theorem dX12_path_0 : decode cX12_path 0 = .ok (.iload_n 1, 1) := by decide +kernel
theorem dX12_path_1 : decode cX12_path 1 = .ok (.iconst 0, 1) := by decide +kernel
theorem dX12_path_2 : decode cX12_path 2 = .ok (.iconst 3, 1) := by decide +kernel
theorem dX12_path_3 : decode cX12_path 3 = .ok (.invokestatic 36, 3) := by decide +kernel
theorem dX12_path_6 : decode cX12_path 6 = .ok (.ifCond .eq 29, 3) := by decide +kernel
theorem dX12_path_9 : decode cX12_path 9 = .ok (.iload_n 2, 1) := by decide +kernel
theorem dX12_path_10 : decode cX12_path 10 = .ok (.invokestatic 94, 3) := by decide +kernel
theorem dX12_path_13 : decode cX12_path 13 = .ok (.ifCond .eq 22, 3) := by decide +kernel
theorem dX12_path_16 : decode cX12_path 16 = .ok (.iload_n 3, 1) := by decide +kernel
theorem dX12_path_17 : decode cX12_path 17 = .ok (.invokestatic 62, 3) := by decide +kernel
theorem dX12_path_20 : decode cX12_path 20 = .ok (.ifCond .eq 15, 3) := by decide +kernel
theorem dX12_path_23 : decode cX12_path 23 = .ok (.iload 4, 2) := by decide +kernel
theorem dX12_path_25 : decode cX12_path 25 = .ok (.invokestatic 94, 3) := by decide +kernel
theorem dX12_path_28 : decode cX12_path 28 = .ok (.ifCond .eq 7, 3) := by decide +kernel
theorem dX12_path_31 : decode cX12_path 31 = .ok (.iconst 1, 1) := by decide +kernel
theorem dX12_path_32 : decode cX12_path 32 = .ok (.goto 4, 3) := by decide +kernel
theorem dX12_path_35 : decode cX12_path 35 = .ok (.iconst 0, 1) := by decide +kernel
theorem dX12_path_36 : decode cX12_path 36 = .ok (.istore 6, 2) := by decide +kernel
theorem dX12_path_38 : decode cX12_path 38 = .ok (.aload_n 0, 1) := by decide +kernel
theorem dX12_path_39 : decode cX12_path 39 = .ok (.iload 6, 2) := by decide +kernel
theorem dX12_path_41 : decode cX12_path 41 = .ok (.ifCond .ne 7, 3) := by decide +kernel
theorem dX12_path_44 : decode cX12_path 44 = .ok (.iconst 1, 1) := by decide +kernel
theorem dX12_path_45 : decode cX12_path 45 = .ok (.goto 17, 3) := by decide +kernel
theorem dX12_path_48 : decode cX12_path 48 = .ok (.aload_n 0, 1) := by decide +kernel
theorem dX12_path_49 : decode cX12_path 49 = .ok (.getfield 91, 3) := by decide +kernel
theorem dX12_path_52 : decode cX12_path 52 = .ok (.bipush 20, 2) := by decide +kernel
theorem dX12_path_54 : decode cX12_path 54 = .ok (.if_icmp .ne 7, 3) := by decide +kernel
theorem dX12_path_57 : decode cX12_path 57 = .ok (.iconst 2, 1) := by decide +kernel
theorem dX12_path_58 : decode cX12_path 58 = .ok (.goto 4, 3) := by decide +kernel
theorem dX12_path_61 : decode cX12_path 61 = .ok (.iconst 0, 1) := by decide +kernel
theorem dX12_path_62 : decode cX12_path 62 = .ok (.invokevirtual 43, 3) := by decide +kernel
theorem dX12_path_65 : decode cX12_path 65 = .ok (.ifCond .eq 7, 3) := by decide +kernel
theorem dX12_path_68 : decode cX12_path 68 = .ok (.iconst 0, 1) := by decide +kernel
theorem dX12_path_69 : decode cX12_path 69 = .ok (.goto 42, 3) := by decide +kernel
theorem dX12_path_72 : decode cX12_path 72 = .ok (.aload_n 0, 1) := by decide +kernel
theorem dX12_path_73 : decode cX12_path 73 = .ok (.iconst 5, 1) := by decide +kernel
theorem dX12_path_74 : decode cX12_path 74 = .ok (.newarray .int, 2) := by decide +kernel
theorem dX12_path_76 : decode cX12_path 76 = .ok (.dup, 1) := by decide +kernel
theorem dX12_path_77 : decode cX12_path 77 = .ok (.iconst 0, 1) := by decide +kernel
theorem dX12_path_78 : decode cX12_path 78 = .ok (.iload 5, 2) := by decide +kernel
theorem dX12_path_80 : decode cX12_path 80 = .ok (.ifCond .eq 8, 3) := by decide +kernel
theorem dX12_path_83 : decode cX12_path 83 = .ok (.bipush 42, 2) := by decide +kernel
theorem dX12_path_85 : decode cX12_path 85 = .ok (.goto 5, 3) := by decide +kernel
theorem dX12_path_88 : decode cX12_path 88 = .ok (.bipush 43, 2) := by decide +kernel
theorem dX12_path_90 : decode cX12_path 90 = .ok (.iastore, 1) := by decide +kernel
theorem dX12_path_91 : decode cX12_path 91 = .ok (.dup, 1) := by decide +kernel
theorem dX12_path_92 : decode cX12_path 92 = .ok (.iconst 1, 1) := by decide +kernel
theorem dX12_path_93 : decode cX12_path 93 = .ok (.iload_n 1, 1) := by decide +kernel
theorem dX12_path_94 : decode cX12_path 94 = .ok (.iastore, 1) := by decide +kernel
theorem dX12_path_95 : decode cX12_path 95 = .ok (.dup, 1) := by decide +kernel
theorem dX12_path_96 : decode cX12_path 96 = .ok (.iconst 2, 1) := by decide +kernel
theorem dX12_path_97 : decode cX12_path 97 = .ok (.iload_n 2, 1) := by decide +kernel
theorem dX12_path_98 : decode cX12_path 98 = .ok (.iastore, 1) := by decide +kernel
theorem dX12_path_99 : decode cX12_path 99 = .ok (.dup, 1) := by decide +kernel
theorem dX12_path_100 : decode cX12_path 100 = .ok (.iconst 3, 1) := by decide +kernel
theorem dX12_path_101 : decode cX12_path 101 = .ok (.iload_n 3, 1) := by decide +kernel
theorem dX12_path_102 : decode cX12_path 102 = .ok (.iastore, 1) := by decide +kernel
theorem dX12_path_103 : decode cX12_path 103 = .ok (.dup, 1) := by decide +kernel
theorem dX12_path_104 : decode cX12_path 104 = .ok (.iconst 4, 1) := by decide +kernel
theorem dX12_path_105 : decode cX12_path 105 = .ok (.iload 4, 2) := by decide +kernel
theorem dX12_path_107 : decode cX12_path 107 = .ok (.iastore, 1) := by decide +kernel
theorem dX12_path_108 : decode cX12_path 108 = .ok (.invokevirtual 97, 3) := by decide +kernel
theorem dX12_path_111 : decode cX12_path 111 = .ok (.ireturn, 1) := by decide +kernel
theorem dX12_isQuery_0 : decode cX12_isQuery 0 = .ok (.iload_n 1, 1) := by decide +kernel
theorem dX12_isQuery_1 : decode cX12_isQuery 1 = .ok (.iconst 0, 1) := by decide +kernel
theorem dX12_isQuery_2 : decode cX12_isQuery 2 = .ok (.aload_n 0, 1) := by decide +kernel
theorem dX12_isQuery_3 : decode cX12_isQuery 3 = .ok (.getfield 91, 3) := by decide +kernel
theorem dX12_isQuery_6 : decode cX12_isQuery 6 = .ok (.iconst 1, 1) := by decide +kernel
theorem dX12_isQuery_7 : decode cX12_isQuery 7 = .ok (.isub, 1) := by decide +kernel
theorem dX12_isQuery_8 : decode cX12_isQuery 8 = .ok (.invokestatic 36, 3) := by decide +kernel
theorem dX12_isQuery_11 : decode cX12_isQuery 11 = .ok (.ireturn, 1) := by decide +kernel
theorem dX12_both_0 : decode cX12_both 0 = .ok (.iload_n 1, 1) := by decide +kernel
theorem dX12_both_1 : decode cX12_both 1 = .ok (.bipush 106, 2) := by decide +kernel
theorem dX12_both_3 : decode cX12_both 3 = .ok (.if_icmp .eq 21, 3) := by decide +kernel
theorem dX12_both_6 : decode cX12_both 6 = .ok (.iload_n 1, 1) := by decide +kernel
theorem dX12_both_7 : decode cX12_both 7 = .ok (.bipush 111, 2) := by decide +kernel
theorem dX12_both_9 : decode cX12_both 9 = .ok (.if_icmp .eq 15, 3) := by decide +kernel
theorem dX12_both_12 : decode cX12_both 12 = .ok (.iload_n 1, 1) := by decide +kernel
theorem dX12_both_13 : decode cX12_both 13 = .ok (.bipush 109, 2) := by decide +kernel
theorem dX12_both_15 : decode cX12_both 15 = .ok (.if_icmp .eq 9, 3) := by decide +kernel
theorem dX12_both_18 : decode cX12_both 18 = .ok (.iload_n 1, 1) := by decide +kernel
theorem dX12_both_19 : decode cX12_both 19 = .ok (.bipush 117, 2) := by decide +kernel
theorem dX12_both_21 : decode cX12_both 21 = .ok (.if_icmp .ne 7, 3) := by decide +kernel
theorem dX12_both_24 : decode cX12_both 24 = .ok (.iconst 1, 1) := by decide +kernel
theorem dX12_both_25 : decode cX12_both 25 = .ok (.goto 4, 3) := by decide +kernel
theorem dX12_both_28 : decode cX12_both 28 = .ok (.iconst 0, 1) := by decide +kernel
theorem dX12_both_29 : decode cX12_both 29 = .ok (.istore 4, 2) := by decide +kernel
theorem dX12_both_31 : decode cX12_both 31 = .ok (.aload_n 0, 1) := by decide +kernel
theorem dX12_both_32 : decode cX12_both 32 = .ok (.iload 4, 2) := by decide +kernel
theorem dX12_both_34 : decode cX12_both 34 = .ok (.ifCond .ne 7, 3) := by decide +kernel
theorem dX12_both_37 : decode cX12_both 37 = .ok (.iconst 1, 1) := by decide +kernel
theorem dX12_both_38 : decode cX12_both 38 = .ok (.goto 37, 3) := by decide +kernel
theorem dX12_both_41 : decode cX12_both 41 = .ok (.aload_n 0, 1) := by decide +kernel
theorem dX12_both_42 : decode cX12_both 42 = .ok (.iload_n 2, 1) := by decide +kernel
theorem dX12_both_43 : decode cX12_both 43 = .ok (.invokevirtual 101, 3) := by decide +kernel
theorem dX12_both_46 : decode cX12_both 46 = .ok (.ifCond .eq 11, 3) := by decide +kernel
theorem dX12_both_49 : decode cX12_both 49 = .ok (.aload_n 0, 1) := by decide +kernel
theorem dX12_both_50 : decode cX12_both 50 = .ok (.iload_n 3, 1) := by decide +kernel
theorem dX12_both_51 : decode cX12_both 51 = .ok (.invokevirtual 101, 3) := by decide +kernel
theorem dX12_both_54 : decode cX12_both 54 = .ok (.ifCond .ne 7, 3) := by decide +kernel
theorem dX12_both_57 : decode cX12_both 57 = .ok (.iconst 2, 1) := by decide +kernel
theorem dX12_both_58 : decode cX12_both 58 = .ok (.goto 17, 3) := by decide +kernel
theorem dX12_both_61 : decode cX12_both 61 = .ok (.aload_n 0, 1) := by decide +kernel
theorem dX12_both_62 : decode cX12_both 62 = .ok (.getfield 91, 3) := by decide +kernel
theorem dX12_both_65 : decode cX12_both 65 = .ok (.bipush 20, 2) := by decide +kernel
theorem dX12_both_67 : decode cX12_both 67 = .ok (.if_icmp .ne 7, 3) := by decide +kernel
theorem dX12_both_70 : decode cX12_both 70 = .ok (.iconst 3, 1) := by decide +kernel
theorem dX12_both_71 : decode cX12_both 71 = .ok (.goto 4, 3) := by decide +kernel
theorem dX12_both_74 : decode cX12_both 74 = .ok (.iconst 0, 1) := by decide +kernel
theorem dX12_both_75 : decode cX12_both 75 = .ok (.invokevirtual 43, 3) := by decide +kernel
theorem dX12_both_78 : decode cX12_both 78 = .ok (.ifCond .eq 7, 3) := by decide +kernel
theorem dX12_both_81 : decode cX12_both 81 = .ok (.iconst 0, 1) := by decide +kernel
theorem dX12_both_82 : decode cX12_both 82 = .ok (.goto 22, 3) := by decide +kernel
theorem dX12_both_85 : decode cX12_both 85 = .ok (.aload_n 0, 1) := by decide +kernel
theorem dX12_both_86 : decode cX12_both 86 = .ok (.iconst 3, 1) := by decide +kernel
theorem dX12_both_87 : decode cX12_both 87 = .ok (.newarray .int, 2) := by decide +kernel
theorem dX12_both_89 : decode cX12_both 89 = .ok (.dup, 1) := by decide +kernel
theorem dX12_both_90 : decode cX12_both 90 = .ok (.iconst 0, 1) := by decide +kernel
theorem dX12_both_91 : decode cX12_both 91 = .ok (.iload_n 1, 1) := by decide +kernel
theorem dX12_both_92 : decode cX12_both 92 = .ok (.iastore, 1) := by decide +kernel
theorem dX12_both_93 : decode cX12_both 93 = .ok (.dup, 1) := by decide +kernel
theorem dX12_both_94 : decode cX12_both 94 = .ok (.iconst 1, 1) := by decide +kernel
theorem dX12_both_95 : decode cX12_both 95 = .ok (.iload_n 2, 1) := by decide +kernel
theorem dX12_both_96 : decode cX12_both 96 = .ok (.iastore, 1) := by decide +kernel
theorem dX12_both_97 : decode cX12_both 97 = .ok (.dup, 1) := by decide +kernel
theorem dX12_both_98 : decode cX12_both 98 = .ok (.iconst 2, 1) := by decide +kernel
theorem dX12_both_99 : decode cX12_both 99 = .ok (.iload_n 3, 1) := by decide +kernel
theorem dX12_both_100 : decode cX12_both 100 = .ok (.iastore, 1) := by decide +kernel
theorem dX12_both_101 : decode cX12_both 101 = .ok (.invokevirtual 97, 3) := by decide +kernel
theorem dX12_both_104 : decode cX12_both 104 = .ok (.ireturn, 1) := by decide +kernel
theorem dX12_filter_0 : decode cX12_filter 0 = .ok (.iload_n 2, 1) := by decide +kernel
theorem dX12_filter_1 : decode cX12_filter 1 = .ok (.bipush 61, 2) := by decide +kernel
theorem dX12_filter_3 : decode cX12_filter 3 = .ok (.if_icmp .eq 21, 3) := by decide +kernel
theorem dX12_filter_6 : decode cX12_filter 6 = .ok (.iload_n 2, 1) := by decide +kernel
theorem dX12_filter_7 : decode cX12_filter 7 = .ok (.bipush 33, 2) := by decide +kernel
theorem dX12_filter_9 : decode cX12_filter 9 = .ok (.if_icmp .eq 15, 3) := by decide +kernel
theorem dX12_filter_12 : decode cX12_filter 12 = .ok (.iload_n 2, 1) := by decide +kernel
theorem dX12_filter_13 : decode cX12_filter 13 = .ok (.bipush 60, 2) := by decide +kernel
theorem dX12_filter_15 : decode cX12_filter 15 = .ok (.if_icmp .eq 9, 3) := by decide +kernel
theorem dX12_filter_18 : decode cX12_filter 18 = .ok (.iload_n 2, 1) := by decide +kernel
theorem dX12_filter_19 : decode cX12_filter 19 = .ok (.bipush 98, 2) := by decide +kernel
theorem dX12_filter_21 : decode cX12_filter 21 = .ok (.if_icmp .ne 28, 3) := by decide +kernel
theorem dX12_filter_24 : decode cX12_filter 24 = .ok (.iload_n 3, 1) := by decide +kernel
theorem dX12_filter_25 : decode cX12_filter 25 = .ok (.invokestatic 94, 3) := by decide +kernel
theorem dX12_filter_28 : decode cX12_filter 28 = .ok (.ifCond .eq 21, 3) := by decide +kernel
theorem dX12_filter_31 : decode cX12_filter 31 = .ok (.iload_n 2, 1) := by decide +kernel
theorem dX12_filter_32 : decode cX12_filter 32 = .ok (.bipush 98, 2) := by decide +kernel
theorem dX12_filter_34 : decode cX12_filter 34 = .ok (.if_icmp .eq 11, 3) := by decide +kernel
theorem dX12_filter_37 : decode cX12_filter 37 = .ok (.iload 4, 2) := by decide +kernel
theorem dX12_filter_39 : decode cX12_filter 39 = .ok (.invokestatic 94, 3) := by decide +kernel
theorem dX12_filter_42 : decode cX12_filter 42 = .ok (.ifCond .eq 7, 3) := by decide +kernel
theorem dX12_filter_45 : decode cX12_filter 45 = .ok (.iconst 1, 1) := by decide +kernel
theorem dX12_filter_46 : decode cX12_filter 46 = .ok (.goto 4, 3) := by decide +kernel
theorem dX12_filter_49 : decode cX12_filter 49 = .ok (.iconst 0, 1) := by decide +kernel
theorem dX12_filter_50 : decode cX12_filter 50 = .ok (.istore 5, 2) := by decide +kernel
theorem dX12_filter_52 : decode cX12_filter 52 = .ok (.aload_n 0, 1) := by decide +kernel
theorem dX12_filter_53 : decode cX12_filter 53 = .ok (.aload_n 0, 1) := by decide +kernel
theorem dX12_filter_54 : decode cX12_filter 54 = .ok (.iload_n 1, 1) := by decide +kernel
theorem dX12_filter_55 : decode cX12_filter 55 = .ok (.invokevirtual 101, 3) := by decide +kernel
theorem dX12_filter_58 : decode cX12_filter 58 = .ok (.ifCond .ne 7, 3) := by decide +kernel
theorem dX12_filter_61 : decode cX12_filter 61 = .ok (.iconst 1, 1) := by decide +kernel
theorem dX12_filter_62 : decode cX12_filter 62 = .ok (.goto 26, 3) := by decide +kernel
theorem dX12_filter_65 : decode cX12_filter 65 = .ok (.iload 5, 2) := by decide +kernel
theorem dX12_filter_67 : decode cX12_filter 67 = .ok (.ifCond .ne 7, 3) := by decide +kernel
theorem dX12_filter_70 : decode cX12_filter 70 = .ok (.iconst 2, 1) := by decide +kernel
theorem dX12_filter_71 : decode cX12_filter 71 = .ok (.goto 17, 3) := by decide +kernel
theorem dX12_filter_74 : decode cX12_filter 74 = .ok (.aload_n 0, 1) := by decide +kernel
theorem dX12_filter_75 : decode cX12_filter 75 = .ok (.getfield 91, 3) := by decide +kernel
theorem dX12_filter_78 : decode cX12_filter 78 = .ok (.bipush 20, 2) := by decide +kernel
theorem dX12_filter_80 : decode cX12_filter 80 = .ok (.if_icmp .ne 7, 3) := by decide +kernel
theorem dX12_filter_83 : decode cX12_filter 83 = .ok (.iconst 3, 1) := by decide +kernel
theorem dX12_filter_84 : decode cX12_filter 84 = .ok (.goto 4, 3) := by decide +kernel
theorem dX12_filter_87 : decode cX12_filter 87 = .ok (.iconst 0, 1) := by decide +kernel
theorem dX12_filter_88 : decode cX12_filter 88 = .ok (.invokevirtual 43, 3) := by decide +kernel
theorem dX12_filter_91 : decode cX12_filter 91 = .ok (.ifCond .eq 7, 3) := by decide +kernel
theorem dX12_filter_94 : decode cX12_filter 94 = .ok (.iconst 0, 1) := by decide +kernel
theorem dX12_filter_95 : decode cX12_filter 95 = .ok (.goto 32, 3) := by decide +kernel
theorem dX12_filter_98 : decode cX12_filter 98 = .ok (.aload_n 0, 1) := by decide +kernel
theorem dX12_filter_99 : decode cX12_filter 99 = .ok (.iconst 5, 1) := by decide +kernel
theorem dX12_filter_100 : decode cX12_filter 100 = .ok (.newarray .int, 2) := by decide +kernel
theorem dX12_filter_102 : decode cX12_filter 102 = .ok (.dup, 1) := by decide +kernel
theorem dX12_filter_103 : decode cX12_filter 103 = .ok (.iconst 0, 1) := by decide +kernel
theorem dX12_filter_104 : decode cX12_filter 104 = .ok (.bipush 102, 2) := by decide +kernel
theorem dX12_filter_106 : decode cX12_filter 106 = .ok (.iastore, 1) := by decide +kernel
theorem dX12_filter_107 : decode cX12_filter 107 = .ok (.dup, 1) := by decide +kernel
theorem dX12_filter_108 : decode cX12_filter 108 = .ok (.iconst 1, 1) := by decide +kernel
theorem dX12_filter_109 : decode cX12_filter 109 = .ok (.iload_n 1, 1) := by decide +kernel
theorem dX12_filter_110 : decode cX12_filter 110 = .ok (.iastore, 1) := by decide +kernel
theorem dX12_filter_111 : decode cX12_filter 111 = .ok (.dup, 1) := by decide +kernel
theorem dX12_filter_112 : decode cX12_filter 112 = .ok (.iconst 2, 1) := by decide +kernel
theorem dX12_filter_113 : decode cX12_filter 113 = .ok (.iload_n 2, 1) := by decide +kernel
theorem dX12_filter_114 : decode cX12_filter 114 = .ok (.iastore, 1) := by decide +kernel
theorem dX12_filter_115 : decode cX12_filter 115 = .ok (.dup, 1) := by decide +kernel
theorem dX12_filter_116 : decode cX12_filter 116 = .ok (.iconst 3, 1) := by decide +kernel
theorem dX12_filter_117 : decode cX12_filter 117 = .ok (.iload_n 3, 1) := by decide +kernel
theorem dX12_filter_118 : decode cX12_filter 118 = .ok (.iastore, 1) := by decide +kernel
theorem dX12_filter_119 : decode cX12_filter 119 = .ok (.dup, 1) := by decide +kernel
theorem dX12_filter_120 : decode cX12_filter 120 = .ok (.iconst 4, 1) := by decide +kernel
theorem dX12_filter_121 : decode cX12_filter 121 = .ok (.iload 4, 2) := by decide +kernel
theorem dX12_filter_123 : decode cX12_filter 123 = .ok (.iastore, 1) := by decide +kernel
theorem dX12_filter_124 : decode cX12_filter 124 = .ok (.invokevirtual 97, 3) := by decide +kernel
theorem dX12_filter_127 : decode cX12_filter 127 = .ok (.ireturn, 1) := by decide +kernel
theorem dX12_single__0 : decode cX12_single_ 0 = .ok (.aload_n 0, 1) := by decide +kernel
theorem dX12_single__1 : decode cX12_single_ 1 = .ok (.aload_n 0, 1) := by decide +kernel
theorem dX12_single__2 : decode cX12_single_ 2 = .ok (.iload_n 1, 1) := by decide +kernel
theorem dX12_single__3 : decode cX12_single_ 3 = .ok (.invokevirtual 101, 3) := by decide +kernel
theorem dX12_single__6 : decode cX12_single_ 6 = .ok (.ifCond .ne 7, 3) := by decide +kernel
theorem dX12_single__9 : decode cX12_single_ 9 = .ok (.iconst 1, 1) := by decide +kernel
theorem dX12_single__10 : decode cX12_single_ 10 = .ok (.goto 17, 3) := by decide +kernel
theorem dX12_single__13 : decode cX12_single_ 13 = .ok (.aload_n 0, 1) := by decide +kernel
theorem dX12_single__14 : decode cX12_single_ 14 = .ok (.getfield 91, 3) := by decide +kernel
theorem dX12_single__17 : decode cX12_single_ 17 = .ok (.bipush 20, 2) := by decide +kernel
theorem dX12_single__19 : decode cX12_single_ 19 = .ok (.if_icmp .ne 7, 3) := by decide +kernel
theorem dX12_single__22 : decode cX12_single_ 22 = .ok (.iconst 2, 1) := by decide +kernel
theorem dX12_single__23 : decode cX12_single_ 23 = .ok (.goto 4, 3) := by decide +kernel
theorem dX12_single__26 : decode cX12_single_ 26 = .ok (.iconst 0, 1) := by decide +kernel
theorem dX12_single__27 : decode cX12_single_ 27 = .ok (.invokevirtual 43, 3) := by decide +kernel
theorem dX12_single__30 : decode cX12_single_ 30 = .ok (.ifCond .eq 7, 3) := by decide +kernel
theorem dX12_single__33 : decode cX12_single_ 33 = .ok (.iconst 0, 1) := by decide +kernel
theorem dX12_single__34 : decode cX12_single_ 34 = .ok (.goto 19, 3) := by decide +kernel
theorem dX12_single__37 : decode cX12_single_ 37 = .ok (.aload_n 0, 1) := by decide +kernel
theorem dX12_single__38 : decode cX12_single_ 38 = .ok (.iconst 2, 1) := by decide +kernel
theorem dX12_single__39 : decode cX12_single_ 39 = .ok (.newarray .int, 2) := by decide +kernel
theorem dX12_single__41 : decode cX12_single_ 41 = .ok (.dup, 1) := by decide +kernel
theorem dX12_single__42 : decode cX12_single_ 42 = .ok (.iconst 0, 1) := by decide +kernel
theorem dX12_single__43 : decode cX12_single_ 43 = .ok (.bipush 49, 2) := by decide +kernel
theorem dX12_single__45 : decode cX12_single_ 45 = .ok (.iastore, 1) := by decide +kernel
theorem dX12_single__46 : decode cX12_single_ 46 = .ok (.dup, 1) := by decide +kernel
theorem dX12_single__47 : decode cX12_single_ 47 = .ok (.iconst 1, 1) := by decide +kernel
theorem dX12_single__48 : decode cX12_single_ 48 = .ok (.iload_n 1, 1) := by decide +kernel
theorem dX12_single__49 : decode cX12_single_ 49 = .ok (.iastore, 1) := by decide +kernel
theorem dX12_single__50 : decode cX12_single_ 50 = .ok (.invokevirtual 97, 3) := by decide +kernel
theorem dX12_single__53 : decode cX12_single_ 53 = .ok (.ireturn, 1) := by decide +kernel
theorem dX12_failsQuery_0 : decode cX12_failsQuery 0 = .ok (.aload_n 0, 1) := by decide +kernel
theorem dX12_failsQuery_1 : decode cX12_failsQuery 1 = .ok (.aload_n 0, 1) := by decide +kernel
theorem dX12_failsQuery_2 : decode cX12_failsQuery 2 = .ok (.iload_n 1, 1) := by decide +kernel
theorem dX12_failsQuery_3 : decode cX12_failsQuery 3 = .ok (.invokevirtual 101, 3) := by decide +kernel
theorem dX12_failsQuery_6 : decode cX12_failsQuery 6 = .ok (.ifCond .eq 7, 3) := by decide +kernel
theorem dX12_failsQuery_9 : decode cX12_failsQuery 9 = .ok (.iconst 0, 1) := by decide +kernel
theorem dX12_failsQuery_10 : decode cX12_failsQuery 10 = .ok (.goto 4, 3) := by decide +kernel
theorem dX12_failsQuery_13 : decode cX12_failsQuery 13 = .ok (.iconst 1, 1) := by decide +kernel
theorem dX12_failsQuery_14 : decode cX12_failsQuery 14 = .ok (.invokevirtual 43, 3) := by decide +kernel
theorem dX12_failsQuery_17 : decode cX12_failsQuery 17 = .ok (.ireturn, 1) := by decide +kernel
theorem dX12_rows_0 : decode cX12_rows 0 = .ok (.aload_n 0, 1) := by decide +kernel
theorem dX12_rows_1 : decode cX12_rows 1 = .ok (.iload_n 1, 1) := by decide +kernel
theorem dX12_rows_2 : decode cX12_rows 2 = .ok (.invokevirtual 176, 3) := by decide +kernel
theorem dX12_rows_5 : decode cX12_rows 5 = .ok (.ifCond .eq 5, 3) := by decide +kernel
theorem dX12_rows_8 : decode cX12_rows 8 = .ok (.lconst 0, 1) := by decide +kernel
theorem dX12_rows_9 : decode cX12_rows 9 = .ok (.lreturn, 1) := by decide +kernel
theorem dX12_rows_10 : decode cX12_rows 10 = .ok (.lconst 0, 1) := by decide +kernel
theorem dX12_rows_11 : decode cX12_rows 11 = .ok (.lstore_n 2, 1) := by decide +kernel
theorem dX12_rows_12 : decode cX12_rows 12 = .ok (.aload_n 0, 1) := by decide +kernel
theorem dX12_rows_13 : decode cX12_rows 13 = .ok (.iload_n 1, 1) := by decide +kernel
theorem dX12_rows_14 : decode cX12_rows 14 = .ok (.invokevirtual 179, 3) := by decide +kernel
theorem dX12_rows_17 : decode cX12_rows 17 = .ok (.astore 4, 2) := by decide +kernel
theorem dX12_rows_19 : decode cX12_rows 19 = .ok (.aload 4, 2) := by decide +kernel
theorem dX12_rows_21 : decode cX12_rows 21 = .ok (.arraylength, 1) := by decide +kernel
theorem dX12_rows_22 : decode cX12_rows 22 = .ok (.istore 5, 2) := by decide +kernel
theorem dX12_rows_24 : decode cX12_rows 24 = .ok (.iconst 0, 1) := by decide +kernel
theorem dX12_rows_25 : decode cX12_rows 25 = .ok (.istore 6, 2) := by decide +kernel
theorem dX12_rows_27 : decode cX12_rows 27 = .ok (.iload 6, 2) := by decide +kernel
theorem dX12_rows_29 : decode cX12_rows 29 = .ok (.iload 5, 2) := by decide +kernel
theorem dX12_rows_31 : decode cX12_rows 31 = .ok (.if_icmp .ge 21, 3) := by decide +kernel
theorem dX12_rows_34 : decode cX12_rows 34 = .ok (.aload 4, 2) := by decide +kernel
theorem dX12_rows_36 : decode cX12_rows 36 = .ok (.iload 6, 2) := by decide +kernel
theorem dX12_rows_38 : decode cX12_rows 38 = .ok (.laload, 1) := by decide +kernel
theorem dX12_rows_39 : decode cX12_rows 39 = .ok (.lstore 7, 2) := by decide +kernel
theorem dX12_rows_41 : decode cX12_rows 41 = .ok (.lload_n 2, 1) := by decide +kernel
theorem dX12_rows_42 : decode cX12_rows 42 = .ok (.lload 7, 2) := by decide +kernel
theorem dX12_rows_44 : decode cX12_rows 44 = .ok (.ladd, 1) := by decide +kernel
theorem dX12_rows_45 : decode cX12_rows 45 = .ok (.lstore_n 2, 1) := by decide +kernel
theorem dX12_rows_46 : decode cX12_rows 46 = .ok (.iinc 6 1, 3) := by decide +kernel
theorem dX12_rows_49 : decode cX12_rows 49 = .ok (.goto (-22), 3) := by decide +kernel
theorem dX12_rows_52 : decode cX12_rows 52 = .ok (.lload_n 2, 1) := by decide +kernel
theorem dX12_rows_53 : decode cX12_rows 53 = .ok (.lreturn, 1) := by decide +kernel
theorem dX12_rowsAnew_0 : decode cX12_rowsAnew 0 = .ok (.aload_n 0, 1) := by decide +kernel
theorem dX12_rowsAnew_1 : decode cX12_rowsAnew 1 = .ok (.iload_n 1, 1) := by decide +kernel
theorem dX12_rowsAnew_2 : decode cX12_rowsAnew 2 = .ok (.invokevirtual 182, 3) := by decide +kernel
theorem dX12_rowsAnew_5 : decode cX12_rowsAnew 5 = .ok (.lreturn, 1) := by decide +kernel
theorem dX12_row_0 : decode cX12_row 0 = .ok (.aload_n 0, 1) := by decide +kernel
theorem dX12_row_1 : decode cX12_row 1 = .ok (.aload_n 0, 1) := by decide +kernel
theorem dX12_row_2 : decode cX12_row 2 = .ok (.iload_n 1, 1) := by decide +kernel
theorem dX12_row_3 : decode cX12_row 3 = .ok (.invokevirtual 101, 3) := by decide +kernel
theorem dX12_row_6 : decode cX12_row 6 = .ok (.ifCond .ne 7, 3) := by decide +kernel
theorem dX12_row_9 : decode cX12_row 9 = .ok (.iconst 1, 1) := by decide +kernel
theorem dX12_row_10 : decode cX12_row 10 = .ok (.goto 17, 3) := by decide +kernel
theorem dX12_row_13 : decode cX12_row 13 = .ok (.iload_n 3, 1) := by decide +kernel
theorem dX12_row_14 : decode cX12_row 14 = .ok (.iconst 0, 1) := by decide +kernel
theorem dX12_row_15 : decode cX12_row 15 = .ok (.iconst 2, 1) := by decide +kernel
theorem dX12_row_16 : decode cX12_row 16 = .ok (.invokestatic 36, 3) := by decide +kernel
theorem dX12_row_19 : decode cX12_row 19 = .ok (.ifCond .ne 7, 3) := by decide +kernel
theorem dX12_row_22 : decode cX12_row 22 = .ok (.iconst 2, 1) := by decide +kernel
theorem dX12_row_23 : decode cX12_row 23 = .ok (.goto 4, 3) := by decide +kernel
theorem dX12_row_26 : decode cX12_row 26 = .ok (.iconst 0, 1) := by decide +kernel
theorem dX12_row_27 : decode cX12_row 27 = .ok (.invokevirtual 43, 3) := by decide +kernel
theorem dX12_row_30 : decode cX12_row 30 = .ok (.ifCond .eq 5, 3) := by decide +kernel
theorem dX12_row_33 : decode cX12_row 33 = .ok (.iconst 0, 1) := by decide +kernel
theorem dX12_row_34 : decode cX12_row 34 = .ok (.ireturn, 1) := by decide +kernel
theorem dX12_row_35 : decode cX12_row 35 = .ok (.aload_n 0, 1) := by decide +kernel
theorem dX12_row_36 : decode cX12_row 36 = .ok (.iload_n 1, 1) := by decide +kernel
theorem dX12_row_37 : decode cX12_row 37 = .ok (.invokevirtual 179, 3) := by decide +kernel
theorem dX12_row_40 : decode cX12_row 40 = .ok (.astore 4, 2) := by decide +kernel
theorem dX12_row_42 : decode cX12_row 42 = .ok (.iload_n 2, 1) := by decide +kernel
theorem dX12_row_43 : decode cX12_row 43 = .ok (.i2l, 1) := by decide +kernel
theorem dX12_row_44 : decode cX12_row 44 = .ok (.lstore 5, 2) := by decide +kernel
theorem dX12_row_46 : decode cX12_row 46 = .ok (.iconst 0, 1) := by decide +kernel
theorem dX12_row_47 : decode cX12_row 47 = .ok (.istore 7, 2) := by decide +kernel
theorem dX12_row_49 : decode cX12_row 49 = .ok (.iload_n 2, 1) := by decide +kernel
theorem dX12_row_50 : decode cX12_row 50 = .ok (.ifCond .lt 38, 3) := by decide +kernel
theorem dX12_row_53 : decode cX12_row 53 = .ok (.iload 7, 2) := by decide +kernel
theorem dX12_row_55 : decode cX12_row 55 = .ok (.sipush 2197, 3) := by decide +kernel
theorem dX12_row_58 : decode cX12_row 58 = .ok (.if_icmp .ge 30, 3) := by decide +kernel
theorem dX12_row_61 : decode cX12_row 61 = .ok (.lload 5, 2) := by decide +kernel
theorem dX12_row_63 : decode cX12_row 63 = .ok (.aload 4, 2) := by decide +kernel
theorem dX12_row_65 : decode cX12_row 65 = .ok (.iload 7, 2) := by decide +kernel
theorem dX12_row_67 : decode cX12_row 67 = .ok (.laload, 1) := by decide +kernel
theorem dX12_row_68 : decode cX12_row 68 = .ok (.lcmp, 1) := by decide +kernel
theorem dX12_row_69 : decode cX12_row 69 = .ok (.ifCond .lt 19, 3) := by decide +kernel
theorem dX12_row_72 : decode cX12_row 72 = .ok (.lload 5, 2) := by decide +kernel
theorem dX12_row_74 : decode cX12_row 74 = .ok (.aload 4, 2) := by decide +kernel
theorem dX12_row_76 : decode cX12_row 76 = .ok (.iload 7, 2) := by decide +kernel
theorem dX12_row_78 : decode cX12_row 78 = .ok (.laload, 1) := by decide +kernel
theorem dX12_row_79 : decode cX12_row 79 = .ok (.lsub, 1) := by decide +kernel
theorem dX12_row_80 : decode cX12_row 80 = .ok (.lstore 5, 2) := by decide +kernel
theorem dX12_row_82 : decode cX12_row 82 = .ok (.iinc 7 1, 3) := by decide +kernel
theorem dX12_row_85 : decode cX12_row 85 = .ok (.goto (-36), 3) := by decide +kernel
theorem dX12_row_88 : decode cX12_row 88 = .ok (.aload_n 0, 1) := by decide +kernel
theorem dX12_row_89 : decode cX12_row 89 = .ok (.iload_n 2, 1) := by decide +kernel
theorem dX12_row_90 : decode cX12_row 90 = .ok (.ifCond .lt 11, 3) := by decide +kernel
theorem dX12_row_93 : decode cX12_row 93 = .ok (.iload 7, 2) := by decide +kernel
theorem dX12_row_95 : decode cX12_row 95 = .ok (.sipush 2197, 3) := by decide +kernel
theorem dX12_row_98 : decode cX12_row 98 = .ok (.if_icmp .ne 7, 3) := by decide +kernel
theorem dX12_row_101 : decode cX12_row 101 = .ok (.iconst 3, 1) := by decide +kernel
theorem dX12_row_102 : decode cX12_row 102 = .ok (.goto 4, 3) := by decide +kernel
theorem dX12_row_105 : decode cX12_row 105 = .ok (.iconst 0, 1) := by decide +kernel
theorem dX12_row_106 : decode cX12_row 106 = .ok (.invokevirtual 43, 3) := by decide +kernel
theorem dX12_row_109 : decode cX12_row 109 = .ok (.ifCond .eq 7, 3) := by decide +kernel
theorem dX12_row_112 : decode cX12_row 112 = .ok (.iconst 0, 1) := by decide +kernel
theorem dX12_row_113 : decode cX12_row 113 = .ok (.goto 11, 3) := by decide +kernel
theorem dX12_row_116 : decode cX12_row 116 = .ok (.iload 7, 2) := by decide +kernel
theorem dX12_row_118 : decode cX12_row 118 = .ok (.iload_n 3, 1) := by decide +kernel
theorem dX12_row_119 : decode cX12_row 119 = .ok (.invokestatic 104, 3) := by decide +kernel
theorem dX12_row_122 : decode cX12_row 122 = .ok (.iconst 1, 1) := by decide +kernel
theorem dX12_row_123 : decode cX12_row 123 = .ok (.isub, 1) := by decide +kernel
theorem dX12_row_124 : decode cX12_row 124 = .ok (.ireturn, 1) := by decide +kernel
theorem dX12_different_0 : decode cX12_different 0 = .ok (.aload_n 0, 1) := by decide +kernel
theorem dX12_different_1 : decode cX12_different 1 = .ok (.iload_n 1, 1) := by decide +kernel
theorem dX12_different_2 : decode cX12_different 2 = .ok (.invokevirtual 176, 3) := by decide +kernel
theorem dX12_different_5 : decode cX12_different 5 = .ok (.ifCond .eq 5, 3) := by decide +kernel
theorem dX12_different_8 : decode cX12_different 8 = .ok (.iconst 0, 1) := by decide +kernel
theorem dX12_different_9 : decode cX12_different 9 = .ok (.ireturn, 1) := by decide +kernel
theorem dX12_different_10 : decode cX12_different 10 = .ok (.iconst 0, 1) := by decide +kernel
theorem dX12_different_11 : decode cX12_different 11 = .ok (.istore_n 2, 1) := by decide +kernel
theorem dX12_different_12 : decode cX12_different 12 = .ok (.aload_n 0, 1) := by decide +kernel
theorem dX12_different_13 : decode cX12_different 13 = .ok (.iload_n 1, 1) := by decide +kernel
theorem dX12_different_14 : decode cX12_different 14 = .ok (.invokevirtual 179, 3) := by decide +kernel
theorem dX12_different_17 : decode cX12_different 17 = .ok (.astore_n 3, 1) := by decide +kernel
theorem dX12_different_18 : decode cX12_different 18 = .ok (.aload_n 3, 1) := by decide +kernel
theorem dX12_different_19 : decode cX12_different 19 = .ok (.arraylength, 1) := by decide +kernel
theorem dX12_different_20 : decode cX12_different 20 = .ok (.istore 4, 2) := by decide +kernel
theorem dX12_different_22 : decode cX12_different 22 = .ok (.iconst 0, 1) := by decide +kernel
theorem dX12_different_23 : decode cX12_different 23 = .ok (.istore 5, 2) := by decide +kernel
theorem dX12_different_25 : decode cX12_different 25 = .ok (.iload 5, 2) := by decide +kernel
theorem dX12_different_27 : decode cX12_different 27 = .ok (.iload 4, 2) := by decide +kernel
theorem dX12_different_29 : decode cX12_different 29 = .ok (.if_icmp .ge 30, 3) := by decide +kernel
theorem dX12_different_32 : decode cX12_different 32 = .ok (.aload_n 3, 1) := by decide +kernel
theorem dX12_different_33 : decode cX12_different 33 = .ok (.iload 5, 2) := by decide +kernel
theorem dX12_different_35 : decode cX12_different 35 = .ok (.laload, 1) := by decide +kernel
theorem dX12_different_36 : decode cX12_different 36 = .ok (.lstore 6, 2) := by decide +kernel
theorem dX12_different_38 : decode cX12_different 38 = .ok (.iload_n 2, 1) := by decide +kernel
theorem dX12_different_39 : decode cX12_different 39 = .ok (.lload 6, 2) := by decide +kernel
theorem dX12_different_41 : decode cX12_different 41 = .ok (.lconst 0, 1) := by decide +kernel
theorem dX12_different_42 : decode cX12_different 42 = .ok (.lcmp, 1) := by decide +kernel
theorem dX12_different_43 : decode cX12_different 43 = .ok (.ifCond .le 7, 3) := by decide +kernel
theorem dX12_different_46 : decode cX12_different 46 = .ok (.iconst 1, 1) := by decide +kernel
theorem dX12_different_47 : decode cX12_different 47 = .ok (.goto 4, 3) := by decide +kernel
theorem dX12_different_50 : decode cX12_different 50 = .ok (.iconst 0, 1) := by decide +kernel
theorem dX12_different_51 : decode cX12_different 51 = .ok (.iadd, 1) := by decide +kernel
theorem dX12_different_52 : decode cX12_different 52 = .ok (.istore_n 2, 1) := by decide +kernel
theorem dX12_different_53 : decode cX12_different 53 = .ok (.iinc 5 1, 3) := by decide +kernel
theorem dX12_different_56 : decode cX12_different 56 = .ok (.goto (-31), 3) := by decide +kernel
theorem dX12_different_59 : decode cX12_different 59 = .ok (.iload_n 2, 1) := by decide +kernel
theorem dX12_different_60 : decode cX12_different 60 = .ok (.ireturn, 1) := by decide +kernel
theorem dX12_failsRows_0 : decode cX12_failsRows 0 = .ok (.aload_n 0, 1) := by decide +kernel
theorem dX12_failsRows_1 : decode cX12_failsRows 1 = .ok (.aload_n 0, 1) := by decide +kernel
theorem dX12_failsRows_2 : decode cX12_failsRows 2 = .ok (.iload_n 1, 1) := by decide +kernel
theorem dX12_failsRows_3 : decode cX12_failsRows 3 = .ok (.invokevirtual 101, 3) := by decide +kernel
theorem dX12_failsRows_6 : decode cX12_failsRows 6 = .ok (.ifCond .ne 7, 3) := by decide +kernel
theorem dX12_failsRows_9 : decode cX12_failsRows 9 = .ok (.iconst 1, 1) := by decide +kernel
theorem dX12_failsRows_10 : decode cX12_failsRows 10 = .ok (.goto 40, 3) := by decide +kernel
theorem dX12_failsRows_13 : decode cX12_failsRows 13 = .ok (.iload_n 2, 1) := by decide +kernel
theorem dX12_failsRows_14 : decode cX12_failsRows 14 = .ok (.iconst 0, 1) := by decide +kernel
theorem dX12_failsRows_15 : decode cX12_failsRows 15 = .ok (.iconst 2, 1) := by decide +kernel
theorem dX12_failsRows_16 : decode cX12_failsRows 16 = .ok (.invokestatic 36, 3) := by decide +kernel
theorem dX12_failsRows_19 : decode cX12_failsRows 19 = .ok (.ifCond .eq 26, 3) := by decide +kernel
theorem dX12_failsRows_22 : decode cX12_failsRows 22 = .ok (.iload_n 3, 1) := by decide +kernel
theorem dX12_failsRows_23 : decode cX12_failsRows 23 = .ok (.invokestatic 94, 3) := by decide +kernel
theorem dX12_failsRows_26 : decode cX12_failsRows 26 = .ok (.ifCond .eq 19, 3) := by decide +kernel
theorem dX12_failsRows_29 : decode cX12_failsRows 29 = .ok (.iload 4, 2) := by decide +kernel
theorem dX12_failsRows_31 : decode cX12_failsRows 31 = .ok (.invokestatic 94, 3) := by decide +kernel
theorem dX12_failsRows_34 : decode cX12_failsRows 34 = .ok (.ifCond .eq 11, 3) := by decide +kernel
theorem dX12_failsRows_37 : decode cX12_failsRows 37 = .ok (.iload 5, 2) := by decide +kernel
theorem dX12_failsRows_39 : decode cX12_failsRows 39 = .ok (.invokestatic 94, 3) := by decide +kernel
theorem dX12_failsRows_42 : decode cX12_failsRows 42 = .ok (.ifCond .ne 7, 3) := by decide +kernel
theorem dX12_failsRows_45 : decode cX12_failsRows 45 = .ok (.iconst 2, 1) := by decide +kernel
theorem dX12_failsRows_46 : decode cX12_failsRows 46 = .ok (.goto 4, 3) := by decide +kernel
theorem dX12_failsRows_49 : decode cX12_failsRows 49 = .ok (.iconst 0, 1) := by decide +kernel
theorem dX12_failsRows_50 : decode cX12_failsRows 50 = .ok (.invokevirtual 43, 3) := by decide +kernel
theorem dX12_failsRows_53 : decode cX12_failsRows 53 = .ok (.ireturn, 1) := by decide +kernel
theorem dX12_addRows_0 : decode cX12_addRows 0 = .ok (.aload_n 0, 1) := by decide +kernel
theorem dX12_addRows_1 : decode cX12_addRows 1 = .ok (.iload_n 1, 1) := by decide +kernel
theorem dX12_addRows_2 : decode cX12_addRows 2 = .ok (.iload_n 2, 1) := by decide +kernel
theorem dX12_addRows_3 : decode cX12_addRows 3 = .ok (.iload_n 3, 1) := by decide +kernel
theorem dX12_addRows_4 : decode cX12_addRows 4 = .ok (.iload 4, 2) := by decide +kernel
theorem dX12_addRows_6 : decode cX12_addRows 6 = .ok (.iload 5, 2) := by decide +kernel
theorem dX12_addRows_8 : decode cX12_addRows 8 = .ok (.invokevirtual 186, 3) := by decide +kernel
theorem dX12_addRows_11 : decode cX12_addRows 11 = .ok (.ifCond .eq 5, 3) := by decide +kernel
theorem dX12_addRows_14 : decode cX12_addRows 14 = .ok (.iconst 0, 1) := by decide +kernel
theorem dX12_addRows_15 : decode cX12_addRows 15 = .ok (.ireturn, 1) := by decide +kernel
theorem dX12_addRows_16 : decode cX12_addRows 16 = .ok (.aload_n 0, 1) := by decide +kernel
theorem dX12_addRows_17 : decode cX12_addRows 17 = .ok (.iload_n 1, 1) := by decide +kernel
theorem dX12_addRows_18 : decode cX12_addRows 18 = .ok (.iload_n 3, 1) := by decide +kernel
theorem dX12_addRows_19 : decode cX12_addRows 19 = .ok (.iload 4, 2) := by decide +kernel
theorem dX12_addRows_21 : decode cX12_addRows 21 = .ok (.iload 5, 2) := by decide +kernel
theorem dX12_addRows_23 : decode cX12_addRows 23 = .ok (.invokevirtual 190, 3) := by decide +kernel
theorem dX12_addRows_26 : decode cX12_addRows 26 = .ok (.astore 6, 2) := by decide +kernel
theorem dX12_addRows_28 : decode cX12_addRows 28 = .ok (.iconst 0, 1) := by decide +kernel
theorem dX12_addRows_29 : decode cX12_addRows 29 = .ok (.istore 7, 2) := by decide +kernel
theorem dX12_addRows_31 : decode cX12_addRows 31 = .ok (.iconst 0, 1) := by decide +kernel
theorem dX12_addRows_32 : decode cX12_addRows 32 = .ok (.istore 8, 2) := by decide +kernel
theorem dX12_addRows_34 : decode cX12_addRows 34 = .ok (.iload 8, 2) := by decide +kernel
theorem dX12_addRows_36 : decode cX12_addRows 36 = .ok (.sipush 768, 3) := by decide +kernel
theorem dX12_addRows_39 : decode cX12_addRows 39 = .ok (.if_icmp .ge 39, 3) := by decide +kernel
theorem dX12_addRows_42 : decode cX12_addRows 42 = .ok (.iload 7, 2) := by decide +kernel
theorem dX12_addRows_44 : decode cX12_addRows 44 = .ok (.aload 6, 2) := by decide +kernel
theorem dX12_addRows_46 : decode cX12_addRows 46 = .ok (.iload 8, 2) := by decide +kernel
theorem dX12_addRows_48 : decode cX12_addRows 48 = .ok (.baload, 1) := by decide +kernel
theorem dX12_addRows_49 : decode cX12_addRows 49 = .ok (.ifCond .eq 19, 3) := by decide +kernel
theorem dX12_addRows_52 : decode cX12_addRows 52 = .ok (.aload_n 0, 1) := by decide +kernel
theorem dX12_addRows_53 : decode cX12_addRows 53 = .ok (.getfield 11, 3) := by decide +kernel
theorem dX12_addRows_56 : decode cX12_addRows 56 = .ok (.iload_n 2, 1) := by decide +kernel
theorem dX12_addRows_57 : decode cX12_addRows 57 = .ok (.aaload, 1) := by decide +kernel
theorem dX12_addRows_58 : decode cX12_addRows 58 = .ok (.iload 8, 2) := by decide +kernel
theorem dX12_addRows_60 : decode cX12_addRows 60 = .ok (.baload, 1) := by decide +kernel
theorem dX12_addRows_61 : decode cX12_addRows 61 = .ok (.ifCond .ne 7, 3) := by decide +kernel
theorem dX12_addRows_64 : decode cX12_addRows 64 = .ok (.iconst 1, 1) := by decide +kernel
theorem dX12_addRows_65 : decode cX12_addRows 65 = .ok (.goto 4, 3) := by decide +kernel
theorem dX12_addRows_68 : decode cX12_addRows 68 = .ok (.iconst 0, 1) := by decide +kernel
theorem dX12_addRows_69 : decode cX12_addRows 69 = .ok (.iadd, 1) := by decide +kernel
theorem dX12_addRows_70 : decode cX12_addRows 70 = .ok (.istore 7, 2) := by decide +kernel
theorem dX12_addRows_72 : decode cX12_addRows 72 = .ok (.iinc 8 1, 3) := by decide +kernel
theorem dX12_addRows_75 : decode cX12_addRows 75 = .ok (.goto (-41), 3) := by decide +kernel
theorem dX12_addRows_78 : decode cX12_addRows 78 = .ok (.aload_n 0, 1) := by decide +kernel
theorem dX12_addRows_79 : decode cX12_addRows 79 = .ok (.aload_n 0, 1) := by decide +kernel
theorem dX12_addRows_80 : decode cX12_addRows 80 = .ok (.getfield 51, 3) := by decide +kernel
theorem dX12_addRows_83 : decode cX12_addRows 83 = .ok (.iload 7, 2) := by decide +kernel
theorem dX12_addRows_85 : decode cX12_addRows 85 = .ok (.iadd, 1) := by decide +kernel
theorem dX12_addRows_86 : decode cX12_addRows 86 = .ok (.bipush 60, 2) := by decide +kernel
theorem dX12_addRows_88 : decode cX12_addRows 88 = .ok (.if_icmp .le 7, 3) := by decide +kernel
theorem dX12_addRows_91 : decode cX12_addRows 91 = .ok (.iconst 3, 1) := by decide +kernel
theorem dX12_addRows_92 : decode cX12_addRows 92 = .ok (.goto 4, 3) := by decide +kernel
theorem dX12_addRows_95 : decode cX12_addRows 95 = .ok (.iconst 0, 1) := by decide +kernel
theorem dX12_addRows_96 : decode cX12_addRows 96 = .ok (.invokevirtual 43, 3) := by decide +kernel
theorem dX12_addRows_99 : decode cX12_addRows 99 = .ok (.ifCond .eq 5, 3) := by decide +kernel
theorem dX12_addRows_102 : decode cX12_addRows 102 = .ok (.iconst 0, 1) := by decide +kernel
theorem dX12_addRows_103 : decode cX12_addRows 103 = .ok (.ireturn, 1) := by decide +kernel
theorem dX12_addRows_104 : decode cX12_addRows 104 = .ok (.iconst 0, 1) := by decide +kernel
theorem dX12_addRows_105 : decode cX12_addRows 105 = .ok (.istore 8, 2) := by decide +kernel
theorem dX12_addRows_107 : decode cX12_addRows 107 = .ok (.iload 8, 2) := by decide +kernel
theorem dX12_addRows_109 : decode cX12_addRows 109 = .ok (.sipush 768, 3) := by decide +kernel
theorem dX12_addRows_112 : decode cX12_addRows 112 = .ok (.if_icmp .ge 43, 3) := by decide +kernel
theorem dX12_addRows_115 : decode cX12_addRows 115 = .ok (.aload_n 0, 1) := by decide +kernel
theorem dX12_addRows_116 : decode cX12_addRows 116 = .ok (.getfield 11, 3) := by decide +kernel
theorem dX12_addRows_119 : decode cX12_addRows 119 = .ok (.iload_n 2, 1) := by decide +kernel
theorem dX12_addRows_120 : decode cX12_addRows 120 = .ok (.aaload, 1) := by decide +kernel
theorem dX12_addRows_121 : decode cX12_addRows 121 = .ok (.iload 8, 2) := by decide +kernel
theorem dX12_addRows_123 : decode cX12_addRows 123 = .ok (.aload_n 0, 1) := by decide +kernel
theorem dX12_addRows_124 : decode cX12_addRows 124 = .ok (.getfield 11, 3) := by decide +kernel
theorem dX12_addRows_127 : decode cX12_addRows 127 = .ok (.iload_n 2, 1) := by decide +kernel
theorem dX12_addRows_128 : decode cX12_addRows 128 = .ok (.aaload, 1) := by decide +kernel
theorem dX12_addRows_129 : decode cX12_addRows 129 = .ok (.iload 8, 2) := by decide +kernel
theorem dX12_addRows_131 : decode cX12_addRows 131 = .ok (.baload, 1) := by decide +kernel
theorem dX12_addRows_132 : decode cX12_addRows 132 = .ok (.ifCond .ne 11, 3) := by decide +kernel
theorem dX12_addRows_135 : decode cX12_addRows 135 = .ok (.aload 6, 2) := by decide +kernel
theorem dX12_addRows_137 : decode cX12_addRows 137 = .ok (.iload 8, 2) := by decide +kernel
theorem dX12_addRows_139 : decode cX12_addRows 139 = .ok (.baload, 1) := by decide +kernel
theorem dX12_addRows_140 : decode cX12_addRows 140 = .ok (.ifCond .eq 7, 3) := by decide +kernel
theorem dX12_addRows_143 : decode cX12_addRows 143 = .ok (.iconst 1, 1) := by decide +kernel
theorem dX12_addRows_144 : decode cX12_addRows 144 = .ok (.goto 4, 3) := by decide +kernel
theorem dX12_addRows_147 : decode cX12_addRows 147 = .ok (.iconst 0, 1) := by decide +kernel
theorem dX12_addRows_148 : decode cX12_addRows 148 = .ok (.bastore, 1) := by decide +kernel
theorem dX12_addRows_149 : decode cX12_addRows 149 = .ok (.iinc 8 1, 3) := by decide +kernel
theorem dX12_addRows_152 : decode cX12_addRows 152 = .ok (.goto (-45), 3) := by decide +kernel
theorem dX12_addRows_155 : decode cX12_addRows 155 = .ok (.aload_n 0, 1) := by decide +kernel
theorem dX12_addRows_156 : decode cX12_addRows 156 = .ok (.dup, 1) := by decide +kernel
theorem dX12_addRows_157 : decode cX12_addRows 157 = .ok (.getfield 51, 3) := by decide +kernel
theorem dX12_addRows_160 : decode cX12_addRows 160 = .ok (.iload 7, 2) := by decide +kernel
theorem dX12_addRows_162 : decode cX12_addRows 162 = .ok (.iadd, 1) := by decide +kernel
theorem dX12_addRows_163 : decode cX12_addRows 163 = .ok (.putfield 51, 3) := by decide +kernel
theorem dX12_addRows_166 : decode cX12_addRows 166 = .ok (.iload 7, 2) := by decide +kernel
theorem dX12_addRows_168 : decode cX12_addRows 168 = .ok (.ireturn, 1) := by decide +kernel
theorem dX12_removeRows_0 : decode cX12_removeRows 0 = .ok (.aload_n 0, 1) := by decide +kernel
theorem dX12_removeRows_1 : decode cX12_removeRows 1 = .ok (.iload_n 1, 1) := by decide +kernel
theorem dX12_removeRows_2 : decode cX12_removeRows 2 = .ok (.iload_n 2, 1) := by decide +kernel
theorem dX12_removeRows_3 : decode cX12_removeRows 3 = .ok (.iload_n 3, 1) := by decide +kernel
theorem dX12_removeRows_4 : decode cX12_removeRows 4 = .ok (.iload 4, 2) := by decide +kernel
theorem dX12_removeRows_6 : decode cX12_removeRows 6 = .ok (.iload 5, 2) := by decide +kernel
theorem dX12_removeRows_8 : decode cX12_removeRows 8 = .ok (.invokevirtual 186, 3) := by decide +kernel
theorem dX12_removeRows_11 : decode cX12_removeRows 11 = .ok (.ifCond .eq 5, 3) := by decide +kernel
theorem dX12_removeRows_14 : decode cX12_removeRows 14 = .ok (.iconst 0, 1) := by decide +kernel
theorem dX12_removeRows_15 : decode cX12_removeRows 15 = .ok (.ireturn, 1) := by decide +kernel
theorem dX12_removeRows_16 : decode cX12_removeRows 16 = .ok (.aload_n 0, 1) := by decide +kernel
theorem dX12_removeRows_17 : decode cX12_removeRows 17 = .ok (.iload_n 1, 1) := by decide +kernel
theorem dX12_removeRows_18 : decode cX12_removeRows 18 = .ok (.iload_n 3, 1) := by decide +kernel
theorem dX12_removeRows_19 : decode cX12_removeRows 19 = .ok (.iload 4, 2) := by decide +kernel
theorem dX12_removeRows_21 : decode cX12_removeRows 21 = .ok (.iload 5, 2) := by decide +kernel
theorem dX12_removeRows_23 : decode cX12_removeRows 23 = .ok (.invokevirtual 190, 3) := by decide +kernel
theorem dX12_removeRows_26 : decode cX12_removeRows 26 = .ok (.astore 6, 2) := by decide +kernel
theorem dX12_removeRows_28 : decode cX12_removeRows 28 = .ok (.iconst 0, 1) := by decide +kernel
theorem dX12_removeRows_29 : decode cX12_removeRows 29 = .ok (.istore 7, 2) := by decide +kernel
theorem dX12_removeRows_31 : decode cX12_removeRows 31 = .ok (.iconst 0, 1) := by decide +kernel
theorem dX12_removeRows_32 : decode cX12_removeRows 32 = .ok (.istore 8, 2) := by decide +kernel
theorem dX12_removeRows_34 : decode cX12_removeRows 34 = .ok (.iload 8, 2) := by decide +kernel
theorem dX12_removeRows_36 : decode cX12_removeRows 36 = .ok (.sipush 768, 3) := by decide +kernel
theorem dX12_removeRows_39 : decode cX12_removeRows 39 = .ok (.if_icmp .ge 73, 3) := by decide +kernel
theorem dX12_removeRows_42 : decode cX12_removeRows 42 = .ok (.iload 7, 2) := by decide +kernel
theorem dX12_removeRows_44 : decode cX12_removeRows 44 = .ok (.aload 6, 2) := by decide +kernel
theorem dX12_removeRows_46 : decode cX12_removeRows 46 = .ok (.iload 8, 2) := by decide +kernel
theorem dX12_removeRows_48 : decode cX12_removeRows 48 = .ok (.baload, 1) := by decide +kernel
theorem dX12_removeRows_49 : decode cX12_removeRows 49 = .ok (.ifCond .eq 19, 3) := by decide +kernel
theorem dX12_removeRows_52 : decode cX12_removeRows 52 = .ok (.aload_n 0, 1) := by decide +kernel
theorem dX12_removeRows_53 : decode cX12_removeRows 53 = .ok (.getfield 11, 3) := by decide +kernel
theorem dX12_removeRows_56 : decode cX12_removeRows 56 = .ok (.iload_n 2, 1) := by decide +kernel
theorem dX12_removeRows_57 : decode cX12_removeRows 57 = .ok (.aaload, 1) := by decide +kernel
theorem dX12_removeRows_58 : decode cX12_removeRows 58 = .ok (.iload 8, 2) := by decide +kernel
theorem dX12_removeRows_60 : decode cX12_removeRows 60 = .ok (.baload, 1) := by decide +kernel
theorem dX12_removeRows_61 : decode cX12_removeRows 61 = .ok (.ifCond .eq 7, 3) := by decide +kernel
theorem dX12_removeRows_64 : decode cX12_removeRows 64 = .ok (.iconst 1, 1) := by decide +kernel
theorem dX12_removeRows_65 : decode cX12_removeRows 65 = .ok (.goto 4, 3) := by decide +kernel
theorem dX12_removeRows_68 : decode cX12_removeRows 68 = .ok (.iconst 0, 1) := by decide +kernel
theorem dX12_removeRows_69 : decode cX12_removeRows 69 = .ok (.iadd, 1) := by decide +kernel
theorem dX12_removeRows_70 : decode cX12_removeRows 70 = .ok (.istore 7, 2) := by decide +kernel
theorem dX12_removeRows_72 : decode cX12_removeRows 72 = .ok (.aload_n 0, 1) := by decide +kernel
theorem dX12_removeRows_73 : decode cX12_removeRows 73 = .ok (.getfield 11, 3) := by decide +kernel
theorem dX12_removeRows_76 : decode cX12_removeRows 76 = .ok (.iload_n 2, 1) := by decide +kernel
theorem dX12_removeRows_77 : decode cX12_removeRows 77 = .ok (.aaload, 1) := by decide +kernel
theorem dX12_removeRows_78 : decode cX12_removeRows 78 = .ok (.iload 8, 2) := by decide +kernel
theorem dX12_removeRows_80 : decode cX12_removeRows 80 = .ok (.aload_n 0, 1) := by decide +kernel
theorem dX12_removeRows_81 : decode cX12_removeRows 81 = .ok (.getfield 11, 3) := by decide +kernel
theorem dX12_removeRows_84 : decode cX12_removeRows 84 = .ok (.iload_n 2, 1) := by decide +kernel
theorem dX12_removeRows_85 : decode cX12_removeRows 85 = .ok (.aaload, 1) := by decide +kernel
theorem dX12_removeRows_86 : decode cX12_removeRows 86 = .ok (.iload 8, 2) := by decide +kernel
theorem dX12_removeRows_88 : decode cX12_removeRows 88 = .ok (.baload, 1) := by decide +kernel
theorem dX12_removeRows_89 : decode cX12_removeRows 89 = .ok (.ifCond .eq 15, 3) := by decide +kernel
theorem dX12_removeRows_92 : decode cX12_removeRows 92 = .ok (.aload 6, 2) := by decide +kernel
theorem dX12_removeRows_94 : decode cX12_removeRows 94 = .ok (.iload 8, 2) := by decide +kernel
theorem dX12_removeRows_96 : decode cX12_removeRows 96 = .ok (.baload, 1) := by decide +kernel
theorem dX12_removeRows_97 : decode cX12_removeRows 97 = .ok (.ifCond .ne 7, 3) := by decide +kernel
theorem dX12_removeRows_100 : decode cX12_removeRows 100 = .ok (.iconst 1, 1) := by decide +kernel
theorem dX12_removeRows_101 : decode cX12_removeRows 101 = .ok (.goto 4, 3) := by decide +kernel
theorem dX12_removeRows_104 : decode cX12_removeRows 104 = .ok (.iconst 0, 1) := by decide +kernel
theorem dX12_removeRows_105 : decode cX12_removeRows 105 = .ok (.bastore, 1) := by decide +kernel
theorem dX12_removeRows_106 : decode cX12_removeRows 106 = .ok (.iinc 8 1, 3) := by decide +kernel
theorem dX12_removeRows_109 : decode cX12_removeRows 109 = .ok (.goto (-75), 3) := by decide +kernel
theorem dX12_removeRows_112 : decode cX12_removeRows 112 = .ok (.aload_n 0, 1) := by decide +kernel
theorem dX12_removeRows_113 : decode cX12_removeRows 113 = .ok (.dup, 1) := by decide +kernel
theorem dX12_removeRows_114 : decode cX12_removeRows 114 = .ok (.getfield 51, 3) := by decide +kernel
theorem dX12_removeRows_117 : decode cX12_removeRows 117 = .ok (.iload 7, 2) := by decide +kernel
theorem dX12_removeRows_119 : decode cX12_removeRows 119 = .ok (.isub, 1) := by decide +kernel
theorem dX12_removeRows_120 : decode cX12_removeRows 120 = .ok (.putfield 51, 3) := by decide +kernel
theorem dX12_removeRows_123 : decode cX12_removeRows 123 = .ok (.iload 7, 2) := by decide +kernel
theorem dX12_removeRows_125 : decode cX12_removeRows 125 = .ok (.ireturn, 1) := by decide +kernel
theorem dX12_addShape_0 : decode cX12_addShape 0 = .ok (.iload_n 1, 1) := by decide +kernel
theorem dX12_addShape_1 : decode cX12_addShape 1 = .ok (.iconst 0, 1) := by decide +kernel
theorem dX12_addShape_2 : decode cX12_addShape 2 = .ok (.iconst 3, 1) := by decide +kernel
theorem dX12_addShape_3 : decode cX12_addShape 3 = .ok (.invokestatic 36, 3) := by decide +kernel
theorem dX12_addShape_6 : decode cX12_addShape 6 = .ok (.ifCond .eq 44, 3) := by decide +kernel
theorem dX12_addShape_9 : decode cX12_addShape 9 = .ok (.iload_n 2, 1) := by decide +kernel
theorem dX12_addShape_10 : decode cX12_addShape 10 = .ok (.invokestatic 62, 3) := by decide +kernel
theorem dX12_addShape_13 : decode cX12_addShape 13 = .ok (.ifCond .eq 37, 3) := by decide +kernel
theorem dX12_addShape_16 : decode cX12_addShape 16 = .ok (.iload_n 3, 1) := by decide +kernel
theorem dX12_addShape_17 : decode cX12_addShape 17 = .ok (.invokestatic 62, 3) := by decide +kernel
theorem dX12_addShape_20 : decode cX12_addShape 20 = .ok (.ifCond .eq 30, 3) := by decide +kernel
theorem dX12_addShape_23 : decode cX12_addShape 23 = .ok (.iload 4, 2) := by decide +kernel
theorem dX12_addShape_25 : decode cX12_addShape 25 = .ok (.iconst 0, 1) := by decide +kernel
theorem dX12_addShape_26 : decode cX12_addShape 26 = .ok (.bipush 9, 2) := by decide +kernel
theorem dX12_addShape_28 : decode cX12_addShape 28 = .ok (.invokestatic 36, 3) := by decide +kernel
theorem dX12_addShape_31 : decode cX12_addShape 31 = .ok (.ifCond .eq 19, 3) := by decide +kernel
theorem dX12_addShape_34 : decode cX12_addShape 34 = .ok (.iload 5, 2) := by decide +kernel
theorem dX12_addShape_36 : decode cX12_addShape 36 = .ok (.iload 4, 2) := by decide +kernel
theorem dX12_addShape_38 : decode cX12_addShape 38 = .ok (.bipush 9, 2) := by decide +kernel
theorem dX12_addShape_40 : decode cX12_addShape 40 = .ok (.invokestatic 36, 3) := by decide +kernel
theorem dX12_addShape_43 : decode cX12_addShape 43 = .ok (.ifCond .eq 7, 3) := by decide +kernel
theorem dX12_addShape_46 : decode cX12_addShape 46 = .ok (.iconst 1, 1) := by decide +kernel
theorem dX12_addShape_47 : decode cX12_addShape 47 = .ok (.goto 4, 3) := by decide +kernel
theorem dX12_addShape_50 : decode cX12_addShape 50 = .ok (.iconst 0, 1) := by decide +kernel
theorem dX12_addShape_51 : decode cX12_addShape 51 = .ok (.istore 6, 2) := by decide +kernel
theorem dX12_addShape_53 : decode cX12_addShape 53 = .ok (.aload_n 0, 1) := by decide +kernel
theorem dX12_addShape_54 : decode cX12_addShape 54 = .ok (.iload 6, 2) := by decide +kernel
theorem dX12_addShape_56 : decode cX12_addShape 56 = .ok (.ifCond .ne 7, 3) := by decide +kernel
theorem dX12_addShape_59 : decode cX12_addShape 59 = .ok (.iconst 1, 1) := by decide +kernel
theorem dX12_addShape_60 : decode cX12_addShape 60 = .ok (.goto 17, 3) := by decide +kernel
theorem dX12_addShape_63 : decode cX12_addShape 63 = .ok (.aload_n 0, 1) := by decide +kernel
theorem dX12_addShape_64 : decode cX12_addShape 64 = .ok (.getfield 194, 3) := by decide +kernel
theorem dX12_addShape_67 : decode cX12_addShape 67 = .ok (.bipush 6, 2) := by decide +kernel
theorem dX12_addShape_69 : decode cX12_addShape 69 = .ok (.if_icmp .ne 7, 3) := by decide +kernel
theorem dX12_addShape_72 : decode cX12_addShape 72 = .ok (.iconst 2, 1) := by decide +kernel
theorem dX12_addShape_73 : decode cX12_addShape 73 = .ok (.goto 4, 3) := by decide +kernel
theorem dX12_addShape_76 : decode cX12_addShape 76 = .ok (.iconst 0, 1) := by decide +kernel
theorem dX12_addShape_77 : decode cX12_addShape 77 = .ok (.invokevirtual 43, 3) := by decide +kernel
theorem dX12_addShape_80 : decode cX12_addShape 80 = .ok (.ifCond .eq 5, 3) := by decide +kernel
theorem dX12_addShape_83 : decode cX12_addShape 83 = .ok (.iconst 0, 1) := by decide +kernel
theorem dX12_addShape_84 : decode cX12_addShape 84 = .ok (.ireturn, 1) := by decide +kernel
theorem dX12_addShape_85 : decode cX12_addShape 85 = .ok (.aload_n 0, 1) := by decide +kernel
theorem dX12_addShape_86 : decode cX12_addShape 86 = .ok (.getfield 29, 3) := by decide +kernel
theorem dX12_addShape_89 : decode cX12_addShape 89 = .ok (.aload_n 0, 1) := by decide +kernel
theorem dX12_addShape_90 : decode cX12_addShape 90 = .ok (.getfield 194, 3) := by decide +kernel
theorem dX12_addShape_93 : decode cX12_addShape 93 = .ok (.iconst 5, 1) := by decide +kernel
theorem dX12_addShape_94 : decode cX12_addShape 94 = .ok (.newarray .int, 2) := by decide +kernel
theorem dX12_addShape_96 : decode cX12_addShape 96 = .ok (.dup, 1) := by decide +kernel
theorem dX12_addShape_97 : decode cX12_addShape 97 = .ok (.iconst 0, 1) := by decide +kernel
theorem dX12_addShape_98 : decode cX12_addShape 98 = .ok (.iload_n 1, 1) := by decide +kernel
theorem dX12_addShape_99 : decode cX12_addShape 99 = .ok (.iastore, 1) := by decide +kernel
theorem dX12_addShape_100 : decode cX12_addShape 100 = .ok (.dup, 1) := by decide +kernel
theorem dX12_addShape_101 : decode cX12_addShape 101 = .ok (.iconst 1, 1) := by decide +kernel
theorem dX12_addShape_102 : decode cX12_addShape 102 = .ok (.iload_n 2, 1) := by decide +kernel
theorem dX12_addShape_103 : decode cX12_addShape 103 = .ok (.iastore, 1) := by decide +kernel
theorem dX12_addShape_104 : decode cX12_addShape 104 = .ok (.dup, 1) := by decide +kernel
theorem dX12_addShape_105 : decode cX12_addShape 105 = .ok (.iconst 2, 1) := by decide +kernel
theorem dX12_addShape_106 : decode cX12_addShape 106 = .ok (.iload_n 3, 1) := by decide +kernel
theorem dX12_addShape_107 : decode cX12_addShape 107 = .ok (.iastore, 1) := by decide +kernel
theorem dX12_addShape_108 : decode cX12_addShape 108 = .ok (.dup, 1) := by decide +kernel
theorem dX12_addShape_109 : decode cX12_addShape 109 = .ok (.iconst 3, 1) := by decide +kernel
theorem dX12_addShape_110 : decode cX12_addShape 110 = .ok (.iload 4, 2) := by decide +kernel
theorem dX12_addShape_112 : decode cX12_addShape 112 = .ok (.iastore, 1) := by decide +kernel
theorem dX12_addShape_113 : decode cX12_addShape 113 = .ok (.dup, 1) := by decide +kernel
theorem dX12_addShape_114 : decode cX12_addShape 114 = .ok (.iconst 4, 1) := by decide +kernel
theorem dX12_addShape_115 : decode cX12_addShape 115 = .ok (.iload 5, 2) := by decide +kernel
theorem dX12_addShape_117 : decode cX12_addShape 117 = .ok (.iastore, 1) := by decide +kernel
theorem dX12_addShape_118 : decode cX12_addShape 118 = .ok (.aastore, 1) := by decide +kernel
theorem dX12_addShape_119 : decode cX12_addShape 119 = .ok (.aload_n 0, 1) := by decide +kernel
theorem dX12_addShape_120 : decode cX12_addShape 120 = .ok (.dup, 1) := by decide +kernel
theorem dX12_addShape_121 : decode cX12_addShape 121 = .ok (.getfield 194, 3) := by decide +kernel
theorem dX12_addShape_124 : decode cX12_addShape 124 = .ok (.iconst 1, 1) := by decide +kernel
theorem dX12_addShape_125 : decode cX12_addShape 125 = .ok (.iadd, 1) := by decide +kernel
theorem dX12_addShape_126 : decode cX12_addShape 126 = .ok (.putfield 194, 3) := by decide +kernel
theorem dX12_addShape_129 : decode cX12_addShape 129 = .ok (.aload_n 0, 1) := by decide +kernel
theorem dX12_addShape_130 : decode cX12_addShape 130 = .ok (.getfield 194, 3) := by decide +kernel
theorem dX12_addShape_133 : decode cX12_addShape 133 = .ok (.iconst 1, 1) := by decide +kernel
theorem dX12_addShape_134 : decode cX12_addShape 134 = .ok (.isub, 1) := by decide +kernel
theorem dX12_addShape_135 : decode cX12_addShape 135 = .ok (.ireturn, 1) := by decide +kernel
theorem dX12_fault_0 : decode cX12_fault 0 = .ok (.iconst 0, 1) := by decide +kernel
theorem dX12_fault_1 : decode cX12_fault 1 = .ok (.istore_n 2, 1) := by decide +kernel
theorem dX12_fault_2 : decode cX12_fault 2 = .ok (.iconst 0, 1) := by decide +kernel
theorem dX12_fault_3 : decode cX12_fault 3 = .ok (.istore_n 3, 1) := by decide +kernel
theorem dX12_fault_4 : decode cX12_fault 4 = .ok (.iload_n 3, 1) := by decide +kernel
theorem dX12_fault_5 : decode cX12_fault 5 = .ok (.aload_n 0, 1) := by decide +kernel
theorem dX12_fault_6 : decode cX12_fault 6 = .ok (.getfield 194, 3) := by decide +kernel
theorem dX12_fault_9 : decode cX12_fault 9 = .ok (.if_icmp .ge 114, 3) := by decide +kernel
theorem dX12_fault_12 : decode cX12_fault 12 = .ok (.aload_n 0, 1) := by decide +kernel
theorem dX12_fault_13 : decode cX12_fault 13 = .ok (.aload_n 0, 1) := by decide +kernel
theorem dX12_fault_14 : decode cX12_fault 14 = .ok (.getfield 29, 3) := by decide +kernel
theorem dX12_fault_17 : decode cX12_fault 17 = .ok (.iload_n 3, 1) := by decide +kernel
theorem dX12_fault_18 : decode cX12_fault 18 = .ok (.aaload, 1) := by decide +kernel
theorem dX12_fault_19 : decode cX12_fault 19 = .ok (.iconst 0, 1) := by decide +kernel
theorem dX12_fault_20 : decode cX12_fault 20 = .ok (.iaload, 1) := by decide +kernel
theorem dX12_fault_21 : decode cX12_fault 21 = .ok (.invokevirtual 150, 3) := by decide +kernel
theorem dX12_fault_24 : decode cX12_fault 24 = .ok (.astore 4, 2) := by decide +kernel
theorem dX12_fault_26 : decode cX12_fault 26 = .ok (.iconst 0, 1) := by decide +kernel
theorem dX12_fault_27 : decode cX12_fault 27 = .ok (.istore 5, 2) := by decide +kernel
theorem dX12_fault_29 : decode cX12_fault 29 = .ok (.iload 5, 2) := by decide +kernel
theorem dX12_fault_31 : decode cX12_fault 31 = .ok (.bipush 8, 2) := by decide +kernel
theorem dX12_fault_33 : decode cX12_fault 33 = .ok (.if_icmp .ge 84, 3) := by decide +kernel
theorem dX12_fault_36 : decode cX12_fault 36 = .ok (.aload 4, 2) := by decide +kernel
theorem dX12_fault_38 : decode cX12_fault 38 = .ok (.iload 5, 2) := by decide +kernel
theorem dX12_fault_40 : decode cX12_fault 40 = .ok (.aload_n 0, 1) := by decide +kernel
theorem dX12_fault_41 : decode cX12_fault 41 = .ok (.getfield 29, 3) := by decide +kernel
theorem dX12_fault_44 : decode cX12_fault 44 = .ok (.iload_n 3, 1) := by decide +kernel
theorem dX12_fault_45 : decode cX12_fault 45 = .ok (.aaload, 1) := by decide +kernel
theorem dX12_fault_46 : decode cX12_fault 46 = .ok (.iconst 2, 1) := by decide +kernel
theorem dX12_fault_47 : decode cX12_fault 47 = .ok (.iaload, 1) := by decide +kernel
theorem dX12_fault_48 : decode cX12_fault 48 = .ok (.invokestatic 197, 3) := by decide +kernel
theorem dX12_fault_51 : decode cX12_fault 51 = .ok (.istore 6, 2) := by decide +kernel
theorem dX12_fault_53 : decode cX12_fault 53 = .ok (.aload 4, 2) := by decide +kernel
theorem dX12_fault_55 : decode cX12_fault 55 = .ok (.iload 5, 2) := by decide +kernel
theorem dX12_fault_57 : decode cX12_fault 57 = .ok (.aload_n 0, 1) := by decide +kernel
theorem dX12_fault_58 : decode cX12_fault 58 = .ok (.getfield 29, 3) := by decide +kernel
theorem dX12_fault_61 : decode cX12_fault 61 = .ok (.iload_n 3, 1) := by decide +kernel
theorem dX12_fault_62 : decode cX12_fault 62 = .ok (.aaload, 1) := by decide +kernel
theorem dX12_fault_63 : decode cX12_fault 63 = .ok (.iconst 1, 1) := by decide +kernel
theorem dX12_fault_64 : decode cX12_fault 64 = .ok (.iaload, 1) := by decide +kernel
theorem dX12_fault_65 : decode cX12_fault 65 = .ok (.invokestatic 197, 3) := by decide +kernel
theorem dX12_fault_68 : decode cX12_fault 68 = .ok (.ifCond .le 43, 3) := by decide +kernel
theorem dX12_fault_71 : decode cX12_fault 71 = .ok (.iload 6, 2) := by decide +kernel
theorem dX12_fault_73 : decode cX12_fault 73 = .ok (.aload_n 0, 1) := by decide +kernel
theorem dX12_fault_74 : decode cX12_fault 74 = .ok (.getfield 29, 3) := by decide +kernel
theorem dX12_fault_77 : decode cX12_fault 77 = .ok (.iload_n 3, 1) := by decide +kernel
theorem dX12_fault_78 : decode cX12_fault 78 = .ok (.aaload, 1) := by decide +kernel
theorem dX12_fault_79 : decode cX12_fault 79 = .ok (.iconst 3, 1) := by decide +kernel
theorem dX12_fault_80 : decode cX12_fault 80 = .ok (.iaload, 1) := by decide +kernel
theorem dX12_fault_81 : decode cX12_fault 81 = .ok (.aload_n 0, 1) := by decide +kernel
theorem dX12_fault_82 : decode cX12_fault 82 = .ok (.getfield 29, 3) := by decide +kernel
theorem dX12_fault_85 : decode cX12_fault 85 = .ok (.iload_n 3, 1) := by decide +kernel
theorem dX12_fault_86 : decode cX12_fault 86 = .ok (.aaload, 1) := by decide +kernel
theorem dX12_fault_87 : decode cX12_fault 87 = .ok (.iconst 4, 1) := by decide +kernel
theorem dX12_fault_88 : decode cX12_fault 88 = .ok (.iaload, 1) := by decide +kernel
theorem dX12_fault_89 : decode cX12_fault 89 = .ok (.invokestatic 36, 3) := by decide +kernel
theorem dX12_fault_92 : decode cX12_fault 92 = .ok (.ifCond .ne 19, 3) := by decide +kernel
theorem dX12_fault_95 : decode cX12_fault 95 = .ok (.iload_n 2, 1) := by decide +kernel
theorem dX12_fault_96 : decode cX12_fault 96 = .ok (.iload_n 1, 1) := by decide +kernel
theorem dX12_fault_97 : decode cX12_fault 97 = .ok (.if_icmp .ne 11, 3) := by decide +kernel
theorem dX12_fault_100 : decode cX12_fault 100 = .ok (.bipush 10, 2) := by decide +kernel
theorem dX12_fault_102 : decode cX12_fault 102 = .ok (.iload_n 3, 1) := by decide +kernel
theorem dX12_fault_103 : decode cX12_fault 103 = .ok (.imul, 1) := by decide +kernel
theorem dX12_fault_104 : decode cX12_fault 104 = .ok (.iload 5, 2) := by decide +kernel
theorem dX12_fault_106 : decode cX12_fault 106 = .ok (.iadd, 1) := by decide +kernel
theorem dX12_fault_107 : decode cX12_fault 107 = .ok (.ireturn, 1) := by decide +kernel
theorem dX12_fault_108 : decode cX12_fault 108 = .ok (.iinc 2 1, 3) := by decide +kernel
theorem dX12_fault_111 : decode cX12_fault 111 = .ok (.iinc 5 1, 3) := by decide +kernel
theorem dX12_fault_114 : decode cX12_fault 114 = .ok (.goto (-85), 3) := by decide +kernel
theorem dX12_fault_117 : decode cX12_fault 117 = .ok (.iinc 3 1, 3) := by decide +kernel
theorem dX12_fault_120 : decode cX12_fault 120 = .ok (.goto (-116), 3) := by decide +kernel
theorem dX12_fault_123 : decode cX12_fault 123 = .ok (.iload_n 1, 1) := by decide +kernel
theorem dX12_fault_124 : decode cX12_fault 124 = .ok (.iconst (-1), 1) := by decide +kernel
theorem dX12_fault_125 : decode cX12_fault 125 = .ok (.if_icmp .ne 7, 3) := by decide +kernel
theorem dX12_fault_128 : decode cX12_fault 128 = .ok (.iload_n 2, 1) := by decide +kernel
theorem dX12_fault_129 : decode cX12_fault 129 = .ok (.goto 4, 3) := by decide +kernel
theorem dX12_fault_132 : decode cX12_fault 132 = .ok (.iconst (-1), 1) := by decide +kernel
theorem dX12_fault_133 : decode cX12_fault 133 = .ok (.ireturn, 1) := by decide +kernel
theorem dX12_faults_0 : decode cX12_faults 0 = .ok (.aload_n 0, 1) := by decide +kernel
theorem dX12_faults_1 : decode cX12_faults 1 = .ok (.iconst 0, 1) := by decide +kernel
theorem dX12_faults_2 : decode cX12_faults 2 = .ok (.putfield 32, 3) := by decide +kernel
theorem dX12_faults_5 : decode cX12_faults 5 = .ok (.aload_n 0, 1) := by decide +kernel
theorem dX12_faults_6 : decode cX12_faults 6 = .ok (.iconst (-1), 1) := by decide +kernel
theorem dX12_faults_7 : decode cX12_faults 7 = .ok (.invokevirtual 201, 3) := by decide +kernel
theorem dX12_faults_10 : decode cX12_faults 10 = .ok (.ireturn, 1) := by decide +kernel
theorem dX12_faultAt_0 : decode cX12_faultAt 0 = .ok (.iload_n 1, 1) := by decide +kernel
theorem dX12_faultAt_1 : decode cX12_faultAt 1 = .ok (.ifCond .ge 7, 3) := by decide +kernel
theorem dX12_faultAt_4 : decode cX12_faultAt 4 = .ok (.iconst (-1), 1) := by decide +kernel
theorem dX12_faultAt_5 : decode cX12_faultAt 5 = .ok (.goto 8, 3) := by decide +kernel
theorem dX12_faultAt_8 : decode cX12_faultAt 8 = .ok (.aload_n 0, 1) := by decide +kernel
theorem dX12_faultAt_9 : decode cX12_faultAt 9 = .ok (.iload_n 1, 1) := by decide +kernel
theorem dX12_faultAt_10 : decode cX12_faultAt 10 = .ok (.invokevirtual 201, 3) := by decide +kernel
theorem dX12_faultAt_13 : decode cX12_faultAt 13 = .ok (.istore_n 2, 1) := by decide +kernel
theorem dX12_faultAt_14 : decode cX12_faultAt 14 = .ok (.aload_n 0, 1) := by decide +kernel
theorem dX12_faultAt_15 : decode cX12_faultAt 15 = .ok (.iload_n 2, 1) := by decide +kernel
theorem dX12_faultAt_16 : decode cX12_faultAt 16 = .ok (.iconst (-1), 1) := by decide +kernel
theorem dX12_faultAt_17 : decode cX12_faultAt 17 = .ok (.if_icmp .ne 7, 3) := by decide +kernel
theorem dX12_faultAt_20 : decode cX12_faultAt 20 = .ok (.iconst 1, 1) := by decide +kernel
theorem dX12_faultAt_21 : decode cX12_faultAt 21 = .ok (.goto 4, 3) := by decide +kernel
theorem dX12_faultAt_24 : decode cX12_faultAt 24 = .ok (.iconst 0, 1) := by decide +kernel
theorem dX12_faultAt_25 : decode cX12_faultAt 25 = .ok (.invokevirtual 43, 3) := by decide +kernel
theorem dX12_faultAt_28 : decode cX12_faultAt 28 = .ok (.ifCond .eq 7, 3) := by decide +kernel
theorem dX12_faultAt_31 : decode cX12_faultAt 31 = .ok (.iconst 0, 1) := by decide +kernel
theorem dX12_faultAt_32 : decode cX12_faultAt 32 = .ok (.goto 4, 3) := by decide +kernel
theorem dX12_faultAt_35 : decode cX12_faultAt 35 = .ok (.iload_n 2, 1) := by decide +kernel
theorem dX12_faultAt_36 : decode cX12_faultAt 36 = .ok (.ireturn, 1) := by decide +kernel
theorem dX12_checksum_0 : decode cX12_checksum 0 = .ok (.aload_n 0, 1) := by decide +kernel
theorem dX12_checksum_1 : decode cX12_checksum 1 = .ok (.iconst 0, 1) := by decide +kernel
theorem dX12_checksum_2 : decode cX12_checksum 2 = .ok (.putfield 32, 3) := by decide +kernel
theorem dX12_checksum_5 : decode cX12_checksum 5 = .ok (.lconst 0, 1) := by decide +kernel
theorem dX12_checksum_6 : decode cX12_checksum 6 = .ok (.lstore_n 1, 1) := by decide +kernel
theorem dX12_checksum_7 : decode cX12_checksum 7 = .ok (.iconst 0, 1) := by decide +kernel
theorem dX12_checksum_8 : decode cX12_checksum 8 = .ok (.istore_n 3, 1) := by decide +kernel
theorem dX12_checksum_9 : decode cX12_checksum 9 = .ok (.iload_n 3, 1) := by decide +kernel
theorem dX12_checksum_10 : decode cX12_checksum 10 = .ok (.iconst 3, 1) := by decide +kernel
theorem dX12_checksum_11 : decode cX12_checksum 11 = .ok (.if_icmp .ge 78, 3) := by decide +kernel
theorem dX12_checksum_14 : decode cX12_checksum 14 = .ok (.iconst 0, 1) := by decide +kernel
theorem dX12_checksum_15 : decode cX12_checksum 15 = .ok (.istore 4, 2) := by decide +kernel
theorem dX12_checksum_17 : decode cX12_checksum 17 = .ok (.iload 4, 2) := by decide +kernel
theorem dX12_checksum_19 : decode cX12_checksum 19 = .ok (.sipush 768, 3) := by decide +kernel
theorem dX12_checksum_22 : decode cX12_checksum 22 = .ok (.if_icmp .ge 61, 3) := by decide +kernel
theorem dX12_checksum_25 : decode cX12_checksum 25 = .ok (.aload_n 0, 1) := by decide +kernel
theorem dX12_checksum_26 : decode cX12_checksum 26 = .ok (.getfield 11, 3) := by decide +kernel
theorem dX12_checksum_29 : decode cX12_checksum 29 = .ok (.iload_n 3, 1) := by decide +kernel
theorem dX12_checksum_30 : decode cX12_checksum 30 = .ok (.aaload, 1) := by decide +kernel
theorem dX12_checksum_31 : decode cX12_checksum 31 = .ok (.iload 4, 2) := by decide +kernel
theorem dX12_checksum_33 : decode cX12_checksum 33 = .ok (.baload, 1) := by decide +kernel
theorem dX12_checksum_34 : decode cX12_checksum 34 = .ok (.ifCond .eq 43, 3) := by decide +kernel
theorem dX12_checksum_37 : decode cX12_checksum 37 = .ok (.ldc2_w 204, 3) := by decide +kernel
theorem dX12_checksum_40 : decode cX12_checksum 40 = .ok (.lload_n 1, 1) := by decide +kernel
theorem dX12_checksum_41 : decode cX12_checksum 41 = .ok (.lmul, 1) := by decide +kernel
theorem dX12_checksum_42 : decode cX12_checksum 42 = .ok (.iload_n 3, 1) := by decide +kernel
theorem dX12_checksum_43 : decode cX12_checksum 43 = .ok (.i2l, 1) := by decide +kernel
theorem dX12_checksum_44 : decode cX12_checksum 44 = .ok (.ladd, 1) := by decide +kernel
theorem dX12_checksum_45 : decode cX12_checksum 45 = .ok (.iconst 3, 1) := by decide +kernel
theorem dX12_checksum_46 : decode cX12_checksum 46 = .ok (.iload 4, 2) := by decide +kernel
theorem dX12_checksum_48 : decode cX12_checksum 48 = .ok (.bipush 96, 2) := by decide +kernel
theorem dX12_checksum_50 : decode cX12_checksum 50 = .ok (.idiv, 1) := by decide +kernel
theorem dX12_checksum_51 : decode cX12_checksum 51 = .ok (.imul, 1) := by decide +kernel
theorem dX12_checksum_52 : decode cX12_checksum 52 = .ok (.i2l, 1) := by decide +kernel
theorem dX12_checksum_53 : decode cX12_checksum 53 = .ok (.ladd, 1) := by decide +kernel
theorem dX12_checksum_54 : decode cX12_checksum 54 = .ok (.iconst 5, 1) := by decide +kernel
theorem dX12_checksum_55 : decode cX12_checksum 55 = .ok (.iload 4, 2) := by decide +kernel
theorem dX12_checksum_57 : decode cX12_checksum 57 = .ok (.bipush 12, 2) := by decide +kernel
theorem dX12_checksum_59 : decode cX12_checksum 59 = .ok (.idiv, 1) := by decide +kernel
theorem dX12_checksum_60 : decode cX12_checksum 60 = .ok (.bipush 8, 2) := by decide +kernel
theorem dX12_checksum_62 : decode cX12_checksum 62 = .ok (.irem, 1) := by decide +kernel
theorem dX12_checksum_63 : decode cX12_checksum 63 = .ok (.imul, 1) := by decide +kernel
theorem dX12_checksum_64 : decode cX12_checksum 64 = .ok (.i2l, 1) := by decide +kernel
theorem dX12_checksum_65 : decode cX12_checksum 65 = .ok (.ladd, 1) := by decide +kernel
theorem dX12_checksum_66 : decode cX12_checksum 66 = .ok (.bipush 7, 2) := by decide +kernel
theorem dX12_checksum_68 : decode cX12_checksum 68 = .ok (.iload 4, 2) := by decide +kernel
theorem dX12_checksum_70 : decode cX12_checksum 70 = .ok (.bipush 12, 2) := by decide +kernel
theorem dX12_checksum_72 : decode cX12_checksum 72 = .ok (.irem, 1) := by decide +kernel
theorem dX12_checksum_73 : decode cX12_checksum 73 = .ok (.imul, 1) := by decide +kernel
theorem dX12_checksum_74 : decode cX12_checksum 74 = .ok (.i2l, 1) := by decide +kernel
theorem dX12_checksum_75 : decode cX12_checksum 75 = .ok (.ladd, 1) := by decide +kernel
theorem dX12_checksum_76 : decode cX12_checksum 76 = .ok (.lstore_n 1, 1) := by decide +kernel
theorem dX12_checksum_77 : decode cX12_checksum 77 = .ok (.iinc 4 1, 3) := by decide +kernel
theorem dX12_checksum_80 : decode cX12_checksum 80 = .ok (.goto (-63), 3) := by decide +kernel
theorem dX12_checksum_83 : decode cX12_checksum 83 = .ok (.iinc 3 1, 3) := by decide +kernel
theorem dX12_checksum_86 : decode cX12_checksum 86 = .ok (.goto (-77), 3) := by decide +kernel
theorem dX12_checksum_89 : decode cX12_checksum 89 = .ok (.lload_n 1, 1) := by decide +kernel
theorem dX12_checksum_90 : decode cX12_checksum 90 = .ok (.lreturn, 1) := by decide +kernel
theorem dX12_thereShare_0 : decode cX12_thereShare 0 = .ok (.iconst 0, 1) := by decide +kernel
theorem dX12_thereShare_1 : decode cX12_thereShare 1 = .ok (.istore_n 1, 1) := by decide +kernel
theorem dX12_thereShare_2 : decode cX12_thereShare 2 = .ok (.aload_n 0, 1) := by decide +kernel
theorem dX12_thereShare_3 : decode cX12_thereShare 3 = .ok (.iconst 3, 1) := by decide +kernel
theorem dX12_thereShare_4 : decode cX12_thereShare 4 = .ok (.invokevirtual 83, 3) := by decide +kernel
theorem dX12_thereShare_7 : decode cX12_thereShare 7 = .ok (.astore_n 2, 1) := by decide +kernel
theorem dX12_thereShare_8 : decode cX12_thereShare 8 = .ok (.aload_n 2, 1) := by decide +kernel
theorem dX12_thereShare_9 : decode cX12_thereShare 9 = .ok (.arraylength, 1) := by decide +kernel
theorem dX12_thereShare_10 : decode cX12_thereShare 10 = .ok (.istore_n 3, 1) := by decide +kernel
theorem dX12_thereShare_11 : decode cX12_thereShare 11 = .ok (.iconst 0, 1) := by decide +kernel
theorem dX12_thereShare_12 : decode cX12_thereShare 12 = .ok (.istore 4, 2) := by decide +kernel
theorem dX12_thereShare_14 : decode cX12_thereShare 14 = .ok (.iload 4, 2) := by decide +kernel
theorem dX12_thereShare_16 : decode cX12_thereShare 16 = .ok (.iload_n 3, 1) := by decide +kernel
theorem dX12_thereShare_17 : decode cX12_thereShare 17 = .ok (.if_icmp .ge 28, 3) := by decide +kernel
theorem dX12_thereShare_20 : decode cX12_thereShare 20 = .ok (.aload_n 2, 1) := by decide +kernel
theorem dX12_thereShare_21 : decode cX12_thereShare 21 = .ok (.iload 4, 2) := by decide +kernel
theorem dX12_thereShare_23 : decode cX12_thereShare 23 = .ok (.iaload, 1) := by decide +kernel
theorem dX12_thereShare_24 : decode cX12_thereShare 24 = .ok (.istore 5, 2) := by decide +kernel
theorem dX12_thereShare_26 : decode cX12_thereShare 26 = .ok (.iload_n 1, 1) := by decide +kernel
theorem dX12_thereShare_27 : decode cX12_thereShare 27 = .ok (.iload 5, 2) := by decide +kernel
theorem dX12_thereShare_29 : decode cX12_thereShare 29 = .ok (.ifCond .le 7, 3) := by decide +kernel
theorem dX12_thereShare_32 : decode cX12_thereShare 32 = .ok (.iconst 1, 1) := by decide +kernel
theorem dX12_thereShare_33 : decode cX12_thereShare 33 = .ok (.goto 4, 3) := by decide +kernel
theorem dX12_thereShare_36 : decode cX12_thereShare 36 = .ok (.iconst 0, 1) := by decide +kernel
theorem dX12_thereShare_37 : decode cX12_thereShare 37 = .ok (.iadd, 1) := by decide +kernel
theorem dX12_thereShare_38 : decode cX12_thereShare 38 = .ok (.istore_n 1, 1) := by decide +kernel
theorem dX12_thereShare_39 : decode cX12_thereShare 39 = .ok (.iinc 4 1, 3) := by decide +kernel
theorem dX12_thereShare_42 : decode cX12_thereShare 42 = .ok (.goto (-28), 3) := by decide +kernel
theorem dX12_thereShare_45 : decode cX12_thereShare 45 = .ok (.aload_n 0, 1) := by decide +kernel
theorem dX12_thereShare_46 : decode cX12_thereShare 46 = .ok (.iload_n 1, 1) := by decide +kernel
theorem dX12_thereShare_47 : decode cX12_thereShare 47 = .ok (.ifCond .ne 7, 3) := by decide +kernel
theorem dX12_thereShare_50 : decode cX12_thereShare 50 = .ok (.iconst 1, 1) := by decide +kernel
theorem dX12_thereShare_51 : decode cX12_thereShare 51 = .ok (.goto 4, 3) := by decide +kernel
theorem dX12_thereShare_54 : decode cX12_thereShare 54 = .ok (.iconst 0, 1) := by decide +kernel
theorem dX12_thereShare_55 : decode cX12_thereShare 55 = .ok (.invokevirtual 43, 3) := by decide +kernel
theorem dX12_thereShare_58 : decode cX12_thereShare 58 = .ok (.ifCond .eq 7, 3) := by decide +kernel
theorem dX12_thereShare_61 : decode cX12_thereShare 61 = .ok (.fconst 0, 1) := by decide +kernel
theorem dX12_thereShare_62 : decode cX12_thereShare 62 = .ok (.goto 12, 3) := by decide +kernel
theorem dX12_thereShare_65 : decode cX12_thereShare 65 = .ok (.aload_n 0, 1) := by decide +kernel
theorem dX12_thereShare_66 : decode cX12_thereShare 66 = .ok (.iconst 3, 1) := by decide +kernel
theorem dX12_thereShare_67 : decode cX12_thereShare 67 = .ok (.invokevirtual 58, 3) := by decide +kernel
theorem dX12_thereShare_70 : decode cX12_thereShare 70 = .ok (.i2f, 1) := by decide +kernel
theorem dX12_thereShare_71 : decode cX12_thereShare 71 = .ok (.iload_n 1, 1) := by decide +kernel
theorem dX12_thereShare_72 : decode cX12_thereShare 72 = .ok (.i2f, 1) := by decide +kernel
theorem dX12_thereShare_73 : decode cX12_thereShare 73 = .ok (.fdiv, 1) := by decide +kernel
theorem dX12_thereShare_74 : decode cX12_thereShare 74 = .ok (.freturn, 1) := by decide +kernel
theorem dX12_meanProof_0 : decode cX12_meanProof 0 = .ok (.iconst 0, 1) := by decide +kernel
theorem dX12_meanProof_1 : decode cX12_meanProof 1 = .ok (.istore_n 1, 1) := by decide +kernel
theorem dX12_meanProof_2 : decode cX12_meanProof 2 = .ok (.iconst 0, 1) := by decide +kernel
theorem dX12_meanProof_3 : decode cX12_meanProof 3 = .ok (.istore_n 2, 1) := by decide +kernel
theorem dX12_meanProof_4 : decode cX12_meanProof 4 = .ok (.aload_n 0, 1) := by decide +kernel
theorem dX12_meanProof_5 : decode cX12_meanProof 5 = .ok (.iconst 3, 1) := by decide +kernel
theorem dX12_meanProof_6 : decode cX12_meanProof 6 = .ok (.invokevirtual 83, 3) := by decide +kernel
theorem dX12_meanProof_9 : decode cX12_meanProof 9 = .ok (.astore_n 3, 1) := by decide +kernel
theorem dX12_meanProof_10 : decode cX12_meanProof 10 = .ok (.aload_n 3, 1) := by decide +kernel
theorem dX12_meanProof_11 : decode cX12_meanProof 11 = .ok (.arraylength, 1) := by decide +kernel
theorem dX12_meanProof_12 : decode cX12_meanProof 12 = .ok (.istore 4, 2) := by decide +kernel
theorem dX12_meanProof_14 : decode cX12_meanProof 14 = .ok (.iconst 0, 1) := by decide +kernel
theorem dX12_meanProof_15 : decode cX12_meanProof 15 = .ok (.istore 5, 2) := by decide +kernel
theorem dX12_meanProof_17 : decode cX12_meanProof 17 = .ok (.iload 5, 2) := by decide +kernel
theorem dX12_meanProof_19 : decode cX12_meanProof 19 = .ok (.iload 4, 2) := by decide +kernel
theorem dX12_meanProof_21 : decode cX12_meanProof 21 = .ok (.if_icmp .ge 33, 3) := by decide +kernel
theorem dX12_meanProof_24 : decode cX12_meanProof 24 = .ok (.aload_n 3, 1) := by decide +kernel
theorem dX12_meanProof_25 : decode cX12_meanProof 25 = .ok (.iload 5, 2) := by decide +kernel
theorem dX12_meanProof_27 : decode cX12_meanProof 27 = .ok (.iaload, 1) := by decide +kernel
theorem dX12_meanProof_28 : decode cX12_meanProof 28 = .ok (.istore 6, 2) := by decide +kernel
theorem dX12_meanProof_30 : decode cX12_meanProof 30 = .ok (.iload_n 1, 1) := by decide +kernel
theorem dX12_meanProof_31 : decode cX12_meanProof 31 = .ok (.iload 6, 2) := by decide +kernel
theorem dX12_meanProof_33 : decode cX12_meanProof 33 = .ok (.iadd, 1) := by decide +kernel
theorem dX12_meanProof_34 : decode cX12_meanProof 34 = .ok (.istore_n 1, 1) := by decide +kernel
theorem dX12_meanProof_35 : decode cX12_meanProof 35 = .ok (.iload_n 2, 1) := by decide +kernel
theorem dX12_meanProof_36 : decode cX12_meanProof 36 = .ok (.iload 6, 2) := by decide +kernel
theorem dX12_meanProof_38 : decode cX12_meanProof 38 = .ok (.ifCond .le 7, 3) := by decide +kernel
theorem dX12_meanProof_41 : decode cX12_meanProof 41 = .ok (.iconst 1, 1) := by decide +kernel
theorem dX12_meanProof_42 : decode cX12_meanProof 42 = .ok (.goto 4, 3) := by decide +kernel
theorem dX12_meanProof_45 : decode cX12_meanProof 45 = .ok (.iconst 0, 1) := by decide +kernel
theorem dX12_meanProof_46 : decode cX12_meanProof 46 = .ok (.iadd, 1) := by decide +kernel
theorem dX12_meanProof_47 : decode cX12_meanProof 47 = .ok (.istore_n 2, 1) := by decide +kernel
theorem dX12_meanProof_48 : decode cX12_meanProof 48 = .ok (.iinc 5 1, 3) := by decide +kernel
theorem dX12_meanProof_51 : decode cX12_meanProof 51 = .ok (.goto (-34), 3) := by decide +kernel
theorem dX12_meanProof_54 : decode cX12_meanProof 54 = .ok (.aload_n 0, 1) := by decide +kernel
theorem dX12_meanProof_55 : decode cX12_meanProof 55 = .ok (.iload_n 2, 1) := by decide +kernel
theorem dX12_meanProof_56 : decode cX12_meanProof 56 = .ok (.ifCond .ne 7, 3) := by decide +kernel
theorem dX12_meanProof_59 : decode cX12_meanProof 59 = .ok (.iconst 1, 1) := by decide +kernel
theorem dX12_meanProof_60 : decode cX12_meanProof 60 = .ok (.goto 4, 3) := by decide +kernel
theorem dX12_meanProof_63 : decode cX12_meanProof 63 = .ok (.iconst 0, 1) := by decide +kernel
theorem dX12_meanProof_64 : decode cX12_meanProof 64 = .ok (.invokevirtual 43, 3) := by decide +kernel
theorem dX12_meanProof_67 : decode cX12_meanProof 67 = .ok (.ifCond .eq 7, 3) := by decide +kernel
theorem dX12_meanProof_70 : decode cX12_meanProof 70 = .ok (.dconst 0, 1) := by decide +kernel
theorem dX12_meanProof_71 : decode cX12_meanProof 71 = .ok (.goto 8, 3) := by decide +kernel
theorem dX12_meanProof_74 : decode cX12_meanProof 74 = .ok (.iload_n 1, 1) := by decide +kernel
theorem dX12_meanProof_75 : decode cX12_meanProof 75 = .ok (.i2d, 1) := by decide +kernel
theorem dX12_meanProof_76 : decode cX12_meanProof 76 = .ok (.iload_n 2, 1) := by decide +kernel
theorem dX12_meanProof_77 : decode cX12_meanProof 77 = .ok (.i2d, 1) := by decide +kernel
theorem dX12_meanProof_78 : decode cX12_meanProof 78 = .ok (.ddiv, 1) := by decide +kernel
theorem dX12_meanProof_79 : decode cX12_meanProof 79 = .ok (.dreturn, 1) := by decide +kernel
theorem dX12_isSound_0 : decode cX12_isSound 0 = .ok (.aload_n 0, 1) := by decide +kernel
theorem dX12_isSound_1 : decode cX12_isSound 1 = .ok (.iconst 0, 1) := by decide +kernel
theorem dX12_isSound_2 : decode cX12_isSound 2 = .ok (.putfield 32, 3) := by decide +kernel
theorem dX12_isSound_5 : decode cX12_isSound 5 = .ok (.iconst 1, 1) := by decide +kernel
theorem dX12_isSound_6 : decode cX12_isSound 6 = .ok (.ireturn, 1) := by decide +kernel
theorem dJxa1e45_init_da8c8_0 : decode cJxa1e45_init_da8c8 0 = .ok (.aload_n 0, 1) := by decide +kernel
theorem dJxa1e45_init_da8c8_1 : decode cJxa1e45_init_da8c8 1 = .ok (.invokespecial 1, 3) := by decide +kernel
theorem dJxa1e45_init_da8c8_4 : decode cJxa1e45_init_da8c8 4 = .ok (.return_, 1) := by decide +kernel
theorem dJxc12de_init_da8c8_0 : decode cJxc12de_init_da8c8 0 = .ok (.aload_n 0, 1) := by decide +kernel
theorem dJxc12de_init_da8c8_1 : decode cJxc12de_init_da8c8 1 = .ok (.invokespecial 1, 3) := by decide +kernel
theorem dJxc12de_init_da8c8_4 : decode cJxc12de_init_da8c8 4 = .ok (.aload_n 0, 1) := by decide +kernel
theorem dJxc12de_init_da8c8_5 : decode cJxc12de_init_da8c8 5 = .ok (.iconst 0, 1) := by decide +kernel
theorem dJxc12de_init_da8c8_6 : decode cJxc12de_init_da8c8 6 = .ok (.putfield 7, 3) := by decide +kernel
theorem dJxc12de_init_da8c8_9 : decode cJxc12de_init_da8c8 9 = .ok (.return_, 1) := by decide +kernel
theorem dJx4a65c_init_da8c8_0 : decode cJx4a65c_init_da8c8 0 = .ok (.aload_n 0, 1) := by decide +kernel
theorem dJx4a65c_init_da8c8_1 : decode cJx4a65c_init_da8c8 1 = .ok (.invokespecial 1, 3) := by decide +kernel
theorem dJx4a65c_init_da8c8_4 : decode cJx4a65c_init_da8c8 4 = .ok (.aload_n 0, 1) := by decide +kernel
theorem dJx4a65c_init_da8c8_5 : decode cJx4a65c_init_da8c8 5 = .ok (.getstatic 39, 3) := by decide +kernel
theorem dJx4a65c_init_da8c8_8 : decode cJx4a65c_init_da8c8 8 = .ok (.putfield 9, 3) := by decide +kernel
theorem dJx4a65c_init_da8c8_11 : decode cJx4a65c_init_da8c8 11 = .ok (.return_, 1) := by decide +kernel
theorem dJx4a65c_grow_92f84_0 : decode cJx4a65c_grow_92f84 0 = .ok (.aload_n 0, 1) := by decide +kernel
theorem dJx4a65c_grow_92f84_1 : decode cJx4a65c_grow_92f84 1 = .ok (.getfield 9, 3) := by decide +kernel
theorem dJx4a65c_grow_92f84_4 : decode cJx4a65c_grow_92f84 4 = .ok (.arraylength, 1) := by decide +kernel
theorem dJx4a65c_grow_92f84_5 : decode cJx4a65c_grow_92f84 5 = .ok (.istore_n 2, 1) := by decide +kernel
theorem dJx4a65c_grow_92f84_6 : decode cJx4a65c_grow_92f84 6 = .ok (.iload_n 2, 1) := by decide +kernel
theorem dJx4a65c_grow_92f84_7 : decode cJx4a65c_grow_92f84 7 = .ok (.ifCond .gt 13, 3) := by decide +kernel
theorem dJx4a65c_grow_92f84_10 : decode cJx4a65c_grow_92f84 10 = .ok (.aload_n 0, 1) := by decide +kernel
theorem dJx4a65c_grow_92f84_11 : decode cJx4a65c_grow_92f84 11 = .ok (.getfield 9, 3) := by decide +kernel
theorem dJx4a65c_grow_92f84_14 : decode cJx4a65c_grow_92f84 14 = .ok (.getstatic 39, 3) := by decide +kernel
theorem dJx4a65c_grow_92f84_17 : decode cJx4a65c_grow_92f84 17 = .ok (.if_acmp .eq 28, 3) := by decide +kernel
theorem dJx4a65c_grow_92f84_20 : decode cJx4a65c_grow_92f84 20 = .ok (.iload_n 2, 1) := by decide +kernel
theorem dJx4a65c_grow_92f84_21 : decode cJx4a65c_grow_92f84 21 = .ok (.iload_n 1, 1) := by decide +kernel
theorem dJx4a65c_grow_92f84_22 : decode cJx4a65c_grow_92f84 22 = .ok (.iload_n 2, 1) := by decide +kernel
theorem dJx4a65c_grow_92f84_23 : decode cJx4a65c_grow_92f84 23 = .ok (.isub, 1) := by decide +kernel
theorem dJx4a65c_grow_92f84_24 : decode cJx4a65c_grow_92f84 24 = .ok (.iload_n 2, 1) := by decide +kernel
theorem dJx4a65c_grow_92f84_25 : decode cJx4a65c_grow_92f84 25 = .ok (.iconst 1, 1) := by decide +kernel
theorem dJx4a65c_grow_92f84_26 : decode cJx4a65c_grow_92f84 26 = .ok (.ishr, 1) := by decide +kernel
theorem dJx4a65c_grow_92f84_27 : decode cJx4a65c_grow_92f84 27 = .ok (.invokestatic 73, 3) := by decide +kernel
theorem dJx4a65c_grow_92f84_30 : decode cJx4a65c_grow_92f84 30 = .ok (.istore_n 3, 1) := by decide +kernel
theorem dJx4a65c_grow_92f84_31 : decode cJx4a65c_grow_92f84 31 = .ok (.aload_n 0, 1) := by decide +kernel
theorem dJx4a65c_grow_92f84_32 : decode cJx4a65c_grow_92f84 32 = .ok (.aload_n 0, 1) := by decide +kernel
theorem dJx4a65c_grow_92f84_33 : decode cJx4a65c_grow_92f84 33 = .ok (.getfield 9, 3) := by decide +kernel
theorem dJx4a65c_grow_92f84_36 : decode cJx4a65c_grow_92f84 36 = .ok (.iload_n 3, 1) := by decide +kernel
theorem dJx4a65c_grow_92f84_37 : decode cJx4a65c_grow_92f84 37 = .ok (.invokestatic 66, 3) := by decide +kernel
theorem dJx4a65c_grow_92f84_40 : decode cJx4a65c_grow_92f84 40 = .ok (.dup_x1, 1) := by decide +kernel
theorem dJx4a65c_grow_92f84_41 : decode cJx4a65c_grow_92f84 41 = .ok (.putfield 9, 3) := by decide +kernel
theorem dJx4a65c_grow_92f84_44 : decode cJx4a65c_grow_92f84 44 = .ok (.areturn, 1) := by decide +kernel
theorem dJx4a65c_grow_92f84_45 : decode cJx4a65c_grow_92f84 45 = .ok (.aload_n 0, 1) := by decide +kernel
theorem dJx4a65c_grow_92f84_46 : decode cJx4a65c_grow_92f84 46 = .ok (.bipush 10, 2) := by decide +kernel
theorem dJx4a65c_grow_92f84_48 : decode cJx4a65c_grow_92f84 48 = .ok (.iload_n 1, 1) := by decide +kernel
theorem dJx4a65c_grow_92f84_49 : decode cJx4a65c_grow_92f84 49 = .ok (.invokestatic 79, 3) := by decide +kernel
theorem dJx4a65c_grow_92f84_52 : decode cJx4a65c_grow_92f84 52 = .ok (.anewarray 7, 3) := by decide +kernel
theorem dJx4a65c_grow_92f84_55 : decode cJx4a65c_grow_92f84 55 = .ok (.dup_x1, 1) := by decide +kernel
theorem dJx4a65c_grow_92f84_56 : decode cJx4a65c_grow_92f84 56 = .ok (.putfield 9, 3) := by decide +kernel
theorem dJx4a65c_grow_92f84_59 : decode cJx4a65c_grow_92f84 59 = .ok (.areturn, 1) := by decide +kernel
theorem dJx4a65c_grow_d5877_0 : decode cJx4a65c_grow_d5877 0 = .ok (.aload_n 0, 1) := by decide +kernel
theorem dJx4a65c_grow_d5877_1 : decode cJx4a65c_grow_d5877 1 = .ok (.aload_n 0, 1) := by decide +kernel
theorem dJx4a65c_grow_d5877_2 : decode cJx4a65c_grow_d5877 2 = .ok (.getfield 48, 3) := by decide +kernel
theorem dJx4a65c_grow_d5877_5 : decode cJx4a65c_grow_d5877 5 = .ok (.iconst 1, 1) := by decide +kernel
theorem dJx4a65c_grow_d5877_6 : decode cJx4a65c_grow_d5877 6 = .ok (.iadd, 1) := by decide +kernel
theorem dJx4a65c_grow_d5877_7 : decode cJx4a65c_grow_d5877 7 = .ok (.invokevirtual 69, 3) := by decide +kernel
theorem dJx4a65c_grow_d5877_10 : decode cJx4a65c_grow_d5877 10 = .ok (.areturn, 1) := by decide +kernel
theorem dJx4a65c_size_8abf5_0 : decode cJx4a65c_size_8abf5 0 = .ok (.aload_n 0, 1) := by decide +kernel
theorem dJx4a65c_size_8abf5_1 : decode cJx4a65c_size_8abf5 1 = .ok (.getfield 48, 3) := by decide +kernel
theorem dJx4a65c_size_8abf5_4 : decode cJx4a65c_size_8abf5 4 = .ok (.ireturn, 1) := by decide +kernel
theorem dJx4a65c_add_72be8_0 : decode cJx4a65c_add_72be8 0 = .ok (.iload_n 3, 1) := by decide +kernel
theorem dJx4a65c_add_72be8_1 : decode cJx4a65c_add_72be8 1 = .ok (.aload_n 2, 1) := by decide +kernel
theorem dJx4a65c_add_72be8_2 : decode cJx4a65c_add_72be8 2 = .ok (.arraylength, 1) := by decide +kernel
theorem dJx4a65c_add_72be8_3 : decode cJx4a65c_add_72be8 3 = .ok (.if_icmp .ne 8, 3) := by decide +kernel
theorem dJx4a65c_add_72be8_6 : decode cJx4a65c_add_72be8 6 = .ok (.aload_n 0, 1) := by decide +kernel
theorem dJx4a65c_add_72be8_7 : decode cJx4a65c_add_72be8 7 = .ok (.invokevirtual 129, 3) := by decide +kernel
theorem dJx4a65c_add_72be8_10 : decode cJx4a65c_add_72be8 10 = .ok (.astore_n 2, 1) := by decide +kernel
theorem dJx4a65c_add_72be8_11 : decode cJx4a65c_add_72be8 11 = .ok (.aload_n 2, 1) := by decide +kernel
theorem dJx4a65c_add_72be8_12 : decode cJx4a65c_add_72be8 12 = .ok (.iload_n 3, 1) := by decide +kernel
theorem dJx4a65c_add_72be8_13 : decode cJx4a65c_add_72be8 13 = .ok (.aload_n 1, 1) := by decide +kernel
theorem dJx4a65c_add_72be8_14 : decode cJx4a65c_add_72be8 14 = .ok (.aastore, 1) := by decide +kernel
theorem dJx4a65c_add_72be8_15 : decode cJx4a65c_add_72be8 15 = .ok (.aload_n 0, 1) := by decide +kernel
theorem dJx4a65c_add_72be8_16 : decode cJx4a65c_add_72be8 16 = .ok (.iload_n 3, 1) := by decide +kernel
theorem dJx4a65c_add_72be8_17 : decode cJx4a65c_add_72be8 17 = .ok (.iconst 1, 1) := by decide +kernel
theorem dJx4a65c_add_72be8_18 : decode cJx4a65c_add_72be8 18 = .ok (.iadd, 1) := by decide +kernel
theorem dJx4a65c_add_72be8_19 : decode cJx4a65c_add_72be8 19 = .ok (.putfield 48, 3) := by decide +kernel
theorem dJx4a65c_add_72be8_22 : decode cJx4a65c_add_72be8 22 = .ok (.return_, 1) := by decide +kernel
theorem dJx4a65c_add_9ea2d_0 : decode cJx4a65c_add_9ea2d 0 = .ok (.aload_n 0, 1) := by decide +kernel
theorem dJx4a65c_add_9ea2d_1 : decode cJx4a65c_add_9ea2d 1 = .ok (.dup, 1) := by decide +kernel
theorem dJx4a65c_add_9ea2d_2 : decode cJx4a65c_add_9ea2d 2 = .ok (.getfield 63, 3) := by decide +kernel
theorem dJx4a65c_add_9ea2d_5 : decode cJx4a65c_add_9ea2d 5 = .ok (.iconst 1, 1) := by decide +kernel
theorem dJx4a65c_add_9ea2d_6 : decode cJx4a65c_add_9ea2d 6 = .ok (.iadd, 1) := by decide +kernel
theorem dJx4a65c_add_9ea2d_7 : decode cJx4a65c_add_9ea2d 7 = .ok (.putfield 63, 3) := by decide +kernel
theorem dJx4a65c_add_9ea2d_10 : decode cJx4a65c_add_9ea2d 10 = .ok (.aload_n 0, 1) := by decide +kernel
theorem dJx4a65c_add_9ea2d_11 : decode cJx4a65c_add_9ea2d 11 = .ok (.aload_n 1, 1) := by decide +kernel
theorem dJx4a65c_add_9ea2d_12 : decode cJx4a65c_add_9ea2d 12 = .ok (.aload_n 0, 1) := by decide +kernel
theorem dJx4a65c_add_9ea2d_13 : decode cJx4a65c_add_9ea2d 13 = .ok (.getfield 9, 3) := by decide +kernel
theorem dJx4a65c_add_9ea2d_16 : decode cJx4a65c_add_9ea2d 16 = .ok (.aload_n 0, 1) := by decide +kernel
theorem dJx4a65c_add_9ea2d_17 : decode cJx4a65c_add_9ea2d 17 = .ok (.getfield 48, 3) := by decide +kernel
theorem dJx4a65c_add_9ea2d_20 : decode cJx4a65c_add_9ea2d 20 = .ok (.invokevirtual 131, 3) := by decide +kernel
theorem dJx4a65c_add_9ea2d_23 : decode cJx4a65c_add_9ea2d 23 = .ok (.iconst 1, 1) := by decide +kernel
theorem dJx4a65c_add_9ea2d_24 : decode cJx4a65c_add_9ea2d 24 = .ok (.ireturn, 1) := by decide +kernel
theorem dJx4a65c_clear_da8c8_0 : decode cJx4a65c_clear_da8c8 0 = .ok (.aload_n 0, 1) := by decide +kernel
theorem dJx4a65c_clear_da8c8_1 : decode cJx4a65c_clear_da8c8 1 = .ok (.dup, 1) := by decide +kernel
theorem dJx4a65c_clear_da8c8_2 : decode cJx4a65c_clear_da8c8 2 = .ok (.getfield 63, 3) := by decide +kernel
theorem dJx4a65c_clear_da8c8_5 : decode cJx4a65c_clear_da8c8 5 = .ok (.iconst 1, 1) := by decide +kernel
theorem dJx4a65c_clear_da8c8_6 : decode cJx4a65c_clear_da8c8 6 = .ok (.iadd, 1) := by decide +kernel
theorem dJx4a65c_clear_da8c8_7 : decode cJx4a65c_clear_da8c8 7 = .ok (.putfield 63, 3) := by decide +kernel
theorem dJx4a65c_clear_da8c8_10 : decode cJx4a65c_clear_da8c8 10 = .ok (.aload_n 0, 1) := by decide +kernel
theorem dJx4a65c_clear_da8c8_11 : decode cJx4a65c_clear_da8c8 11 = .ok (.getfield 9, 3) := by decide +kernel
theorem dJx4a65c_clear_da8c8_14 : decode cJx4a65c_clear_da8c8 14 = .ok (.astore_n 1, 1) := by decide +kernel
theorem dJx4a65c_clear_da8c8_15 : decode cJx4a65c_clear_da8c8 15 = .ok (.aload_n 0, 1) := by decide +kernel
theorem dJx4a65c_clear_da8c8_16 : decode cJx4a65c_clear_da8c8 16 = .ok (.getfield 48, 3) := by decide +kernel
theorem dJx4a65c_clear_da8c8_19 : decode cJx4a65c_clear_da8c8 19 = .ok (.istore_n 2, 1) := by decide +kernel
theorem dJx4a65c_clear_da8c8_20 : decode cJx4a65c_clear_da8c8 20 = .ok (.aload_n 0, 1) := by decide +kernel
theorem dJx4a65c_clear_da8c8_21 : decode cJx4a65c_clear_da8c8 21 = .ok (.iconst 0, 1) := by decide +kernel
theorem dJx4a65c_clear_da8c8_22 : decode cJx4a65c_clear_da8c8 22 = .ok (.dup_x1, 1) := by decide +kernel
theorem dJx4a65c_clear_da8c8_23 : decode cJx4a65c_clear_da8c8 23 = .ok (.putfield 48, 3) := by decide +kernel
theorem dJx4a65c_clear_da8c8_26 : decode cJx4a65c_clear_da8c8 26 = .ok (.istore_n 3, 1) := by decide +kernel
theorem dJx4a65c_clear_da8c8_27 : decode cJx4a65c_clear_da8c8 27 = .ok (.iload_n 3, 1) := by decide +kernel
theorem dJx4a65c_clear_da8c8_28 : decode cJx4a65c_clear_da8c8 28 = .ok (.iload_n 2, 1) := by decide +kernel
theorem dJx4a65c_clear_da8c8_29 : decode cJx4a65c_clear_da8c8 29 = .ok (.if_icmp .ge 13, 3) := by decide +kernel
theorem dJx4a65c_clear_da8c8_32 : decode cJx4a65c_clear_da8c8 32 = .ok (.aload_n 1, 1) := by decide +kernel
theorem dJx4a65c_clear_da8c8_33 : decode cJx4a65c_clear_da8c8 33 = .ok (.iload_n 3, 1) := by decide +kernel
theorem dJx4a65c_clear_da8c8_34 : decode cJx4a65c_clear_da8c8 34 = .ok (.aconst_null, 1) := by decide +kernel
theorem dJx4a65c_clear_da8c8_35 : decode cJx4a65c_clear_da8c8 35 = .ok (.aastore, 1) := by decide +kernel
theorem dJx4a65c_clear_da8c8_36 : decode cJx4a65c_clear_da8c8 36 = .ok (.iinc 3 1, 3) := by decide +kernel
theorem dJx4a65c_clear_da8c8_39 : decode cJx4a65c_clear_da8c8 39 = .ok (.goto (-12), 3) := by decide +kernel
theorem dJx4a65c_clear_da8c8_42 : decode cJx4a65c_clear_da8c8 42 = .ok (.return_, 1) := by decide +kernel
theorem dJ7_fill_d0a16_0 : decode cJ7_fill_d0a16 0 = .ok (.iconst 0, 1) := by decide +kernel
theorem dJ7_fill_d0a16_1 : decode cJ7_fill_d0a16 1 = .ok (.istore_n 3, 1) := by decide +kernel
theorem dJ7_fill_d0a16_2 : decode cJ7_fill_d0a16 2 = .ok (.aload_n 0, 1) := by decide +kernel
theorem dJ7_fill_d0a16_3 : decode cJ7_fill_d0a16 3 = .ok (.arraylength, 1) := by decide +kernel
theorem dJ7_fill_d0a16_4 : decode cJ7_fill_d0a16 4 = .ok (.istore 4, 2) := by decide +kernel
theorem dJ7_fill_d0a16_6 : decode cJ7_fill_d0a16 6 = .ok (.iload_n 3, 1) := by decide +kernel
theorem dJ7_fill_d0a16_7 : decode cJ7_fill_d0a16 7 = .ok (.iload 4, 2) := by decide +kernel
theorem dJ7_fill_d0a16_9 : decode cJ7_fill_d0a16 9 = .ok (.if_icmp .ge 13, 3) := by decide +kernel
theorem dJ7_fill_d0a16_12 : decode cJ7_fill_d0a16 12 = .ok (.aload_n 0, 1) := by decide +kernel
theorem dJ7_fill_d0a16_13 : decode cJ7_fill_d0a16 13 = .ok (.iload_n 3, 1) := by decide +kernel
theorem dJ7_fill_d0a16_14 : decode cJ7_fill_d0a16 14 = .ok (.lload_n 1, 1) := by decide +kernel
theorem dJ7_fill_d0a16_15 : decode cJ7_fill_d0a16 15 = .ok (.lastore, 1) := by decide +kernel
theorem dJ7_fill_d0a16_16 : decode cJ7_fill_d0a16 16 = .ok (.iinc 3 1, 3) := by decide +kernel
theorem dJ7_fill_d0a16_19 : decode cJ7_fill_d0a16 19 = .ok (.goto (-13), 3) := by decide +kernel
theorem dJ7_fill_d0a16_22 : decode cJ7_fill_d0a16 22 = .ok (.return_, 1) := by decide +kernel
