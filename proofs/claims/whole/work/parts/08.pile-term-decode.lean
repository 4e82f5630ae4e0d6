theorem d_Pile_empty_0 : decode b_Pile_empty 0 = .ok (.aload_n 0, 1) := by decide +kernel
theorem d_Pile_empty_1 : decode b_Pile_empty 1 = .ok (.iconst 0, 1) := by decide +kernel
theorem d_Pile_empty_2 : decode b_Pile_empty 2 = .ok (.putfield 21, 3) := by decide +kernel
theorem d_Pile_empty_5 : decode b_Pile_empty 5 = .ok (.aload_n 0, 1) := by decide +kernel
theorem d_Pile_empty_6 : decode b_Pile_empty 6 = .ok (.iconst 0, 1) := by decide +kernel
theorem d_Pile_empty_7 : decode b_Pile_empty 7 = .ok (.putfield 25, 3) := by decide +kernel
theorem d_Pile_empty_10 : decode b_Pile_empty 10 = .ok (.return_, 1) := by decide +kernel
theorem d_Pile_size_0 : decode b_Pile_size 0 = .ok (.aload_n 0, 1) := by decide +kernel
theorem d_Pile_size_1 : decode b_Pile_size 1 = .ok (.getfield 21, 3) := by decide +kernel
theorem d_Pile_size_4 : decode b_Pile_size 4 = .ok (.ireturn, 1) := by decide +kernel
theorem d_Pile_most_0 : decode b_Pile_most 0 = .ok (.aload_n 0, 1) := by decide +kernel
theorem d_Pile_most_1 : decode b_Pile_most 1 = .ok (.getfield 25, 3) := by decide +kernel
theorem d_Pile_most_4 : decode b_Pile_most 4 = .ok (.ireturn, 1) := by decide +kernel
theorem d_Pile_isFull_0 : decode b_Pile_isFull 0 = .ok (.aload_n 0, 1) := by decide +kernel
theorem d_Pile_isFull_1 : decode b_Pile_isFull 1 = .ok (.getfield 21, 3) := by decide +kernel
theorem d_Pile_isFull_4 : decode b_Pile_isFull 4 = .ok (.sipush 200, 3) := by decide +kernel
theorem d_Pile_isFull_7 : decode b_Pile_isFull 7 = .ok (.if_icmp .ne 7, 3) := by decide +kernel
theorem d_Pile_isFull_10 : decode b_Pile_isFull 10 = .ok (.iconst 1, 1) := by decide +kernel
theorem d_Pile_isFull_11 : decode b_Pile_isFull 11 = .ok (.goto 4, 3) := by decide +kernel
theorem d_Pile_isFull_14 : decode b_Pile_isFull 14 = .ok (.iconst 0, 1) := by decide +kernel
theorem d_Pile_isFull_15 : decode b_Pile_isFull 15 = .ok (.ireturn, 1) := by decide +kernel
theorem d_Pile_add_0 : decode b_Pile_add 0 = .ok (.aload_n 0, 1) := by decide +kernel
theorem d_Pile_add_1 : decode b_Pile_add 1 = .ok (.invokevirtual 28, 3) := by decide +kernel
theorem d_Pile_add_4 : decode b_Pile_add 4 = .ok (.ifCond .eq 4, 3) := by decide +kernel
theorem d_Pile_add_7 : decode b_Pile_add 7 = .ok (.return_, 1) := by decide +kernel
theorem d_Pile_add_8 : decode b_Pile_add 8 = .ok (.aload_n 0, 1) := by decide +kernel
theorem d_Pile_add_9 : decode b_Pile_add 9 = .ok (.getfield 9, 3) := by decide +kernel
theorem d_Pile_add_12 : decode b_Pile_add 12 = .ok (.aload_n 0, 1) := by decide +kernel
theorem d_Pile_add_13 : decode b_Pile_add 13 = .ok (.getfield 21, 3) := by decide +kernel
theorem d_Pile_add_16 : decode b_Pile_add 16 = .ok (.iload_n 1, 1) := by decide +kernel
theorem d_Pile_add_17 : decode b_Pile_add 17 = .ok (.iastore, 1) := by decide +kernel
theorem d_Pile_add_18 : decode b_Pile_add 18 = .ok (.aload_n 0, 1) := by decide +kernel
theorem d_Pile_add_19 : decode b_Pile_add 19 = .ok (.getfield 15, 3) := by decide +kernel
theorem d_Pile_add_22 : decode b_Pile_add 22 = .ok (.aload_n 0, 1) := by decide +kernel
theorem d_Pile_add_23 : decode b_Pile_add 23 = .ok (.getfield 21, 3) := by decide +kernel
theorem d_Pile_add_26 : decode b_Pile_add 26 = .ok (.iload_n 2, 1) := by decide +kernel
theorem d_Pile_add_27 : decode b_Pile_add 27 = .ok (.iastore, 1) := by decide +kernel
theorem d_Pile_add_28 : decode b_Pile_add 28 = .ok (.aload_n 0, 1) := by decide +kernel
theorem d_Pile_add_29 : decode b_Pile_add 29 = .ok (.getfield 18, 3) := by decide +kernel
theorem d_Pile_add_32 : decode b_Pile_add 32 = .ok (.aload_n 0, 1) := by decide +kernel
theorem d_Pile_add_33 : decode b_Pile_add 33 = .ok (.getfield 21, 3) := by decide +kernel
theorem d_Pile_add_36 : decode b_Pile_add 36 = .ok (.iload_n 3, 1) := by decide +kernel
theorem d_Pile_add_37 : decode b_Pile_add 37 = .ok (.iastore, 1) := by decide +kernel
theorem d_Pile_add_38 : decode b_Pile_add 38 = .ok (.aload_n 0, 1) := by decide +kernel
theorem d_Pile_add_39 : decode b_Pile_add 39 = .ok (.dup, 1) := by decide +kernel
theorem d_Pile_add_40 : decode b_Pile_add 40 = .ok (.getfield 21, 3) := by decide +kernel
theorem d_Pile_add_43 : decode b_Pile_add 43 = .ok (.iconst 1, 1) := by decide +kernel
theorem d_Pile_add_44 : decode b_Pile_add 44 = .ok (.iadd, 1) := by decide +kernel
theorem d_Pile_add_45 : decode b_Pile_add 45 = .ok (.putfield 21, 3) := by decide +kernel
theorem d_Pile_add_48 : decode b_Pile_add 48 = .ok (.aload_n 0, 1) := by decide +kernel
theorem d_Pile_add_49 : decode b_Pile_add 49 = .ok (.aload_n 0, 1) := by decide +kernel
theorem d_Pile_add_50 : decode b_Pile_add 50 = .ok (.getfield 25, 3) := by decide +kernel
theorem d_Pile_add_53 : decode b_Pile_add 53 = .ok (.aload_n 0, 1) := by decide +kernel
theorem d_Pile_add_54 : decode b_Pile_add 54 = .ok (.getfield 21, 3) := by decide +kernel
theorem d_Pile_add_57 : decode b_Pile_add 57 = .ok (.invokestatic 32, 3) := by decide +kernel
theorem d_Pile_add_60 : decode b_Pile_add 60 = .ok (.putfield 25, 3) := by decide +kernel
theorem d_Pile_add_63 : decode b_Pile_add 63 = .ok (.return_, 1) := by decide +kernel
theorem d_Pile_drop_0 : decode b_Pile_drop 0 = .ok (.aload_n 0, 1) := by decide +kernel
theorem d_Pile_drop_1 : decode b_Pile_drop 1 = .ok (.getfield 21, 3) := by decide +kernel
theorem d_Pile_drop_4 : decode b_Pile_drop 4 = .ok (.ifCond .le 13, 3) := by decide +kernel
theorem d_Pile_drop_7 : decode b_Pile_drop 7 = .ok (.aload_n 0, 1) := by decide +kernel
theorem d_Pile_drop_8 : decode b_Pile_drop 8 = .ok (.dup, 1) := by decide +kernel
theorem d_Pile_drop_9 : decode b_Pile_drop 9 = .ok (.getfield 21, 3) := by decide +kernel
theorem d_Pile_drop_12 : decode b_Pile_drop 12 = .ok (.iconst 1, 1) := by decide +kernel
theorem d_Pile_drop_13 : decode b_Pile_drop 13 = .ok (.isub, 1) := by decide +kernel
theorem d_Pile_drop_14 : decode b_Pile_drop 14 = .ok (.putfield 21, 3) := by decide +kernel
theorem d_Pile_drop_17 : decode b_Pile_drop 17 = .ok (.return_, 1) := by decide +kernel
theorem d_Pile_topSort_0 : decode b_Pile_topSort 0 = .ok (.aload_n 0, 1) := by decide +kernel
theorem d_Pile_topSort_1 : decode b_Pile_topSort 1 = .ok (.getfield 21, 3) := by decide +kernel
theorem d_Pile_topSort_4 : decode b_Pile_topSort 4 = .ok (.ifCond .ne 7, 3) := by decide +kernel
theorem d_Pile_topSort_7 : decode b_Pile_topSort 7 = .ok (.iconst (-1), 1) := by decide +kernel
theorem d_Pile_topSort_8 : decode b_Pile_topSort 8 = .ok (.goto 14, 3) := by decide +kernel
theorem d_Pile_topSort_11 : decode b_Pile_topSort 11 = .ok (.aload_n 0, 1) := by decide +kernel
theorem d_Pile_topSort_12 : decode b_Pile_topSort 12 = .ok (.getfield 9, 3) := by decide +kernel
theorem d_Pile_topSort_15 : decode b_Pile_topSort 15 = .ok (.aload_n 0, 1) := by decide +kernel
theorem d_Pile_topSort_16 : decode b_Pile_topSort 16 = .ok (.getfield 21, 3) := by decide +kernel
theorem d_Pile_topSort_19 : decode b_Pile_topSort 19 = .ok (.iconst 1, 1) := by decide +kernel
theorem d_Pile_topSort_20 : decode b_Pile_topSort 20 = .ok (.isub, 1) := by decide +kernel
theorem d_Pile_topSort_21 : decode b_Pile_topSort 21 = .ok (.iaload, 1) := by decide +kernel
theorem d_Pile_topSort_22 : decode b_Pile_topSort 22 = .ok (.ireturn, 1) := by decide +kernel
theorem d_Pile_topFirst_0 : decode b_Pile_topFirst 0 = .ok (.aload_n 0, 1) := by decide +kernel
theorem d_Pile_topFirst_1 : decode b_Pile_topFirst 1 = .ok (.getfield 21, 3) := by decide +kernel
theorem d_Pile_topFirst_4 : decode b_Pile_topFirst 4 = .ok (.ifCond .ne 7, 3) := by decide +kernel
theorem d_Pile_topFirst_7 : decode b_Pile_topFirst 7 = .ok (.iconst (-1), 1) := by decide +kernel
theorem d_Pile_topFirst_8 : decode b_Pile_topFirst 8 = .ok (.goto 14, 3) := by decide +kernel
theorem d_Pile_topFirst_11 : decode b_Pile_topFirst 11 = .ok (.aload_n 0, 1) := by decide +kernel
theorem d_Pile_topFirst_12 : decode b_Pile_topFirst 12 = .ok (.getfield 15, 3) := by decide +kernel
theorem d_Pile_topFirst_15 : decode b_Pile_topFirst 15 = .ok (.aload_n 0, 1) := by decide +kernel
theorem d_Pile_topFirst_16 : decode b_Pile_topFirst 16 = .ok (.getfield 21, 3) := by decide +kernel
theorem d_Pile_topFirst_19 : decode b_Pile_topFirst 19 = .ok (.iconst 1, 1) := by decide +kernel
theorem d_Pile_topFirst_20 : decode b_Pile_topFirst 20 = .ok (.isub, 1) := by decide +kernel
theorem d_Pile_topFirst_21 : decode b_Pile_topFirst 21 = .ok (.iaload, 1) := by decide +kernel
theorem d_Pile_topFirst_22 : decode b_Pile_topFirst 22 = .ok (.ireturn, 1) := by decide +kernel
theorem d_Pile_topSecond_0 : decode b_Pile_topSecond 0 = .ok (.aload_n 0, 1) := by decide +kernel
theorem d_Pile_topSecond_1 : decode b_Pile_topSecond 1 = .ok (.getfield 21, 3) := by decide +kernel
theorem d_Pile_topSecond_4 : decode b_Pile_topSecond 4 = .ok (.ifCond .ne 7, 3) := by decide +kernel
theorem d_Pile_topSecond_7 : decode b_Pile_topSecond 7 = .ok (.iconst (-1), 1) := by decide +kernel
theorem d_Pile_topSecond_8 : decode b_Pile_topSecond 8 = .ok (.goto 14, 3) := by decide +kernel
theorem d_Pile_topSecond_11 : decode b_Pile_topSecond 11 = .ok (.aload_n 0, 1) := by decide +kernel
theorem d_Pile_topSecond_12 : decode b_Pile_topSecond 12 = .ok (.getfield 18, 3) := by decide +kernel
theorem d_Pile_topSecond_15 : decode b_Pile_topSecond 15 = .ok (.aload_n 0, 1) := by decide +kernel
theorem d_Pile_topSecond_16 : decode b_Pile_topSecond 16 = .ok (.getfield 21, 3) := by decide +kernel
theorem d_Pile_topSecond_19 : decode b_Pile_topSecond 19 = .ok (.iconst 1, 1) := by decide +kernel
theorem d_Pile_topSecond_20 : decode b_Pile_topSecond 20 = .ok (.isub, 1) := by decide +kernel
theorem d_Pile_topSecond_21 : decode b_Pile_topSecond 21 = .ok (.iaload, 1) := by decide +kernel
theorem d_Pile_topSecond_22 : decode b_Pile_topSecond 22 = .ok (.ireturn, 1) := by decide +kernel
theorem d_Pile_reachAll_0 : decode b_Pile_reachAll 0 = .ok (.iconst 0, 1) := by decide +kernel
theorem d_Pile_reachAll_1 : decode b_Pile_reachAll 1 = .ok (.istore_n 2, 1) := by decide +kernel
theorem d_Pile_reachAll_2 : decode b_Pile_reachAll 2 = .ok (.iload_n 2, 1) := by decide +kernel
theorem d_Pile_reachAll_3 : decode b_Pile_reachAll 3 = .ok (.aload_n 0, 1) := by decide +kernel
theorem d_Pile_reachAll_4 : decode b_Pile_reachAll 4 = .ok (.getfield 21, 3) := by decide +kernel
theorem d_Pile_reachAll_7 : decode b_Pile_reachAll 7 = .ok (.if_icmp .ge 71, 3) := by decide +kernel
theorem d_Pile_reachAll_10 : decode b_Pile_reachAll 10 = .ok (.aload_n 0, 1) := by decide +kernel
theorem d_Pile_reachAll_11 : decode b_Pile_reachAll 11 = .ok (.getfield 9, 3) := by decide +kernel
theorem d_Pile_reachAll_14 : decode b_Pile_reachAll 14 = .ok (.iload_n 2, 1) := by decide +kernel
theorem d_Pile_reachAll_15 : decode b_Pile_reachAll 15 = .ok (.iaload, 1) := by decide +kernel
theorem d_Pile_reachAll_16 : decode b_Pile_reachAll 16 = .ok (.ifCond .eq 13, 3) := by decide +kernel
theorem d_Pile_reachAll_19 : decode b_Pile_reachAll 19 = .ok (.aload_n 0, 1) := by decide +kernel
theorem d_Pile_reachAll_20 : decode b_Pile_reachAll 20 = .ok (.getfield 9, 3) := by decide +kernel
theorem d_Pile_reachAll_23 : decode b_Pile_reachAll 23 = .ok (.iload_n 2, 1) := by decide +kernel
theorem d_Pile_reachAll_24 : decode b_Pile_reachAll 24 = .ok (.iaload, 1) := by decide +kernel
theorem d_Pile_reachAll_25 : decode b_Pile_reachAll 25 = .ok (.iconst 1, 1) := by decide +kernel
theorem d_Pile_reachAll_26 : decode b_Pile_reachAll 26 = .ok (.if_icmp .ne 16, 3) := by decide +kernel
theorem d_Pile_reachAll_29 : decode b_Pile_reachAll 29 = .ok (.aload_n 1, 1) := by decide +kernel
theorem d_Pile_reachAll_30 : decode b_Pile_reachAll 30 = .ok (.aload_n 0, 1) := by decide +kernel
theorem d_Pile_reachAll_31 : decode b_Pile_reachAll 31 = .ok (.getfield 15, 3) := by decide +kernel
theorem d_Pile_reachAll_34 : decode b_Pile_reachAll 34 = .ok (.iload_n 2, 1) := by decide +kernel
theorem d_Pile_reachAll_35 : decode b_Pile_reachAll 35 = .ok (.iaload, 1) := by decide +kernel
theorem d_Pile_reachAll_36 : decode b_Pile_reachAll 36 = .ok (.invokevirtual 38, 3) := by decide +kernel
theorem d_Pile_reachAll_39 : decode b_Pile_reachAll 39 = .ok (.goto 33, 3) := by decide +kernel
theorem d_Pile_reachAll_42 : decode b_Pile_reachAll 42 = .ok (.aload_n 0, 1) := by decide +kernel
theorem d_Pile_reachAll_43 : decode b_Pile_reachAll 43 = .ok (.getfield 9, 3) := by decide +kernel
theorem d_Pile_reachAll_46 : decode b_Pile_reachAll 46 = .ok (.iload_n 2, 1) := by decide +kernel
theorem d_Pile_reachAll_47 : decode b_Pile_reachAll 47 = .ok (.iaload, 1) := by decide +kernel
theorem d_Pile_reachAll_48 : decode b_Pile_reachAll 48 = .ok (.iconst 2, 1) := by decide +kernel
theorem d_Pile_reachAll_49 : decode b_Pile_reachAll 49 = .ok (.if_icmp .eq 13, 3) := by decide +kernel
theorem d_Pile_reachAll_52 : decode b_Pile_reachAll 52 = .ok (.aload_n 0, 1) := by decide +kernel
theorem d_Pile_reachAll_53 : decode b_Pile_reachAll 53 = .ok (.getfield 9, 3) := by decide +kernel
theorem d_Pile_reachAll_56 : decode b_Pile_reachAll 56 = .ok (.iload_n 2, 1) := by decide +kernel
theorem d_Pile_reachAll_57 : decode b_Pile_reachAll 57 = .ok (.iaload, 1) := by decide +kernel
theorem d_Pile_reachAll_58 : decode b_Pile_reachAll 58 = .ok (.iconst 4, 1) := by decide +kernel
theorem d_Pile_reachAll_59 : decode b_Pile_reachAll 59 = .ok (.if_icmp .ne 13, 3) := by decide +kernel
theorem d_Pile_reachAll_62 : decode b_Pile_reachAll 62 = .ok (.aload_n 1, 1) := by decide +kernel
theorem d_Pile_reachAll_63 : decode b_Pile_reachAll 63 = .ok (.aload_n 0, 1) := by decide +kernel
theorem d_Pile_reachAll_64 : decode b_Pile_reachAll 64 = .ok (.getfield 18, 3) := by decide +kernel
theorem d_Pile_reachAll_67 : decode b_Pile_reachAll 67 = .ok (.iload_n 2, 1) := by decide +kernel
theorem d_Pile_reachAll_68 : decode b_Pile_reachAll 68 = .ok (.iaload, 1) := by decide +kernel
theorem d_Pile_reachAll_69 : decode b_Pile_reachAll 69 = .ok (.invokevirtual 38, 3) := by decide +kernel
theorem d_Pile_reachAll_72 : decode b_Pile_reachAll 72 = .ok (.iinc 2 1, 3) := by decide +kernel
theorem d_Pile_reachAll_75 : decode b_Pile_reachAll 75 = .ok (.goto (-73), 3) := by decide +kernel
theorem d_Pile_reachAll_78 : decode b_Pile_reachAll 78 = .ok (.return_, 1) := by decide +kernel
theorem d_Term_size_0 : decode b_Term_size 0 = .ok (.aload_n 0, 1) := by decide +kernel
theorem d_Term_size_1 : decode b_Term_size 1 = .ok (.getfield 30, 3) := by decide +kernel
theorem d_Term_size_4 : decode b_Term_size 4 = .ok (.ireturn, 1) := by decide +kernel
theorem d_Term_sort_0 : decode b_Term_sort 0 = .ok (.aload_n 0, 1) := by decide +kernel
theorem d_Term_sort_1 : decode b_Term_sort 1 = .ok (.getfield 9, 3) := by decide +kernel
theorem d_Term_sort_4 : decode b_Term_sort 4 = .ok (.iload_n 1, 1) := by decide +kernel
theorem d_Term_sort_5 : decode b_Term_sort 5 = .ok (.iaload, 1) := by decide +kernel
theorem d_Term_sort_6 : decode b_Term_sort 6 = .ok (.ireturn, 1) := by decide +kernel
theorem d_Term_x_0 : decode b_Term_x 0 = .ok (.aload_n 0, 1) := by decide +kernel
theorem d_Term_x_1 : decode b_Term_x 1 = .ok (.getfield 15, 3) := by decide +kernel
theorem d_Term_x_4 : decode b_Term_x 4 = .ok (.iload_n 1, 1) := by decide +kernel
theorem d_Term_x_5 : decode b_Term_x 5 = .ok (.iaload, 1) := by decide +kernel
theorem d_Term_x_6 : decode b_Term_x 6 = .ok (.ireturn, 1) := by decide +kernel
theorem d_Term_part_0 : decode b_Term_part 0 = .ok (.aload_n 0, 1) := by decide +kernel
theorem d_Term_part_1 : decode b_Term_part 1 = .ok (.getfield 18, 3) := by decide +kernel
theorem d_Term_part_4 : decode b_Term_part 4 = .ok (.iload_n 1, 1) := by decide +kernel
theorem d_Term_part_5 : decode b_Term_part 5 = .ok (.iconst 3, 1) := by decide +kernel
theorem d_Term_part_6 : decode b_Term_part 6 = .ok (.imul, 1) := by decide +kernel
theorem d_Term_part_7 : decode b_Term_part 7 = .ok (.iload_n 2, 1) := by decide +kernel
theorem d_Term_part_8 : decode b_Term_part 8 = .ok (.iadd, 1) := by decide +kernel
theorem d_Term_part_9 : decode b_Term_part 9 = .ok (.iaload, 1) := by decide +kernel
theorem d_Term_part_10 : decode b_Term_part 10 = .ok (.ireturn, 1) := by decide +kernel
theorem d_Term_clear_0 : decode b_Term_clear 0 = .ok (.aload_n 0, 1) := by decide +kernel
theorem d_Term_clear_1 : decode b_Term_clear 1 = .ok (.iconst 0, 1) := by decide +kernel
theorem d_Term_clear_2 : decode b_Term_clear 2 = .ok (.putfield 30, 3) := by decide +kernel
theorem d_Term_clear_5 : decode b_Term_clear 5 = .ok (.return_, 1) := by decide +kernel
theorem d_Term_add_0 : decode b_Term_add 0 = .ok (.aload_n 0, 1) := by decide +kernel
theorem d_Term_add_1 : decode b_Term_add 1 = .ok (.getfield 30, 3) := by decide +kernel
theorem d_Term_add_4 : decode b_Term_add 4 = .ok (.sipush 200, 3) := by decide +kernel
theorem d_Term_add_7 : decode b_Term_add 7 = .ok (.if_icmp .ne 5, 3) := by decide +kernel
theorem d_Term_add_10 : decode b_Term_add 10 = .ok (.iconst 0, 1) := by decide +kernel
theorem d_Term_add_11 : decode b_Term_add 11 = .ok (.ireturn, 1) := by decide +kernel
theorem d_Term_add_12 : decode b_Term_add 12 = .ok (.aload_n 0, 1) := by decide +kernel
theorem d_Term_add_13 : decode b_Term_add 13 = .ok (.getfield 9, 3) := by decide +kernel
theorem d_Term_add_16 : decode b_Term_add 16 = .ok (.aload_n 0, 1) := by decide +kernel
theorem d_Term_add_17 : decode b_Term_add 17 = .ok (.getfield 30, 3) := by decide +kernel
theorem d_Term_add_20 : decode b_Term_add 20 = .ok (.iload_n 1, 1) := by decide +kernel
theorem d_Term_add_21 : decode b_Term_add 21 = .ok (.iastore, 1) := by decide +kernel
theorem d_Term_add_22 : decode b_Term_add 22 = .ok (.aload_n 0, 1) := by decide +kernel
theorem d_Term_add_23 : decode b_Term_add 23 = .ok (.getfield 15, 3) := by decide +kernel
theorem d_Term_add_26 : decode b_Term_add 26 = .ok (.aload_n 0, 1) := by decide +kernel
theorem d_Term_add_27 : decode b_Term_add 27 = .ok (.getfield 30, 3) := by decide +kernel
theorem d_Term_add_30 : decode b_Term_add 30 = .ok (.iload_n 2, 1) := by decide +kernel
theorem d_Term_add_31 : decode b_Term_add 31 = .ok (.iastore, 1) := by decide +kernel
theorem d_Term_add_32 : decode b_Term_add 32 = .ok (.aload_n 0, 1) := by decide +kernel
theorem d_Term_add_33 : decode b_Term_add 33 = .ok (.dup, 1) := by decide +kernel
theorem d_Term_add_34 : decode b_Term_add 34 = .ok (.getfield 30, 3) := by decide +kernel
theorem d_Term_add_37 : decode b_Term_add 37 = .ok (.iconst 1, 1) := by decide +kernel
theorem d_Term_add_38 : decode b_Term_add 38 = .ok (.iadd, 1) := by decide +kernel
theorem d_Term_add_39 : decode b_Term_add 39 = .ok (.putfield 30, 3) := by decide +kernel
theorem d_Term_add_42 : decode b_Term_add 42 = .ok (.iconst 1, 1) := by decide +kernel
theorem d_Term_add_43 : decode b_Term_add 43 = .ok (.ireturn, 1) := by decide +kernel
theorem d_Term_bindsIn_0 : decode b_Term_bindsIn 0 = .ok (.iload_n 0, 1) := by decide +kernel
theorem d_Term_bindsIn_1 : decode b_Term_bindsIn 1 = .ok (.iconst 1, 1) := by decide +kernel
theorem d_Term_bindsIn_2 : decode b_Term_bindsIn 2 = .ok (.if_icmp .eq 20, 3) := by decide +kernel
theorem d_Term_bindsIn_5 : decode b_Term_bindsIn 5 = .ok (.iload_n 0, 1) := by decide +kernel
theorem d_Term_bindsIn_6 : decode b_Term_bindsIn 6 = .ok (.bipush 9, 2) := by decide +kernel
theorem d_Term_bindsIn_8 : decode b_Term_bindsIn 8 = .ok (.if_icmp .eq 14, 3) := by decide +kernel
theorem d_Term_bindsIn_11 : decode b_Term_bindsIn 11 = .ok (.iload_n 0, 1) := by decide +kernel
theorem d_Term_bindsIn_12 : decode b_Term_bindsIn 12 = .ok (.bipush 10, 2) := by decide +kernel
theorem d_Term_bindsIn_14 : decode b_Term_bindsIn 14 = .ok (.if_icmp .ne 12, 3) := by decide +kernel
theorem d_Term_bindsIn_17 : decode b_Term_bindsIn 17 = .ok (.iload_n 1, 1) := by decide +kernel
theorem d_Term_bindsIn_18 : decode b_Term_bindsIn 18 = .ok (.iconst 1, 1) := by decide +kernel
theorem d_Term_bindsIn_19 : decode b_Term_bindsIn 19 = .ok (.if_icmp .ne 7, 3) := by decide +kernel
theorem d_Term_bindsIn_22 : decode b_Term_bindsIn 22 = .ok (.iconst 1, 1) := by decide +kernel
theorem d_Term_bindsIn_23 : decode b_Term_bindsIn 23 = .ok (.goto 4, 3) := by decide +kernel
theorem d_Term_bindsIn_26 : decode b_Term_bindsIn 26 = .ok (.iconst 0, 1) := by decide +kernel
theorem d_Term_bindsIn_27 : decode b_Term_bindsIn 27 = .ok (.ireturn, 1) := by decide +kernel
theorem d_Term_givePart_0 : decode b_Term_givePart 0 = .ok (.aload_n 0, 1) := by decide +kernel
theorem d_Term_givePart_1 : decode b_Term_givePart 1 = .ok (.getfield 21, 3) := by decide +kernel
theorem d_Term_givePart_4 : decode b_Term_givePart 4 = .ok (.iload_n 1, 1) := by decide +kernel
theorem d_Term_givePart_5 : decode b_Term_givePart 5 = .ok (.iaload, 1) := by decide +kernel
theorem d_Term_givePart_6 : decode b_Term_givePart 6 = .ok (.istore_n 3, 1) := by decide +kernel
theorem d_Term_givePart_7 : decode b_Term_givePart 7 = .ok (.aload_n 0, 1) := by decide +kernel
theorem d_Term_givePart_8 : decode b_Term_givePart 8 = .ok (.getfield 18, 3) := by decide +kernel
theorem d_Term_givePart_11 : decode b_Term_givePart 11 = .ok (.iload_n 1, 1) := by decide +kernel
theorem d_Term_givePart_12 : decode b_Term_givePart 12 = .ok (.iconst 3, 1) := by decide +kernel
theorem d_Term_givePart_13 : decode b_Term_givePart 13 = .ok (.imul, 1) := by decide +kernel
theorem d_Term_givePart_14 : decode b_Term_givePart 14 = .ok (.iload_n 3, 1) := by decide +kernel
theorem d_Term_givePart_15 : decode b_Term_givePart 15 = .ok (.iadd, 1) := by decide +kernel
theorem d_Term_givePart_16 : decode b_Term_givePart 16 = .ok (.iload_n 2, 1) := by decide +kernel
theorem d_Term_givePart_17 : decode b_Term_givePart 17 = .ok (.iastore, 1) := by decide +kernel
theorem d_Term_givePart_18 : decode b_Term_givePart 18 = .ok (.aload_n 0, 1) := by decide +kernel
theorem d_Term_givePart_19 : decode b_Term_givePart 19 = .ok (.getfield 21, 3) := by decide +kernel
theorem d_Term_givePart_22 : decode b_Term_givePart 22 = .ok (.iload_n 1, 1) := by decide +kernel
theorem d_Term_givePart_23 : decode b_Term_givePart 23 = .ok (.iload_n 3, 1) := by decide +kernel
theorem d_Term_givePart_24 : decode b_Term_givePart 24 = .ok (.iconst 1, 1) := by decide +kernel
theorem d_Term_givePart_25 : decode b_Term_givePart 25 = .ok (.iadd, 1) := by decide +kernel
theorem d_Term_givePart_26 : decode b_Term_givePart 26 = .ok (.iastore, 1) := by decide +kernel
theorem d_Term_givePart_27 : decode b_Term_givePart 27 = .ok (.aload_n 0, 1) := by decide +kernel
theorem d_Term_givePart_28 : decode b_Term_givePart 28 = .ok (.getfield 24, 3) := by decide +kernel
theorem d_Term_givePart_31 : decode b_Term_givePart 31 = .ok (.iload_n 2, 1) := by decide +kernel
theorem d_Term_givePart_32 : decode b_Term_givePart 32 = .ok (.aload_n 0, 1) := by decide +kernel
theorem d_Term_givePart_33 : decode b_Term_givePart 33 = .ok (.getfield 24, 3) := by decide +kernel
theorem d_Term_givePart_36 : decode b_Term_givePart 36 = .ok (.iload_n 1, 1) := by decide +kernel
theorem d_Term_givePart_37 : decode b_Term_givePart 37 = .ok (.iaload, 1) := by decide +kernel
theorem d_Term_givePart_38 : decode b_Term_givePart 38 = .ok (.aload_n 0, 1) := by decide +kernel
theorem d_Term_givePart_39 : decode b_Term_givePart 39 = .ok (.getfield 9, 3) := by decide +kernel
theorem d_Term_givePart_42 : decode b_Term_givePart 42 = .ok (.iload_n 1, 1) := by decide +kernel
theorem d_Term_givePart_43 : decode b_Term_givePart 43 = .ok (.iaload, 1) := by decide +kernel
theorem d_Term_givePart_44 : decode b_Term_givePart 44 = .ok (.iload_n 3, 1) := by decide +kernel
theorem d_Term_givePart_45 : decode b_Term_givePart 45 = .ok (.invokestatic 41, 3) := by decide +kernel
theorem d_Term_givePart_48 : decode b_Term_givePart 48 = .ok (.ifCond .eq 7, 3) := by decide +kernel
theorem d_Term_givePart_51 : decode b_Term_givePart 51 = .ok (.iconst 1, 1) := by decide +kernel
theorem d_Term_givePart_52 : decode b_Term_givePart 52 = .ok (.goto 4, 3) := by decide +kernel
theorem d_Term_givePart_55 : decode b_Term_givePart 55 = .ok (.iconst 0, 1) := by decide +kernel
theorem d_Term_givePart_56 : decode b_Term_givePart 56 = .ok (.iadd, 1) := by decide +kernel
theorem d_Term_givePart_57 : decode b_Term_givePart 57 = .ok (.iastore, 1) := by decide +kernel
theorem d_Term_givePart_58 : decode b_Term_givePart 58 = .ok (.iload_n 3, 1) := by decide +kernel
theorem d_Term_givePart_59 : decode b_Term_givePart 59 = .ok (.iconst 1, 1) := by decide +kernel
theorem d_Term_givePart_60 : decode b_Term_givePart 60 = .ok (.iadd, 1) := by decide +kernel
theorem d_Term_givePart_61 : decode b_Term_givePart 61 = .ok (.getstatic 38, 3) := by decide +kernel
theorem d_Term_givePart_64 : decode b_Term_givePart 64 = .ok (.aload_n 0, 1) := by decide +kernel
theorem d_Term_givePart_65 : decode b_Term_givePart 65 = .ok (.getfield 9, 3) := by decide +kernel
theorem d_Term_givePart_68 : decode b_Term_givePart 68 = .ok (.iload_n 1, 1) := by decide +kernel
theorem d_Term_givePart_69 : decode b_Term_givePart 69 = .ok (.iaload, 1) := by decide +kernel
theorem d_Term_givePart_70 : decode b_Term_givePart 70 = .ok (.iaload, 1) := by decide +kernel
theorem d_Term_givePart_71 : decode b_Term_givePart 71 = .ok (.if_icmp .ne 7, 3) := by decide +kernel
theorem d_Term_givePart_74 : decode b_Term_givePart 74 = .ok (.iconst 1, 1) := by decide +kernel
theorem d_Term_givePart_75 : decode b_Term_givePart 75 = .ok (.goto 4, 3) := by decide +kernel
theorem d_Term_givePart_78 : decode b_Term_givePart 78 = .ok (.iconst 0, 1) := by decide +kernel
theorem d_Term_givePart_79 : decode b_Term_givePart 79 = .ok (.ireturn, 1) := by decide +kernel
theorem d_Term_settle_0 : decode b_Term_settle 0 = .ok (.iconst 0, 1) := by decide +kernel
theorem d_Term_settle_1 : decode b_Term_settle 1 = .ok (.istore_n 1, 1) := by decide +kernel
theorem d_Term_settle_2 : decode b_Term_settle 2 = .ok (.iconst 0, 1) := by decide +kernel
theorem d_Term_settle_3 : decode b_Term_settle 3 = .ok (.istore_n 2, 1) := by decide +kernel
theorem d_Term_settle_4 : decode b_Term_settle 4 = .ok (.iload_n 2, 1) := by decide +kernel
theorem d_Term_settle_5 : decode b_Term_settle 5 = .ok (.aload_n 0, 1) := by decide +kernel
theorem d_Term_settle_6 : decode b_Term_settle 6 = .ok (.getfield 30, 3) := by decide +kernel
theorem d_Term_settle_9 : decode b_Term_settle 9 = .ok (.if_icmp .ge 109, 3) := by decide +kernel
theorem d_Term_settle_12 : decode b_Term_settle 12 = .ok (.iload_n 2, 1) := by decide +kernel
theorem d_Term_settle_13 : decode b_Term_settle 13 = .ok (.ifCond .le 11, 3) := by decide +kernel
theorem d_Term_settle_16 : decode b_Term_settle 16 = .ok (.iload_n 1, 1) := by decide +kernel
theorem d_Term_settle_17 : decode b_Term_settle 17 = .ok (.ifCond .ne 7, 3) := by decide +kernel
theorem d_Term_settle_20 : decode b_Term_settle 20 = .ok (.iconst 1, 1) := by decide +kernel
theorem d_Term_settle_21 : decode b_Term_settle 21 = .ok (.iload_n 2, 1) := by decide +kernel
theorem d_Term_settle_22 : decode b_Term_settle 22 = .ok (.iadd, 1) := by decide +kernel
theorem d_Term_settle_23 : decode b_Term_settle 23 = .ok (.ireturn, 1) := by decide +kernel
theorem d_Term_settle_24 : decode b_Term_settle 24 = .ok (.aload_n 0, 1) := by decide +kernel
theorem d_Term_settle_25 : decode b_Term_settle 25 = .ok (.getfield 24, 3) := by decide +kernel
theorem d_Term_settle_28 : decode b_Term_settle 28 = .ok (.iload_n 2, 1) := by decide +kernel
theorem d_Term_settle_29 : decode b_Term_settle 29 = .ok (.iconst 0, 1) := by decide +kernel
theorem d_Term_settle_30 : decode b_Term_settle 30 = .ok (.iastore, 1) := by decide +kernel
theorem d_Term_settle_31 : decode b_Term_settle 31 = .ok (.iload_n 1, 1) := by decide +kernel
theorem d_Term_settle_32 : decode b_Term_settle 32 = .ok (.ifCond .le 22, 3) := by decide +kernel
theorem d_Term_settle_35 : decode b_Term_settle 35 = .ok (.aload_n 0, 1) := by decide +kernel
theorem d_Term_settle_36 : decode b_Term_settle 36 = .ok (.aload_n 0, 1) := by decide +kernel
theorem d_Term_settle_37 : decode b_Term_settle 37 = .ok (.getfield 27, 3) := by decide +kernel
theorem d_Term_settle_40 : decode b_Term_settle 40 = .ok (.iload_n 1, 1) := by decide +kernel
theorem d_Term_settle_41 : decode b_Term_settle 41 = .ok (.iconst 1, 1) := by decide +kernel
theorem d_Term_settle_42 : decode b_Term_settle 42 = .ok (.isub, 1) := by decide +kernel
theorem d_Term_settle_43 : decode b_Term_settle 43 = .ok (.iaload, 1) := by decide +kernel
theorem d_Term_settle_44 : decode b_Term_settle 44 = .ok (.iload_n 2, 1) := by decide +kernel
theorem d_Term_settle_45 : decode b_Term_settle 45 = .ok (.invokevirtual 34, 3) := by decide +kernel
theorem d_Term_settle_48 : decode b_Term_settle 48 = .ok (.ifCond .eq 6, 3) := by decide +kernel
theorem d_Term_settle_51 : decode b_Term_settle 51 = .ok (.iinc 1 (-1), 3) := by decide +kernel
theorem d_Term_settle_54 : decode b_Term_settle 54 = .ok (.aload_n 0, 1) := by decide +kernel
theorem d_Term_settle_55 : decode b_Term_settle 55 = .ok (.getfield 9, 3) := by decide +kernel
theorem d_Term_settle_58 : decode b_Term_settle 58 = .ok (.iload_n 2, 1) := by decide +kernel
theorem d_Term_settle_59 : decode b_Term_settle 59 = .ok (.iaload, 1) := by decide +kernel
theorem d_Term_settle_60 : decode b_Term_settle 60 = .ok (.ifCond .ne 22, 3) := by decide +kernel
theorem d_Term_settle_63 : decode b_Term_settle 63 = .ok (.aload_n 0, 1) := by decide +kernel
theorem d_Term_settle_64 : decode b_Term_settle 64 = .ok (.getfield 15, 3) := by decide +kernel
theorem d_Term_settle_67 : decode b_Term_settle 67 = .ok (.iload_n 2, 1) := by decide +kernel
theorem d_Term_settle_68 : decode b_Term_settle 68 = .ok (.iaload, 1) := by decide +kernel
theorem d_Term_settle_69 : decode b_Term_settle 69 = .ok (.aload_n 0, 1) := by decide +kernel
theorem d_Term_settle_70 : decode b_Term_settle 70 = .ok (.getfield 24, 3) := by decide +kernel
theorem d_Term_settle_73 : decode b_Term_settle 73 = .ok (.iload_n 2, 1) := by decide +kernel
theorem d_Term_settle_74 : decode b_Term_settle 74 = .ok (.iaload, 1) := by decide +kernel
theorem d_Term_settle_75 : decode b_Term_settle 75 = .ok (.if_icmp .lt 7, 3) := by decide +kernel
theorem d_Term_settle_78 : decode b_Term_settle 78 = .ok (.iconst 1, 1) := by decide +kernel
theorem d_Term_settle_79 : decode b_Term_settle 79 = .ok (.iload_n 2, 1) := by decide +kernel
theorem d_Term_settle_80 : decode b_Term_settle 80 = .ok (.iadd, 1) := by decide +kernel
theorem d_Term_settle_81 : decode b_Term_settle 81 = .ok (.ireturn, 1) := by decide +kernel
theorem d_Term_settle_82 : decode b_Term_settle 82 = .ok (.aload_n 0, 1) := by decide +kernel
theorem d_Term_settle_83 : decode b_Term_settle 83 = .ok (.getfield 21, 3) := by decide +kernel
theorem d_Term_settle_86 : decode b_Term_settle 86 = .ok (.iload_n 2, 1) := by decide +kernel
theorem d_Term_settle_87 : decode b_Term_settle 87 = .ok (.iconst 0, 1) := by decide +kernel
theorem d_Term_settle_88 : decode b_Term_settle 88 = .ok (.iastore, 1) := by decide +kernel
theorem d_Term_settle_89 : decode b_Term_settle 89 = .ok (.getstatic 38, 3) := by decide +kernel
theorem d_Term_settle_92 : decode b_Term_settle 92 = .ok (.aload_n 0, 1) := by decide +kernel
theorem d_Term_settle_93 : decode b_Term_settle 93 = .ok (.getfield 9, 3) := by decide +kernel
theorem d_Term_settle_96 : decode b_Term_settle 96 = .ok (.iload_n 2, 1) := by decide +kernel
theorem d_Term_settle_97 : decode b_Term_settle 97 = .ok (.iaload, 1) := by decide +kernel
theorem d_Term_settle_98 : decode b_Term_settle 98 = .ok (.iaload, 1) := by decide +kernel
theorem d_Term_settle_99 : decode b_Term_settle 99 = .ok (.ifCond .le 13, 3) := by decide +kernel
theorem d_Term_settle_102 : decode b_Term_settle 102 = .ok (.aload_n 0, 1) := by decide +kernel
theorem d_Term_settle_103 : decode b_Term_settle 103 = .ok (.getfield 27, 3) := by decide +kernel
theorem d_Term_settle_106 : decode b_Term_settle 106 = .ok (.iload_n 1, 1) := by decide +kernel
theorem d_Term_settle_107 : decode b_Term_settle 107 = .ok (.iload_n 2, 1) := by decide +kernel
theorem d_Term_settle_108 : decode b_Term_settle 108 = .ok (.iastore, 1) := by decide +kernel
theorem d_Term_settle_109 : decode b_Term_settle 109 = .ok (.iinc 1 1, 3) := by decide +kernel
theorem d_Term_settle_112 : decode b_Term_settle 112 = .ok (.iinc 2 1, 3) := by decide +kernel
theorem d_Term_settle_115 : decode b_Term_settle 115 = .ok (.goto (-111), 3) := by decide +kernel
theorem d_Term_settle_118 : decode b_Term_settle 118 = .ok (.aload_n 0, 1) := by decide +kernel
theorem d_Term_settle_119 : decode b_Term_settle 119 = .ok (.getfield 30, 3) := by decide +kernel
theorem d_Term_settle_122 : decode b_Term_settle 122 = .ok (.ifCond .eq 7, 3) := by decide +kernel
theorem d_Term_settle_125 : decode b_Term_settle 125 = .ok (.iload_n 1, 1) := by decide +kernel
theorem d_Term_settle_126 : decode b_Term_settle 126 = .ok (.ifCond .le 12, 3) := by decide +kernel
theorem d_Term_settle_129 : decode b_Term_settle 129 = .ok (.iconst 1, 1) := by decide +kernel
theorem d_Term_settle_130 : decode b_Term_settle 130 = .ok (.aload_n 0, 1) := by decide +kernel
theorem d_Term_settle_131 : decode b_Term_settle 131 = .ok (.getfield 30, 3) := by decide +kernel
theorem d_Term_settle_134 : decode b_Term_settle 134 = .ok (.iadd, 1) := by decide +kernel
theorem d_Term_settle_135 : decode b_Term_settle 135 = .ok (.goto 4, 3) := by decide +kernel
theorem d_Term_settle_138 : decode b_Term_settle 138 = .ok (.iconst 0, 1) := by decide +kernel
theorem d_Term_settle_139 : decode b_Term_settle 139 = .ok (.ireturn, 1) := by decide +kernel
