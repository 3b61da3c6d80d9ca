theorem dX0_init_0 : decode cX0_init 0 = .ok (.aload_n 0, 1) := by decide +kernel
theorem dX0_init_1 : decode cX0_init 1 = .ok (.invokespecial 3, 3) := by decide +kernel
theorem dX0_init_4 : decode cX0_init 4 = .ok (.aload_n 0, 1) := by decide +kernel
theorem dX0_init_5 : decode cX0_init 5 = .ok (.bipush 10, 2) := by decide +kernel
theorem dX0_init_7 : decode cX0_init 7 = .ok (.newarray .int, 2) := by decide +kernel
theorem dX0_init_9 : decode cX0_init 9 = .ok (.putfield 9, 3) := by decide +kernel
theorem dX0_init_12 : decode cX0_init 12 = .ok (.return_, 1) := by decide +kernel
theorem dX0_begin_0 : decode cX0_begin 0 = .ok (.aload_n 0, 1) := by decide +kernel
theorem dX0_begin_1 : decode cX0_begin 1 = .ok (.iload_n 1, 1) := by decide +kernel
theorem dX0_begin_2 : decode cX0_begin 2 = .ok (.putfield 15, 3) := by decide +kernel
theorem dX0_begin_5 : decode cX0_begin 5 = .ok (.aload_n 0, 1) := by decide +kernel
theorem dX0_begin_6 : decode cX0_begin 6 = .ok (.iload_n 2, 1) := by decide +kernel
theorem dX0_begin_7 : decode cX0_begin 7 = .ok (.putfield 19, 3) := by decide +kernel
theorem dX0_begin_10 : decode cX0_begin 10 = .ok (.aload_n 0, 1) := by decide +kernel
theorem dX0_begin_11 : decode cX0_begin 11 = .ok (.iconst (-1), 1) := by decide +kernel
theorem dX0_begin_12 : decode cX0_begin 12 = .ok (.putfield 22, 3) := by decide +kernel
theorem dX0_begin_15 : decode cX0_begin 15 = .ok (.aload_n 0, 1) := by decide +kernel
theorem dX0_begin_16 : decode cX0_begin 16 = .ok (.iconst 0, 1) := by decide +kernel
theorem dX0_begin_17 : decode cX0_begin 17 = .ok (.putfield 25, 3) := by decide +kernel
theorem dX0_begin_20 : decode cX0_begin 20 = .ok (.aload_n 0, 1) := by decide +kernel
theorem dX0_begin_21 : decode cX0_begin 21 = .ok (.iconst 0, 1) := by decide +kernel
theorem dX0_begin_22 : decode cX0_begin 22 = .ok (.putfield 28, 3) := by decide +kernel
theorem dX0_begin_25 : decode cX0_begin 25 = .ok (.aload_n 0, 1) := by decide +kernel
theorem dX0_begin_26 : decode cX0_begin 26 = .ok (.iconst 0, 1) := by decide +kernel
theorem dX0_begin_27 : decode cX0_begin 27 = .ok (.putfield 31, 3) := by decide +kernel
theorem dX0_begin_30 : decode cX0_begin 30 = .ok (.return_, 1) := by decide +kernel
theorem dX1_init_0 : decode cX1_init 0 = .ok (.aload_n 0, 1) := by decide +kernel
theorem dX1_init_1 : decode cX1_init 1 = .ok (.invokespecial 3, 3) := by decide +kernel
theorem dX1_init_4 : decode cX1_init 4 = .ok (.aload_n 0, 1) := by decide +kernel
theorem dX1_init_5 : decode cX1_init 5 = .ok (.bipush 20, 2) := by decide +kernel
theorem dX1_init_7 : decode cX1_init 7 = .ok (.newarray .int, 2) := by decide +kernel
theorem dX1_init_9 : decode cX1_init 9 = .ok (.putfield 9, 3) := by decide +kernel
theorem dX1_init_12 : decode cX1_init 12 = .ok (.aload_n 0, 1) := by decide +kernel
theorem dX1_init_13 : decode cX1_init 13 = .ok (.bipush 20, 2) := by decide +kernel
theorem dX1_init_15 : decode cX1_init 15 = .ok (.newarray .int, 2) := by decide +kernel
theorem dX1_init_17 : decode cX1_init 17 = .ok (.putfield 15, 3) := by decide +kernel
theorem dX1_init_20 : decode cX1_init 20 = .ok (.aload_n 0, 1) := by decide +kernel
theorem dX1_init_21 : decode cX1_init 21 = .ok (.bipush 20, 2) := by decide +kernel
theorem dX1_init_23 : decode cX1_init 23 = .ok (.newarray .int, 2) := by decide +kernel
theorem dX1_init_25 : decode cX1_init 25 = .ok (.putfield 18, 3) := by decide +kernel
theorem dX1_init_28 : decode cX1_init 28 = .ok (.return_, 1) := by decide +kernel
theorem dX1_isThere_0 : decode cX1_isThere 0 = .ok (.iload_n 1, 1) := by decide +kernel
theorem dX1_isThere_1 : decode cX1_isThere 1 = .ok (.ifCond .lt 15, 3) := by decide +kernel
theorem dX1_isThere_4 : decode cX1_isThere 4 = .ok (.iload_n 1, 1) := by decide +kernel
theorem dX1_isThere_5 : decode cX1_isThere 5 = .ok (.aload_n 0, 1) := by decide +kernel
theorem dX1_isThere_6 : decode cX1_isThere 6 = .ok (.getfield 21, 3) := by decide +kernel
theorem dX1_isThere_9 : decode cX1_isThere 9 = .ok (.if_icmp .ge 7, 3) := by decide +kernel
theorem dX1_isThere_12 : decode cX1_isThere 12 = .ok (.iconst 1, 1) := by decide +kernel
theorem dX1_isThere_13 : decode cX1_isThere 13 = .ok (.goto 4, 3) := by decide +kernel
theorem dX1_isThere_16 : decode cX1_isThere 16 = .ok (.iconst 0, 1) := by decide +kernel
theorem dX1_isThere_17 : decode cX1_isThere 17 = .ok (.ireturn, 1) := by decide +kernel
theorem dX1_add_0 : decode cX1_add 0 = .ok (.aload_n 0, 1) := by decide +kernel
theorem dX1_add_1 : decode cX1_add 1 = .ok (.getfield 21, 3) := by decide +kernel
theorem dX1_add_4 : decode cX1_add 4 = .ok (.bipush 20, 2) := by decide +kernel
theorem dX1_add_6 : decode cX1_add 6 = .ok (.if_icmp .lt 6, 3) := by decide +kernel
theorem dX1_add_9 : decode cX1_add 9 = .ok (.bipush (-4), 2) := by decide +kernel
theorem dX1_add_11 : decode cX1_add 11 = .ok (.ireturn, 1) := by decide +kernel
theorem dX1_add_12 : decode cX1_add 12 = .ok (.aload_n 0, 1) := by decide +kernel
theorem dX1_add_13 : decode cX1_add 13 = .ok (.getfield 9, 3) := by decide +kernel
theorem dX1_add_16 : decode cX1_add 16 = .ok (.aload_n 0, 1) := by decide +kernel
theorem dX1_add_17 : decode cX1_add 17 = .ok (.getfield 21, 3) := by decide +kernel
theorem dX1_add_20 : decode cX1_add 20 = .ok (.iload_n 1, 1) := by decide +kernel
theorem dX1_add_21 : decode cX1_add 21 = .ok (.iastore, 1) := by decide +kernel
theorem dX1_add_22 : decode cX1_add 22 = .ok (.aload_n 0, 1) := by decide +kernel
theorem dX1_add_23 : decode cX1_add 23 = .ok (.getfield 15, 3) := by decide +kernel
theorem dX1_add_26 : decode cX1_add 26 = .ok (.aload_n 0, 1) := by decide +kernel
theorem dX1_add_27 : decode cX1_add 27 = .ok (.getfield 21, 3) := by decide +kernel
theorem dX1_add_30 : decode cX1_add 30 = .ok (.iload_n 2, 1) := by decide +kernel
theorem dX1_add_31 : decode cX1_add 31 = .ok (.iastore, 1) := by decide +kernel
theorem dX1_add_32 : decode cX1_add 32 = .ok (.aload_n 0, 1) := by decide +kernel
theorem dX1_add_33 : decode cX1_add 33 = .ok (.getfield 18, 3) := by decide +kernel
theorem dX1_add_36 : decode cX1_add 36 = .ok (.aload_n 0, 1) := by decide +kernel
theorem dX1_add_37 : decode cX1_add 37 = .ok (.getfield 21, 3) := by decide +kernel
theorem dX1_add_40 : decode cX1_add 40 = .ok (.iload_n 3, 1) := by decide +kernel
theorem dX1_add_41 : decode cX1_add 41 = .ok (.iastore, 1) := by decide +kernel
theorem dX1_add_42 : decode cX1_add 42 = .ok (.aload_n 0, 1) := by decide +kernel
theorem dX1_add_43 : decode cX1_add 43 = .ok (.dup, 1) := by decide +kernel
theorem dX1_add_44 : decode cX1_add 44 = .ok (.getfield 21, 3) := by decide +kernel
theorem dX1_add_47 : decode cX1_add 47 = .ok (.dup_x1, 1) := by decide +kernel
theorem dX1_add_48 : decode cX1_add 48 = .ok (.iconst 1, 1) := by decide +kernel
theorem dX1_add_49 : decode cX1_add 49 = .ok (.iadd, 1) := by decide +kernel
theorem dX1_add_50 : decode cX1_add 50 = .ok (.putfield 21, 3) := by decide +kernel
theorem dX1_add_53 : decode cX1_add 53 = .ok (.ireturn, 1) := by decide +kernel
theorem dX2_init_0 : decode cX2_init 0 = .ok (.aload_n 0, 1) := by decide +kernel
theorem dX2_init_1 : decode cX2_init 1 = .ok (.invokespecial 3, 3) := by decide +kernel
theorem dX2_init_4 : decode cX2_init 4 = .ok (.aload_n 0, 1) := by decide +kernel
theorem dX2_init_5 : decode cX2_init 5 = .ok (.bipush 10, 2) := by decide +kernel
theorem dX2_init_7 : decode cX2_init 7 = .ok (.bipush 50, 2) := by decide +kernel
theorem dX2_init_9 : decode cX2_init 9 = .ok (.multianewarray 9 2, 4) := by decide +kernel
theorem dX2_init_13 : decode cX2_init 13 = .ok (.putfield 11, 3) := by decide +kernel
theorem dX2_init_16 : decode cX2_init 16 = .ok (.aload_n 0, 1) := by decide +kernel
theorem dX2_init_17 : decode cX2_init 17 = .ok (.bipush 10, 2) := by decide +kernel
theorem dX2_init_19 : decode cX2_init 19 = .ok (.bipush 50, 2) := by decide +kernel
theorem dX2_init_21 : decode cX2_init 21 = .ok (.multianewarray 9 2, 4) := by decide +kernel
theorem dX2_init_25 : decode cX2_init 25 = .ok (.putfield 16, 3) := by decide +kernel
theorem dX2_init_28 : decode cX2_init 28 = .ok (.aload_n 0, 1) := by decide +kernel
theorem dX2_init_29 : decode cX2_init 29 = .ok (.bipush 50, 2) := by decide +kernel
theorem dX2_init_31 : decode cX2_init 31 = .ok (.newarray .int, 2) := by decide +kernel
theorem dX2_init_33 : decode cX2_init 33 = .ok (.putfield 19, 3) := by decide +kernel
theorem dX2_init_36 : decode cX2_init 36 = .ok (.aload_n 0, 1) := by decide +kernel
theorem dX2_init_37 : decode cX2_init 37 = .ok (.iload_n 1, 1) := by decide +kernel
theorem dX2_init_38 : decode cX2_init 38 = .ok (.putfield 23, 3) := by decide +kernel
theorem dX2_init_41 : decode cX2_init 41 = .ok (.return_, 1) := by decide +kernel
theorem dX2_isThere_0 : decode cX2_isThere 0 = .ok (.iload_n 1, 1) := by decide +kernel
theorem dX2_isThere_1 : decode cX2_isThere 1 = .ok (.ifCond .lt 26, 3) := by decide +kernel
theorem dX2_isThere_4 : decode cX2_isThere 4 = .ok (.iload_n 1, 1) := by decide +kernel
theorem dX2_isThere_5 : decode cX2_isThere 5 = .ok (.bipush 50, 2) := by decide +kernel
theorem dX2_isThere_7 : decode cX2_isThere 7 = .ok (.if_icmp .ge 20, 3) := by decide +kernel
theorem dX2_isThere_10 : decode cX2_isThere 10 = .ok (.aload_n 0, 1) := by decide +kernel
theorem dX2_isThere_11 : decode cX2_isThere 11 = .ok (.getfield 11, 3) := by decide +kernel
theorem dX2_isThere_14 : decode cX2_isThere 14 = .ok (.bipush 9, 2) := by decide +kernel
theorem dX2_isThere_16 : decode cX2_isThere 16 = .ok (.aaload, 1) := by decide +kernel
theorem dX2_isThere_17 : decode cX2_isThere 17 = .ok (.iload_n 1, 1) := by decide +kernel
theorem dX2_isThere_18 : decode cX2_isThere 18 = .ok (.iaload, 1) := by decide +kernel
theorem dX2_isThere_19 : decode cX2_isThere 19 = .ok (.iconst 1, 1) := by decide +kernel
theorem dX2_isThere_20 : decode cX2_isThere 20 = .ok (.if_icmp .ne 7, 3) := by decide +kernel
theorem dX2_isThere_23 : decode cX2_isThere 23 = .ok (.iconst 1, 1) := by decide +kernel
theorem dX2_isThere_24 : decode cX2_isThere 24 = .ok (.goto 4, 3) := by decide +kernel
theorem dX2_isThere_27 : decode cX2_isThere 27 = .ok (.iconst 0, 1) := by decide +kernel
theorem dX2_isThere_28 : decode cX2_isThere 28 = .ok (.ireturn, 1) := by decide +kernel
theorem dX2_value_0 : decode cX2_value 0 = .ok (.iload_n 1, 1) := by decide +kernel
theorem dX2_value_1 : decode cX2_value 1 = .ok (.ifCond .lt 19, 3) := by decide +kernel
theorem dX2_value_4 : decode cX2_value 4 = .ok (.iload_n 1, 1) := by decide +kernel
theorem dX2_value_5 : decode cX2_value 5 = .ok (.bipush 50, 2) := by decide +kernel
theorem dX2_value_7 : decode cX2_value 7 = .ok (.if_icmp .ge 13, 3) := by decide +kernel
theorem dX2_value_10 : decode cX2_value 10 = .ok (.iload_n 2, 1) := by decide +kernel
theorem dX2_value_11 : decode cX2_value 11 = .ok (.ifCond .lt 9, 3) := by decide +kernel
theorem dX2_value_14 : decode cX2_value 14 = .ok (.iload_n 2, 1) := by decide +kernel
theorem dX2_value_15 : decode cX2_value 15 = .ok (.bipush 10, 2) := by decide +kernel
theorem dX2_value_17 : decode cX2_value 17 = .ok (.if_icmp .lt 6, 3) := by decide +kernel
theorem dX2_value_20 : decode cX2_value 20 = .ok (.bipush (-9), 2) := by decide +kernel
theorem dX2_value_22 : decode cX2_value 22 = .ok (.ireturn, 1) := by decide +kernel
theorem dX2_value_23 : decode cX2_value 23 = .ok (.aload_n 0, 1) := by decide +kernel
theorem dX2_value_24 : decode cX2_value 24 = .ok (.getfield 11, 3) := by decide +kernel
theorem dX2_value_27 : decode cX2_value 27 = .ok (.iload_n 2, 1) := by decide +kernel
theorem dX2_value_28 : decode cX2_value 28 = .ok (.aaload, 1) := by decide +kernel
theorem dX2_value_29 : decode cX2_value 29 = .ok (.iload_n 1, 1) := by decide +kernel
theorem dX2_value_30 : decode cX2_value 30 = .ok (.iaload, 1) := by decide +kernel
theorem dX2_value_31 : decode cX2_value 31 = .ok (.ireturn, 1) := by decide +kernel
theorem dX2_set_0 : decode cX2_set 0 = .ok (.iload_n 1, 1) := by decide +kernel
theorem dX2_set_1 : decode cX2_set 1 = .ok (.ifCond .lt 28, 3) := by decide +kernel
theorem dX2_set_4 : decode cX2_set 4 = .ok (.iload_n 1, 1) := by decide +kernel
theorem dX2_set_5 : decode cX2_set 5 = .ok (.bipush 50, 2) := by decide +kernel
theorem dX2_set_7 : decode cX2_set 7 = .ok (.if_icmp .ge 22, 3) := by decide +kernel
theorem dX2_set_10 : decode cX2_set 10 = .ok (.iload_n 2, 1) := by decide +kernel
theorem dX2_set_11 : decode cX2_set 11 = .ok (.ifCond .lt 18, 3) := by decide +kernel
theorem dX2_set_14 : decode cX2_set 14 = .ok (.iload_n 2, 1) := by decide +kernel
theorem dX2_set_15 : decode cX2_set 15 = .ok (.bipush 10, 2) := by decide +kernel
theorem dX2_set_17 : decode cX2_set 17 = .ok (.if_icmp .ge 12, 3) := by decide +kernel
theorem dX2_set_20 : decode cX2_set 20 = .ok (.aload_n 0, 1) := by decide +kernel
theorem dX2_set_21 : decode cX2_set 21 = .ok (.getfield 11, 3) := by decide +kernel
theorem dX2_set_24 : decode cX2_set 24 = .ok (.iload_n 2, 1) := by decide +kernel
theorem dX2_set_25 : decode cX2_set 25 = .ok (.aaload, 1) := by decide +kernel
theorem dX2_set_26 : decode cX2_set 26 = .ok (.iload_n 1, 1) := by decide +kernel
theorem dX2_set_27 : decode cX2_set 27 = .ok (.iload_n 3, 1) := by decide +kernel
theorem dX2_set_28 : decode cX2_set 28 = .ok (.iastore, 1) := by decide +kernel
theorem dX2_set_29 : decode cX2_set 29 = .ok (.return_, 1) := by decide +kernel
theorem dX2_isFull_0 : decode cX2_isFull 0 = .ok (.aload_n 0, 1) := by decide +kernel
theorem dX2_isFull_1 : decode cX2_isFull 1 = .ok (.getfield 27, 3) := by decide +kernel
theorem dX2_isFull_4 : decode cX2_isFull 4 = .ok (.aload_n 0, 1) := by decide +kernel
theorem dX2_isFull_5 : decode cX2_isFull 5 = .ok (.getfield 23, 3) := by decide +kernel
theorem dX2_isFull_8 : decode cX2_isFull 8 = .ok (.if_icmp .ge 12, 3) := by decide +kernel
theorem dX2_isFull_11 : decode cX2_isFull 11 = .ok (.aload_n 0, 1) := by decide +kernel
theorem dX2_isFull_12 : decode cX2_isFull 12 = .ok (.getfield 27, 3) := by decide +kernel
theorem dX2_isFull_15 : decode cX2_isFull 15 = .ok (.bipush 50, 2) := by decide +kernel
theorem dX2_isFull_17 : decode cX2_isFull 17 = .ok (.if_icmp .lt 7, 3) := by decide +kernel
theorem dX2_isFull_20 : decode cX2_isFull 20 = .ok (.iconst 1, 1) := by decide +kernel
theorem dX2_isFull_21 : decode cX2_isFull 21 = .ok (.goto 4, 3) := by decide +kernel
theorem dX2_isFull_24 : decode cX2_isFull 24 = .ok (.iconst 0, 1) := by decide +kernel
theorem dX2_isFull_25 : decode cX2_isFull 25 = .ok (.ireturn, 1) := by decide +kernel
theorem dX2_add_0 : decode cX2_add 0 = .ok (.aload_n 0, 1) := by decide +kernel
theorem dX2_add_1 : decode cX2_add 1 = .ok (.getfield 27, 3) := by decide +kernel
theorem dX2_add_4 : decode cX2_add 4 = .ok (.istore_n 1, 1) := by decide +kernel
theorem dX2_add_5 : decode cX2_add 5 = .ok (.aload_n 0, 1) := by decide +kernel
theorem dX2_add_6 : decode cX2_add 6 = .ok (.dup, 1) := by decide +kernel
theorem dX2_add_7 : decode cX2_add 7 = .ok (.getfield 27, 3) := by decide +kernel
theorem dX2_add_10 : decode cX2_add 10 = .ok (.iconst 1, 1) := by decide +kernel
theorem dX2_add_11 : decode cX2_add 11 = .ok (.iadd, 1) := by decide +kernel
theorem dX2_add_12 : decode cX2_add 12 = .ok (.putfield 27, 3) := by decide +kernel
theorem dX2_add_15 : decode cX2_add 15 = .ok (.aload_n 0, 1) := by decide +kernel
theorem dX2_add_16 : decode cX2_add 16 = .ok (.iload_n 1, 1) := by decide +kernel
theorem dX2_add_17 : decode cX2_add 17 = .ok (.bipush 9, 2) := by decide +kernel
theorem dX2_add_19 : decode cX2_add 19 = .ok (.iconst 1, 1) := by decide +kernel
theorem dX2_add_20 : decode cX2_add 20 = .ok (.invokevirtual 30, 3) := by decide +kernel
theorem dX2_add_23 : decode cX2_add 23 = .ok (.aload_n 0, 1) := by decide +kernel
theorem dX2_add_24 : decode cX2_add 24 = .ok (.iload_n 1, 1) := by decide +kernel
theorem dX2_add_25 : decode cX2_add 25 = .ok (.iconst 1, 1) := by decide +kernel
theorem dX2_add_26 : decode cX2_add 26 = .ok (.invokevirtual 34, 3) := by decide +kernel
theorem dX2_add_29 : decode cX2_add 29 = .ok (.iload_n 1, 1) := by decide +kernel
theorem dX2_add_30 : decode cX2_add 30 = .ok (.ireturn, 1) := by decide +kernel
theorem dX2_remove_0 : decode cX2_remove 0 = .ok (.aload_n 0, 1) := by decide +kernel
theorem dX2_remove_1 : decode cX2_remove 1 = .ok (.iload_n 1, 1) := by decide +kernel
theorem dX2_remove_2 : decode cX2_remove 2 = .ok (.bipush 9, 2) := by decide +kernel
theorem dX2_remove_4 : decode cX2_remove 4 = .ok (.iconst 0, 1) := by decide +kernel
theorem dX2_remove_5 : decode cX2_remove 5 = .ok (.invokevirtual 30, 3) := by decide +kernel
theorem dX2_remove_8 : decode cX2_remove 8 = .ok (.aload_n 0, 1) := by decide +kernel
theorem dX2_remove_9 : decode cX2_remove 9 = .ok (.iload_n 1, 1) := by decide +kernel
theorem dX2_remove_10 : decode cX2_remove 10 = .ok (.iconst 3, 1) := by decide +kernel
theorem dX2_remove_11 : decode cX2_remove 11 = .ok (.invokevirtual 34, 3) := by decide +kernel
theorem dX2_remove_14 : decode cX2_remove 14 = .ok (.return_, 1) := by decide +kernel
theorem dX2_touch_0 : decode cX2_touch 0 = .ok (.iload_n 1, 1) := by decide +kernel
theorem dX2_touch_1 : decode cX2_touch 1 = .ok (.ifCond .lt 21, 3) := by decide +kernel
theorem dX2_touch_4 : decode cX2_touch 4 = .ok (.iload_n 1, 1) := by decide +kernel
theorem dX2_touch_5 : decode cX2_touch 5 = .ok (.bipush 50, 2) := by decide +kernel
theorem dX2_touch_7 : decode cX2_touch 7 = .ok (.if_icmp .ge 15, 3) := by decide +kernel
theorem dX2_touch_10 : decode cX2_touch 10 = .ok (.aload_n 0, 1) := by decide +kernel
theorem dX2_touch_11 : decode cX2_touch 11 = .ok (.getfield 19, 3) := by decide +kernel
theorem dX2_touch_14 : decode cX2_touch 14 = .ok (.iload_n 1, 1) := by decide +kernel
theorem dX2_touch_15 : decode cX2_touch 15 = .ok (.iload_n 2, 1) := by decide +kernel
theorem dX2_touch_16 : decode cX2_touch 16 = .ok (.iastore, 1) := by decide +kernel
theorem dX2_touch_17 : decode cX2_touch 17 = .ok (.aload_n 0, 1) := by decide +kernel
theorem dX2_touch_18 : decode cX2_touch 18 = .ok (.iconst 1, 1) := by decide +kernel
theorem dX2_touch_19 : decode cX2_touch 19 = .ok (.putfield 38, 3) := by decide +kernel
theorem dX2_touch_22 : decode cX2_touch 22 = .ok (.return_, 1) := by decide +kernel
theorem dX2_isTouched_0 : decode cX2_isTouched 0 = .ok (.iload_n 1, 1) := by decide +kernel
theorem dX2_isTouched_1 : decode cX2_isTouched 1 = .ok (.ifCond .lt 22, 3) := by decide +kernel
theorem dX2_isTouched_4 : decode cX2_isTouched 4 = .ok (.iload_n 1, 1) := by decide +kernel
theorem dX2_isTouched_5 : decode cX2_isTouched 5 = .ok (.bipush 50, 2) := by decide +kernel
theorem dX2_isTouched_7 : decode cX2_isTouched 7 = .ok (.if_icmp .ge 16, 3) := by decide +kernel
theorem dX2_isTouched_10 : decode cX2_isTouched 10 = .ok (.aload_n 0, 1) := by decide +kernel
theorem dX2_isTouched_11 : decode cX2_isTouched 11 = .ok (.getfield 19, 3) := by decide +kernel
theorem dX2_isTouched_14 : decode cX2_isTouched 14 = .ok (.iload_n 1, 1) := by decide +kernel
theorem dX2_isTouched_15 : decode cX2_isTouched 15 = .ok (.iaload, 1) := by decide +kernel
theorem dX2_isTouched_16 : decode cX2_isTouched 16 = .ok (.ifCond .eq 7, 3) := by decide +kernel
theorem dX2_isTouched_19 : decode cX2_isTouched 19 = .ok (.iconst 1, 1) := by decide +kernel
theorem dX2_isTouched_20 : decode cX2_isTouched 20 = .ok (.goto 4, 3) := by decide +kernel
theorem dX2_isTouched_23 : decode cX2_isTouched 23 = .ok (.iconst 0, 1) := by decide +kernel
theorem dX2_isTouched_24 : decode cX2_isTouched 24 = .ok (.ireturn, 1) := by decide +kernel
theorem dX2_howMany_0 : decode cX2_howMany 0 = .ok (.aload_n 0, 1) := by decide +kernel
theorem dX2_howMany_1 : decode cX2_howMany 1 = .ok (.bipush 9, 2) := by decide +kernel
theorem dX2_howMany_3 : decode cX2_howMany 3 = .ok (.iconst 1, 1) := by decide +kernel
theorem dX2_howMany_4 : decode cX2_howMany 4 = .ok (.invokevirtual 42, 3) := by decide +kernel
theorem dX2_howMany_7 : decode cX2_howMany 7 = .ok (.ireturn, 1) := by decide +kernel
theorem dX2_howManyWith_0 : decode cX2_howManyWith 0 = .ok (.iconst 0, 1) := by decide +kernel
theorem dX2_howManyWith_1 : decode cX2_howManyWith 1 = .ok (.istore_n 3, 1) := by decide +kernel
theorem dX2_howManyWith_2 : decode cX2_howManyWith 2 = .ok (.iconst 0, 1) := by decide +kernel
theorem dX2_howManyWith_3 : decode cX2_howManyWith 3 = .ok (.istore 4, 2) := by decide +kernel
theorem dX2_howManyWith_5 : decode cX2_howManyWith 5 = .ok (.iload 4, 2) := by decide +kernel
theorem dX2_howManyWith_7 : decode cX2_howManyWith 7 = .ok (.aload_n 0, 1) := by decide +kernel
theorem dX2_howManyWith_8 : decode cX2_howManyWith 8 = .ok (.getfield 27, 3) := by decide +kernel
theorem dX2_howManyWith_11 : decode cX2_howManyWith 11 = .ok (.if_icmp .ge 32, 3) := by decide +kernel
theorem dX2_howManyWith_14 : decode cX2_howManyWith 14 = .ok (.aload_n 0, 1) := by decide +kernel
theorem dX2_howManyWith_15 : decode cX2_howManyWith 15 = .ok (.iload 4, 2) := by decide +kernel
theorem dX2_howManyWith_17 : decode cX2_howManyWith 17 = .ok (.invokevirtual 46, 3) := by decide +kernel
theorem dX2_howManyWith_20 : decode cX2_howManyWith 20 = .ok (.ifCond .eq 17, 3) := by decide +kernel
theorem dX2_howManyWith_23 : decode cX2_howManyWith 23 = .ok (.aload_n 0, 1) := by decide +kernel
theorem dX2_howManyWith_24 : decode cX2_howManyWith 24 = .ok (.iload 4, 2) := by decide +kernel
theorem dX2_howManyWith_26 : decode cX2_howManyWith 26 = .ok (.iload_n 1, 1) := by decide +kernel
theorem dX2_howManyWith_27 : decode cX2_howManyWith 27 = .ok (.invokevirtual 50, 3) := by decide +kernel
theorem dX2_howManyWith_30 : decode cX2_howManyWith 30 = .ok (.iload_n 2, 1) := by decide +kernel
theorem dX2_howManyWith_31 : decode cX2_howManyWith 31 = .ok (.if_icmp .ne 6, 3) := by decide +kernel
theorem dX2_howManyWith_34 : decode cX2_howManyWith 34 = .ok (.iinc 3 1, 3) := by decide +kernel
theorem dX2_howManyWith_37 : decode cX2_howManyWith 37 = .ok (.iinc 4 1, 3) := by decide +kernel
theorem dX2_howManyWith_40 : decode cX2_howManyWith 40 = .ok (.goto (-35), 3) := by decide +kernel
theorem dX2_howManyWith_43 : decode cX2_howManyWith 43 = .ok (.iload_n 3, 1) := by decide +kernel
theorem dX2_howManyWith_44 : decode cX2_howManyWith 44 = .ok (.ireturn, 1) := by decide +kernel
theorem dX2_idWith_0 : decode cX2_idWith 0 = .ok (.iconst 0, 1) := by decide +kernel
theorem dX2_idWith_1 : decode cX2_idWith 1 = .ok (.istore 4, 2) := by decide +kernel
theorem dX2_idWith_3 : decode cX2_idWith 3 = .ok (.iconst 0, 1) := by decide +kernel
theorem dX2_idWith_4 : decode cX2_idWith 4 = .ok (.istore 5, 2) := by decide +kernel
theorem dX2_idWith_6 : decode cX2_idWith 6 = .ok (.iload 5, 2) := by decide +kernel
theorem dX2_idWith_8 : decode cX2_idWith 8 = .ok (.aload_n 0, 1) := by decide +kernel
theorem dX2_idWith_9 : decode cX2_idWith 9 = .ok (.getfield 27, 3) := by decide +kernel
theorem dX2_idWith_12 : decode cX2_idWith 12 = .ok (.if_icmp .ge 41, 3) := by decide +kernel
theorem dX2_idWith_15 : decode cX2_idWith 15 = .ok (.aload_n 0, 1) := by decide +kernel
theorem dX2_idWith_16 : decode cX2_idWith 16 = .ok (.iload 5, 2) := by decide +kernel
theorem dX2_idWith_18 : decode cX2_idWith 18 = .ok (.invokevirtual 46, 3) := by decide +kernel
theorem dX2_idWith_21 : decode cX2_idWith 21 = .ok (.ifCond .eq 26, 3) := by decide +kernel
theorem dX2_idWith_24 : decode cX2_idWith 24 = .ok (.aload_n 0, 1) := by decide +kernel
theorem dX2_idWith_25 : decode cX2_idWith 25 = .ok (.iload 5, 2) := by decide +kernel
theorem dX2_idWith_27 : decode cX2_idWith 27 = .ok (.iload_n 1, 1) := by decide +kernel
theorem dX2_idWith_28 : decode cX2_idWith 28 = .ok (.invokevirtual 50, 3) := by decide +kernel
theorem dX2_idWith_31 : decode cX2_idWith 31 = .ok (.iload_n 2, 1) := by decide +kernel
theorem dX2_idWith_32 : decode cX2_idWith 32 = .ok (.if_icmp .ne 15, 3) := by decide +kernel
theorem dX2_idWith_35 : decode cX2_idWith 35 = .ok (.iload 4, 2) := by decide +kernel
theorem dX2_idWith_37 : decode cX2_idWith 37 = .ok (.iload_n 3, 1) := by decide +kernel
theorem dX2_idWith_38 : decode cX2_idWith 38 = .ok (.if_icmp .ne 6, 3) := by decide +kernel
theorem dX2_idWith_41 : decode cX2_idWith 41 = .ok (.iload 5, 2) := by decide +kernel
theorem dX2_idWith_43 : decode cX2_idWith 43 = .ok (.ireturn, 1) := by decide +kernel
theorem dX2_idWith_44 : decode cX2_idWith 44 = .ok (.iinc 4 1, 3) := by decide +kernel
theorem dX2_idWith_47 : decode cX2_idWith 47 = .ok (.iinc 5 1, 3) := by decide +kernel
theorem dX2_idWith_50 : decode cX2_idWith 50 = .ok (.goto (-44), 3) := by decide +kernel
theorem dX2_idWith_53 : decode cX2_idWith 53 = .ok (.iconst (-1), 1) := by decide +kernel
theorem dX2_idWith_54 : decode cX2_idWith 54 = .ok (.ireturn, 1) := by decide +kernel
theorem dX2_keep_0 : decode cX2_keep 0 = .ok (.iconst 0, 1) := by decide +kernel
theorem dX2_keep_1 : decode cX2_keep 1 = .ok (.istore_n 1, 1) := by decide +kernel
theorem dX2_keep_2 : decode cX2_keep 2 = .ok (.iload_n 1, 1) := by decide +kernel
theorem dX2_keep_3 : decode cX2_keep 3 = .ok (.bipush 10, 2) := by decide +kernel
theorem dX2_keep_5 : decode cX2_keep 5 = .ok (.if_icmp .ge 28, 3) := by decide +kernel
theorem dX2_keep_8 : decode cX2_keep 8 = .ok (.aload_n 0, 1) := by decide +kernel
theorem dX2_keep_9 : decode cX2_keep 9 = .ok (.getfield 11, 3) := by decide +kernel
theorem dX2_keep_12 : decode cX2_keep 12 = .ok (.iload_n 1, 1) := by decide +kernel
theorem dX2_keep_13 : decode cX2_keep 13 = .ok (.aaload, 1) := by decide +kernel
theorem dX2_keep_14 : decode cX2_keep 14 = .ok (.iconst 0, 1) := by decide +kernel
theorem dX2_keep_15 : decode cX2_keep 15 = .ok (.aload_n 0, 1) := by decide +kernel
theorem dX2_keep_16 : decode cX2_keep 16 = .ok (.getfield 16, 3) := by decide +kernel
theorem dX2_keep_19 : decode cX2_keep 19 = .ok (.iload_n 1, 1) := by decide +kernel
theorem dX2_keep_20 : decode cX2_keep 20 = .ok (.aaload, 1) := by decide +kernel
theorem dX2_keep_21 : decode cX2_keep 21 = .ok (.iconst 0, 1) := by decide +kernel
theorem dX2_keep_22 : decode cX2_keep 22 = .ok (.bipush 50, 2) := by decide +kernel
theorem dX2_keep_24 : decode cX2_keep 24 = .ok (.invokestatic 53, 3) := by decide +kernel
theorem dX2_keep_27 : decode cX2_keep 27 = .ok (.iinc 1 1, 3) := by decide +kernel
theorem dX2_keep_30 : decode cX2_keep 30 = .ok (.goto (-28), 3) := by decide +kernel
theorem dX2_keep_33 : decode cX2_keep 33 = .ok (.aload_n 0, 1) := by decide +kernel
theorem dX2_keep_34 : decode cX2_keep 34 = .ok (.aload_n 0, 1) := by decide +kernel
theorem dX2_keep_35 : decode cX2_keep 35 = .ok (.getfield 27, 3) := by decide +kernel
theorem dX2_keep_38 : decode cX2_keep 38 = .ok (.putfield 59, 3) := by decide +kernel
theorem dX2_keep_41 : decode cX2_keep 41 = .ok (.return_, 1) := by decide +kernel
theorem dX2_bringBack_0 : decode cX2_bringBack 0 = .ok (.iconst 0, 1) := by decide +kernel
theorem dX2_bringBack_1 : decode cX2_bringBack 1 = .ok (.istore_n 1, 1) := by decide +kernel
theorem dX2_bringBack_2 : decode cX2_bringBack 2 = .ok (.iload_n 1, 1) := by decide +kernel
theorem dX2_bringBack_3 : decode cX2_bringBack 3 = .ok (.bipush 10, 2) := by decide +kernel
theorem dX2_bringBack_5 : decode cX2_bringBack 5 = .ok (.if_icmp .ge 28, 3) := by decide +kernel
theorem dX2_bringBack_8 : decode cX2_bringBack 8 = .ok (.aload_n 0, 1) := by decide +kernel
theorem dX2_bringBack_9 : decode cX2_bringBack 9 = .ok (.getfield 16, 3) := by decide +kernel
theorem dX2_bringBack_12 : decode cX2_bringBack 12 = .ok (.iload_n 1, 1) := by decide +kernel
theorem dX2_bringBack_13 : decode cX2_bringBack 13 = .ok (.aaload, 1) := by decide +kernel
theorem dX2_bringBack_14 : decode cX2_bringBack 14 = .ok (.iconst 0, 1) := by decide +kernel
theorem dX2_bringBack_15 : decode cX2_bringBack 15 = .ok (.aload_n 0, 1) := by decide +kernel
theorem dX2_bringBack_16 : decode cX2_bringBack 16 = .ok (.getfield 11, 3) := by decide +kernel
theorem dX2_bringBack_19 : decode cX2_bringBack 19 = .ok (.iload_n 1, 1) := by decide +kernel
theorem dX2_bringBack_20 : decode cX2_bringBack 20 = .ok (.aaload, 1) := by decide +kernel
theorem dX2_bringBack_21 : decode cX2_bringBack 21 = .ok (.iconst 0, 1) := by decide +kernel
theorem dX2_bringBack_22 : decode cX2_bringBack 22 = .ok (.bipush 50, 2) := by decide +kernel
theorem dX2_bringBack_24 : decode cX2_bringBack 24 = .ok (.invokestatic 53, 3) := by decide +kernel
theorem dX2_bringBack_27 : decode cX2_bringBack 27 = .ok (.iinc 1 1, 3) := by decide +kernel
theorem dX2_bringBack_30 : decode cX2_bringBack 30 = .ok (.goto (-28), 3) := by decide +kernel
theorem dX2_bringBack_33 : decode cX2_bringBack 33 = .ok (.aload_n 0, 1) := by decide +kernel
theorem dX2_bringBack_34 : decode cX2_bringBack 34 = .ok (.aload_n 0, 1) := by decide +kernel
theorem dX2_bringBack_35 : decode cX2_bringBack 35 = .ok (.getfield 59, 3) := by decide +kernel
theorem dX2_bringBack_38 : decode cX2_bringBack 38 = .ok (.putfield 27, 3) := by decide +kernel
theorem dX2_bringBack_41 : decode cX2_bringBack 41 = .ok (.aload_n 0, 1) := by decide +kernel
theorem dX2_bringBack_42 : decode cX2_bringBack 42 = .ok (.invokevirtual 62, 3) := by decide +kernel
theorem dX2_bringBack_45 : decode cX2_bringBack 45 = .ok (.return_, 1) := by decide +kernel
theorem dX2_forgetTouched_0 : decode cX2_forgetTouched 0 = .ok (.iconst 0, 1) := by decide +kernel
theorem dX2_forgetTouched_1 : decode cX2_forgetTouched 1 = .ok (.istore_n 1, 1) := by decide +kernel
theorem dX2_forgetTouched_2 : decode cX2_forgetTouched 2 = .ok (.iload_n 1, 1) := by decide +kernel
theorem dX2_forgetTouched_3 : decode cX2_forgetTouched 3 = .ok (.bipush 50, 2) := by decide +kernel
theorem dX2_forgetTouched_5 : decode cX2_forgetTouched 5 = .ok (.if_icmp .ge 16, 3) := by decide +kernel
theorem dX2_forgetTouched_8 : decode cX2_forgetTouched 8 = .ok (.aload_n 0, 1) := by decide +kernel
theorem dX2_forgetTouched_9 : decode cX2_forgetTouched 9 = .ok (.getfield 19, 3) := by decide +kernel
theorem dX2_forgetTouched_12 : decode cX2_forgetTouched 12 = .ok (.iload_n 1, 1) := by decide +kernel
theorem dX2_forgetTouched_13 : decode cX2_forgetTouched 13 = .ok (.iconst 0, 1) := by decide +kernel
theorem dX2_forgetTouched_14 : decode cX2_forgetTouched 14 = .ok (.iastore, 1) := by decide +kernel
theorem dX2_forgetTouched_15 : decode cX2_forgetTouched 15 = .ok (.iinc 1 1, 3) := by decide +kernel
theorem dX2_forgetTouched_18 : decode cX2_forgetTouched 18 = .ok (.goto (-16), 3) := by decide +kernel
theorem dX2_forgetTouched_21 : decode cX2_forgetTouched 21 = .ok (.aload_n 0, 1) := by decide +kernel
theorem dX2_forgetTouched_22 : decode cX2_forgetTouched 22 = .ok (.iconst 0, 1) := by decide +kernel
theorem dX2_forgetTouched_23 : decode cX2_forgetTouched 23 = .ok (.putfield 38, 3) := by decide +kernel
theorem dX2_forgetTouched_26 : decode cX2_forgetTouched 26 = .ok (.return_, 1) := by decide +kernel
theorem dX3_init_0 : decode cX3_init 0 = .ok (.aload_n 0, 1) := by decide +kernel
theorem dX3_init_1 : decode cX3_init 1 = .ok (.invokespecial 3, 3) := by decide +kernel
theorem dX3_init_4 : decode cX3_init 4 = .ok (.aload_n 0, 1) := by decide +kernel
theorem dX3_init_5 : decode cX3_init 5 = .ok (.iconst 4, 1) := by decide +kernel
theorem dX3_init_6 : decode cX3_init 6 = .ok (.bipush 60, 2) := by decide +kernel
theorem dX3_init_8 : decode cX3_init 8 = .ok (.multianewarray 9 2, 4) := by decide +kernel
theorem dX3_init_12 : decode cX3_init 12 = .ok (.putfield 11, 3) := by decide +kernel
theorem dX3_init_15 : decode cX3_init 15 = .ok (.aload_n 0, 1) := by decide +kernel
theorem dX3_init_16 : decode cX3_init 16 = .ok (.iconst 3, 1) := by decide +kernel
theorem dX3_init_17 : decode cX3_init 17 = .ok (.newarray .int, 2) := by decide +kernel
theorem dX3_init_19 : decode cX3_init 19 = .ok (.putfield 16, 3) := by decide +kernel
theorem dX3_init_22 : decode cX3_init 22 = .ok (.aload_n 0, 1) := by decide +kernel
theorem dX3_init_23 : decode cX3_init 23 = .ok (.bipush 50, 2) := by decide +kernel
theorem dX3_init_25 : decode cX3_init 25 = .ok (.newarray .int, 2) := by decide +kernel
theorem dX3_init_27 : decode cX3_init 27 = .ok (.putfield 20, 3) := by decide +kernel
theorem dX3_init_30 : decode cX3_init 30 = .ok (.return_, 1) := by decide +kernel
theorem dX3_at_0 : decode cX3_at 0 = .ok (.aload_n 0, 1) := by decide +kernel
theorem dX3_at_1 : decode cX3_at 1 = .ok (.getfield 23, 3) := by decide +kernel
theorem dX3_at_4 : decode cX3_at 4 = .ok (.iload_n 1, 1) := by decide +kernel
theorem dX3_at_5 : decode cX3_at 5 = .ok (.iadd, 1) := by decide +kernel
theorem dX3_at_6 : decode cX3_at 6 = .ok (.istore_n 3, 1) := by decide +kernel
theorem dX3_at_7 : decode cX3_at 7 = .ok (.iload_n 3, 1) := by decide +kernel
theorem dX3_at_8 : decode cX3_at 8 = .ok (.bipush 60, 2) := by decide +kernel
theorem dX3_at_10 : decode cX3_at 10 = .ok (.if_icmp .lt 6, 3) := by decide +kernel
theorem dX3_at_13 : decode cX3_at 13 = .ok (.iinc 3 (-60), 3) := by decide +kernel
theorem dX3_at_16 : decode cX3_at 16 = .ok (.iload_n 3, 1) := by decide +kernel
theorem dX3_at_17 : decode cX3_at 17 = .ok (.ifCond .lt 18, 3) := by decide +kernel
theorem dX3_at_20 : decode cX3_at 20 = .ok (.iload_n 3, 1) := by decide +kernel
theorem dX3_at_21 : decode cX3_at 21 = .ok (.bipush 60, 2) := by decide +kernel
theorem dX3_at_23 : decode cX3_at 23 = .ok (.if_icmp .ge 12, 3) := by decide +kernel
theorem dX3_at_26 : decode cX3_at 26 = .ok (.iload_n 2, 1) := by decide +kernel
theorem dX3_at_27 : decode cX3_at 27 = .ok (.ifCond .lt 8, 3) := by decide +kernel
theorem dX3_at_30 : decode cX3_at 30 = .ok (.iload_n 2, 1) := by decide +kernel
theorem dX3_at_31 : decode cX3_at 31 = .ok (.iconst 4, 1) := by decide +kernel
theorem dX3_at_32 : decode cX3_at 32 = .ok (.if_icmp .lt 6, 3) := by decide +kernel
theorem dX3_at_35 : decode cX3_at 35 = .ok (.bipush (-9), 2) := by decide +kernel
theorem dX3_at_37 : decode cX3_at 37 = .ok (.ireturn, 1) := by decide +kernel
theorem dX3_at_38 : decode cX3_at 38 = .ok (.aload_n 0, 1) := by decide +kernel
theorem dX3_at_39 : decode cX3_at 39 = .ok (.getfield 11, 3) := by decide +kernel
theorem dX3_at_42 : decode cX3_at 42 = .ok (.iload_n 2, 1) := by decide +kernel
theorem dX3_at_43 : decode cX3_at 43 = .ok (.aaload, 1) := by decide +kernel
theorem dX3_at_44 : decode cX3_at 44 = .ok (.iload_n 3, 1) := by decide +kernel
theorem dX3_at_45 : decode cX3_at 45 = .ok (.iaload, 1) := by decide +kernel
theorem dX3_at_46 : decode cX3_at 46 = .ok (.ireturn, 1) := by decide +kernel
theorem dX3_add_0 : decode cX3_add 0 = .ok (.aload_n 0, 1) := by decide +kernel
theorem dX3_add_1 : decode cX3_add 1 = .ok (.getfield 27, 3) := by decide +kernel
theorem dX3_add_4 : decode cX3_add 4 = .ok (.bipush 60, 2) := by decide +kernel
theorem dX3_add_6 : decode cX3_add 6 = .ok (.if_icmp .ne 7, 3) := by decide +kernel
theorem dX3_add_9 : decode cX3_add 9 = .ok (.aload_n 0, 1) := by decide +kernel
theorem dX3_add_10 : decode cX3_add 10 = .ok (.invokevirtual 30, 3) := by decide +kernel
theorem dX3_add_13 : decode cX3_add 13 = .ok (.aload_n 0, 1) := by decide +kernel
theorem dX3_add_14 : decode cX3_add 14 = .ok (.getfield 23, 3) := by decide +kernel
theorem dX3_add_17 : decode cX3_add 17 = .ok (.aload_n 0, 1) := by decide +kernel
theorem dX3_add_18 : decode cX3_add 18 = .ok (.getfield 27, 3) := by decide +kernel
theorem dX3_add_21 : decode cX3_add 21 = .ok (.iadd, 1) := by decide +kernel
theorem dX3_add_22 : decode cX3_add 22 = .ok (.bipush 60, 2) := by decide +kernel
theorem dX3_add_24 : decode cX3_add 24 = .ok (.irem, 1) := by decide +kernel
theorem dX3_add_25 : decode cX3_add 25 = .ok (.istore 5, 2) := by decide +kernel
theorem dX3_add_27 : decode cX3_add 27 = .ok (.aload_n 0, 1) := by decide +kernel
theorem dX3_add_28 : decode cX3_add 28 = .ok (.getfield 11, 3) := by decide +kernel
theorem dX3_add_31 : decode cX3_add 31 = .ok (.iconst 0, 1) := by decide +kernel
theorem dX3_add_32 : decode cX3_add 32 = .ok (.aaload, 1) := by decide +kernel
theorem dX3_add_33 : decode cX3_add 33 = .ok (.iload 5, 2) := by decide +kernel
theorem dX3_add_35 : decode cX3_add 35 = .ok (.iload_n 1, 1) := by decide +kernel
theorem dX3_add_36 : decode cX3_add 36 = .ok (.iastore, 1) := by decide +kernel
theorem dX3_add_37 : decode cX3_add 37 = .ok (.aload_n 0, 1) := by decide +kernel
theorem dX3_add_38 : decode cX3_add 38 = .ok (.getfield 11, 3) := by decide +kernel
theorem dX3_add_41 : decode cX3_add 41 = .ok (.iconst 1, 1) := by decide +kernel
theorem dX3_add_42 : decode cX3_add 42 = .ok (.aaload, 1) := by decide +kernel
theorem dX3_add_43 : decode cX3_add 43 = .ok (.iload 5, 2) := by decide +kernel
theorem dX3_add_45 : decode cX3_add 45 = .ok (.iload_n 2, 1) := by decide +kernel
theorem dX3_add_46 : decode cX3_add 46 = .ok (.iastore, 1) := by decide +kernel
theorem dX3_add_47 : decode cX3_add 47 = .ok (.aload_n 0, 1) := by decide +kernel
theorem dX3_add_48 : decode cX3_add 48 = .ok (.getfield 11, 3) := by decide +kernel
theorem dX3_add_51 : decode cX3_add 51 = .ok (.iconst 2, 1) := by decide +kernel
theorem dX3_add_52 : decode cX3_add 52 = .ok (.aaload, 1) := by decide +kernel
theorem dX3_add_53 : decode cX3_add 53 = .ok (.iload 5, 2) := by decide +kernel
theorem dX3_add_55 : decode cX3_add 55 = .ok (.iload_n 3, 1) := by decide +kernel
theorem dX3_add_56 : decode cX3_add 56 = .ok (.iastore, 1) := by decide +kernel
theorem dX3_add_57 : decode cX3_add 57 = .ok (.aload_n 0, 1) := by decide +kernel
theorem dX3_add_58 : decode cX3_add 58 = .ok (.getfield 11, 3) := by decide +kernel
theorem dX3_add_61 : decode cX3_add 61 = .ok (.iconst 3, 1) := by decide +kernel
theorem dX3_add_62 : decode cX3_add 62 = .ok (.aaload, 1) := by decide +kernel
theorem dX3_add_63 : decode cX3_add 63 = .ok (.iload 5, 2) := by decide +kernel
theorem dX3_add_65 : decode cX3_add 65 = .ok (.iload 4, 2) := by decide +kernel
theorem dX3_add_67 : decode cX3_add 67 = .ok (.iastore, 1) := by decide +kernel
theorem dX3_add_68 : decode cX3_add 68 = .ok (.aload_n 0, 1) := by decide +kernel
theorem dX3_add_69 : decode cX3_add 69 = .ok (.dup, 1) := by decide +kernel
theorem dX3_add_70 : decode cX3_add 70 = .ok (.getfield 27, 3) := by decide +kernel
theorem dX3_add_73 : decode cX3_add 73 = .ok (.iconst 1, 1) := by decide +kernel
theorem dX3_add_74 : decode cX3_add 74 = .ok (.iadd, 1) := by decide +kernel
theorem dX3_add_75 : decode cX3_add 75 = .ok (.putfield 27, 3) := by decide +kernel
theorem dX3_add_78 : decode cX3_add 78 = .ok (.return_, 1) := by decide +kernel
theorem dX3_driveOut_0 : decode cX3_driveOut 0 = .ok (.aload_n 0, 1) := by decide +kernel
theorem dX3_driveOut_1 : decode cX3_driveOut 1 = .ok (.iconst 0, 1) := by decide +kernel
theorem dX3_driveOut_2 : decode cX3_driveOut 2 = .ok (.iconst 0, 1) := by decide +kernel
theorem dX3_driveOut_3 : decode cX3_driveOut 3 = .ok (.invokevirtual 33, 3) := by decide +kernel
theorem dX3_driveOut_6 : decode cX3_driveOut 6 = .ok (.istore_n 1, 1) := by decide +kernel
theorem dX3_driveOut_7 : decode cX3_driveOut 7 = .ok (.iload_n 1, 1) := by decide +kernel
theorem dX3_driveOut_8 : decode cX3_driveOut 8 = .ok (.invokestatic 37, 3) := by decide +kernel
theorem dX3_driveOut_11 : decode cX3_driveOut 11 = .ok (.ifCond .eq 15, 3) := by decide +kernel
theorem dX3_driveOut_14 : decode cX3_driveOut 14 = .ok (.aload_n 0, 1) := by decide +kernel
theorem dX3_driveOut_15 : decode cX3_driveOut 15 = .ok (.getfield 16, 3) := by decide +kernel
theorem dX3_driveOut_18 : decode cX3_driveOut 18 = .ok (.iload_n 1, 1) := by decide +kernel
theorem dX3_driveOut_19 : decode cX3_driveOut 19 = .ok (.aload_n 0, 1) := by decide +kernel
theorem dX3_driveOut_20 : decode cX3_driveOut 20 = .ok (.iconst 0, 1) := by decide +kernel
theorem dX3_driveOut_21 : decode cX3_driveOut 21 = .ok (.iconst 1, 1) := by decide +kernel
theorem dX3_driveOut_22 : decode cX3_driveOut 22 = .ok (.invokevirtual 33, 3) := by decide +kernel
theorem dX3_driveOut_25 : decode cX3_driveOut 25 = .ok (.iastore, 1) := by decide +kernel
theorem dX3_driveOut_26 : decode cX3_driveOut 26 = .ok (.aload_n 0, 1) := by decide +kernel
theorem dX3_driveOut_27 : decode cX3_driveOut 27 = .ok (.aload_n 0, 1) := by decide +kernel
theorem dX3_driveOut_28 : decode cX3_driveOut 28 = .ok (.getfield 23, 3) := by decide +kernel
theorem dX3_driveOut_31 : decode cX3_driveOut 31 = .ok (.iconst 1, 1) := by decide +kernel
theorem dX3_driveOut_32 : decode cX3_driveOut 32 = .ok (.iadd, 1) := by decide +kernel
theorem dX3_driveOut_33 : decode cX3_driveOut 33 = .ok (.bipush 60, 2) := by decide +kernel
theorem dX3_driveOut_35 : decode cX3_driveOut 35 = .ok (.irem, 1) := by decide +kernel
theorem dX3_driveOut_36 : decode cX3_driveOut 36 = .ok (.putfield 23, 3) := by decide +kernel
theorem dX3_driveOut_39 : decode cX3_driveOut 39 = .ok (.aload_n 0, 1) := by decide +kernel
theorem dX3_driveOut_40 : decode cX3_driveOut 40 = .ok (.dup, 1) := by decide +kernel
theorem dX3_driveOut_41 : decode cX3_driveOut 41 = .ok (.getfield 27, 3) := by decide +kernel
theorem dX3_driveOut_44 : decode cX3_driveOut 44 = .ok (.iconst 1, 1) := by decide +kernel
theorem dX3_driveOut_45 : decode cX3_driveOut 45 = .ok (.isub, 1) := by decide +kernel
theorem dX3_driveOut_46 : decode cX3_driveOut 46 = .ok (.putfield 27, 3) := by decide +kernel
theorem dX3_driveOut_49 : decode cX3_driveOut 49 = .ok (.return_, 1) := by decide +kernel
theorem dX3_tellChanges_0 : decode cX3_tellChanges 0 = .ok (.aload_n 1, 1) := by decide +kernel
theorem dX3_tellChanges_1 : decode cX3_tellChanges 1 = .ok (.getfield 41, 3) := by decide +kernel
theorem dX3_tellChanges_4 : decode cX3_tellChanges 4 = .ok (.invokestatic 37, 3) := by decide +kernel
theorem dX3_tellChanges_7 : decode cX3_tellChanges 7 = .ok (.ifCond .eq 27, 3) := by decide +kernel
theorem dX3_tellChanges_10 : decode cX3_tellChanges 10 = .ok (.aload_n 1, 1) := by decide +kernel
theorem dX3_tellChanges_11 : decode cX3_tellChanges 11 = .ok (.getfield 46, 3) := by decide +kernel
theorem dX3_tellChanges_14 : decode cX3_tellChanges 14 = .ok (.iload_n 2, 1) := by decide +kernel
theorem dX3_tellChanges_15 : decode cX3_tellChanges 15 = .ok (.if_icmp .gt 19, 3) := by decide +kernel
theorem dX3_tellChanges_18 : decode cX3_tellChanges 18 = .ok (.aload_n 0, 1) := by decide +kernel
theorem dX3_tellChanges_19 : decode cX3_tellChanges 19 = .ok (.getfield 16, 3) := by decide +kernel
theorem dX3_tellChanges_22 : decode cX3_tellChanges 22 = .ok (.aload_n 1, 1) := by decide +kernel
theorem dX3_tellChanges_23 : decode cX3_tellChanges 23 = .ok (.getfield 41, 3) := by decide +kernel
theorem dX3_tellChanges_26 : decode cX3_tellChanges 26 = .ok (.iaload, 1) := by decide +kernel
theorem dX3_tellChanges_27 : decode cX3_tellChanges 27 = .ok (.aload_n 1, 1) := by decide +kernel
theorem dX3_tellChanges_28 : decode cX3_tellChanges 28 = .ok (.getfield 46, 3) := by decide +kernel
theorem dX3_tellChanges_31 : decode cX3_tellChanges 31 = .ok (.if_icmp .le 6, 3) := by decide +kernel
theorem dX3_tellChanges_34 : decode cX3_tellChanges 34 = .ok (.bipush (-6), 2) := by decide +kernel
theorem dX3_tellChanges_36 : decode cX3_tellChanges 36 = .ok (.ireturn, 1) := by decide +kernel
theorem dX3_tellChanges_37 : decode cX3_tellChanges 37 = .ok (.aload_n 1, 1) := by decide +kernel
theorem dX3_tellChanges_38 : decode cX3_tellChanges 38 = .ok (.getfield 46, 3) := by decide +kernel
theorem dX3_tellChanges_41 : decode cX3_tellChanges 41 = .ok (.istore 4, 2) := by decide +kernel
theorem dX3_tellChanges_43 : decode cX3_tellChanges 43 = .ok (.aload_n 1, 1) := by decide +kernel
theorem dX3_tellChanges_44 : decode cX3_tellChanges 44 = .ok (.getfield 46, 3) := by decide +kernel
theorem dX3_tellChanges_47 : decode cX3_tellChanges 47 = .ok (.iload_n 2, 1) := by decide +kernel
theorem dX3_tellChanges_48 : decode cX3_tellChanges 48 = .ok (.if_icmp .ge 31, 3) := by decide +kernel
theorem dX3_tellChanges_51 : decode cX3_tellChanges 51 = .ok (.aload_n 0, 1) := by decide +kernel
theorem dX3_tellChanges_52 : decode cX3_tellChanges 52 = .ok (.aload_n 1, 1) := by decide +kernel
theorem dX3_tellChanges_53 : decode cX3_tellChanges 53 = .ok (.getfield 41, 3) := by decide +kernel
theorem dX3_tellChanges_56 : decode cX3_tellChanges 56 = .ok (.aload_n 1, 1) := by decide +kernel
theorem dX3_tellChanges_57 : decode cX3_tellChanges 57 = .ok (.getfield 46, 3) := by decide +kernel
theorem dX3_tellChanges_60 : decode cX3_tellChanges 60 = .ok (.aload_n 1, 1) := by decide +kernel
theorem dX3_tellChanges_61 : decode cX3_tellChanges 61 = .ok (.getfield 49, 3) := by decide +kernel
theorem dX3_tellChanges_64 : decode cX3_tellChanges 64 = .ok (.invokevirtual 52, 3) := by decide +kernel
theorem dX3_tellChanges_67 : decode cX3_tellChanges 67 = .ok (.istore 4, 2) := by decide +kernel
theorem dX3_tellChanges_69 : decode cX3_tellChanges 69 = .ok (.iload 4, 2) := by decide +kernel
theorem dX3_tellChanges_71 : decode cX3_tellChanges 71 = .ok (.bipush (-9), 2) := by decide +kernel
theorem dX3_tellChanges_73 : decode cX3_tellChanges 73 = .ok (.if_icmp .ne 6, 3) := by decide +kernel
theorem dX3_tellChanges_76 : decode cX3_tellChanges 76 = .ok (.bipush (-6), 2) := by decide +kernel
theorem dX3_tellChanges_78 : decode cX3_tellChanges 78 = .ok (.ireturn, 1) := by decide +kernel
theorem dX3_tellChanges_79 : decode cX3_tellChanges 79 = .ok (.aload_n 0, 1) := by decide +kernel
theorem dX3_tellChanges_80 : decode cX3_tellChanges 80 = .ok (.invokevirtual 56, 3) := by decide +kernel
theorem dX3_tellChanges_83 : decode cX3_tellChanges 83 = .ok (.iconst 0, 1) := by decide +kernel
theorem dX3_tellChanges_84 : decode cX3_tellChanges 84 = .ok (.istore 5, 2) := by decide +kernel
theorem dX3_tellChanges_86 : decode cX3_tellChanges 86 = .ok (.iload 5, 2) := by decide +kernel
theorem dX3_tellChanges_88 : decode cX3_tellChanges 88 = .ok (.aload_n 0, 1) := by decide +kernel
theorem dX3_tellChanges_89 : decode cX3_tellChanges 89 = .ok (.getfield 27, 3) := by decide +kernel
theorem dX3_tellChanges_92 : decode cX3_tellChanges 92 = .ok (.if_icmp .ge 57, 3) := by decide +kernel
theorem dX3_tellChanges_95 : decode cX3_tellChanges 95 = .ok (.aload_n 0, 1) := by decide +kernel
theorem dX3_tellChanges_96 : decode cX3_tellChanges 96 = .ok (.iload 5, 2) := by decide +kernel
theorem dX3_tellChanges_98 : decode cX3_tellChanges 98 = .ok (.aload_n 1, 1) := by decide +kernel
theorem dX3_tellChanges_99 : decode cX3_tellChanges 99 = .ok (.getfield 41, 3) := by decide +kernel
theorem dX3_tellChanges_102 : decode cX3_tellChanges 102 = .ok (.aload_n 1, 1) := by decide +kernel
theorem dX3_tellChanges_103 : decode cX3_tellChanges 103 = .ok (.getfield 46, 3) := by decide +kernel
theorem dX3_tellChanges_106 : decode cX3_tellChanges 106 = .ok (.invokevirtual 59, 3) := by decide +kernel
theorem dX3_tellChanges_109 : decode cX3_tellChanges 109 = .ok (.ifCond .eq 34, 3) := by decide +kernel
theorem dX3_tellChanges_112 : decode cX3_tellChanges 112 = .ok (.aload_n 0, 1) := by decide +kernel
theorem dX3_tellChanges_113 : decode cX3_tellChanges 113 = .ok (.iload 5, 2) := by decide +kernel
theorem dX3_tellChanges_115 : decode cX3_tellChanges 115 = .ok (.iconst 1, 1) := by decide +kernel
theorem dX3_tellChanges_116 : decode cX3_tellChanges 116 = .ok (.invokevirtual 33, 3) := by decide +kernel
theorem dX3_tellChanges_119 : decode cX3_tellChanges 119 = .ok (.iload 4, 2) := by decide +kernel
theorem dX3_tellChanges_121 : decode cX3_tellChanges 121 = .ok (.if_icmp .gt 22, 3) := by decide +kernel
theorem dX3_tellChanges_124 : decode cX3_tellChanges 124 = .ok (.aload_n 0, 1) := by decide +kernel
theorem dX3_tellChanges_125 : decode cX3_tellChanges 125 = .ok (.aload_n 0, 1) := by decide +kernel
theorem dX3_tellChanges_126 : decode cX3_tellChanges 126 = .ok (.iload 5, 2) := by decide +kernel
theorem dX3_tellChanges_128 : decode cX3_tellChanges 128 = .ok (.iconst 2, 1) := by decide +kernel
theorem dX3_tellChanges_129 : decode cX3_tellChanges 129 = .ok (.invokevirtual 33, 3) := by decide +kernel
theorem dX3_tellChanges_132 : decode cX3_tellChanges 132 = .ok (.aload_n 0, 1) := by decide +kernel
theorem dX3_tellChanges_133 : decode cX3_tellChanges 133 = .ok (.iload 5, 2) := by decide +kernel
theorem dX3_tellChanges_135 : decode cX3_tellChanges 135 = .ok (.iconst 3, 1) := by decide +kernel
theorem dX3_tellChanges_136 : decode cX3_tellChanges 136 = .ok (.invokevirtual 33, 3) := by decide +kernel
theorem dX3_tellChanges_139 : decode cX3_tellChanges 139 = .ok (.invokevirtual 63, 3) := by decide +kernel
theorem dX3_tellChanges_142 : decode cX3_tellChanges 142 = .ok (.pop, 1) := by decide +kernel
theorem dX3_tellChanges_143 : decode cX3_tellChanges 143 = .ok (.iinc 5 1, 3) := by decide +kernel
theorem dX3_tellChanges_146 : decode cX3_tellChanges 146 = .ok (.goto (-60), 3) := by decide +kernel
theorem dX3_tellChanges_149 : decode cX3_tellChanges 149 = .ok (.iconst 0, 1) := by decide +kernel
theorem dX3_tellChanges_150 : decode cX3_tellChanges 150 = .ok (.istore 5, 2) := by decide +kernel
theorem dX3_tellChanges_152 : decode cX3_tellChanges 152 = .ok (.iload 5, 2) := by decide +kernel
theorem dX3_tellChanges_154 : decode cX3_tellChanges 154 = .ok (.bipush 50, 2) := by decide +kernel
theorem dX3_tellChanges_156 : decode cX3_tellChanges 156 = .ok (.if_icmp .ge 32, 3) := by decide +kernel
theorem dX3_tellChanges_159 : decode cX3_tellChanges 159 = .ok (.aload_n 0, 1) := by decide +kernel
theorem dX3_tellChanges_160 : decode cX3_tellChanges 160 = .ok (.getfield 20, 3) := by decide +kernel
theorem dX3_tellChanges_163 : decode cX3_tellChanges 163 = .ok (.iload 5, 2) := by decide +kernel
theorem dX3_tellChanges_165 : decode cX3_tellChanges 165 = .ok (.iaload, 1) := by decide +kernel
theorem dX3_tellChanges_166 : decode cX3_tellChanges 166 = .ok (.ifCond .eq 16, 3) := by decide +kernel
theorem dX3_tellChanges_169 : decode cX3_tellChanges 169 = .ok (.aload_n 3, 1) := by decide +kernel
theorem dX3_tellChanges_170 : decode cX3_tellChanges 170 = .ok (.aload_n 0, 1) := by decide +kernel
theorem dX3_tellChanges_171 : decode cX3_tellChanges 171 = .ok (.getfield 20, 3) := by decide +kernel
theorem dX3_tellChanges_174 : decode cX3_tellChanges 174 = .ok (.iload 5, 2) := by decide +kernel
theorem dX3_tellChanges_176 : decode cX3_tellChanges 176 = .ok (.iaload, 1) := by decide +kernel
theorem dX3_tellChanges_177 : decode cX3_tellChanges 177 = .ok (.iload 5, 2) := by decide +kernel
theorem dX3_tellChanges_179 : decode cX3_tellChanges 179 = .ok (.invokevirtual 66, 3) := by decide +kernel
theorem dX3_tellChanges_182 : decode cX3_tellChanges 182 = .ok (.iinc 5 1, 3) := by decide +kernel
theorem dX3_tellChanges_185 : decode cX3_tellChanges 185 = .ok (.goto (-33), 3) := by decide +kernel
theorem dX3_tellChanges_188 : decode cX3_tellChanges 188 = .ok (.aload_n 3, 1) := by decide +kernel
theorem dX3_tellChanges_189 : decode cX3_tellChanges 189 = .ok (.iconst 0, 1) := by decide +kernel
theorem dX3_tellChanges_190 : decode cX3_tellChanges 190 = .ok (.iload 4, 2) := by decide +kernel
theorem dX3_tellChanges_192 : decode cX3_tellChanges 192 = .ok (.invokevirtual 66, 3) := by decide +kernel
theorem dX3_tellChanges_195 : decode cX3_tellChanges 195 = .ok (.iconst 0, 1) := by decide +kernel
theorem dX3_tellChanges_196 : decode cX3_tellChanges 196 = .ok (.ireturn, 1) := by decide +kernel
theorem dX3_lastTellable_0 : decode cX3_lastTellable 0 = .ok (.aload_n 0, 1) := by decide +kernel
theorem dX3_lastTellable_1 : decode cX3_lastTellable 1 = .ok (.invokevirtual 56, 3) := by decide +kernel
theorem dX3_lastTellable_4 : decode cX3_lastTellable 4 = .ok (.bipush (-9), 2) := by decide +kernel
theorem dX3_lastTellable_6 : decode cX3_lastTellable 6 = .ok (.istore 4, 2) := by decide +kernel
theorem dX3_lastTellable_8 : decode cX3_lastTellable 8 = .ok (.iconst 0, 1) := by decide +kernel
theorem dX3_lastTellable_9 : decode cX3_lastTellable 9 = .ok (.istore 5, 2) := by decide +kernel
theorem dX3_lastTellable_11 : decode cX3_lastTellable 11 = .ok (.iconst 0, 1) := by decide +kernel
theorem dX3_lastTellable_12 : decode cX3_lastTellable 12 = .ok (.istore 6, 2) := by decide +kernel
theorem dX3_lastTellable_14 : decode cX3_lastTellable 14 = .ok (.iload 6, 2) := by decide +kernel
theorem dX3_lastTellable_16 : decode cX3_lastTellable 16 = .ok (.aload_n 0, 1) := by decide +kernel
theorem dX3_lastTellable_17 : decode cX3_lastTellable 17 = .ok (.getfield 27, 3) := by decide +kernel
theorem dX3_lastTellable_20 : decode cX3_lastTellable 20 = .ok (.if_icmp .ge 67, 3) := by decide +kernel
theorem dX3_lastTellable_23 : decode cX3_lastTellable 23 = .ok (.aload_n 0, 1) := by decide +kernel
theorem dX3_lastTellable_24 : decode cX3_lastTellable 24 = .ok (.iload 6, 2) := by decide +kernel
theorem dX3_lastTellable_26 : decode cX3_lastTellable 26 = .ok (.iload_n 1, 1) := by decide +kernel
theorem dX3_lastTellable_27 : decode cX3_lastTellable 27 = .ok (.iload_n 2, 1) := by decide +kernel
theorem dX3_lastTellable_28 : decode cX3_lastTellable 28 = .ok (.invokevirtual 59, 3) := by decide +kernel
theorem dX3_lastTellable_31 : decode cX3_lastTellable 31 = .ok (.ifCond .eq 50, 3) := by decide +kernel
theorem dX3_lastTellable_34 : decode cX3_lastTellable 34 = .ok (.iload 5, 2) := by decide +kernel
theorem dX3_lastTellable_36 : decode cX3_lastTellable 36 = .ok (.aload_n 0, 1) := by decide +kernel
theorem dX3_lastTellable_37 : decode cX3_lastTellable 37 = .ok (.aload_n 0, 1) := by decide +kernel
theorem dX3_lastTellable_38 : decode cX3_lastTellable 38 = .ok (.iload 6, 2) := by decide +kernel
theorem dX3_lastTellable_40 : decode cX3_lastTellable 40 = .ok (.iconst 2, 1) := by decide +kernel
theorem dX3_lastTellable_41 : decode cX3_lastTellable 41 = .ok (.invokevirtual 33, 3) := by decide +kernel
theorem dX3_lastTellable_44 : decode cX3_lastTellable 44 = .ok (.aload_n 0, 1) := by decide +kernel
theorem dX3_lastTellable_45 : decode cX3_lastTellable 45 = .ok (.iload 6, 2) := by decide +kernel
theorem dX3_lastTellable_47 : decode cX3_lastTellable 47 = .ok (.iconst 3, 1) := by decide +kernel
theorem dX3_lastTellable_48 : decode cX3_lastTellable 48 = .ok (.invokevirtual 33, 3) := by decide +kernel
theorem dX3_lastTellable_51 : decode cX3_lastTellable 51 = .ok (.invokevirtual 63, 3) := by decide +kernel
theorem dX3_lastTellable_54 : decode cX3_lastTellable 54 = .ok (.iadd, 1) := by decide +kernel
theorem dX3_lastTellable_55 : decode cX3_lastTellable 55 = .ok (.istore 5, 2) := by decide +kernel
theorem dX3_lastTellable_57 : decode cX3_lastTellable 57 = .ok (.aload_n 0, 1) := by decide +kernel
theorem dX3_lastTellable_58 : decode cX3_lastTellable 58 = .ok (.iload 6, 2) := by decide +kernel
theorem dX3_lastTellable_60 : decode cX3_lastTellable 60 = .ok (.invokevirtual 72, 3) := by decide +kernel
theorem dX3_lastTellable_63 : decode cX3_lastTellable 63 = .ok (.ifCond .eq 18, 3) := by decide +kernel
theorem dX3_lastTellable_66 : decode cX3_lastTellable 66 = .ok (.iload 5, 2) := by decide +kernel
theorem dX3_lastTellable_68 : decode cX3_lastTellable 68 = .ok (.iload_n 3, 1) := by decide +kernel
theorem dX3_lastTellable_69 : decode cX3_lastTellable 69 = .ok (.if_icmp .gt 12, 3) := by decide +kernel
theorem dX3_lastTellable_72 : decode cX3_lastTellable 72 = .ok (.aload_n 0, 1) := by decide +kernel
theorem dX3_lastTellable_73 : decode cX3_lastTellable 73 = .ok (.iload 6, 2) := by decide +kernel
theorem dX3_lastTellable_75 : decode cX3_lastTellable 75 = .ok (.iconst 1, 1) := by decide +kernel
theorem dX3_lastTellable_76 : decode cX3_lastTellable 76 = .ok (.invokevirtual 33, 3) := by decide +kernel
theorem dX3_lastTellable_79 : decode cX3_lastTellable 79 = .ok (.istore 4, 2) := by decide +kernel
theorem dX3_lastTellable_81 : decode cX3_lastTellable 81 = .ok (.iinc 6 1, 3) := by decide +kernel
theorem dX3_lastTellable_84 : decode cX3_lastTellable 84 = .ok (.goto (-70), 3) := by decide +kernel
theorem dX3_lastTellable_87 : decode cX3_lastTellable 87 = .ok (.iload 4, 2) := by decide +kernel
theorem dX3_lastTellable_89 : decode cX3_lastTellable 89 = .ok (.ireturn, 1) := by decide +kernel
theorem dX3_isOf_0 : decode cX3_isOf 0 = .ok (.aload_n 0, 1) := by decide +kernel
theorem dX3_isOf_1 : decode cX3_isOf 1 = .ok (.iload_n 1, 1) := by decide +kernel
theorem dX3_isOf_2 : decode cX3_isOf 2 = .ok (.iconst 0, 1) := by decide +kernel
theorem dX3_isOf_3 : decode cX3_isOf 3 = .ok (.invokevirtual 33, 3) := by decide +kernel
theorem dX3_isOf_6 : decode cX3_isOf 6 = .ok (.iload_n 2, 1) := by decide +kernel
theorem dX3_isOf_7 : decode cX3_isOf 7 = .ok (.if_icmp .ne 17, 3) := by decide +kernel
theorem dX3_isOf_10 : decode cX3_isOf 10 = .ok (.aload_n 0, 1) := by decide +kernel
theorem dX3_isOf_11 : decode cX3_isOf 11 = .ok (.iload_n 1, 1) := by decide +kernel
theorem dX3_isOf_12 : decode cX3_isOf 12 = .ok (.iconst 1, 1) := by decide +kernel
theorem dX3_isOf_13 : decode cX3_isOf 13 = .ok (.invokevirtual 33, 3) := by decide +kernel
theorem dX3_isOf_16 : decode cX3_isOf 16 = .ok (.iload_n 3, 1) := by decide +kernel
theorem dX3_isOf_17 : decode cX3_isOf 17 = .ok (.if_icmp .le 7, 3) := by decide +kernel
theorem dX3_isOf_20 : decode cX3_isOf 20 = .ok (.iconst 1, 1) := by decide +kernel
theorem dX3_isOf_21 : decode cX3_isOf 21 = .ok (.goto 4, 3) := by decide +kernel
theorem dX3_isOf_24 : decode cX3_isOf 24 = .ok (.iconst 0, 1) := by decide +kernel
theorem dX3_isOf_25 : decode cX3_isOf 25 = .ok (.ireturn, 1) := by decide +kernel
theorem dX3_isLastOfState_0 : decode cX3_isLastOfState 0 = .ok (.iload_n 1, 1) := by decide +kernel
theorem dX3_isLastOfState_1 : decode cX3_isLastOfState 1 = .ok (.iconst 1, 1) := by decide +kernel
theorem dX3_isLastOfState_2 : decode cX3_isLastOfState 2 = .ok (.iadd, 1) := by decide +kernel
theorem dX3_isLastOfState_3 : decode cX3_isLastOfState 3 = .ok (.aload_n 0, 1) := by decide +kernel
theorem dX3_isLastOfState_4 : decode cX3_isLastOfState 4 = .ok (.getfield 27, 3) := by decide +kernel
theorem dX3_isLastOfState_7 : decode cX3_isLastOfState 7 = .ok (.if_icmp .ge 37, 3) := by decide +kernel
theorem dX3_isLastOfState_10 : decode cX3_isLastOfState 10 = .ok (.aload_n 0, 1) := by decide +kernel
theorem dX3_isLastOfState_11 : decode cX3_isLastOfState 11 = .ok (.iload_n 1, 1) := by decide +kernel
theorem dX3_isLastOfState_12 : decode cX3_isLastOfState 12 = .ok (.iconst 1, 1) := by decide +kernel
theorem dX3_isLastOfState_13 : decode cX3_isLastOfState 13 = .ok (.iadd, 1) := by decide +kernel
theorem dX3_isLastOfState_14 : decode cX3_isLastOfState 14 = .ok (.iconst 0, 1) := by decide +kernel
theorem dX3_isLastOfState_15 : decode cX3_isLastOfState 15 = .ok (.invokevirtual 33, 3) := by decide +kernel
theorem dX3_isLastOfState_18 : decode cX3_isLastOfState 18 = .ok (.aload_n 0, 1) := by decide +kernel
theorem dX3_isLastOfState_19 : decode cX3_isLastOfState 19 = .ok (.iload_n 1, 1) := by decide +kernel
theorem dX3_isLastOfState_20 : decode cX3_isLastOfState 20 = .ok (.iconst 0, 1) := by decide +kernel
theorem dX3_isLastOfState_21 : decode cX3_isLastOfState 21 = .ok (.invokevirtual 33, 3) := by decide +kernel
theorem dX3_isLastOfState_24 : decode cX3_isLastOfState 24 = .ok (.if_icmp .ne 20, 3) := by decide +kernel
theorem dX3_isLastOfState_27 : decode cX3_isLastOfState 27 = .ok (.aload_n 0, 1) := by decide +kernel
theorem dX3_isLastOfState_28 : decode cX3_isLastOfState 28 = .ok (.iload_n 1, 1) := by decide +kernel
theorem dX3_isLastOfState_29 : decode cX3_isLastOfState 29 = .ok (.iconst 1, 1) := by decide +kernel
theorem dX3_isLastOfState_30 : decode cX3_isLastOfState 30 = .ok (.iadd, 1) := by decide +kernel
theorem dX3_isLastOfState_31 : decode cX3_isLastOfState 31 = .ok (.iconst 1, 1) := by decide +kernel
theorem dX3_isLastOfState_32 : decode cX3_isLastOfState 32 = .ok (.invokevirtual 33, 3) := by decide +kernel
theorem dX3_isLastOfState_35 : decode cX3_isLastOfState 35 = .ok (.aload_n 0, 1) := by decide +kernel
theorem dX3_isLastOfState_36 : decode cX3_isLastOfState 36 = .ok (.iload_n 1, 1) := by decide +kernel
theorem dX3_isLastOfState_37 : decode cX3_isLastOfState 37 = .ok (.iconst 1, 1) := by decide +kernel
theorem dX3_isLastOfState_38 : decode cX3_isLastOfState 38 = .ok (.invokevirtual 33, 3) := by decide +kernel
theorem dX3_isLastOfState_41 : decode cX3_isLastOfState 41 = .ok (.if_icmp .eq 7, 3) := by decide +kernel
theorem dX3_isLastOfState_44 : decode cX3_isLastOfState 44 = .ok (.iconst 1, 1) := by decide +kernel
theorem dX3_isLastOfState_45 : decode cX3_isLastOfState 45 = .ok (.goto 4, 3) := by decide +kernel
theorem dX3_isLastOfState_48 : decode cX3_isLastOfState 48 = .ok (.iconst 0, 1) := by decide +kernel
theorem dX3_isLastOfState_49 : decode cX3_isLastOfState 49 = .ok (.ireturn, 1) := by decide +kernel
theorem dX3_forget_0 : decode cX3_forget 0 = .ok (.iconst 0, 1) := by decide +kernel
theorem dX3_forget_1 : decode cX3_forget 1 = .ok (.istore_n 1, 1) := by decide +kernel
theorem dX3_forget_2 : decode cX3_forget 2 = .ok (.iload_n 1, 1) := by decide +kernel
theorem dX3_forget_3 : decode cX3_forget 3 = .ok (.bipush 50, 2) := by decide +kernel
theorem dX3_forget_5 : decode cX3_forget 5 = .ok (.if_icmp .ge 16, 3) := by decide +kernel
theorem dX3_forget_8 : decode cX3_forget 8 = .ok (.aload_n 0, 1) := by decide +kernel
theorem dX3_forget_9 : decode cX3_forget 9 = .ok (.getfield 20, 3) := by decide +kernel
theorem dX3_forget_12 : decode cX3_forget 12 = .ok (.iload_n 1, 1) := by decide +kernel
theorem dX3_forget_13 : decode cX3_forget 13 = .ok (.iconst 0, 1) := by decide +kernel
theorem dX3_forget_14 : decode cX3_forget 14 = .ok (.iastore, 1) := by decide +kernel
theorem dX3_forget_15 : decode cX3_forget 15 = .ok (.iinc 1 1, 3) := by decide +kernel
theorem dX3_forget_18 : decode cX3_forget 18 = .ok (.goto (-16), 3) := by decide +kernel
theorem dX3_forget_21 : decode cX3_forget 21 = .ok (.return_, 1) := by decide +kernel
theorem dX3_meet_0 : decode cX3_meet 0 = .ok (.iload_n 1, 1) := by decide +kernel
theorem dX3_meet_1 : decode cX3_meet 1 = .ok (.ifCond .lt 9, 3) := by decide +kernel
theorem dX3_meet_4 : decode cX3_meet 4 = .ok (.iload_n 1, 1) := by decide +kernel
theorem dX3_meet_5 : decode cX3_meet 5 = .ok (.bipush 50, 2) := by decide +kernel
theorem dX3_meet_7 : decode cX3_meet 7 = .ok (.if_icmp .lt 5, 3) := by decide +kernel
theorem dX3_meet_10 : decode cX3_meet 10 = .ok (.iconst 0, 1) := by decide +kernel
theorem dX3_meet_11 : decode cX3_meet 11 = .ok (.ireturn, 1) := by decide +kernel
theorem dX3_meet_12 : decode cX3_meet 12 = .ok (.aload_n 0, 1) := by decide +kernel
theorem dX3_meet_13 : decode cX3_meet 13 = .ok (.getfield 20, 3) := by decide +kernel
theorem dX3_meet_16 : decode cX3_meet 16 = .ok (.iload_n 1, 1) := by decide +kernel
theorem dX3_meet_17 : decode cX3_meet 17 = .ok (.iaload, 1) := by decide +kernel
theorem dX3_meet_18 : decode cX3_meet 18 = .ok (.istore_n 3, 1) := by decide +kernel
theorem dX3_meet_19 : decode cX3_meet 19 = .ok (.aload_n 0, 1) := by decide +kernel
theorem dX3_meet_20 : decode cX3_meet 20 = .ok (.getfield 20, 3) := by decide +kernel
theorem dX3_meet_23 : decode cX3_meet 23 = .ok (.iload_n 1, 1) := by decide +kernel
theorem dX3_meet_24 : decode cX3_meet 24 = .ok (.iload_n 3, 1) := by decide +kernel
theorem dX3_meet_25 : decode cX3_meet 25 = .ok (.iconst 1, 1) := by decide +kernel
theorem dX3_meet_26 : decode cX3_meet 26 = .ok (.if_icmp .eq 7, 3) := by decide +kernel
theorem dX3_meet_29 : decode cX3_meet 29 = .ok (.iload_n 2, 1) := by decide +kernel
theorem dX3_meet_30 : decode cX3_meet 30 = .ok (.goto 13, 3) := by decide +kernel
theorem dX3_meet_33 : decode cX3_meet 33 = .ok (.iload_n 2, 1) := by decide +kernel
theorem dX3_meet_34 : decode cX3_meet 34 = .ok (.iconst 3, 1) := by decide +kernel
theorem dX3_meet_35 : decode cX3_meet 35 = .ok (.if_icmp .ne 7, 3) := by decide +kernel
theorem dX3_meet_38 : decode cX3_meet 38 = .ok (.iconst 0, 1) := by decide +kernel
theorem dX3_meet_39 : decode cX3_meet 39 = .ok (.goto 4, 3) := by decide +kernel
theorem dX3_meet_42 : decode cX3_meet 42 = .ok (.iconst 1, 1) := by decide +kernel
theorem dX3_meet_43 : decode cX3_meet 43 = .ok (.iastore, 1) := by decide +kernel
theorem dX3_meet_44 : decode cX3_meet 44 = .ok (.aload_n 0, 1) := by decide +kernel
theorem dX3_meet_45 : decode cX3_meet 45 = .ok (.getfield 20, 3) := by decide +kernel
theorem dX3_meet_48 : decode cX3_meet 48 = .ok (.iload_n 1, 1) := by decide +kernel
theorem dX3_meet_49 : decode cX3_meet 49 = .ok (.iaload, 1) := by decide +kernel
theorem dX3_meet_50 : decode cX3_meet 50 = .ok (.ifCond .eq 7, 3) := by decide +kernel
theorem dX3_meet_53 : decode cX3_meet 53 = .ok (.iconst 1, 1) := by decide +kernel
theorem dX3_meet_54 : decode cX3_meet 54 = .ok (.goto 4, 3) := by decide +kernel
theorem dX3_meet_57 : decode cX3_meet 57 = .ok (.iconst 0, 1) := by decide +kernel
theorem dX3_meet_58 : decode cX3_meet 58 = .ok (.iload_n 3, 1) := by decide +kernel
theorem dX3_meet_59 : decode cX3_meet 59 = .ok (.ifCond .eq 7, 3) := by decide +kernel
theorem dX3_meet_62 : decode cX3_meet 62 = .ok (.iconst 1, 1) := by decide +kernel
theorem dX3_meet_63 : decode cX3_meet 63 = .ok (.goto 4, 3) := by decide +kernel
theorem dX3_meet_66 : decode cX3_meet 66 = .ok (.iconst 0, 1) := by decide +kernel
theorem dX3_meet_67 : decode cX3_meet 67 = .ok (.isub, 1) := by decide +kernel
theorem dX3_meet_68 : decode cX3_meet 68 = .ok (.ireturn, 1) := by decide +kernel
theorem dX4_init_0 : decode cX4_init 0 = .ok (.aload_n 0, 1) := by decide +kernel
theorem dX4_init_1 : decode cX4_init 1 = .ok (.invokespecial 3, 3) := by decide +kernel
theorem dX4_init_4 : decode cX4_init 4 = .ok (.aload_n 0, 1) := by decide +kernel
theorem dX4_init_5 : decode cX4_init 5 = .ok (.iconst 4, 1) := by decide +kernel
theorem dX4_init_6 : decode cX4_init 6 = .ok (.bipush 50, 2) := by decide +kernel
theorem dX4_init_8 : decode cX4_init 8 = .ok (.multianewarray 9 2, 4) := by decide +kernel
theorem dX4_init_12 : decode cX4_init 12 = .ok (.putfield 11, 3) := by decide +kernel
theorem dX4_init_15 : decode cX4_init 15 = .ok (.aload_n 0, 1) := by decide +kernel
theorem dX4_init_16 : decode cX4_init 16 = .ok (.iconst 4, 1) := by decide +kernel
theorem dX4_init_17 : decode cX4_init 17 = .ok (.newarray .int, 2) := by decide +kernel
theorem dX4_init_19 : decode cX4_init 19 = .ok (.putfield 16, 3) := by decide +kernel
theorem dX4_init_22 : decode cX4_init 22 = .ok (.return_, 1) := by decide +kernel
theorem dX4_clear_0 : decode cX4_clear 0 = .ok (.iconst 0, 1) := by decide +kernel
theorem dX4_clear_1 : decode cX4_clear 1 = .ok (.istore_n 1, 1) := by decide +kernel
theorem dX4_clear_2 : decode cX4_clear 2 = .ok (.iload_n 1, 1) := by decide +kernel
theorem dX4_clear_3 : decode cX4_clear 3 = .ok (.iconst 4, 1) := by decide +kernel
theorem dX4_clear_4 : decode cX4_clear 4 = .ok (.if_icmp .ge 16, 3) := by decide +kernel
theorem dX4_clear_7 : decode cX4_clear 7 = .ok (.aload_n 0, 1) := by decide +kernel
theorem dX4_clear_8 : decode cX4_clear 8 = .ok (.getfield 16, 3) := by decide +kernel
theorem dX4_clear_11 : decode cX4_clear 11 = .ok (.iload_n 1, 1) := by decide +kernel
theorem dX4_clear_12 : decode cX4_clear 12 = .ok (.iconst 0, 1) := by decide +kernel
theorem dX4_clear_13 : decode cX4_clear 13 = .ok (.iastore, 1) := by decide +kernel
theorem dX4_clear_14 : decode cX4_clear 14 = .ok (.iinc 1 1, 3) := by decide +kernel
theorem dX4_clear_17 : decode cX4_clear 17 = .ok (.goto (-15), 3) := by decide +kernel
theorem dX4_clear_20 : decode cX4_clear 20 = .ok (.return_, 1) := by decide +kernel
theorem dX4_add_0 : decode cX4_add 0 = .ok (.iload_n 1, 1) := by decide +kernel
theorem dX4_add_1 : decode cX4_add 1 = .ok (.ifCond .lt 43, 3) := by decide +kernel
theorem dX4_add_4 : decode cX4_add 4 = .ok (.iload_n 1, 1) := by decide +kernel
theorem dX4_add_5 : decode cX4_add 5 = .ok (.iconst 4, 1) := by decide +kernel
theorem dX4_add_6 : decode cX4_add 6 = .ok (.if_icmp .ge 38, 3) := by decide +kernel
theorem dX4_add_9 : decode cX4_add 9 = .ok (.aload_n 0, 1) := by decide +kernel
theorem dX4_add_10 : decode cX4_add 10 = .ok (.getfield 16, 3) := by decide +kernel
theorem dX4_add_13 : decode cX4_add 13 = .ok (.iload_n 1, 1) := by decide +kernel
theorem dX4_add_14 : decode cX4_add 14 = .ok (.iaload, 1) := by decide +kernel
theorem dX4_add_15 : decode cX4_add 15 = .ok (.bipush 50, 2) := by decide +kernel
theorem dX4_add_17 : decode cX4_add 17 = .ok (.if_icmp .ge 27, 3) := by decide +kernel
theorem dX4_add_20 : decode cX4_add 20 = .ok (.aload_n 0, 1) := by decide +kernel
theorem dX4_add_21 : decode cX4_add 21 = .ok (.getfield 11, 3) := by decide +kernel
theorem dX4_add_24 : decode cX4_add 24 = .ok (.iload_n 1, 1) := by decide +kernel
theorem dX4_add_25 : decode cX4_add 25 = .ok (.aaload, 1) := by decide +kernel
theorem dX4_add_26 : decode cX4_add 26 = .ok (.aload_n 0, 1) := by decide +kernel
theorem dX4_add_27 : decode cX4_add 27 = .ok (.getfield 16, 3) := by decide +kernel
theorem dX4_add_30 : decode cX4_add 30 = .ok (.iload_n 1, 1) := by decide +kernel
theorem dX4_add_31 : decode cX4_add 31 = .ok (.iaload, 1) := by decide +kernel
theorem dX4_add_32 : decode cX4_add 32 = .ok (.iload_n 2, 1) := by decide +kernel
theorem dX4_add_33 : decode cX4_add 33 = .ok (.iastore, 1) := by decide +kernel
theorem dX4_add_34 : decode cX4_add 34 = .ok (.aload_n 0, 1) := by decide +kernel
theorem dX4_add_35 : decode cX4_add 35 = .ok (.getfield 16, 3) := by decide +kernel
theorem dX4_add_38 : decode cX4_add 38 = .ok (.iload_n 1, 1) := by decide +kernel
theorem dX4_add_39 : decode cX4_add 39 = .ok (.dup2, 1) := by decide +kernel
theorem dX4_add_40 : decode cX4_add 40 = .ok (.iaload, 1) := by decide +kernel
theorem dX4_add_41 : decode cX4_add 41 = .ok (.iconst 1, 1) := by decide +kernel
theorem dX4_add_42 : decode cX4_add 42 = .ok (.iadd, 1) := by decide +kernel
theorem dX4_add_43 : decode cX4_add 43 = .ok (.iastore, 1) := by decide +kernel
theorem dX4_add_44 : decode cX4_add 44 = .ok (.return_, 1) := by decide +kernel
theorem dX4_count_0 : decode cX4_count 0 = .ok (.iload_n 1, 1) := by decide +kernel
theorem dX4_count_1 : decode cX4_count 1 = .ok (.ifCond .lt 17, 3) := by decide +kernel
theorem dX4_count_4 : decode cX4_count 4 = .ok (.iload_n 1, 1) := by decide +kernel
theorem dX4_count_5 : decode cX4_count 5 = .ok (.iconst 4, 1) := by decide +kernel
theorem dX4_count_6 : decode cX4_count 6 = .ok (.if_icmp .ge 12, 3) := by decide +kernel
theorem dX4_count_9 : decode cX4_count 9 = .ok (.aload_n 0, 1) := by decide +kernel
theorem dX4_count_10 : decode cX4_count 10 = .ok (.getfield 16, 3) := by decide +kernel
theorem dX4_count_13 : decode cX4_count 13 = .ok (.iload_n 1, 1) := by decide +kernel
theorem dX4_count_14 : decode cX4_count 14 = .ok (.iaload, 1) := by decide +kernel
theorem dX4_count_15 : decode cX4_count 15 = .ok (.goto 4, 3) := by decide +kernel
theorem dX4_count_18 : decode cX4_count 18 = .ok (.iconst (-1), 1) := by decide +kernel
theorem dX4_count_19 : decode cX4_count 19 = .ok (.ireturn, 1) := by decide +kernel
theorem dX4_at_0 : decode cX4_at 0 = .ok (.iload_n 2, 1) := by decide +kernel
theorem dX4_at_1 : decode cX4_at 1 = .ok (.ifCond .lt 23, 3) := by decide +kernel
theorem dX4_at_4 : decode cX4_at 4 = .ok (.iload_n 2, 1) := by decide +kernel
theorem dX4_at_5 : decode cX4_at 5 = .ok (.aload_n 0, 1) := by decide +kernel
theorem dX4_at_6 : decode cX4_at 6 = .ok (.iload_n 1, 1) := by decide +kernel
theorem dX4_at_7 : decode cX4_at 7 = .ok (.invokevirtual 20, 3) := by decide +kernel
theorem dX4_at_10 : decode cX4_at 10 = .ok (.if_icmp .ge 14, 3) := by decide +kernel
theorem dX4_at_13 : decode cX4_at 13 = .ok (.aload_n 0, 1) := by decide +kernel
theorem dX4_at_14 : decode cX4_at 14 = .ok (.getfield 11, 3) := by decide +kernel
theorem dX4_at_17 : decode cX4_at 17 = .ok (.iload_n 1, 1) := by decide +kernel
theorem dX4_at_18 : decode cX4_at 18 = .ok (.aaload, 1) := by decide +kernel
theorem dX4_at_19 : decode cX4_at 19 = .ok (.iload_n 2, 1) := by decide +kernel
theorem dX4_at_20 : decode cX4_at 20 = .ok (.iaload, 1) := by decide +kernel
theorem dX4_at_21 : decode cX4_at 21 = .ok (.goto 4, 3) := by decide +kernel
theorem dX4_at_24 : decode cX4_at 24 = .ok (.iconst (-1), 1) := by decide +kernel
theorem dX4_at_25 : decode cX4_at 25 = .ok (.ireturn, 1) := by decide +kernel
theorem dX5_init_0 : decode cX5_init 0 = .ok (.aload_n 0, 1) := by decide +kernel
theorem dX5_init_1 : decode cX5_init 1 = .ok (.invokespecial 1, 3) := by decide +kernel
theorem dX5_init_4 : decode cX5_init 4 = .ok (.aload_n 0, 1) := by decide +kernel
theorem dX5_init_5 : decode cX5_init 5 = .ok (.bipush 10, 2) := by decide +kernel
theorem dX5_init_7 : decode cX5_init 7 = .ok (.newarray .int, 2) := by decide +kernel
theorem dX5_init_9 : decode cX5_init 9 = .ok (.putfield 9, 3) := by decide +kernel
theorem dX5_init_12 : decode cX5_init 12 = .ok (.aload_n 0, 1) := by decide +kernel
theorem dX5_init_13 : decode cX5_init 13 = .ok (.bipush 12, 2) := by decide +kernel
theorem dX5_init_15 : decode cX5_init 15 = .ok (.anewarray 13, 3) := by decide +kernel
theorem dX5_init_18 : decode cX5_init 18 = .ok (.putfield 15, 3) := by decide +kernel
theorem dX5_init_21 : decode cX5_init 21 = .ok (.aload_n 0, 1) := by decide +kernel
theorem dX5_init_22 : decode cX5_init 22 = .ok (.bipush 12, 2) := by decide +kernel
theorem dX5_init_24 : decode cX5_init 24 = .ok (.anewarray 19, 3) := by decide +kernel
theorem dX5_init_27 : decode cX5_init 27 = .ok (.putfield 21, 3) := by decide +kernel
theorem dX5_init_30 : decode cX5_init 30 = .ok (.aload_n 0, 1) := by decide +kernel
theorem dX5_init_31 : decode cX5_init 31 = .ok (.new 25, 3) := by decide +kernel
theorem dX5_init_34 : decode cX5_init 34 = .ok (.dup, 1) := by decide +kernel
theorem dX5_init_35 : decode cX5_init 35 = .ok (.bipush 20, 2) := by decide +kernel
theorem dX5_init_37 : decode cX5_init 37 = .ok (.invokespecial 27, 3) := by decide +kernel
theorem dX5_init_40 : decode cX5_init 40 = .ok (.putfield 30, 3) := by decide +kernel
theorem dX5_init_43 : decode cX5_init 43 = .ok (.aload_n 0, 1) := by decide +kernel
theorem dX5_init_44 : decode cX5_init 44 = .ok (.new 25, 3) := by decide +kernel
theorem dX5_init_47 : decode cX5_init 47 = .ok (.dup, 1) := by decide +kernel
theorem dX5_init_48 : decode cX5_init 48 = .ok (.bipush 50, 2) := by decide +kernel
theorem dX5_init_50 : decode cX5_init 50 = .ok (.invokespecial 27, 3) := by decide +kernel
theorem dX5_init_53 : decode cX5_init 53 = .ok (.putfield 34, 3) := by decide +kernel
theorem dX5_init_56 : decode cX5_init 56 = .ok (.aload_n 0, 1) := by decide +kernel
theorem dX5_init_57 : decode cX5_init 57 = .ok (.new 25, 3) := by decide +kernel
theorem dX5_init_60 : decode cX5_init 60 = .ok (.dup, 1) := by decide +kernel
theorem dX5_init_61 : decode cX5_init 61 = .ok (.bipush 50, 2) := by decide +kernel
theorem dX5_init_63 : decode cX5_init 63 = .ok (.invokespecial 27, 3) := by decide +kernel
theorem dX5_init_66 : decode cX5_init 66 = .ok (.putfield 37, 3) := by decide +kernel
theorem dX5_init_69 : decode cX5_init 69 = .ok (.aload_n 0, 1) := by decide +kernel
theorem dX5_init_70 : decode cX5_init 70 = .ok (.new 40, 3) := by decide +kernel
theorem dX5_init_73 : decode cX5_init 73 = .ok (.dup, 1) := by decide +kernel
theorem dX5_init_74 : decode cX5_init 74 = .ok (.invokespecial 42, 3) := by decide +kernel
theorem dX5_init_77 : decode cX5_init 77 = .ok (.putfield 43, 3) := by decide +kernel
theorem dX5_init_80 : decode cX5_init 80 = .ok (.aload_n 0, 1) := by decide +kernel
theorem dX5_init_81 : decode cX5_init 81 = .ok (.new 47, 3) := by decide +kernel
theorem dX5_init_84 : decode cX5_init 84 = .ok (.dup, 1) := by decide +kernel
theorem dX5_init_85 : decode cX5_init 85 = .ok (.invokespecial 49, 3) := by decide +kernel
theorem dX5_init_88 : decode cX5_init 88 = .ok (.putfield 50, 3) := by decide +kernel
theorem dX5_init_91 : decode cX5_init 91 = .ok (.aload_n 0, 1) := by decide +kernel
theorem dX5_init_92 : decode cX5_init 92 = .ok (.bipush 50, 2) := by decide +kernel
theorem dX5_init_94 : decode cX5_init 94 = .ok (.newarray .int, 2) := by decide +kernel
theorem dX5_init_96 : decode cX5_init 96 = .ok (.putfield 54, 3) := by decide +kernel
theorem dX5_init_99 : decode cX5_init 99 = .ok (.iconst 0, 1) := by decide +kernel
theorem dX5_init_100 : decode cX5_init 100 = .ok (.istore_n 1, 1) := by decide +kernel
theorem dX5_init_101 : decode cX5_init 101 = .ok (.iload_n 1, 1) := by decide +kernel
theorem dX5_init_102 : decode cX5_init 102 = .ok (.bipush 12, 2) := by decide +kernel
theorem dX5_init_104 : decode cX5_init 104 = .ok (.if_icmp .ge 35, 3) := by decide +kernel
theorem dX5_init_107 : decode cX5_init 107 = .ok (.aload_n 0, 1) := by decide +kernel
theorem dX5_init_108 : decode cX5_init 108 = .ok (.getfield 15, 3) := by decide +kernel
theorem dX5_init_111 : decode cX5_init 111 = .ok (.iload_n 1, 1) := by decide +kernel
theorem dX5_init_112 : decode cX5_init 112 = .ok (.new 13, 3) := by decide +kernel
theorem dX5_init_115 : decode cX5_init 115 = .ok (.dup, 1) := by decide +kernel
theorem dX5_init_116 : decode cX5_init 116 = .ok (.invokespecial 57, 3) := by decide +kernel
theorem dX5_init_119 : decode cX5_init 119 = .ok (.aastore, 1) := by decide +kernel
theorem dX5_init_120 : decode cX5_init 120 = .ok (.aload_n 0, 1) := by decide +kernel
theorem dX5_init_121 : decode cX5_init 121 = .ok (.getfield 21, 3) := by decide +kernel
theorem dX5_init_124 : decode cX5_init 124 = .ok (.iload_n 1, 1) := by decide +kernel
theorem dX5_init_125 : decode cX5_init 125 = .ok (.new 19, 3) := by decide +kernel
theorem dX5_init_128 : decode cX5_init 128 = .ok (.dup, 1) := by decide +kernel
theorem dX5_init_129 : decode cX5_init 129 = .ok (.invokespecial 58, 3) := by decide +kernel
theorem dX5_init_132 : decode cX5_init 132 = .ok (.aastore, 1) := by decide +kernel
theorem dX5_init_133 : decode cX5_init 133 = .ok (.iinc 1 1, 3) := by decide +kernel
theorem dX5_init_136 : decode cX5_init 136 = .ok (.goto (-35), 3) := by decide +kernel
theorem dX5_init_139 : decode cX5_init 139 = .ok (.aload_n 0, 1) := by decide +kernel
theorem dX5_init_140 : decode cX5_init 140 = .ok (.getfield 9, 3) := by decide +kernel
theorem dX5_init_143 : decode cX5_init 143 = .ok (.iconst 1, 1) := by decide +kernel
theorem dX5_init_144 : decode cX5_init 144 = .ok (.sipush 1000, 3) := by decide +kernel
theorem dX5_init_147 : decode cX5_init 147 = .ok (.iastore, 1) := by decide +kernel
theorem dX5_init_148 : decode cX5_init 148 = .ok (.aload_n 0, 1) := by decide +kernel
theorem dX5_init_149 : decode cX5_init 149 = .ok (.getfield 9, 3) := by decide +kernel
theorem dX5_init_152 : decode cX5_init 152 = .ok (.iconst 5, 1) := by decide +kernel
theorem dX5_init_153 : decode cX5_init 153 = .ok (.sipush 1000, 3) := by decide +kernel
theorem dX5_init_156 : decode cX5_init 156 = .ok (.iastore, 1) := by decide +kernel
theorem dX5_init_157 : decode cX5_init 157 = .ok (.aload_n 0, 1) := by decide +kernel
theorem dX5_init_158 : decode cX5_init 158 = .ok (.getfield 9, 3) := by decide +kernel
theorem dX5_init_161 : decode cX5_init 161 = .ok (.bipush 6, 2) := by decide +kernel
theorem dX5_init_163 : decode cX5_init 163 = .ok (.sipush 1000, 3) := by decide +kernel
theorem dX5_init_166 : decode cX5_init 166 = .ok (.iastore, 1) := by decide +kernel
theorem dX5_init_167 : decode cX5_init 167 = .ok (.return_, 1) := by decide +kernel
theorem dX5_draft_0 : decode cX5_draft 0 = .ok (.iload_n 1, 1) := by decide +kernel
theorem dX5_draft_1 : decode cX5_draft 1 = .ok (.ifCond .lt 9, 3) := by decide +kernel
theorem dX5_draft_4 : decode cX5_draft 4 = .ok (.iload_n 1, 1) := by decide +kernel
theorem dX5_draft_5 : decode cX5_draft 5 = .ok (.bipush 10, 2) := by decide +kernel
theorem dX5_draft_7 : decode cX5_draft 7 = .ok (.if_icmp .lt 5, 3) := by decide +kernel
theorem dX5_draft_10 : decode cX5_draft 10 = .ok (.iconst (-1), 1) := by decide +kernel
theorem dX5_draft_11 : decode cX5_draft 11 = .ok (.ireturn, 1) := by decide +kernel
theorem dX5_draft_12 : decode cX5_draft 12 = .ok (.aload_n 0, 1) := by decide +kernel
theorem dX5_draft_13 : decode cX5_draft 13 = .ok (.getfield 9, 3) := by decide +kernel
theorem dX5_draft_16 : decode cX5_draft 16 = .ok (.iload_n 1, 1) := by decide +kernel
theorem dX5_draft_17 : decode cX5_draft 17 = .ok (.iaload, 1) := by decide +kernel
theorem dX5_draft_18 : decode cX5_draft 18 = .ok (.istore_n 3, 1) := by decide +kernel
theorem dX5_draft_19 : decode cX5_draft 19 = .ok (.aload_n 0, 1) := by decide +kernel
theorem dX5_draft_20 : decode cX5_draft 20 = .ok (.getfield 9, 3) := by decide +kernel
theorem dX5_draft_23 : decode cX5_draft 23 = .ok (.iload_n 1, 1) := by decide +kernel
theorem dX5_draft_24 : decode cX5_draft 24 = .ok (.iload_n 2, 1) := by decide +kernel
theorem dX5_draft_25 : decode cX5_draft 25 = .ok (.iastore, 1) := by decide +kernel
theorem dX5_draft_26 : decode cX5_draft 26 = .ok (.iload_n 3, 1) := by decide +kernel
theorem dX5_draft_27 : decode cX5_draft 27 = .ok (.ireturn, 1) := by decide +kernel
theorem dX5_get_0 : decode cX5_get 0 = .ok (.aload_n 0, 1) := by decide +kernel
theorem dX5_get_1 : decode cX5_get 1 = .ok (.iconst 0, 1) := by decide +kernel
theorem dX5_get_2 : decode cX5_get 2 = .ok (.iload_n 1, 1) := by decide +kernel
theorem dX5_get_3 : decode cX5_get 3 = .ok (.iload_n 2, 1) := by decide +kernel
theorem dX5_get_4 : decode cX5_get 4 = .ok (.iload_n 3, 1) := by decide +kernel
theorem dX5_get_5 : decode cX5_get 5 = .ok (.iconst 0, 1) := by decide +kernel
theorem dX5_get_6 : decode cX5_get 6 = .ok (.iconst 0, 1) := by decide +kernel
theorem dX5_get_7 : decode cX5_get 7 = .ok (.invokevirtual 59, 3) := by decide +kernel
theorem dX5_get_10 : decode cX5_get 10 = .ok (.ireturn, 1) := by decide +kernel
theorem dX5_query_0 : decode cX5_query 0 = .ok (.aload_n 0, 1) := by decide +kernel
theorem dX5_query_1 : decode cX5_query 1 = .ok (.getfield 63, 3) := by decide +kernel
theorem dX5_query_4 : decode cX5_query 4 = .ok (.bipush 12, 2) := by decide +kernel
theorem dX5_query_6 : decode cX5_query 6 = .ok (.if_icmp .lt 6, 3) := by decide +kernel
theorem dX5_query_9 : decode cX5_query 9 = .ok (.bipush (-4), 2) := by decide +kernel
theorem dX5_query_11 : decode cX5_query 11 = .ok (.ireturn, 1) := by decide +kernel
theorem dX5_query_12 : decode cX5_query 12 = .ok (.aload_n 0, 1) := by decide +kernel
theorem dX5_query_13 : decode cX5_query 13 = .ok (.getfield 15, 3) := by decide +kernel
theorem dX5_query_16 : decode cX5_query 16 = .ok (.aload_n 0, 1) := by decide +kernel
theorem dX5_query_17 : decode cX5_query 17 = .ok (.getfield 63, 3) := by decide +kernel
theorem dX5_query_20 : decode cX5_query 20 = .ok (.aaload, 1) := by decide +kernel
theorem dX5_query_21 : decode cX5_query 21 = .ok (.astore 5, 2) := by decide +kernel
theorem dX5_query_23 : decode cX5_query 23 = .ok (.aload 5, 2) := by decide +kernel
theorem dX5_query_25 : decode cX5_query 25 = .ok (.iconst 1, 1) := by decide +kernel
theorem dX5_query_26 : decode cX5_query 26 = .ok (.iconst 1, 1) := by decide +kernel
theorem dX5_query_27 : decode cX5_query 27 = .ok (.invokevirtual 67, 3) := by decide +kernel
theorem dX5_query_30 : decode cX5_query 30 = .ok (.aload 5, 2) := by decide +kernel
theorem dX5_query_32 : decode cX5_query 32 = .ok (.iload_n 1, 1) := by decide +kernel
theorem dX5_query_33 : decode cX5_query 33 = .ok (.putfield 71, 3) := by decide +kernel
theorem dX5_query_36 : decode cX5_query 36 = .ok (.aload 5, 2) := by decide +kernel
theorem dX5_query_38 : decode cX5_query 38 = .ok (.iload_n 2, 1) := by decide +kernel
theorem dX5_query_39 : decode cX5_query 39 = .ok (.putfield 74, 3) := by decide +kernel
theorem dX5_query_42 : decode cX5_query 42 = .ok (.aload 5, 2) := by decide +kernel
theorem dX5_query_44 : decode cX5_query 44 = .ok (.iload_n 3, 1) := by decide +kernel
theorem dX5_query_45 : decode cX5_query 45 = .ok (.putfield 77, 3) := by decide +kernel
theorem dX5_query_48 : decode cX5_query 48 = .ok (.aload 5, 2) := by decide +kernel
theorem dX5_query_50 : decode cX5_query 50 = .ok (.iload 4, 2) := by decide +kernel
theorem dX5_query_52 : decode cX5_query 52 = .ok (.putfield 80, 3) := by decide +kernel
theorem dX5_query_55 : decode cX5_query 55 = .ok (.aload_n 0, 1) := by decide +kernel
theorem dX5_query_56 : decode cX5_query 56 = .ok (.dup, 1) := by decide +kernel
theorem dX5_query_57 : decode cX5_query 57 = .ok (.getfield 63, 3) := by decide +kernel
theorem dX5_query_60 : decode cX5_query 60 = .ok (.dup_x1, 1) := by decide +kernel
theorem dX5_query_61 : decode cX5_query 61 = .ok (.iconst 1, 1) := by decide +kernel
theorem dX5_query_62 : decode cX5_query 62 = .ok (.iadd, 1) := by decide +kernel
theorem dX5_query_63 : decode cX5_query 63 = .ok (.putfield 63, 3) := by decide +kernel
theorem dX5_query_66 : decode cX5_query 66 = .ok (.ireturn, 1) := by decide +kernel
theorem dX5_changes_0 : decode cX5_changes 0 = .ok (.aload_n 0, 1) := by decide +kernel
theorem dX5_changes_1 : decode cX5_changes 1 = .ok (.getfield 63, 3) := by decide +kernel
theorem dX5_changes_4 : decode cX5_changes 4 = .ok (.bipush 12, 2) := by decide +kernel
theorem dX5_changes_6 : decode cX5_changes 6 = .ok (.if_icmp .lt 6, 3) := by decide +kernel
theorem dX5_changes_9 : decode cX5_changes 9 = .ok (.bipush (-4), 2) := by decide +kernel
theorem dX5_changes_11 : decode cX5_changes 11 = .ok (.ireturn, 1) := by decide +kernel
theorem dX5_changes_12 : decode cX5_changes 12 = .ok (.aload_n 0, 1) := by decide +kernel
theorem dX5_changes_13 : decode cX5_changes 13 = .ok (.getfield 15, 3) := by decide +kernel
theorem dX5_changes_16 : decode cX5_changes 16 = .ok (.aload_n 0, 1) := by decide +kernel
theorem dX5_changes_17 : decode cX5_changes 17 = .ok (.getfield 63, 3) := by decide +kernel
theorem dX5_changes_20 : decode cX5_changes 20 = .ok (.aaload, 1) := by decide +kernel
theorem dX5_changes_21 : decode cX5_changes 21 = .ok (.astore 4, 2) := by decide +kernel
theorem dX5_changes_23 : decode cX5_changes 23 = .ok (.aload 4, 2) := by decide +kernel
theorem dX5_changes_25 : decode cX5_changes 25 = .ok (.iconst 2, 1) := by decide +kernel
theorem dX5_changes_26 : decode cX5_changes 26 = .ok (.iload_n 1, 1) := by decide +kernel
theorem dX5_changes_27 : decode cX5_changes 27 = .ok (.invokevirtual 67, 3) := by decide +kernel
theorem dX5_changes_30 : decode cX5_changes 30 = .ok (.aload 4, 2) := by decide +kernel
theorem dX5_changes_32 : decode cX5_changes 32 = .ok (.iload_n 2, 1) := by decide +kernel
theorem dX5_changes_33 : decode cX5_changes 33 = .ok (.putfield 83, 3) := by decide +kernel
theorem dX5_changes_36 : decode cX5_changes 36 = .ok (.aload 4, 2) := by decide +kernel
theorem dX5_changes_38 : decode cX5_changes 38 = .ok (.iload_n 3, 1) := by decide +kernel
theorem dX5_changes_39 : decode cX5_changes 39 = .ok (.putfield 80, 3) := by decide +kernel
theorem dX5_changes_42 : decode cX5_changes 42 = .ok (.aload_n 0, 1) := by decide +kernel
theorem dX5_changes_43 : decode cX5_changes 43 = .ok (.dup, 1) := by decide +kernel
theorem dX5_changes_44 : decode cX5_changes 44 = .ok (.getfield 63, 3) := by decide +kernel
theorem dX5_changes_47 : decode cX5_changes 47 = .ok (.dup_x1, 1) := by decide +kernel
theorem dX5_changes_48 : decode cX5_changes 48 = .ok (.iconst 1, 1) := by decide +kernel
theorem dX5_changes_49 : decode cX5_changes 49 = .ok (.iadd, 1) := by decide +kernel
theorem dX5_changes_50 : decode cX5_changes 50 = .ok (.putfield 63, 3) := by decide +kernel
theorem dX5_changes_53 : decode cX5_changes 53 = .ok (.ireturn, 1) := by decide +kernel
theorem dX5_make_0 : decode cX5_make 0 = .ok (.aload_n 0, 1) := by decide +kernel
theorem dX5_make_1 : decode cX5_make 1 = .ok (.getfield 63, 3) := by decide +kernel
theorem dX5_make_4 : decode cX5_make 4 = .ok (.bipush 12, 2) := by decide +kernel
theorem dX5_make_6 : decode cX5_make 6 = .ok (.if_icmp .lt 6, 3) := by decide +kernel
theorem dX5_make_9 : decode cX5_make 9 = .ok (.bipush (-4), 2) := by decide +kernel
theorem dX5_make_11 : decode cX5_make 11 = .ok (.ireturn, 1) := by decide +kernel
theorem dX5_make_12 : decode cX5_make 12 = .ok (.aload_n 0, 1) := by decide +kernel
theorem dX5_make_13 : decode cX5_make 13 = .ok (.getfield 15, 3) := by decide +kernel
theorem dX5_make_16 : decode cX5_make 16 = .ok (.aload_n 0, 1) := by decide +kernel
theorem dX5_make_17 : decode cX5_make 17 = .ok (.getfield 63, 3) := by decide +kernel
theorem dX5_make_20 : decode cX5_make 20 = .ok (.aaload, 1) := by decide +kernel
theorem dX5_make_21 : decode cX5_make 21 = .ok (.astore_n 3, 1) := by decide +kernel
theorem dX5_make_22 : decode cX5_make 22 = .ok (.aload_n 3, 1) := by decide +kernel
theorem dX5_make_23 : decode cX5_make 23 = .ok (.iconst 3, 1) := by decide +kernel
theorem dX5_make_24 : decode cX5_make 24 = .ok (.iload_n 1, 1) := by decide +kernel
theorem dX5_make_25 : decode cX5_make 25 = .ok (.invokevirtual 67, 3) := by decide +kernel
theorem dX5_make_28 : decode cX5_make 28 = .ok (.aload_n 3, 1) := by decide +kernel
theorem dX5_make_29 : decode cX5_make 29 = .ok (.iload_n 2, 1) := by decide +kernel
theorem dX5_make_30 : decode cX5_make 30 = .ok (.putfield 86, 3) := by decide +kernel
theorem dX5_make_33 : decode cX5_make 33 = .ok (.aload_n 0, 1) := by decide +kernel
theorem dX5_make_34 : decode cX5_make 34 = .ok (.getfield 9, 3) := by decide +kernel
theorem dX5_make_37 : decode cX5_make 37 = .ok (.iconst 0, 1) := by decide +kernel
theorem dX5_make_38 : decode cX5_make 38 = .ok (.aload_n 3, 1) := by decide +kernel
theorem dX5_make_39 : decode cX5_make 39 = .ok (.getfield 89, 3) := by decide +kernel
theorem dX5_make_42 : decode cX5_make 42 = .ok (.iconst 0, 1) := by decide +kernel
theorem dX5_make_43 : decode cX5_make 43 = .ok (.bipush 10, 2) := by decide +kernel
theorem dX5_make_45 : decode cX5_make 45 = .ok (.invokestatic 90, 3) := by decide +kernel
theorem dX5_make_48 : decode cX5_make 48 = .ok (.aload_n 0, 1) := by decide +kernel
theorem dX5_make_49 : decode cX5_make 49 = .ok (.dup, 1) := by decide +kernel
theorem dX5_make_50 : decode cX5_make 50 = .ok (.getfield 63, 3) := by decide +kernel
theorem dX5_make_53 : decode cX5_make 53 = .ok (.dup_x1, 1) := by decide +kernel
theorem dX5_make_54 : decode cX5_make 54 = .ok (.iconst 1, 1) := by decide +kernel
theorem dX5_make_55 : decode cX5_make 55 = .ok (.iadd, 1) := by decide +kernel
theorem dX5_make_56 : decode cX5_make 56 = .ok (.putfield 63, 3) := by decide +kernel
theorem dX5_make_59 : decode cX5_make 59 = .ok (.ireturn, 1) := by decide +kernel
theorem dX5_change_0 : decode cX5_change 0 = .ok (.aload_n 0, 1) := by decide +kernel
theorem dX5_change_1 : decode cX5_change 1 = .ok (.iconst 4, 1) := by decide +kernel
theorem dX5_change_2 : decode cX5_change 2 = .ok (.iload_n 1, 1) := by decide +kernel
theorem dX5_change_3 : decode cX5_change 3 = .ok (.iload_n 2, 1) := by decide +kernel
theorem dX5_change_4 : decode cX5_change 4 = .ok (.iload_n 3, 1) := by decide +kernel
theorem dX5_change_5 : decode cX5_change 5 = .ok (.iload 4, 2) := by decide +kernel
theorem dX5_change_7 : decode cX5_change 7 = .ok (.iload 5, 2) := by decide +kernel
theorem dX5_change_9 : decode cX5_change 9 = .ok (.invokevirtual 59, 3) := by decide +kernel
theorem dX5_change_12 : decode cX5_change 12 = .ok (.ireturn, 1) := by decide +kernel
theorem dX5_destroy_0 : decode cX5_destroy 0 = .ok (.aload_n 0, 1) := by decide +kernel
theorem dX5_destroy_1 : decode cX5_destroy 1 = .ok (.iconst 5, 1) := by decide +kernel
theorem dX5_destroy_2 : decode cX5_destroy 2 = .ok (.iload_n 1, 1) := by decide +kernel
theorem dX5_destroy_3 : decode cX5_destroy 3 = .ok (.iload_n 2, 1) := by decide +kernel
theorem dX5_destroy_4 : decode cX5_destroy 4 = .ok (.iload_n 3, 1) := by decide +kernel
theorem dX5_destroy_5 : decode cX5_destroy 5 = .ok (.iconst 0, 1) := by decide +kernel
theorem dX5_destroy_6 : decode cX5_destroy 6 = .ok (.iconst 0, 1) := by decide +kernel
theorem dX5_destroy_7 : decode cX5_destroy 7 = .ok (.invokevirtual 59, 3) := by decide +kernel
theorem dX5_destroy_10 : decode cX5_destroy 10 = .ok (.ireturn, 1) := by decide +kernel
theorem dX5_crash_0 : decode cX5_crash 0 = .ok (.iload_n 1, 1) := by decide +kernel
theorem dX5_crash_1 : decode cX5_crash 1 = .ok (.ifCond .lt 9, 3) := by decide +kernel
theorem dX5_crash_4 : decode cX5_crash 4 = .ok (.iload_n 1, 1) := by decide +kernel
theorem dX5_crash_5 : decode cX5_crash 5 = .ok (.bipush 12, 2) := by decide +kernel
theorem dX5_crash_7 : decode cX5_crash 7 = .ok (.if_icmp .le 6, 3) := by decide +kernel
theorem dX5_crash_10 : decode cX5_crash 10 = .ok (.bipush (-2), 2) := by decide +kernel
theorem dX5_crash_12 : decode cX5_crash 12 = .ok (.ireturn, 1) := by decide +kernel
theorem dX5_crash_13 : decode cX5_crash 13 = .ok (.aload_n 0, 1) := by decide +kernel
theorem dX5_crash_14 : decode cX5_crash 14 = .ok (.iconst 1, 1) := by decide +kernel
theorem dX5_crash_15 : decode cX5_crash 15 = .ok (.putfield 96, 3) := by decide +kernel
theorem dX5_crash_18 : decode cX5_crash 18 = .ok (.iconst 1, 1) := by decide +kernel
theorem dX5_crash_19 : decode cX5_crash 19 = .ok (.ireturn, 1) := by decide +kernel
theorem dX5_run_0 : decode cX5_run 0 = .ok (.aload_n 0, 1) := by decide +kernel
theorem dX5_run_1 : decode cX5_run 1 = .ok (.getfield 63, 3) := by decide +kernel
theorem dX5_run_4 : decode cX5_run 4 = .ok (.istore_n 1, 1) := by decide +kernel
theorem dX5_run_5 : decode cX5_run 5 = .ok (.aload_n 0, 1) := by decide +kernel
theorem dX5_run_6 : decode cX5_run 6 = .ok (.iconst 0, 1) := by decide +kernel
theorem dX5_run_7 : decode cX5_run 7 = .ok (.putfield 63, 3) := by decide +kernel
theorem dX5_run_10 : decode cX5_run 10 = .ok (.aload_n 0, 1) := by decide +kernel
theorem dX5_run_11 : decode cX5_run 11 = .ok (.iconst 0, 1) := by decide +kernel
theorem dX5_run_12 : decode cX5_run 12 = .ok (.putfield 100, 3) := by decide +kernel
theorem dX5_run_15 : decode cX5_run 15 = .ok (.aload_n 0, 1) := by decide +kernel
theorem dX5_run_16 : decode cX5_run 16 = .ok (.getfield 96, 3) := by decide +kernel
theorem dX5_run_19 : decode cX5_run 19 = .ok (.ifCond .eq 11, 3) := by decide +kernel
theorem dX5_run_22 : decode cX5_run 22 = .ok (.aload_n 0, 1) := by decide +kernel
theorem dX5_run_23 : decode cX5_run 23 = .ok (.iconst 0, 1) := by decide +kernel
theorem dX5_run_24 : decode cX5_run 24 = .ok (.putfield 96, 3) := by decide +kernel
theorem dX5_run_27 : decode cX5_run 27 = .ok (.bipush (-9), 2) := by decide +kernel
theorem dX5_run_29 : decode cX5_run 29 = .ok (.ireturn, 1) := by decide +kernel
theorem dX5_run_30 : decode cX5_run 30 = .ok (.iconst 0, 1) := by decide +kernel
theorem dX5_run_31 : decode cX5_run 31 = .ok (.istore_n 2, 1) := by decide +kernel
theorem dX5_run_32 : decode cX5_run 32 = .ok (.iconst 0, 1) := by decide +kernel
theorem dX5_run_33 : decode cX5_run 33 = .ok (.istore_n 3, 1) := by decide +kernel
theorem dX5_run_34 : decode cX5_run 34 = .ok (.iload_n 3, 1) := by decide +kernel
theorem dX5_run_35 : decode cX5_run 35 = .ok (.iload_n 1, 1) := by decide +kernel
theorem dX5_run_36 : decode cX5_run 36 = .ok (.if_icmp .ge 95, 3) := by decide +kernel
theorem dX5_run_39 : decode cX5_run 39 = .ok (.iload_n 3, 1) := by decide +kernel
theorem dX5_run_40 : decode cX5_run 40 = .ok (.bipush 12, 2) := by decide +kernel
theorem dX5_run_42 : decode cX5_run 42 = .ok (.if_icmp .ge 89, 3) := by decide +kernel
theorem dX5_run_45 : decode cX5_run 45 = .ok (.aload_n 0, 1) := by decide +kernel
theorem dX5_run_46 : decode cX5_run 46 = .ok (.getfield 21, 3) := by decide +kernel
theorem dX5_run_49 : decode cX5_run 49 = .ok (.iload_n 3, 1) := by decide +kernel
theorem dX5_run_50 : decode cX5_run 50 = .ok (.aaload, 1) := by decide +kernel
theorem dX5_run_51 : decode cX5_run 51 = .ok (.invokevirtual 103, 3) := by decide +kernel
theorem dX5_run_54 : decode cX5_run 54 = .ok (.aload_n 0, 1) := by decide +kernel
theorem dX5_run_55 : decode cX5_run 55 = .ok (.aload_n 0, 1) := by decide +kernel
theorem dX5_run_56 : decode cX5_run 56 = .ok (.getfield 15, 3) := by decide +kernel
theorem dX5_run_59 : decode cX5_run 59 = .ok (.iload_n 3, 1) := by decide +kernel
theorem dX5_run_60 : decode cX5_run 60 = .ok (.aaload, 1) := by decide +kernel
theorem dX5_run_61 : decode cX5_run 61 = .ok (.iload_n 3, 1) := by decide +kernel
theorem dX5_run_62 : decode cX5_run 62 = .ok (.invokevirtual 106, 3) := by decide +kernel
theorem dX5_run_65 : decode cX5_run 65 = .ok (.istore 4, 2) := by decide +kernel
theorem dX5_run_67 : decode cX5_run 67 = .ok (.iload 4, 2) := by decide +kernel
theorem dX5_run_69 : decode cX5_run 69 = .ok (.ifCond .ne 21, 3) := by decide +kernel
theorem dX5_run_72 : decode cX5_run 72 = .ok (.aload_n 0, 1) := by decide +kernel
theorem dX5_run_73 : decode cX5_run 73 = .ok (.aload_n 0, 1) := by decide +kernel
theorem dX5_run_74 : decode cX5_run 74 = .ok (.getfield 15, 3) := by decide +kernel
theorem dX5_run_77 : decode cX5_run 77 = .ok (.iload_n 3, 1) := by decide +kernel
theorem dX5_run_78 : decode cX5_run 78 = .ok (.aaload, 1) := by decide +kernel
theorem dX5_run_79 : decode cX5_run 79 = .ok (.aload_n 0, 1) := by decide +kernel
theorem dX5_run_80 : decode cX5_run 80 = .ok (.getfield 21, 3) := by decide +kernel
theorem dX5_run_83 : decode cX5_run 83 = .ok (.iload_n 3, 1) := by decide +kernel
theorem dX5_run_84 : decode cX5_run 84 = .ok (.aaload, 1) := by decide +kernel
theorem dX5_run_85 : decode cX5_run 85 = .ok (.invokevirtual 110, 3) := by decide +kernel
theorem dX5_run_88 : decode cX5_run 88 = .ok (.istore 4, 2) := by decide +kernel
theorem dX5_run_90 : decode cX5_run 90 = .ok (.iload 4, 2) := by decide +kernel
theorem dX5_run_92 : decode cX5_run 92 = .ok (.ifCond .ne 13, 3) := by decide +kernel
theorem dX5_run_95 : decode cX5_run 95 = .ok (.aload_n 0, 1) := by decide +kernel
theorem dX5_run_96 : decode cX5_run 96 = .ok (.invokevirtual 114, 3) := by decide +kernel
theorem dX5_run_99 : decode cX5_run 99 = .ok (.iinc 2 1, 3) := by decide +kernel
theorem dX5_run_102 : decode cX5_run 102 = .ok (.goto 12, 3) := by decide +kernel
theorem dX5_run_105 : decode cX5_run 105 = .ok (.aload_n 0, 1) := by decide +kernel
theorem dX5_run_106 : decode cX5_run 106 = .ok (.getfield 21, 3) := by decide +kernel
theorem dX5_run_109 : decode cX5_run 109 = .ok (.iload_n 3, 1) := by decide +kernel
theorem dX5_run_110 : decode cX5_run 110 = .ok (.aaload, 1) := by decide +kernel
theorem dX5_run_111 : decode cX5_run 111 = .ok (.invokevirtual 103, 3) := by decide +kernel
theorem dX5_run_114 : decode cX5_run 114 = .ok (.aload_n 0, 1) := by decide +kernel
theorem dX5_run_115 : decode cX5_run 115 = .ok (.getfield 21, 3) := by decide +kernel
theorem dX5_run_118 : decode cX5_run 118 = .ok (.iload_n 3, 1) := by decide +kernel
theorem dX5_run_119 : decode cX5_run 119 = .ok (.aaload, 1) := by decide +kernel
theorem dX5_run_120 : decode cX5_run 120 = .ok (.iload 4, 2) := by decide +kernel
theorem dX5_run_122 : decode cX5_run 122 = .ok (.putfield 117, 3) := by decide +kernel
theorem dX5_run_125 : decode cX5_run 125 = .ok (.iinc 3 1, 3) := by decide +kernel
theorem dX5_run_128 : decode cX5_run 128 = .ok (.goto (-94), 3) := by decide +kernel
theorem dX5_run_131 : decode cX5_run 131 = .ok (.aload_n 0, 1) := by decide +kernel
theorem dX5_run_132 : decode cX5_run 132 = .ok (.iload_n 1, 1) := by decide +kernel
theorem dX5_run_133 : decode cX5_run 133 = .ok (.putfield 100, 3) := by decide +kernel
theorem dX5_run_136 : decode cX5_run 136 = .ok (.iload_n 2, 1) := by decide +kernel
theorem dX5_run_137 : decode cX5_run 137 = .ok (.ireturn, 1) := by decide +kernel
theorem dX5_drop_0 : decode cX5_drop 0 = .ok (.aload_n 0, 1) := by decide +kernel
theorem dX5_drop_1 : decode cX5_drop 1 = .ok (.getfield 63, 3) := by decide +kernel
theorem dX5_drop_4 : decode cX5_drop 4 = .ok (.istore_n 1, 1) := by decide +kernel
theorem dX5_drop_5 : decode cX5_drop 5 = .ok (.aload_n 0, 1) := by decide +kernel
theorem dX5_drop_6 : decode cX5_drop 6 = .ok (.iconst 0, 1) := by decide +kernel
theorem dX5_drop_7 : decode cX5_drop 7 = .ok (.putfield 63, 3) := by decide +kernel
theorem dX5_drop_10 : decode cX5_drop 10 = .ok (.iload_n 1, 1) := by decide +kernel
theorem dX5_drop_11 : decode cX5_drop 11 = .ok (.ireturn, 1) := by decide +kernel
theorem dX5_status_0 : decode cX5_status 0 = .ok (.iload_n 1, 1) := by decide +kernel
theorem dX5_status_1 : decode cX5_status 1 = .ok (.ifCond .lt 17, 3) := by decide +kernel
theorem dX5_status_4 : decode cX5_status 4 = .ok (.iload_n 1, 1) := by decide +kernel
theorem dX5_status_5 : decode cX5_status 5 = .ok (.aload_n 0, 1) := by decide +kernel
theorem dX5_status_6 : decode cX5_status 6 = .ok (.getfield 100, 3) := by decide +kernel
theorem dX5_status_9 : decode cX5_status 9 = .ok (.if_icmp .ge 9, 3) := by decide +kernel
theorem dX5_status_12 : decode cX5_status 12 = .ok (.iload_n 1, 1) := by decide +kernel
theorem dX5_status_13 : decode cX5_status 13 = .ok (.bipush 12, 2) := by decide +kernel
theorem dX5_status_15 : decode cX5_status 15 = .ok (.if_icmp .lt 6, 3) := by decide +kernel
theorem dX5_status_18 : decode cX5_status 18 = .ok (.bipush (-9), 2) := by decide +kernel
theorem dX5_status_20 : decode cX5_status 20 = .ok (.ireturn, 1) := by decide +kernel
theorem dX5_status_21 : decode cX5_status 21 = .ok (.aload_n 0, 1) := by decide +kernel
theorem dX5_status_22 : decode cX5_status 22 = .ok (.getfield 21, 3) := by decide +kernel
theorem dX5_status_25 : decode cX5_status 25 = .ok (.iload_n 1, 1) := by decide +kernel
theorem dX5_status_26 : decode cX5_status 26 = .ok (.aaload, 1) := by decide +kernel
theorem dX5_status_27 : decode cX5_status 27 = .ok (.getfield 117, 3) := by decide +kernel
theorem dX5_status_30 : decode cX5_status 30 = .ok (.ireturn, 1) := by decide +kernel
theorem dX5_many_0 : decode cX5_many 0 = .ok (.iload_n 1, 1) := by decide +kernel
theorem dX5_many_1 : decode cX5_many 1 = .ok (.ifCond .lt 17, 3) := by decide +kernel
theorem dX5_many_4 : decode cX5_many 4 = .ok (.iload_n 1, 1) := by decide +kernel
theorem dX5_many_5 : decode cX5_many 5 = .ok (.aload_n 0, 1) := by decide +kernel
theorem dX5_many_6 : decode cX5_many 6 = .ok (.getfield 100, 3) := by decide +kernel
theorem dX5_many_9 : decode cX5_many 9 = .ok (.if_icmp .ge 9, 3) := by decide +kernel
theorem dX5_many_12 : decode cX5_many 12 = .ok (.iload_n 1, 1) := by decide +kernel
theorem dX5_many_13 : decode cX5_many 13 = .ok (.bipush 12, 2) := by decide +kernel
theorem dX5_many_15 : decode cX5_many 15 = .ok (.if_icmp .lt 5, 3) := by decide +kernel
theorem dX5_many_18 : decode cX5_many 18 = .ok (.iconst (-1), 1) := by decide +kernel
theorem dX5_many_19 : decode cX5_many 19 = .ok (.ireturn, 1) := by decide +kernel
theorem dX5_many_20 : decode cX5_many 20 = .ok (.aload_n 0, 1) := by decide +kernel
theorem dX5_many_21 : decode cX5_many 21 = .ok (.getfield 21, 3) := by decide +kernel
theorem dX5_many_24 : decode cX5_many 24 = .ok (.iload_n 1, 1) := by decide +kernel
theorem dX5_many_25 : decode cX5_many 25 = .ok (.aaload, 1) := by decide +kernel
theorem dX5_many_26 : decode cX5_many 26 = .ok (.iload_n 2, 1) := by decide +kernel
theorem dX5_many_27 : decode cX5_many 27 = .ok (.invokevirtual 120, 3) := by decide +kernel
theorem dX5_many_30 : decode cX5_many 30 = .ok (.ireturn, 1) := by decide +kernel
theorem dX5_given_0 : decode cX5_given 0 = .ok (.iload_n 1, 1) := by decide +kernel
theorem dX5_given_1 : decode cX5_given 1 = .ok (.ifCond .lt 17, 3) := by decide +kernel
theorem dX5_given_4 : decode cX5_given 4 = .ok (.iload_n 1, 1) := by decide +kernel
theorem dX5_given_5 : decode cX5_given 5 = .ok (.aload_n 0, 1) := by decide +kernel
theorem dX5_given_6 : decode cX5_given 6 = .ok (.getfield 100, 3) := by decide +kernel
theorem dX5_given_9 : decode cX5_given 9 = .ok (.if_icmp .ge 9, 3) := by decide +kernel
theorem dX5_given_12 : decode cX5_given 12 = .ok (.iload_n 1, 1) := by decide +kernel
theorem dX5_given_13 : decode cX5_given 13 = .ok (.bipush 12, 2) := by decide +kernel
theorem dX5_given_15 : decode cX5_given 15 = .ok (.if_icmp .lt 5, 3) := by decide +kernel
theorem dX5_given_18 : decode cX5_given 18 = .ok (.iconst (-1), 1) := by decide +kernel
theorem dX5_given_19 : decode cX5_given 19 = .ok (.ireturn, 1) := by decide +kernel
theorem dX5_given_20 : decode cX5_given 20 = .ok (.aload_n 0, 1) := by decide +kernel
theorem dX5_given_21 : decode cX5_given 21 = .ok (.getfield 21, 3) := by decide +kernel
theorem dX5_given_24 : decode cX5_given 24 = .ok (.iload_n 1, 1) := by decide +kernel
theorem dX5_given_25 : decode cX5_given 25 = .ok (.aaload, 1) := by decide +kernel
theorem dX5_given_26 : decode cX5_given 26 = .ok (.iload_n 2, 1) := by decide +kernel
theorem dX5_given_27 : decode cX5_given 27 = .ok (.iload_n 3, 1) := by decide +kernel
theorem dX5_given_28 : decode cX5_given 28 = .ok (.invokevirtual 124, 3) := by decide +kernel
theorem dX5_given_31 : decode cX5_given 31 = .ok (.ireturn, 1) := by decide +kernel
theorem dX5_state_0 : decode cX5_state 0 = .ok (.iload_n 1, 1) := by decide +kernel
theorem dX5_state_1 : decode cX5_state 1 = .ok (.invokestatic 128, 3) := by decide +kernel
theorem dX5_state_4 : decode cX5_state 4 = .ok (.ifCond .eq 14, 3) := by decide +kernel
theorem dX5_state_7 : decode cX5_state 7 = .ok (.aload_n 0, 1) := by decide +kernel
theorem dX5_state_8 : decode cX5_state 8 = .ok (.iload_n 1, 1) := by decide +kernel
theorem dX5_state_9 : decode cX5_state 9 = .ok (.invokevirtual 132, 3) := by decide +kernel
theorem dX5_state_12 : decode cX5_state 12 = .ok (.getfield 136, 3) := by decide +kernel
theorem dX5_state_15 : decode cX5_state 15 = .ok (.goto 4, 3) := by decide +kernel
theorem dX5_state_18 : decode cX5_state 18 = .ok (.iconst (-1), 1) := by decide +kernel
theorem dX5_state_19 : decode cX5_state 19 = .ok (.ireturn, 1) := by decide +kernel
theorem dX5_told_0 : decode cX5_told 0 = .ok (.iload_n 1, 1) := by decide +kernel
theorem dX5_told_1 : decode cX5_told 1 = .ok (.tableswitch 114 0 12 #[67, 67, 67, 76, 81, 86, 94, 114, 114, 114, 102, 102, 102], 67) := by decide +kernel
theorem dX5_told_68 : decode cX5_told 68 = .ok (.aload_n 0, 1) := by decide +kernel
theorem dX5_told_69 : decode cX5_told 69 = .ok (.iload_n 1, 1) := by decide +kernel
theorem dX5_told_70 : decode cX5_told 70 = .ok (.invokevirtual 132, 3) := by decide +kernel
theorem dX5_told_73 : decode cX5_told 73 = .ok (.invokevirtual 139, 3) := by decide +kernel
theorem dX5_told_76 : decode cX5_told 76 = .ok (.ireturn, 1) := by decide +kernel
theorem dX5_told_77 : decode cX5_told 77 = .ok (.aload_n 0, 1) := by decide +kernel
theorem dX5_told_78 : decode cX5_told 78 = .ok (.getfield 63, 3) := by decide +kernel
theorem dX5_told_81 : decode cX5_told 81 = .ok (.ireturn, 1) := by decide +kernel
theorem dX5_told_82 : decode cX5_told 82 = .ok (.aload_n 0, 1) := by decide +kernel
theorem dX5_told_83 : decode cX5_told 83 = .ok (.getfield 100, 3) := by decide +kernel
theorem dX5_told_86 : decode cX5_told 86 = .ok (.ireturn, 1) := by decide +kernel
theorem dX5_told_87 : decode cX5_told 87 = .ok (.aload_n 0, 1) := by decide +kernel
theorem dX5_told_88 : decode cX5_told 88 = .ok (.getfield 43, 3) := by decide +kernel
theorem dX5_told_91 : decode cX5_told 91 = .ok (.getfield 143, 3) := by decide +kernel
theorem dX5_told_94 : decode cX5_told 94 = .ok (.ireturn, 1) := by decide +kernel
theorem dX5_told_95 : decode cX5_told 95 = .ok (.aload_n 0, 1) := by decide +kernel
theorem dX5_told_96 : decode cX5_told 96 = .ok (.getfield 50, 3) := by decide +kernel
theorem dX5_told_99 : decode cX5_told 99 = .ok (.getfield 145, 3) := by decide +kernel
theorem dX5_told_102 : decode cX5_told 102 = .ok (.ireturn, 1) := by decide +kernel
theorem dX5_told_103 : decode cX5_told 103 = .ok (.aload_n 0, 1) := by decide +kernel
theorem dX5_told_104 : decode cX5_told 104 = .ok (.iload_n 1, 1) := by decide +kernel
theorem dX5_told_105 : decode cX5_told 105 = .ok (.bipush 10, 2) := by decide +kernel
theorem dX5_told_107 : decode cX5_told 107 = .ok (.isub, 1) := by decide +kernel
theorem dX5_told_108 : decode cX5_told 108 = .ok (.invokevirtual 132, 3) := by decide +kernel
theorem dX5_told_111 : decode cX5_told 111 = .ok (.getfield 146, 3) := by decide +kernel
theorem dX5_told_114 : decode cX5_told 114 = .ok (.ireturn, 1) := by decide +kernel
theorem dX5_told_115 : decode cX5_told 115 = .ok (.bipush (-2), 2) := by decide +kernel
theorem dX5_told_117 : decode cX5_told 117 = .ok (.ireturn, 1) := by decide +kernel
theorem dX5_box_0 : decode cX5_box 0 = .ok (.aload_n 0, 1) := by decide +kernel
theorem dX5_box_1 : decode cX5_box 1 = .ok (.getfield 30, 3) := by decide +kernel
theorem dX5_box_4 : decode cX5_box 4 = .ok (.iload_n 1, 1) := by decide +kernel
theorem dX5_box_5 : decode cX5_box 5 = .ok (.invokevirtual 149, 3) := by decide +kernel
theorem dX5_box_8 : decode cX5_box 8 = .ok (.ifCond .ne 5, 3) := by decide +kernel
theorem dX5_box_11 : decode cX5_box 11 = .ok (.iconst (-1), 1) := by decide +kernel
theorem dX5_box_12 : decode cX5_box 12 = .ok (.ireturn, 1) := by decide +kernel
theorem dX5_box_13 : decode cX5_box 13 = .ok (.iload_n 2, 1) := by decide +kernel
theorem dX5_box_14 : decode cX5_box 14 = .ok (.tableswitch 70 0 5 #[38, 38, 38, 48, 54, 64], 38) := by decide +kernel
theorem dX5_box_52 : decode cX5_box 52 = .ok (.aload_n 0, 1) := by decide +kernel
theorem dX5_box_53 : decode cX5_box 53 = .ok (.getfield 30, 3) := by decide +kernel
theorem dX5_box_56 : decode cX5_box 56 = .ok (.iload_n 1, 1) := by decide +kernel
theorem dX5_box_57 : decode cX5_box 57 = .ok (.iload_n 2, 1) := by decide +kernel
theorem dX5_box_58 : decode cX5_box 58 = .ok (.invokevirtual 152, 3) := by decide +kernel
theorem dX5_box_61 : decode cX5_box 61 = .ok (.ireturn, 1) := by decide +kernel
theorem dX5_box_62 : decode cX5_box 62 = .ok (.aload_n 0, 1) := by decide +kernel
theorem dX5_box_63 : decode cX5_box 63 = .ok (.iload_n 1, 1) := by decide +kernel
theorem dX5_box_64 : decode cX5_box 64 = .ok (.invokevirtual 155, 3) := by decide +kernel
theorem dX5_box_67 : decode cX5_box 67 = .ok (.ireturn, 1) := by decide +kernel
theorem dX5_box_68 : decode cX5_box 68 = .ok (.aload_n 0, 1) := by decide +kernel
theorem dX5_box_69 : decode cX5_box 69 = .ok (.getfield 30, 3) := by decide +kernel
theorem dX5_box_72 : decode cX5_box 72 = .ok (.iconst 1, 1) := by decide +kernel
theorem dX5_box_73 : decode cX5_box 73 = .ok (.iload_n 1, 1) := by decide +kernel
theorem dX5_box_74 : decode cX5_box 74 = .ok (.invokevirtual 158, 3) := by decide +kernel
theorem dX5_box_77 : decode cX5_box 77 = .ok (.ireturn, 1) := by decide +kernel
theorem dX5_box_78 : decode cX5_box 78 = .ok (.aload_n 0, 1) := by decide +kernel
theorem dX5_box_79 : decode cX5_box 79 = .ok (.iload_n 1, 1) := by decide +kernel
theorem dX5_box_80 : decode cX5_box 80 = .ok (.invokevirtual 161, 3) := by decide +kernel
theorem dX5_box_83 : decode cX5_box 83 = .ok (.ireturn, 1) := by decide +kernel
theorem dX5_box_84 : decode cX5_box 84 = .ok (.bipush (-2), 2) := by decide +kernel
theorem dX5_box_86 : decode cX5_box 86 = .ok (.ireturn, 1) := by decide +kernel
theorem dX5_mail_0 : decode cX5_mail 0 = .ok (.aload_n 0, 1) := by decide +kernel
theorem dX5_mail_1 : decode cX5_mail 1 = .ok (.getfield 34, 3) := by decide +kernel
theorem dX5_mail_4 : decode cX5_mail 4 = .ok (.iload_n 1, 1) := by decide +kernel
theorem dX5_mail_5 : decode cX5_mail 5 = .ok (.invokevirtual 149, 3) := by decide +kernel
theorem dX5_mail_8 : decode cX5_mail 8 = .ok (.ifCond .ne 5, 3) := by decide +kernel
theorem dX5_mail_11 : decode cX5_mail 11 = .ok (.iconst (-1), 1) := by decide +kernel
theorem dX5_mail_12 : decode cX5_mail 12 = .ok (.ireturn, 1) := by decide +kernel
theorem dX5_mail_13 : decode cX5_mail 13 = .ok (.iload_n 2, 1) := by decide +kernel
theorem dX5_mail_14 : decode cX5_mail 14 = .ok (.ifCond .lt 19, 3) := by decide +kernel
theorem dX5_mail_17 : decode cX5_mail 17 = .ok (.iload_n 2, 1) := by decide +kernel
theorem dX5_mail_18 : decode cX5_mail 18 = .ok (.bipush 7, 2) := by decide +kernel
theorem dX5_mail_20 : decode cX5_mail 20 = .ok (.if_icmp .gt 13, 3) := by decide +kernel
theorem dX5_mail_23 : decode cX5_mail 23 = .ok (.aload_n 0, 1) := by decide +kernel
theorem dX5_mail_24 : decode cX5_mail 24 = .ok (.getfield 34, 3) := by decide +kernel
theorem dX5_mail_27 : decode cX5_mail 27 = .ok (.iload_n 1, 1) := by decide +kernel
theorem dX5_mail_28 : decode cX5_mail 28 = .ok (.iload_n 2, 1) := by decide +kernel
theorem dX5_mail_29 : decode cX5_mail 29 = .ok (.invokevirtual 152, 3) := by decide +kernel
theorem dX5_mail_32 : decode cX5_mail 32 = .ok (.ireturn, 1) := by decide +kernel
theorem dX5_mail_33 : decode cX5_mail 33 = .ok (.iload_n 2, 1) := by decide +kernel
theorem dX5_mail_34 : decode cX5_mail 34 = .ok (.bipush 8, 2) := by decide +kernel
theorem dX5_mail_36 : decode cX5_mail 36 = .ok (.if_icmp .ne 17, 3) := by decide +kernel
theorem dX5_mail_39 : decode cX5_mail 39 = .ok (.aload_n 0, 1) := by decide +kernel
theorem dX5_mail_40 : decode cX5_mail 40 = .ok (.getfield 34, 3) := by decide +kernel
theorem dX5_mail_43 : decode cX5_mail 43 = .ok (.iload_n 1, 1) := by decide +kernel
theorem dX5_mail_44 : decode cX5_mail 44 = .ok (.bipush 8, 2) := by decide +kernel
theorem dX5_mail_46 : decode cX5_mail 46 = .ok (.invokevirtual 152, 3) := by decide +kernel
theorem dX5_mail_49 : decode cX5_mail 49 = .ok (.invokestatic 164, 3) := by decide +kernel
theorem dX5_mail_52 : decode cX5_mail 52 = .ok (.ireturn, 1) := by decide +kernel
theorem dX5_mail_53 : decode cX5_mail 53 = .ok (.iload_n 2, 1) := by decide +kernel
theorem dX5_mail_54 : decode cX5_mail 54 = .ok (.bipush 20, 2) := by decide +kernel
theorem dX5_mail_56 : decode cX5_mail 56 = .ok (.if_icmp .lt 35, 3) := by decide +kernel
theorem dX5_mail_59 : decode cX5_mail 59 = .ok (.aload_n 0, 1) := by decide +kernel
theorem dX5_mail_60 : decode cX5_mail 60 = .ok (.getfield 30, 3) := by decide +kernel
theorem dX5_mail_63 : decode cX5_mail 63 = .ok (.iload_n 2, 1) := by decide +kernel
theorem dX5_mail_64 : decode cX5_mail 64 = .ok (.bipush 20, 2) := by decide +kernel
theorem dX5_mail_66 : decode cX5_mail 66 = .ok (.isub, 1) := by decide +kernel
theorem dX5_mail_67 : decode cX5_mail 67 = .ok (.invokevirtual 149, 3) := by decide +kernel
theorem dX5_mail_70 : decode cX5_mail 70 = .ok (.ifCond .eq 21, 3) := by decide +kernel
theorem dX5_mail_73 : decode cX5_mail 73 = .ok (.aload_n 0, 1) := by decide +kernel
theorem dX5_mail_74 : decode cX5_mail 74 = .ok (.iload_n 1, 1) := by decide +kernel
theorem dX5_mail_75 : decode cX5_mail 75 = .ok (.iload_n 2, 1) := by decide +kernel
theorem dX5_mail_76 : decode cX5_mail 76 = .ok (.bipush 20, 2) := by decide +kernel
theorem dX5_mail_78 : decode cX5_mail 78 = .ok (.isub, 1) := by decide +kernel
theorem dX5_mail_79 : decode cX5_mail 79 = .ok (.invokevirtual 169, 3) := by decide +kernel
theorem dX5_mail_82 : decode cX5_mail 82 = .ok (.ifCond .eq 7, 3) := by decide +kernel
theorem dX5_mail_85 : decode cX5_mail 85 = .ok (.iconst 1, 1) := by decide +kernel
theorem dX5_mail_86 : decode cX5_mail 86 = .ok (.goto 4, 3) := by decide +kernel
theorem dX5_mail_89 : decode cX5_mail 89 = .ok (.iconst 0, 1) := by decide +kernel
theorem dX5_mail_90 : decode cX5_mail 90 = .ok (.ireturn, 1) := by decide +kernel
theorem dX5_mail_91 : decode cX5_mail 91 = .ok (.bipush (-2), 2) := by decide +kernel
theorem dX5_mail_93 : decode cX5_mail 93 = .ok (.ireturn, 1) := by decide +kernel
theorem dX5_thread_0 : decode cX5_thread 0 = .ok (.aload_n 0, 1) := by decide +kernel
theorem dX5_thread_1 : decode cX5_thread 1 = .ok (.getfield 37, 3) := by decide +kernel
theorem dX5_thread_4 : decode cX5_thread 4 = .ok (.iload_n 1, 1) := by decide +kernel
theorem dX5_thread_5 : decode cX5_thread 5 = .ok (.invokevirtual 149, 3) := by decide +kernel
theorem dX5_thread_8 : decode cX5_thread 8 = .ok (.ifCond .ne 5, 3) := by decide +kernel
theorem dX5_thread_11 : decode cX5_thread 11 = .ok (.iconst (-1), 1) := by decide +kernel
theorem dX5_thread_12 : decode cX5_thread 12 = .ok (.ireturn, 1) := by decide +kernel
theorem dX5_thread_13 : decode cX5_thread 13 = .ok (.iload_n 2, 1) := by decide +kernel
theorem dX5_thread_14 : decode cX5_thread 14 = .ok (.iconst (-1), 1) := by decide +kernel
theorem dX5_thread_15 : decode cX5_thread 15 = .ok (.if_icmp .ne 13, 3) := by decide +kernel
theorem dX5_thread_18 : decode cX5_thread 18 = .ok (.aload_n 0, 1) := by decide +kernel
theorem dX5_thread_19 : decode cX5_thread 19 = .ok (.getfield 37, 3) := by decide +kernel
theorem dX5_thread_22 : decode cX5_thread 22 = .ok (.iload_n 1, 1) := by decide +kernel
theorem dX5_thread_23 : decode cX5_thread 23 = .ok (.iconst 0, 1) := by decide +kernel
theorem dX5_thread_24 : decode cX5_thread 24 = .ok (.invokevirtual 152, 3) := by decide +kernel
theorem dX5_thread_27 : decode cX5_thread 27 = .ok (.ireturn, 1) := by decide +kernel
theorem dX5_thread_28 : decode cX5_thread 28 = .ok (.aload_n 0, 1) := by decide +kernel
theorem dX5_thread_29 : decode cX5_thread 29 = .ok (.getfield 34, 3) := by decide +kernel
theorem dX5_thread_32 : decode cX5_thread 32 = .ok (.bipush 7, 2) := by decide +kernel
theorem dX5_thread_34 : decode cX5_thread 34 = .ok (.iload_n 1, 1) := by decide +kernel
theorem dX5_thread_35 : decode cX5_thread 35 = .ok (.iload_n 2, 1) := by decide +kernel
theorem dX5_thread_36 : decode cX5_thread 36 = .ok (.invokevirtual 173, 3) := by decide +kernel
theorem dX5_thread_39 : decode cX5_thread 39 = .ok (.ireturn, 1) := by decide +kernel
theorem dX5_entry_0 : decode cX5_entry 0 = .ok (.iload_n 1, 1) := by decide +kernel
theorem dX5_entry_1 : decode cX5_entry 1 = .ok (.ifCond .lt 14, 3) := by decide +kernel
theorem dX5_entry_4 : decode cX5_entry 4 = .ok (.iload_n 1, 1) := by decide +kernel
theorem dX5_entry_5 : decode cX5_entry 5 = .ok (.aload_n 0, 1) := by decide +kernel
theorem dX5_entry_6 : decode cX5_entry 6 = .ok (.getfield 43, 3) := by decide +kernel
theorem dX5_entry_9 : decode cX5_entry 9 = .ok (.getfield 143, 3) := by decide +kernel
theorem dX5_entry_12 : decode cX5_entry 12 = .ok (.if_icmp .lt 5, 3) := by decide +kernel
theorem dX5_entry_15 : decode cX5_entry 15 = .ok (.iconst (-1), 1) := by decide +kernel
theorem dX5_entry_16 : decode cX5_entry 16 = .ok (.ireturn, 1) := by decide +kernel
theorem dX5_entry_17 : decode cX5_entry 17 = .ok (.iload_n 2, 1) := by decide +kernel
theorem dX5_entry_18 : decode cX5_entry 18 = .ok (.ifCond .lt 8, 3) := by decide +kernel
theorem dX5_entry_21 : decode cX5_entry 21 = .ok (.iload_n 2, 1) := by decide +kernel
theorem dX5_entry_22 : decode cX5_entry 22 = .ok (.iconst 4, 1) := by decide +kernel
theorem dX5_entry_23 : decode cX5_entry 23 = .ok (.if_icmp .lt 6, 3) := by decide +kernel
theorem dX5_entry_26 : decode cX5_entry 26 = .ok (.bipush (-2), 2) := by decide +kernel
theorem dX5_entry_28 : decode cX5_entry 28 = .ok (.ireturn, 1) := by decide +kernel
theorem dX5_entry_29 : decode cX5_entry 29 = .ok (.aload_n 0, 1) := by decide +kernel
theorem dX5_entry_30 : decode cX5_entry 30 = .ok (.getfield 43, 3) := by decide +kernel
theorem dX5_entry_33 : decode cX5_entry 33 = .ok (.iload_n 1, 1) := by decide +kernel
theorem dX5_entry_34 : decode cX5_entry 34 = .ok (.iload_n 2, 1) := by decide +kernel
theorem dX5_entry_35 : decode cX5_entry 35 = .ok (.invokevirtual 177, 3) := by decide +kernel
theorem dX5_entry_38 : decode cX5_entry 38 = .ok (.ireturn, 1) := by decide +kernel
theorem dX5_filter_0 : decode cX5_filter 0 = .ok (.iload_n 1, 1) := by decide +kernel
theorem dX5_filter_1 : decode cX5_filter 1 = .ok (.bipush 8, 2) := by decide +kernel
theorem dX5_filter_3 : decode cX5_filter 3 = .ok (.if_icmp .eq 9, 3) := by decide +kernel
theorem dX5_filter_6 : decode cX5_filter 6 = .ok (.iload_n 1, 1) := by decide +kernel
theorem dX5_filter_7 : decode cX5_filter 7 = .ok (.bipush 9, 2) := by decide +kernel
theorem dX5_filter_9 : decode cX5_filter 9 = .ok (.if_icmp .ne 7, 3) := by decide +kernel
theorem dX5_filter_12 : decode cX5_filter 12 = .ok (.iconst 1, 1) := by decide +kernel
theorem dX5_filter_13 : decode cX5_filter 13 = .ok (.goto 4, 3) := by decide +kernel
theorem dX5_filter_16 : decode cX5_filter 16 = .ok (.iconst 0, 1) := by decide +kernel
theorem dX5_filter_17 : decode cX5_filter 17 = .ok (.istore 4, 2) := by decide +kernel
theorem dX5_filter_19 : decode cX5_filter 19 = .ok (.iload 4, 2) := by decide +kernel
theorem dX5_filter_21 : decode cX5_filter 21 = .ok (.ifCond .ne 9, 3) := by decide +kernel
theorem dX5_filter_24 : decode cX5_filter 24 = .ok (.iload_n 1, 1) := by decide +kernel
theorem dX5_filter_25 : decode cX5_filter 25 = .ok (.bipush 10, 2) := by decide +kernel
theorem dX5_filter_27 : decode cX5_filter 27 = .ok (.if_icmp .ne 14, 3) := by decide +kernel
theorem dX5_filter_30 : decode cX5_filter 30 = .ok (.aload_n 0, 1) := by decide +kernel
theorem dX5_filter_31 : decode cX5_filter 31 = .ok (.getfield 50, 3) := by decide +kernel
theorem dX5_filter_34 : decode cX5_filter 34 = .ok (.iload_n 2, 1) := by decide +kernel
theorem dX5_filter_35 : decode cX5_filter 35 = .ok (.invokevirtual 178, 3) := by decide +kernel
theorem dX5_filter_38 : decode cX5_filter 38 = .ok (.ifCond .eq 19, 3) := by decide +kernel
theorem dX5_filter_41 : decode cX5_filter 41 = .ok (.iload 4, 2) := by decide +kernel
theorem dX5_filter_43 : decode cX5_filter 43 = .ok (.ifCond .eq 16, 3) := by decide +kernel
theorem dX5_filter_46 : decode cX5_filter 46 = .ok (.aload_n 0, 1) := by decide +kernel
theorem dX5_filter_47 : decode cX5_filter 47 = .ok (.getfield 50, 3) := by decide +kernel
theorem dX5_filter_50 : decode cX5_filter 50 = .ok (.iload_n 3, 1) := by decide +kernel
theorem dX5_filter_51 : decode cX5_filter 51 = .ok (.invokevirtual 178, 3) := by decide +kernel
theorem dX5_filter_54 : decode cX5_filter 54 = .ok (.ifCond .ne 5, 3) := by decide +kernel
theorem dX5_filter_57 : decode cX5_filter 57 = .ok (.iconst (-1), 1) := by decide +kernel
theorem dX5_filter_58 : decode cX5_filter 58 = .ok (.ireturn, 1) := by decide +kernel
theorem dX5_filter_59 : decode cX5_filter 59 = .ok (.iload_n 1, 1) := by decide +kernel
theorem dX5_filter_60 : decode cX5_filter 60 = .ok (.ifCond .lt 23, 3) := by decide +kernel
theorem dX5_filter_63 : decode cX5_filter 63 = .ok (.iload_n 1, 1) := by decide +kernel
theorem dX5_filter_64 : decode cX5_filter 64 = .ok (.bipush 10, 2) := by decide +kernel
theorem dX5_filter_66 : decode cX5_filter 66 = .ok (.if_icmp .gt 17, 3) := by decide +kernel
theorem dX5_filter_69 : decode cX5_filter 69 = .ok (.iload_n 1, 1) := by decide +kernel
theorem dX5_filter_70 : decode cX5_filter 70 = .ok (.iconst 5, 1) := by decide +kernel
theorem dX5_filter_71 : decode cX5_filter 71 = .ok (.if_icmp .ne 15, 3) := by decide +kernel
theorem dX5_filter_74 : decode cX5_filter 74 = .ok (.iload_n 2, 1) := by decide +kernel
theorem dX5_filter_75 : decode cX5_filter 75 = .ok (.ifCond .lt 8, 3) := by decide +kernel
theorem dX5_filter_78 : decode cX5_filter 78 = .ok (.iload_n 2, 1) := by decide +kernel
theorem dX5_filter_79 : decode cX5_filter 79 = .ok (.iconst 3, 1) := by decide +kernel
theorem dX5_filter_80 : decode cX5_filter 80 = .ok (.if_icmp .le 6, 3) := by decide +kernel
theorem dX5_filter_83 : decode cX5_filter 83 = .ok (.bipush (-2), 2) := by decide +kernel
theorem dX5_filter_85 : decode cX5_filter 85 = .ok (.ireturn, 1) := by decide +kernel
theorem dX5_filter_86 : decode cX5_filter 86 = .ok (.aload_n 0, 1) := by decide +kernel
theorem dX5_filter_87 : decode cX5_filter 87 = .ok (.getfield 50, 3) := by decide +kernel
theorem dX5_filter_90 : decode cX5_filter 90 = .ok (.iload_n 1, 1) := by decide +kernel
theorem dX5_filter_91 : decode cX5_filter 91 = .ok (.iload_n 2, 1) := by decide +kernel
theorem dX5_filter_92 : decode cX5_filter 92 = .ok (.iload_n 3, 1) := by decide +kernel
theorem dX5_filter_93 : decode cX5_filter 93 = .ok (.invokevirtual 179, 3) := by decide +kernel
theorem dX5_filter_96 : decode cX5_filter 96 = .ok (.ireturn, 1) := by decide +kernel
theorem dX5_fits_0 : decode cX5_fits 0 = .ok (.aload_n 0, 1) := by decide +kernel
theorem dX5_fits_1 : decode cX5_fits 1 = .ok (.getfield 34, 3) := by decide +kernel
theorem dX5_fits_4 : decode cX5_fits 4 = .ok (.iload_n 1, 1) := by decide +kernel
theorem dX5_fits_5 : decode cX5_fits 5 = .ok (.invokevirtual 149, 3) := by decide +kernel
theorem dX5_fits_8 : decode cX5_fits 8 = .ok (.ifCond .eq 14, 3) := by decide +kernel
theorem dX5_fits_11 : decode cX5_fits 11 = .ok (.aload_n 0, 1) := by decide +kernel
theorem dX5_fits_12 : decode cX5_fits 12 = .ok (.getfield 50, 3) := by decide +kernel
theorem dX5_fits_15 : decode cX5_fits 15 = .ok (.iload_n 2, 1) := by decide +kernel
theorem dX5_fits_16 : decode cX5_fits 16 = .ok (.invokevirtual 178, 3) := by decide +kernel
theorem dX5_fits_19 : decode cX5_fits 19 = .ok (.ifCond .ne 5, 3) := by decide +kernel
theorem dX5_fits_22 : decode cX5_fits 22 = .ok (.iconst (-1), 1) := by decide +kernel
theorem dX5_fits_23 : decode cX5_fits 23 = .ok (.ireturn, 1) := by decide +kernel
theorem dX5_fits_24 : decode cX5_fits 24 = .ok (.aload_n 0, 1) := by decide +kernel
theorem dX5_fits_25 : decode cX5_fits 25 = .ok (.iload_n 1, 1) := by decide +kernel
theorem dX5_fits_26 : decode cX5_fits 26 = .ok (.iload_n 2, 1) := by decide +kernel
theorem dX5_fits_27 : decode cX5_fits 27 = .ok (.invokevirtual 182, 3) := by decide +kernel
theorem dX5_fits_30 : decode cX5_fits 30 = .ok (.ifCond .eq 7, 3) := by decide +kernel
theorem dX5_fits_33 : decode cX5_fits 33 = .ok (.iconst 1, 1) := by decide +kernel
theorem dX5_fits_34 : decode cX5_fits 34 = .ok (.goto 4, 3) := by decide +kernel
theorem dX5_fits_37 : decode cX5_fits 37 = .ok (.iconst 0, 1) := by decide +kernel
theorem dX5_fits_38 : decode cX5_fits 38 = .ok (.ireturn, 1) := by decide +kernel
theorem dX5_putOfIds_0 : decode cX5_putOfIds 0 = .ok (.aload_n 0, 1) := by decide +kernel
theorem dX5_putOfIds_1 : decode cX5_putOfIds 1 = .ok (.getfield 63, 3) := by decide +kernel
theorem dX5_putOfIds_4 : decode cX5_putOfIds 4 = .ok (.bipush 12, 2) := by decide +kernel
theorem dX5_putOfIds_6 : decode cX5_putOfIds 6 = .ok (.if_icmp .lt 6, 3) := by decide +kernel
theorem dX5_putOfIds_9 : decode cX5_putOfIds 9 = .ok (.bipush (-4), 2) := by decide +kernel
theorem dX5_putOfIds_11 : decode cX5_putOfIds 11 = .ok (.ireturn, 1) := by decide +kernel
theorem dX5_putOfIds_12 : decode cX5_putOfIds 12 = .ok (.aload_n 0, 1) := by decide +kernel
theorem dX5_putOfIds_13 : decode cX5_putOfIds 13 = .ok (.getfield 15, 3) := by decide +kernel
theorem dX5_putOfIds_16 : decode cX5_putOfIds 16 = .ok (.aload_n 0, 1) := by decide +kernel
theorem dX5_putOfIds_17 : decode cX5_putOfIds 17 = .ok (.getfield 63, 3) := by decide +kernel
theorem dX5_putOfIds_20 : decode cX5_putOfIds 20 = .ok (.aaload, 1) := by decide +kernel
theorem dX5_putOfIds_21 : decode cX5_putOfIds 21 = .ok (.astore 7, 2) := by decide +kernel
theorem dX5_putOfIds_23 : decode cX5_putOfIds 23 = .ok (.aload 7, 2) := by decide +kernel
theorem dX5_putOfIds_25 : decode cX5_putOfIds 25 = .ok (.iload_n 1, 1) := by decide +kernel
theorem dX5_putOfIds_26 : decode cX5_putOfIds 26 = .ok (.iload_n 2, 1) := by decide +kernel
theorem dX5_putOfIds_27 : decode cX5_putOfIds 27 = .ok (.invokevirtual 67, 3) := by decide +kernel
theorem dX5_putOfIds_30 : decode cX5_putOfIds 30 = .ok (.aload 7, 2) := by decide +kernel
theorem dX5_putOfIds_32 : decode cX5_putOfIds 32 = .ok (.iload_n 3, 1) := by decide +kernel
theorem dX5_putOfIds_33 : decode cX5_putOfIds 33 = .ok (.putfield 185, 3) := by decide +kernel
theorem dX5_putOfIds_36 : decode cX5_putOfIds 36 = .ok (.aload 7, 2) := by decide +kernel
theorem dX5_putOfIds_38 : decode cX5_putOfIds 38 = .ok (.iload 4, 2) := by decide +kernel
theorem dX5_putOfIds_40 : decode cX5_putOfIds 40 = .ok (.putfield 188, 3) := by decide +kernel
theorem dX5_putOfIds_43 : decode cX5_putOfIds 43 = .ok (.aload 7, 2) := by decide +kernel
theorem dX5_putOfIds_45 : decode cX5_putOfIds 45 = .ok (.iload 5, 2) := by decide +kernel
theorem dX5_putOfIds_47 : decode cX5_putOfIds 47 = .ok (.putfield 191, 3) := by decide +kernel
theorem dX5_putOfIds_50 : decode cX5_putOfIds 50 = .ok (.aload 7, 2) := by decide +kernel
theorem dX5_putOfIds_52 : decode cX5_putOfIds 52 = .ok (.iload 6, 2) := by decide +kernel
theorem dX5_putOfIds_54 : decode cX5_putOfIds 54 = .ok (.putfield 86, 3) := by decide +kernel
theorem dX5_putOfIds_57 : decode cX5_putOfIds 57 = .ok (.aload_n 0, 1) := by decide +kernel
theorem dX5_putOfIds_58 : decode cX5_putOfIds 58 = .ok (.dup, 1) := by decide +kernel
theorem dX5_putOfIds_59 : decode cX5_putOfIds 59 = .ok (.getfield 63, 3) := by decide +kernel
theorem dX5_putOfIds_62 : decode cX5_putOfIds 62 = .ok (.dup_x1, 1) := by decide +kernel
theorem dX5_putOfIds_63 : decode cX5_putOfIds 63 = .ok (.iconst 1, 1) := by decide +kernel
theorem dX5_putOfIds_64 : decode cX5_putOfIds 64 = .ok (.iadd, 1) := by decide +kernel
theorem dX5_putOfIds_65 : decode cX5_putOfIds 65 = .ok (.putfield 63, 3) := by decide +kernel
theorem dX5_putOfIds_68 : decode cX5_putOfIds 68 = .ok (.ireturn, 1) := by decide +kernel
theorem dX5_isWithin_0 : decode cX5_isWithin 0 = .ok (.iload_n 0, 1) := by decide +kernel
theorem dX5_isWithin_1 : decode cX5_isWithin 1 = .ok (.iload_n 1, 1) := by decide +kernel
theorem dX5_isWithin_2 : decode cX5_isWithin 2 = .ok (.if_icmp .lt 12, 3) := by decide +kernel
theorem dX5_isWithin_5 : decode cX5_isWithin 5 = .ok (.iload_n 0, 1) := by decide +kernel
theorem dX5_isWithin_6 : decode cX5_isWithin 6 = .ok (.iload_n 2, 1) := by decide +kernel
theorem dX5_isWithin_7 : decode cX5_isWithin 7 = .ok (.if_icmp .gt 7, 3) := by decide +kernel
theorem dX5_isWithin_10 : decode cX5_isWithin 10 = .ok (.iconst 1, 1) := by decide +kernel
theorem dX5_isWithin_11 : decode cX5_isWithin 11 = .ok (.goto 4, 3) := by decide +kernel
theorem dX5_isWithin_14 : decode cX5_isWithin 14 = .ok (.iconst 0, 1) := by decide +kernel
theorem dX5_isWithin_15 : decode cX5_isWithin 15 = .ok (.ireturn, 1) := by decide +kernel
theorem dX5_isKind_0 : decode cX5_isKind 0 = .ok (.iload_n 0, 1) := by decide +kernel
theorem dX5_isKind_1 : decode cX5_isKind 1 = .ok (.iconst 0, 1) := by decide +kernel
theorem dX5_isKind_2 : decode cX5_isKind 2 = .ok (.iconst 2, 1) := by decide +kernel
theorem dX5_isKind_3 : decode cX5_isKind 3 = .ok (.invokestatic 194, 3) := by decide +kernel
theorem dX5_isKind_6 : decode cX5_isKind 6 = .ok (.ireturn, 1) := by decide +kernel
theorem dX5_isAsTold_0 : decode cX5_isAsTold 0 = .ok (.aload_n 0, 1) := by decide +kernel
theorem dX5_isAsTold_1 : decode cX5_isAsTold 1 = .ok (.getfield 198, 3) := by decide +kernel
theorem dX5_isAsTold_4 : decode cX5_isAsTold 4 = .ok (.tableswitch 173 0 4 #[36, 59, 112, 148, 153], 36) := by decide +kernel
theorem dX5_isAsTold_40 : decode cX5_isAsTold 40 = .ok (.aload_n 0, 1) := by decide +kernel
theorem dX5_isAsTold_41 : decode cX5_isAsTold 41 = .ok (.getfield 201, 3) := by decide +kernel
theorem dX5_isAsTold_44 : decode cX5_isAsTold 44 = .ok (.invokestatic 128, 3) := by decide +kernel
theorem dX5_isAsTold_47 : decode cX5_isAsTold 47 = .ok (.ifCond .eq 14, 3) := by decide +kernel
theorem dX5_isAsTold_50 : decode cX5_isAsTold 50 = .ok (.aload_n 0, 1) := by decide +kernel
theorem dX5_isAsTold_51 : decode cX5_isAsTold 51 = .ok (.invokestatic 204, 3) := by decide +kernel
theorem dX5_isAsTold_54 : decode cX5_isAsTold 54 = .ok (.ifCond .eq 7, 3) := by decide +kernel
theorem dX5_isAsTold_57 : decode cX5_isAsTold 57 = .ok (.iconst 1, 1) := by decide +kernel
theorem dX5_isAsTold_58 : decode cX5_isAsTold 58 = .ok (.goto 4, 3) := by decide +kernel
theorem dX5_isAsTold_61 : decode cX5_isAsTold 61 = .ok (.iconst 0, 1) := by decide +kernel
theorem dX5_isAsTold_62 : decode cX5_isAsTold 62 = .ok (.ireturn, 1) := by decide +kernel
theorem dX5_isAsTold_63 : decode cX5_isAsTold 63 = .ok (.aload_n 0, 1) := by decide +kernel
theorem dX5_isAsTold_64 : decode cX5_isAsTold 64 = .ok (.getfield 71, 3) := by decide +kernel
theorem dX5_isAsTold_67 : decode cX5_isAsTold 67 = .ok (.iconst (-1), 1) := by decide +kernel
theorem dX5_isAsTold_68 : decode cX5_isAsTold 68 = .ok (.if_icmp .lt 46, 3) := by decide +kernel
theorem dX5_isAsTold_71 : decode cX5_isAsTold 71 = .ok (.aload_n 0, 1) := by decide +kernel
theorem dX5_isAsTold_72 : decode cX5_isAsTold 72 = .ok (.getfield 74, 3) := by decide +kernel
theorem dX5_isAsTold_75 : decode cX5_isAsTold 75 = .ok (.iconst 0, 1) := by decide +kernel
theorem dX5_isAsTold_76 : decode cX5_isAsTold 76 = .ok (.bipush 7, 2) := by decide +kernel
theorem dX5_isAsTold_78 : decode cX5_isAsTold 78 = .ok (.invokestatic 194, 3) := by decide +kernel
theorem dX5_isAsTold_81 : decode cX5_isAsTold 81 = .ok (.ifCond .eq 33, 3) := by decide +kernel
theorem dX5_isAsTold_84 : decode cX5_isAsTold 84 = .ok (.aload_n 0, 1) := by decide +kernel
theorem dX5_isAsTold_85 : decode cX5_isAsTold 85 = .ok (.getfield 77, 3) := by decide +kernel
theorem dX5_isAsTold_88 : decode cX5_isAsTold 88 = .ok (.iconst 0, 1) := by decide +kernel
theorem dX5_isAsTold_89 : decode cX5_isAsTold 89 = .ok (.bipush 99, 2) := by decide +kernel
theorem dX5_isAsTold_91 : decode cX5_isAsTold 91 = .ok (.invokestatic 194, 3) := by decide +kernel
theorem dX5_isAsTold_94 : decode cX5_isAsTold 94 = .ok (.ifCond .eq 20, 3) := by decide +kernel
theorem dX5_isAsTold_97 : decode cX5_isAsTold 97 = .ok (.aload_n 0, 1) := by decide +kernel
theorem dX5_isAsTold_98 : decode cX5_isAsTold 98 = .ok (.getfield 80, 3) := by decide +kernel
theorem dX5_isAsTold_101 : decode cX5_isAsTold 101 = .ok (.iconst 0, 1) := by decide +kernel
theorem dX5_isAsTold_102 : decode cX5_isAsTold 102 = .ok (.bipush 99, 2) := by decide +kernel
theorem dX5_isAsTold_104 : decode cX5_isAsTold 104 = .ok (.invokestatic 194, 3) := by decide +kernel
theorem dX5_isAsTold_107 : decode cX5_isAsTold 107 = .ok (.ifCond .eq 7, 3) := by decide +kernel
theorem dX5_isAsTold_110 : decode cX5_isAsTold 110 = .ok (.iconst 1, 1) := by decide +kernel
theorem dX5_isAsTold_111 : decode cX5_isAsTold 111 = .ok (.goto 4, 3) := by decide +kernel
theorem dX5_isAsTold_114 : decode cX5_isAsTold 114 = .ok (.iconst 0, 1) := by decide +kernel
theorem dX5_isAsTold_115 : decode cX5_isAsTold 115 = .ok (.ireturn, 1) := by decide +kernel
theorem dX5_isAsTold_116 : decode cX5_isAsTold 116 = .ok (.aload_n 0, 1) := by decide +kernel
theorem dX5_isAsTold_117 : decode cX5_isAsTold 117 = .ok (.getfield 201, 3) := by decide +kernel
theorem dX5_isAsTold_120 : decode cX5_isAsTold 120 = .ok (.invokestatic 128, 3) := by decide +kernel
theorem dX5_isAsTold_123 : decode cX5_isAsTold 123 = .ok (.ifCond .eq 27, 3) := by decide +kernel
theorem dX5_isAsTold_126 : decode cX5_isAsTold 126 = .ok (.aload_n 0, 1) := by decide +kernel
theorem dX5_isAsTold_127 : decode cX5_isAsTold 127 = .ok (.getfield 83, 3) := by decide +kernel
theorem dX5_isAsTold_130 : decode cX5_isAsTold 130 = .ok (.ifCond .lt 20, 3) := by decide +kernel
theorem dX5_isAsTold_133 : decode cX5_isAsTold 133 = .ok (.aload_n 0, 1) := by decide +kernel
theorem dX5_isAsTold_134 : decode cX5_isAsTold 134 = .ok (.getfield 80, 3) := by decide +kernel
theorem dX5_isAsTold_137 : decode cX5_isAsTold 137 = .ok (.iconst 1, 1) := by decide +kernel
theorem dX5_isAsTold_138 : decode cX5_isAsTold 138 = .ok (.bipush 99, 2) := by decide +kernel
theorem dX5_isAsTold_140 : decode cX5_isAsTold 140 = .ok (.invokestatic 194, 3) := by decide +kernel
theorem dX5_isAsTold_143 : decode cX5_isAsTold 143 = .ok (.ifCond .eq 7, 3) := by decide +kernel
theorem dX5_isAsTold_146 : decode cX5_isAsTold 146 = .ok (.iconst 1, 1) := by decide +kernel
theorem dX5_isAsTold_147 : decode cX5_isAsTold 147 = .ok (.goto 4, 3) := by decide +kernel
theorem dX5_isAsTold_150 : decode cX5_isAsTold 150 = .ok (.iconst 0, 1) := by decide +kernel
theorem dX5_isAsTold_151 : decode cX5_isAsTold 151 = .ok (.ireturn, 1) := by decide +kernel
theorem dX5_isAsTold_152 : decode cX5_isAsTold 152 = .ok (.aload_n 0, 1) := by decide +kernel
theorem dX5_isAsTold_153 : decode cX5_isAsTold 153 = .ok (.invokestatic 208, 3) := by decide +kernel
theorem dX5_isAsTold_156 : decode cX5_isAsTold 156 = .ok (.ireturn, 1) := by decide +kernel
theorem dX5_isAsTold_157 : decode cX5_isAsTold 157 = .ok (.aload_n 0, 1) := by decide +kernel
theorem dX5_isAsTold_158 : decode cX5_isAsTold 158 = .ok (.invokestatic 204, 3) := by decide +kernel
theorem dX5_isAsTold_161 : decode cX5_isAsTold 161 = .ok (.ifCond .eq 14, 3) := by decide +kernel
theorem dX5_isAsTold_164 : decode cX5_isAsTold 164 = .ok (.aload_n 0, 1) := by decide +kernel
theorem dX5_isAsTold_165 : decode cX5_isAsTold 165 = .ok (.invokestatic 211, 3) := by decide +kernel
theorem dX5_isAsTold_168 : decode cX5_isAsTold 168 = .ok (.ifCond .eq 7, 3) := by decide +kernel
theorem dX5_isAsTold_171 : decode cX5_isAsTold 171 = .ok (.iconst 1, 1) := by decide +kernel
theorem dX5_isAsTold_172 : decode cX5_isAsTold 172 = .ok (.goto 4, 3) := by decide +kernel
theorem dX5_isAsTold_175 : decode cX5_isAsTold 175 = .ok (.iconst 0, 1) := by decide +kernel
theorem dX5_isAsTold_176 : decode cX5_isAsTold 176 = .ok (.ireturn, 1) := by decide +kernel
theorem dX5_isAsTold_177 : decode cX5_isAsTold 177 = .ok (.aload_n 0, 1) := by decide +kernel
theorem dX5_isAsTold_178 : decode cX5_isAsTold 178 = .ok (.getfield 201, 3) := by decide +kernel
theorem dX5_isAsTold_181 : decode cX5_isAsTold 181 = .ok (.iconst 0, 1) := by decide +kernel
theorem dX5_isAsTold_182 : decode cX5_isAsTold 182 = .ok (.iconst 1, 1) := by decide +kernel
theorem dX5_isAsTold_183 : decode cX5_isAsTold 183 = .ok (.invokestatic 194, 3) := by decide +kernel
theorem dX5_isAsTold_186 : decode cX5_isAsTold 186 = .ok (.ifCond .eq 14, 3) := by decide +kernel
theorem dX5_isAsTold_189 : decode cX5_isAsTold 189 = .ok (.aload_n 0, 1) := by decide +kernel
theorem dX5_isAsTold_190 : decode cX5_isAsTold 190 = .ok (.invokestatic 204, 3) := by decide +kernel
theorem dX5_isAsTold_193 : decode cX5_isAsTold 193 = .ok (.ifCond .eq 7, 3) := by decide +kernel
theorem dX5_isAsTold_196 : decode cX5_isAsTold 196 = .ok (.iconst 1, 1) := by decide +kernel
theorem dX5_isAsTold_197 : decode cX5_isAsTold 197 = .ok (.goto 4, 3) := by decide +kernel
theorem dX5_isAsTold_200 : decode cX5_isAsTold 200 = .ok (.iconst 0, 1) := by decide +kernel
theorem dX5_isAsTold_201 : decode cX5_isAsTold 201 = .ok (.ireturn, 1) := by decide +kernel
theorem dX5_areIdsAsTold_0 : decode cX5_areIdsAsTold 0 = .ok (.aload_n 0, 1) := by decide +kernel
theorem dX5_areIdsAsTold_1 : decode cX5_areIdsAsTold 1 = .ok (.getfield 185, 3) := by decide +kernel
theorem dX5_areIdsAsTold_4 : decode cX5_areIdsAsTold 4 = .ok (.iconst (-1), 1) := by decide +kernel
theorem dX5_areIdsAsTold_5 : decode cX5_areIdsAsTold 5 = .ok (.if_icmp .eq 22, 3) := by decide +kernel
theorem dX5_areIdsAsTold_8 : decode cX5_areIdsAsTold 8 = .ok (.aload_n 0, 1) := by decide +kernel
theorem dX5_areIdsAsTold_9 : decode cX5_areIdsAsTold 9 = .ok (.getfield 185, 3) := by decide +kernel
theorem dX5_areIdsAsTold_12 : decode cX5_areIdsAsTold 12 = .ok (.ifCond .lt 19, 3) := by decide +kernel
theorem dX5_areIdsAsTold_15 : decode cX5_areIdsAsTold 15 = .ok (.aload_n 0, 1) := by decide +kernel
theorem dX5_areIdsAsTold_16 : decode cX5_areIdsAsTold 16 = .ok (.getfield 188, 3) := by decide +kernel
theorem dX5_areIdsAsTold_19 : decode cX5_areIdsAsTold 19 = .ok (.iconst 0, 1) := by decide +kernel
theorem dX5_areIdsAsTold_20 : decode cX5_areIdsAsTold 20 = .ok (.iconst 3, 1) := by decide +kernel
theorem dX5_areIdsAsTold_21 : decode cX5_areIdsAsTold 21 = .ok (.invokestatic 194, 3) := by decide +kernel
theorem dX5_areIdsAsTold_24 : decode cX5_areIdsAsTold 24 = .ok (.ifCond .eq 7, 3) := by decide +kernel
theorem dX5_areIdsAsTold_27 : decode cX5_areIdsAsTold 27 = .ok (.iconst 1, 1) := by decide +kernel
theorem dX5_areIdsAsTold_28 : decode cX5_areIdsAsTold 28 = .ok (.goto 4, 3) := by decide +kernel
theorem dX5_areIdsAsTold_31 : decode cX5_areIdsAsTold 31 = .ok (.iconst 0, 1) := by decide +kernel
theorem dX5_areIdsAsTold_32 : decode cX5_areIdsAsTold 32 = .ok (.ireturn, 1) := by decide +kernel
theorem dX5_isDraftAsTold_0 : decode cX5_isDraftAsTold 0 = .ok (.aload_n 0, 1) := by decide +kernel
theorem dX5_isDraftAsTold_1 : decode cX5_isDraftAsTold 1 = .ok (.getfield 201, 3) := by decide +kernel
theorem dX5_isDraftAsTold_4 : decode cX5_isDraftAsTold 4 = .ok (.ifCond .ne 25, 3) := by decide +kernel
theorem dX5_isDraftAsTold_7 : decode cX5_isDraftAsTold 7 = .ok (.aload_n 0, 1) := by decide +kernel
theorem dX5_isDraftAsTold_8 : decode cX5_isDraftAsTold 8 = .ok (.iconst 0, 1) := by decide +kernel
theorem dX5_isDraftAsTold_9 : decode cX5_isDraftAsTold 9 = .ok (.invokestatic 214, 3) := by decide +kernel
theorem dX5_isDraftAsTold_12 : decode cX5_isDraftAsTold 12 = .ok (.ifCond .eq 15, 3) := by decide +kernel
theorem dX5_isDraftAsTold_15 : decode cX5_isDraftAsTold 15 = .ok (.aload_n 0, 1) := by decide +kernel
theorem dX5_isDraftAsTold_16 : decode cX5_isDraftAsTold 16 = .ok (.iconst 2, 1) := by decide +kernel
theorem dX5_isDraftAsTold_17 : decode cX5_isDraftAsTold 17 = .ok (.invokestatic 214, 3) := by decide +kernel
theorem dX5_isDraftAsTold_20 : decode cX5_isDraftAsTold 20 = .ok (.ifCond .eq 7, 3) := by decide +kernel
theorem dX5_isDraftAsTold_23 : decode cX5_isDraftAsTold 23 = .ok (.iconst 1, 1) := by decide +kernel
theorem dX5_isDraftAsTold_24 : decode cX5_isDraftAsTold 24 = .ok (.goto 4, 3) := by decide +kernel
theorem dX5_isDraftAsTold_27 : decode cX5_isDraftAsTold 27 = .ok (.iconst 0, 1) := by decide +kernel
theorem dX5_isDraftAsTold_28 : decode cX5_isDraftAsTold 28 = .ok (.ireturn, 1) := by decide +kernel
theorem dX5_isDraftAsTold_29 : decode cX5_isDraftAsTold 29 = .ok (.aload_n 0, 1) := by decide +kernel
theorem dX5_isDraftAsTold_30 : decode cX5_isDraftAsTold 30 = .ok (.getfield 201, 3) := by decide +kernel
theorem dX5_isDraftAsTold_33 : decode cX5_isDraftAsTold 33 = .ok (.iconst 1, 1) := by decide +kernel
theorem dX5_isDraftAsTold_34 : decode cX5_isDraftAsTold 34 = .ok (.if_icmp .ne 7, 3) := by decide +kernel
theorem dX5_isDraftAsTold_37 : decode cX5_isDraftAsTold 37 = .ok (.iconst 1, 1) := by decide +kernel
theorem dX5_isDraftAsTold_38 : decode cX5_isDraftAsTold 38 = .ok (.goto 4, 3) := by decide +kernel
theorem dX5_isDraftAsTold_41 : decode cX5_isDraftAsTold 41 = .ok (.iconst 0, 1) := by decide +kernel
theorem dX5_isDraftAsTold_42 : decode cX5_isDraftAsTold 42 = .ok (.istore_n 1, 1) := by decide +kernel
theorem dX5_isDraftAsTold_43 : decode cX5_isDraftAsTold 43 = .ok (.iconst 3, 1) := by decide +kernel
theorem dX5_isDraftAsTold_44 : decode cX5_isDraftAsTold 44 = .ok (.istore_n 2, 1) := by decide +kernel
theorem dX5_isDraftAsTold_45 : decode cX5_isDraftAsTold 45 = .ok (.iload_n 2, 1) := by decide +kernel
theorem dX5_isDraftAsTold_46 : decode cX5_isDraftAsTold 46 = .ok (.bipush 10, 2) := by decide +kernel
theorem dX5_isDraftAsTold_48 : decode cX5_isDraftAsTold 48 = .ok (.if_icmp .ge 27, 3) := by decide +kernel
theorem dX5_isDraftAsTold_51 : decode cX5_isDraftAsTold 51 = .ok (.iload_n 1, 1) := by decide +kernel
theorem dX5_isDraftAsTold_52 : decode cX5_isDraftAsTold 52 = .ok (.ifCond .eq 15, 3) := by decide +kernel
theorem dX5_isDraftAsTold_55 : decode cX5_isDraftAsTold 55 = .ok (.aload_n 0, 1) := by decide +kernel
theorem dX5_isDraftAsTold_56 : decode cX5_isDraftAsTold 56 = .ok (.iload_n 2, 1) := by decide +kernel
theorem dX5_isDraftAsTold_57 : decode cX5_isDraftAsTold 57 = .ok (.invokestatic 214, 3) := by decide +kernel
theorem dX5_isDraftAsTold_60 : decode cX5_isDraftAsTold 60 = .ok (.ifCond .eq 7, 3) := by decide +kernel
theorem dX5_isDraftAsTold_63 : decode cX5_isDraftAsTold 63 = .ok (.iconst 1, 1) := by decide +kernel
theorem dX5_isDraftAsTold_64 : decode cX5_isDraftAsTold 64 = .ok (.goto 4, 3) := by decide +kernel
theorem dX5_isDraftAsTold_67 : decode cX5_isDraftAsTold 67 = .ok (.iconst 0, 1) := by decide +kernel
theorem dX5_isDraftAsTold_68 : decode cX5_isDraftAsTold 68 = .ok (.istore_n 1, 1) := by decide +kernel
theorem dX5_isDraftAsTold_69 : decode cX5_isDraftAsTold 69 = .ok (.iinc 2 1, 3) := by decide +kernel
theorem dX5_isDraftAsTold_72 : decode cX5_isDraftAsTold 72 = .ok (.goto (-27), 3) := by decide +kernel
theorem dX5_isDraftAsTold_75 : decode cX5_isDraftAsTold 75 = .ok (.iload_n 1, 1) := by decide +kernel
theorem dX5_isDraftAsTold_76 : decode cX5_isDraftAsTold 76 = .ok (.ireturn, 1) := by decide +kernel
theorem dX5_isDraftedWithin_0 : decode cX5_isDraftedWithin 0 = .ok (.aload_n 0, 1) := by decide +kernel
theorem dX5_isDraftedWithin_1 : decode cX5_isDraftedWithin 1 = .ok (.getfield 89, 3) := by decide +kernel
theorem dX5_isDraftedWithin_4 : decode cX5_isDraftedWithin 4 = .ok (.iload_n 1, 1) := by decide +kernel
theorem dX5_isDraftedWithin_5 : decode cX5_isDraftedWithin 5 = .ok (.iaload, 1) := by decide +kernel
theorem dX5_isDraftedWithin_6 : decode cX5_isDraftedWithin 6 = .ok (.iconst 0, 1) := by decide +kernel
theorem dX5_isDraftedWithin_7 : decode cX5_isDraftedWithin 7 = .ok (.getstatic 218, 3) := by decide +kernel
theorem dX5_isDraftedWithin_10 : decode cX5_isDraftedWithin 10 = .ok (.iload_n 1, 1) := by decide +kernel
theorem dX5_isDraftedWithin_11 : decode cX5_isDraftedWithin 11 = .ok (.iaload, 1) := by decide +kernel
theorem dX5_isDraftedWithin_12 : decode cX5_isDraftedWithin 12 = .ok (.invokestatic 194, 3) := by decide +kernel
theorem dX5_isDraftedWithin_15 : decode cX5_isDraftedWithin 15 = .ok (.ireturn, 1) := by decide +kernel
theorem dX5_isChangeAsTold_0 : decode cX5_isChangeAsTold 0 = .ok (.aload_n 0, 1) := by decide +kernel
theorem dX5_isChangeAsTold_1 : decode cX5_isChangeAsTold 1 = .ok (.getfield 201, 3) := by decide +kernel
theorem dX5_isChangeAsTold_4 : decode cX5_isChangeAsTold 4 = .ok (.iconst 0, 1) := by decide +kernel
theorem dX5_isChangeAsTold_5 : decode cX5_isChangeAsTold 5 = .ok (.iconst 1, 1) := by decide +kernel
theorem dX5_isChangeAsTold_6 : decode cX5_isChangeAsTold 6 = .ok (.invokestatic 194, 3) := by decide +kernel
theorem dX5_isChangeAsTold_9 : decode cX5_isChangeAsTold 9 = .ok (.ifCond .eq 15, 3) := by decide +kernel
theorem dX5_isChangeAsTold_12 : decode cX5_isChangeAsTold 12 = .ok (.aload_n 0, 1) := by decide +kernel
theorem dX5_isChangeAsTold_13 : decode cX5_isChangeAsTold 13 = .ok (.getfield 191, 3) := by decide +kernel
theorem dX5_isChangeAsTold_16 : decode cX5_isChangeAsTold 16 = .ok (.iconst 0, 1) := by decide +kernel
theorem dX5_isChangeAsTold_17 : decode cX5_isChangeAsTold 17 = .ok (.iconst 2, 1) := by decide +kernel
theorem dX5_isChangeAsTold_18 : decode cX5_isChangeAsTold 18 = .ok (.invokestatic 194, 3) := by decide +kernel
theorem dX5_isChangeAsTold_21 : decode cX5_isChangeAsTold 21 = .ok (.ifCond .ne 5, 3) := by decide +kernel
theorem dX5_isChangeAsTold_24 : decode cX5_isChangeAsTold 24 = .ok (.iconst 0, 1) := by decide +kernel
theorem dX5_isChangeAsTold_25 : decode cX5_isChangeAsTold 25 = .ok (.ireturn, 1) := by decide +kernel
theorem dX5_isChangeAsTold_26 : decode cX5_isChangeAsTold 26 = .ok (.aload_n 0, 1) := by decide +kernel
theorem dX5_isChangeAsTold_27 : decode cX5_isChangeAsTold 27 = .ok (.invokestatic 221, 3) := by decide +kernel
theorem dX5_isChangeAsTold_30 : decode cX5_isChangeAsTold 30 = .ok (.ifCond .eq 5, 3) := by decide +kernel
theorem dX5_isChangeAsTold_33 : decode cX5_isChangeAsTold 33 = .ok (.iconst 1, 1) := by decide +kernel
theorem dX5_isChangeAsTold_34 : decode cX5_isChangeAsTold 34 = .ok (.ireturn, 1) := by decide +kernel
theorem dX5_isChangeAsTold_35 : decode cX5_isChangeAsTold 35 = .ok (.aload_n 0, 1) := by decide +kernel
theorem dX5_isChangeAsTold_36 : decode cX5_isChangeAsTold 36 = .ok (.getfield 201, 3) := by decide +kernel
theorem dX5_isChangeAsTold_39 : decode cX5_isChangeAsTold 39 = .ok (.iconst 1, 1) := by decide +kernel
theorem dX5_isChangeAsTold_40 : decode cX5_isChangeAsTold 40 = .ok (.if_icmp .ne 8, 3) := by decide +kernel
theorem dX5_isChangeAsTold_43 : decode cX5_isChangeAsTold 43 = .ok (.bipush 15, 2) := by decide +kernel
theorem dX5_isChangeAsTold_45 : decode cX5_isChangeAsTold 45 = .ok (.goto 17, 3) := by decide +kernel
theorem dX5_isChangeAsTold_48 : decode cX5_isChangeAsTold 48 = .ok (.aload_n 0, 1) := by decide +kernel
theorem dX5_isChangeAsTold_49 : decode cX5_isChangeAsTold 49 = .ok (.getfield 191, 3) := by decide +kernel
theorem dX5_isChangeAsTold_52 : decode cX5_isChangeAsTold 52 = .ok (.ifCond .ne 8, 3) := by decide +kernel
theorem dX5_isChangeAsTold_55 : decode cX5_isChangeAsTold 55 = .ok (.bipush 99, 2) := by decide +kernel
theorem dX5_isChangeAsTold_57 : decode cX5_isChangeAsTold 57 = .ok (.goto 5, 3) := by decide +kernel
theorem dX5_isChangeAsTold_60 : decode cX5_isChangeAsTold 60 = .ok (.bipush 9, 2) := by decide +kernel
theorem dX5_isChangeAsTold_62 : decode cX5_isChangeAsTold 62 = .ok (.istore_n 1, 1) := by decide +kernel
theorem dX5_isChangeAsTold_63 : decode cX5_isChangeAsTold 63 = .ok (.aload_n 0, 1) := by decide +kernel
theorem dX5_isChangeAsTold_64 : decode cX5_isChangeAsTold 64 = .ok (.getfield 86, 3) := by decide +kernel
theorem dX5_isChangeAsTold_67 : decode cX5_isChangeAsTold 67 = .ok (.iconst 0, 1) := by decide +kernel
theorem dX5_isChangeAsTold_68 : decode cX5_isChangeAsTold 68 = .ok (.iload_n 1, 1) := by decide +kernel
theorem dX5_isChangeAsTold_69 : decode cX5_isChangeAsTold 69 = .ok (.invokestatic 194, 3) := by decide +kernel
theorem dX5_isChangeAsTold_72 : decode cX5_isChangeAsTold 72 = .ok (.ireturn, 1) := by decide +kernel
theorem dX5_tellsOneByV_0 : decode cX5_tellsOneByV 0 = .ok (.aload_n 0, 1) := by decide +kernel
theorem dX5_tellsOneByV_1 : decode cX5_tellsOneByV 1 = .ok (.getfield 201, 3) := by decide +kernel
theorem dX5_tellsOneByV_4 : decode cX5_tellsOneByV 4 = .ok (.ifCond .ne 19, 3) := by decide +kernel
theorem dX5_tellsOneByV_7 : decode cX5_tellsOneByV 7 = .ok (.aload_n 0, 1) := by decide +kernel
theorem dX5_tellsOneByV_8 : decode cX5_tellsOneByV 8 = .ok (.getfield 191, 3) := by decide +kernel
theorem dX5_tellsOneByV_11 : decode cX5_tellsOneByV 11 = .ok (.iconst 1, 1) := by decide +kernel
theorem dX5_tellsOneByV_12 : decode cX5_tellsOneByV 12 = .ok (.if_icmp .ne 7, 3) := by decide +kernel
theorem dX5_tellsOneByV_15 : decode cX5_tellsOneByV 15 = .ok (.iconst 1, 1) := by decide +kernel
theorem dX5_tellsOneByV_16 : decode cX5_tellsOneByV 16 = .ok (.goto 19, 3) := by decide +kernel
theorem dX5_tellsOneByV_19 : decode cX5_tellsOneByV 19 = .ok (.iconst 0, 1) := by decide +kernel
theorem dX5_tellsOneByV_20 : decode cX5_tellsOneByV 20 = .ok (.goto 15, 3) := by decide +kernel
theorem dX5_tellsOneByV_23 : decode cX5_tellsOneByV 23 = .ok (.aload_n 0, 1) := by decide +kernel
theorem dX5_tellsOneByV_24 : decode cX5_tellsOneByV 24 = .ok (.getfield 191, 3) := by decide +kernel
theorem dX5_tellsOneByV_27 : decode cX5_tellsOneByV 27 = .ok (.ifCond .eq 7, 3) := by decide +kernel
theorem dX5_tellsOneByV_30 : decode cX5_tellsOneByV 30 = .ok (.iconst 1, 1) := by decide +kernel
theorem dX5_tellsOneByV_31 : decode cX5_tellsOneByV 31 = .ok (.goto 4, 3) := by decide +kernel
theorem dX5_tellsOneByV_34 : decode cX5_tellsOneByV 34 = .ok (.iconst 0, 1) := by decide +kernel
theorem dX5_tellsOneByV_35 : decode cX5_tellsOneByV 35 = .ok (.ireturn, 1) := by decide +kernel
theorem dX5_oneBeside_0 : decode cX5_oneBeside 0 = .ok (.aload_n 0, 1) := by decide +kernel
theorem dX5_oneBeside_1 : decode cX5_oneBeside 1 = .ok (.getfield 198, 3) := by decide +kernel
theorem dX5_oneBeside_4 : decode cX5_oneBeside 4 = .ok (.iconst 3, 1) := by decide +kernel
theorem dX5_oneBeside_5 : decode cX5_oneBeside 5 = .ok (.if_icmp .ne 24, 3) := by decide +kernel
theorem dX5_oneBeside_8 : decode cX5_oneBeside 8 = .ok (.aload_n 0, 1) := by decide +kernel
theorem dX5_oneBeside_9 : decode cX5_oneBeside 9 = .ok (.getfield 201, 3) := by decide +kernel
theorem dX5_oneBeside_12 : decode cX5_oneBeside 12 = .ok (.ifCond .ne 12, 3) := by decide +kernel
theorem dX5_oneBeside_15 : decode cX5_oneBeside 15 = .ok (.aload_n 0, 1) := by decide +kernel
theorem dX5_oneBeside_16 : decode cX5_oneBeside 16 = .ok (.getfield 89, 3) := by decide +kernel
theorem dX5_oneBeside_19 : decode cX5_oneBeside 19 = .ok (.iconst 1, 1) := by decide +kernel
theorem dX5_oneBeside_20 : decode cX5_oneBeside 20 = .ok (.iaload, 1) := by decide +kernel
theorem dX5_oneBeside_21 : decode cX5_oneBeside 21 = .ok (.goto 7, 3) := by decide +kernel
theorem dX5_oneBeside_24 : decode cX5_oneBeside 24 = .ok (.aload_n 0, 1) := by decide +kernel
theorem dX5_oneBeside_25 : decode cX5_oneBeside 25 = .ok (.getfield 86, 3) := by decide +kernel
theorem dX5_oneBeside_28 : decode cX5_oneBeside 28 = .ok (.ireturn, 1) := by decide +kernel
theorem dX5_oneBeside_29 : decode cX5_oneBeside 29 = .ok (.aload_n 0, 1) := by decide +kernel
theorem dX5_oneBeside_30 : decode cX5_oneBeside 30 = .ok (.getfield 198, 3) := by decide +kernel
theorem dX5_oneBeside_33 : decode cX5_oneBeside 33 = .ok (.iconst 4, 1) := by decide +kernel
theorem dX5_oneBeside_34 : decode cX5_oneBeside 34 = .ok (.if_icmp .ne 17, 3) := by decide +kernel
theorem dX5_oneBeside_37 : decode cX5_oneBeside 37 = .ok (.aload_n 0, 1) := by decide +kernel
theorem dX5_oneBeside_38 : decode cX5_oneBeside 38 = .ok (.invokestatic 221, 3) := by decide +kernel
theorem dX5_oneBeside_41 : decode cX5_oneBeside 41 = .ok (.ifCond .eq 10, 3) := by decide +kernel
theorem dX5_oneBeside_44 : decode cX5_oneBeside 44 = .ok (.aload_n 0, 1) := by decide +kernel
theorem dX5_oneBeside_45 : decode cX5_oneBeside 45 = .ok (.getfield 86, 3) := by decide +kernel
theorem dX5_oneBeside_48 : decode cX5_oneBeside 48 = .ok (.goto 4, 3) := by decide +kernel
theorem dX5_oneBeside_51 : decode cX5_oneBeside 51 = .ok (.iconst 0, 1) := by decide +kernel
theorem dX5_oneBeside_52 : decode cX5_oneBeside 52 = .ok (.ireturn, 1) := by decide +kernel
theorem dX5_isGoodAhead_0 : decode cX5_isGoodAhead 0 = .ok (.iload_n 1, 1) := by decide +kernel
theorem dX5_isGoodAhead_1 : decode cX5_isGoodAhead 1 = .ok (.ifCond .lt 30, 3) := by decide +kernel
theorem dX5_isGoodAhead_4 : decode cX5_isGoodAhead 4 = .ok (.iload_n 1, 1) := by decide +kernel
theorem dX5_isGoodAhead_5 : decode cX5_isGoodAhead 5 = .ok (.iload_n 2, 1) := by decide +kernel
theorem dX5_isGoodAhead_6 : decode cX5_isGoodAhead 6 = .ok (.if_icmp .ge 25, 3) := by decide +kernel
theorem dX5_isGoodAhead_9 : decode cX5_isGoodAhead 9 = .ok (.iload_n 1, 1) := by decide +kernel
theorem dX5_isGoodAhead_10 : decode cX5_isGoodAhead 10 = .ok (.bipush 12, 2) := by decide +kernel
theorem dX5_isGoodAhead_12 : decode cX5_isGoodAhead 12 = .ok (.if_icmp .ge 19, 3) := by decide +kernel
theorem dX5_isGoodAhead_15 : decode cX5_isGoodAhead 15 = .ok (.aload_n 0, 1) := by decide +kernel
theorem dX5_isGoodAhead_16 : decode cX5_isGoodAhead 16 = .ok (.getfield 21, 3) := by decide +kernel
theorem dX5_isGoodAhead_19 : decode cX5_isGoodAhead 19 = .ok (.iload_n 1, 1) := by decide +kernel
theorem dX5_isGoodAhead_20 : decode cX5_isGoodAhead 20 = .ok (.aaload, 1) := by decide +kernel
theorem dX5_isGoodAhead_21 : decode cX5_isGoodAhead 21 = .ok (.getfield 117, 3) := by decide +kernel
theorem dX5_isGoodAhead_24 : decode cX5_isGoodAhead 24 = .ok (.ifCond .ne 7, 3) := by decide +kernel
theorem dX5_isGoodAhead_27 : decode cX5_isGoodAhead 27 = .ok (.iconst 1, 1) := by decide +kernel
theorem dX5_isGoodAhead_28 : decode cX5_isGoodAhead 28 = .ok (.goto 4, 3) := by decide +kernel
theorem dX5_isGoodAhead_31 : decode cX5_isGoodAhead 31 = .ok (.iconst 0, 1) := by decide +kernel
theorem dX5_isGoodAhead_32 : decode cX5_isGoodAhead 32 = .ok (.ireturn, 1) := by decide +kernel
theorem dX5_doesOneHold_0 : decode cX5_doesOneHold 0 = .ok (.iload_n 1, 1) := by decide +kernel
theorem dX5_doesOneHold_1 : decode cX5_doesOneHold 1 = .ok (.ifCond .ge 29, 3) := by decide +kernel
theorem dX5_doesOneHold_4 : decode cX5_doesOneHold 4 = .ok (.aload_n 0, 1) := by decide +kernel
theorem dX5_doesOneHold_5 : decode cX5_doesOneHold 5 = .ok (.iconst (-1), 1) := by decide +kernel
theorem dX5_doesOneHold_6 : decode cX5_doesOneHold 6 = .ok (.iload_n 1, 1) := by decide +kernel
theorem dX5_doesOneHold_7 : decode cX5_doesOneHold 7 = .ok (.isub, 1) := by decide +kernel
theorem dX5_doesOneHold_8 : decode cX5_doesOneHold 8 = .ok (.iload_n 2, 1) := by decide +kernel
theorem dX5_doesOneHold_9 : decode cX5_doesOneHold 9 = .ok (.invokevirtual 224, 3) := by decide +kernel
theorem dX5_doesOneHold_12 : decode cX5_doesOneHold 12 = .ok (.ifCond .eq 22, 3) := by decide +kernel
theorem dX5_doesOneHold_15 : decode cX5_doesOneHold 15 = .ok (.aload_n 0, 1) := by decide +kernel
theorem dX5_doesOneHold_16 : decode cX5_doesOneHold 16 = .ok (.getfield 21, 3) := by decide +kernel
theorem dX5_doesOneHold_19 : decode cX5_doesOneHold 19 = .ok (.iconst (-1), 1) := by decide +kernel
theorem dX5_doesOneHold_20 : decode cX5_doesOneHold 20 = .ok (.iload_n 1, 1) := by decide +kernel
theorem dX5_doesOneHold_21 : decode cX5_doesOneHold 21 = .ok (.isub, 1) := by decide +kernel
theorem dX5_doesOneHold_22 : decode cX5_doesOneHold 22 = .ok (.aaload, 1) := by decide +kernel
theorem dX5_doesOneHold_23 : decode cX5_doesOneHold 23 = .ok (.iconst 1, 1) := by decide +kernel
theorem dX5_doesOneHold_24 : decode cX5_doesOneHold 24 = .ok (.invokevirtual 120, 3) := by decide +kernel
theorem dX5_doesOneHold_27 : decode cX5_doesOneHold 27 = .ok (.ifCond .le 7, 3) := by decide +kernel
theorem dX5_doesOneHold_30 : decode cX5_doesOneHold 30 = .ok (.iconst 1, 1) := by decide +kernel
theorem dX5_doesOneHold_31 : decode cX5_doesOneHold 31 = .ok (.goto 4, 3) := by decide +kernel
theorem dX5_doesOneHold_34 : decode cX5_doesOneHold 34 = .ok (.iconst 0, 1) := by decide +kernel
theorem dX5_doesOneHold_35 : decode cX5_doesOneHold 35 = .ok (.ireturn, 1) := by decide +kernel
theorem dX5_doNamedHold_0 : decode cX5_doNamedHold 0 = .ok (.aload_n 1, 1) := by decide +kernel
theorem dX5_doNamedHold_1 : decode cX5_doNamedHold 1 = .ok (.getfield 185, 3) := by decide +kernel
theorem dX5_doNamedHold_4 : decode cX5_doNamedHold 4 = .ok (.ifCond .lt 15, 3) := by decide +kernel
theorem dX5_doNamedHold_7 : decode cX5_doNamedHold 7 = .ok (.aload_n 0, 1) := by decide +kernel
theorem dX5_doNamedHold_8 : decode cX5_doNamedHold 8 = .ok (.aload_n 1, 1) := by decide +kernel
theorem dX5_doNamedHold_9 : decode cX5_doNamedHold 9 = .ok (.getfield 185, 3) := by decide +kernel
theorem dX5_doNamedHold_12 : decode cX5_doNamedHold 12 = .ok (.iload_n 2, 1) := by decide +kernel
theorem dX5_doNamedHold_13 : decode cX5_doNamedHold 13 = .ok (.invokevirtual 224, 3) := by decide +kernel
theorem dX5_doNamedHold_16 : decode cX5_doNamedHold 16 = .ok (.goto 12, 3) := by decide +kernel
theorem dX5_doNamedHold_19 : decode cX5_doNamedHold 19 = .ok (.aload_n 0, 1) := by decide +kernel
theorem dX5_doNamedHold_20 : decode cX5_doNamedHold 20 = .ok (.aload_n 1, 1) := by decide +kernel
theorem dX5_doNamedHold_21 : decode cX5_doNamedHold 21 = .ok (.getfield 188, 3) := by decide +kernel
theorem dX5_doNamedHold_24 : decode cX5_doNamedHold 24 = .ok (.iload_n 2, 1) := by decide +kernel
theorem dX5_doNamedHold_25 : decode cX5_doNamedHold 25 = .ok (.invokevirtual 227, 3) := by decide +kernel
theorem dX5_doNamedHold_28 : decode cX5_doNamedHold 28 = .ok (.istore_n 3, 1) := by decide +kernel
theorem dX5_doNamedHold_29 : decode cX5_doNamedHold 29 = .ok (.iload_n 3, 1) := by decide +kernel
theorem dX5_doNamedHold_30 : decode cX5_doNamedHold 30 = .ok (.ifCond .eq 19, 3) := by decide +kernel
theorem dX5_doNamedHold_33 : decode cX5_doNamedHold 33 = .ok (.aload_n 0, 1) := by decide +kernel
theorem dX5_doNamedHold_34 : decode cX5_doNamedHold 34 = .ok (.aload_n 1, 1) := by decide +kernel
theorem dX5_doNamedHold_35 : decode cX5_doNamedHold 35 = .ok (.invokestatic 230, 3) := by decide +kernel
theorem dX5_doNamedHold_38 : decode cX5_doNamedHold 38 = .ok (.iload_n 2, 1) := by decide +kernel
theorem dX5_doNamedHold_39 : decode cX5_doNamedHold 39 = .ok (.invokevirtual 227, 3) := by decide +kernel
theorem dX5_doNamedHold_42 : decode cX5_doNamedHold 42 = .ok (.ifCond .eq 7, 3) := by decide +kernel
theorem dX5_doNamedHold_45 : decode cX5_doNamedHold 45 = .ok (.iconst 1, 1) := by decide +kernel
theorem dX5_doNamedHold_46 : decode cX5_doNamedHold 46 = .ok (.goto 4, 3) := by decide +kernel
theorem dX5_doNamedHold_49 : decode cX5_doNamedHold 49 = .ok (.iconst 0, 1) := by decide +kernel
theorem dX5_doNamedHold_50 : decode cX5_doNamedHold 50 = .ok (.ireturn, 1) := by decide +kernel
theorem dX5_idOf_0 : decode cX5_idOf 0 = .ok (.iconst (-1), 1) := by decide +kernel
theorem dX5_idOf_1 : decode cX5_idOf 1 = .ok (.iload_n 1, 1) := by decide +kernel
theorem dX5_idOf_2 : decode cX5_idOf 2 = .ok (.isub, 1) := by decide +kernel
theorem dX5_idOf_3 : decode cX5_idOf 3 = .ok (.istore_n 2, 1) := by decide +kernel
theorem dX5_idOf_4 : decode cX5_idOf 4 = .ok (.iload_n 2, 1) := by decide +kernel
theorem dX5_idOf_5 : decode cX5_idOf 5 = .ok (.ifCond .lt 23, 3) := by decide +kernel
theorem dX5_idOf_8 : decode cX5_idOf 8 = .ok (.iload_n 2, 1) := by decide +kernel
theorem dX5_idOf_9 : decode cX5_idOf 9 = .ok (.bipush 12, 2) := by decide +kernel
theorem dX5_idOf_11 : decode cX5_idOf 11 = .ok (.if_icmp .ge 17, 3) := by decide +kernel
theorem dX5_idOf_14 : decode cX5_idOf 14 = .ok (.aload_n 0, 1) := by decide +kernel
theorem dX5_idOf_15 : decode cX5_idOf 15 = .ok (.getfield 21, 3) := by decide +kernel
theorem dX5_idOf_18 : decode cX5_idOf 18 = .ok (.iload_n 2, 1) := by decide +kernel
theorem dX5_idOf_19 : decode cX5_idOf 19 = .ok (.aaload, 1) := by decide +kernel
theorem dX5_idOf_20 : decode cX5_idOf 20 = .ok (.iconst 1, 1) := by decide +kernel
theorem dX5_idOf_21 : decode cX5_idOf 21 = .ok (.iconst 0, 1) := by decide +kernel
theorem dX5_idOf_22 : decode cX5_idOf 22 = .ok (.invokevirtual 124, 3) := by decide +kernel
theorem dX5_idOf_25 : decode cX5_idOf 25 = .ok (.goto 4, 3) := by decide +kernel
theorem dX5_idOf_28 : decode cX5_idOf 28 = .ok (.iload_n 1, 1) := by decide +kernel
theorem dX5_idOf_29 : decode cX5_idOf 29 = .ok (.ireturn, 1) := by decide +kernel
theorem dX5_parentOf_0 : decode cX5_parentOf 0 = .ok (.iload_n 1, 1) := by decide +kernel
theorem dX5_parentOf_1 : decode cX5_parentOf 1 = .ok (.sipush 1000, 3) := by decide +kernel
theorem dX5_parentOf_4 : decode cX5_parentOf 4 = .ok (.if_icmp .ne 8, 3) := by decide +kernel
theorem dX5_parentOf_7 : decode cX5_parentOf 7 = .ok (.bipush (-9), 2) := by decide +kernel
theorem dX5_parentOf_9 : decode cX5_parentOf 9 = .ok (.goto 8, 3) := by decide +kernel
theorem dX5_parentOf_12 : decode cX5_parentOf 12 = .ok (.aload_n 0, 1) := by decide +kernel
theorem dX5_parentOf_13 : decode cX5_parentOf 13 = .ok (.iload_n 1, 1) := by decide +kernel
theorem dX5_parentOf_14 : decode cX5_parentOf 14 = .ok (.invokevirtual 234, 3) := by decide +kernel
theorem dX5_parentOf_17 : decode cX5_parentOf 17 = .ok (.ireturn, 1) := by decide +kernel
theorem dX5_takeIds_0 : decode cX5_takeIds 0 = .ok (.aload_n 0, 1) := by decide +kernel
theorem dX5_takeIds_1 : decode cX5_takeIds 1 = .ok (.iconst 0, 1) := by decide +kernel
theorem dX5_takeIds_2 : decode cX5_takeIds 2 = .ok (.putfield 237, 3) := by decide +kernel
theorem dX5_takeIds_5 : decode cX5_takeIds 5 = .ok (.aload_n 1, 1) := by decide +kernel
theorem dX5_takeIds_6 : decode cX5_takeIds 6 = .ok (.getfield 185, 3) := by decide +kernel
theorem dX5_takeIds_9 : decode cX5_takeIds 9 = .ok (.ifCond .ge 18, 3) := by decide +kernel
theorem dX5_takeIds_12 : decode cX5_takeIds 12 = .ok (.aload_n 0, 1) := by decide +kernel
theorem dX5_takeIds_13 : decode cX5_takeIds 13 = .ok (.aload_n 0, 1) := by decide +kernel
theorem dX5_takeIds_14 : decode cX5_takeIds 14 = .ok (.aload_n 1, 1) := by decide +kernel
theorem dX5_takeIds_15 : decode cX5_takeIds 15 = .ok (.getfield 188, 3) := by decide +kernel
theorem dX5_takeIds_18 : decode cX5_takeIds 18 = .ok (.invokevirtual 234, 3) := by decide +kernel
theorem dX5_takeIds_21 : decode cX5_takeIds 21 = .ok (.invokevirtual 240, 3) := by decide +kernel
theorem dX5_takeIds_24 : decode cX5_takeIds 24 = .ok (.goto 55, 3) := by decide +kernel
theorem dX5_takeIds_27 : decode cX5_takeIds 27 = .ok (.aload_n 1, 1) := by decide +kernel
theorem dX5_takeIds_28 : decode cX5_takeIds 28 = .ok (.getfield 185, 3) := by decide +kernel
theorem dX5_takeIds_31 : decode cX5_takeIds 31 = .ok (.bipush 12, 2) := by decide +kernel
theorem dX5_takeIds_33 : decode cX5_takeIds 33 = .ok (.if_icmp .ge 46, 3) := by decide +kernel
theorem dX5_takeIds_36 : decode cX5_takeIds 36 = .ok (.aload_n 0, 1) := by decide +kernel
theorem dX5_takeIds_37 : decode cX5_takeIds 37 = .ok (.getfield 21, 3) := by decide +kernel
theorem dX5_takeIds_40 : decode cX5_takeIds 40 = .ok (.aload_n 1, 1) := by decide +kernel
theorem dX5_takeIds_41 : decode cX5_takeIds 41 = .ok (.getfield 185, 3) := by decide +kernel
theorem dX5_takeIds_44 : decode cX5_takeIds 44 = .ok (.aaload, 1) := by decide +kernel
theorem dX5_takeIds_45 : decode cX5_takeIds 45 = .ok (.astore_n 2, 1) := by decide +kernel
theorem dX5_takeIds_46 : decode cX5_takeIds 46 = .ok (.iconst 0, 1) := by decide +kernel
theorem dX5_takeIds_47 : decode cX5_takeIds 47 = .ok (.istore_n 3, 1) := by decide +kernel
theorem dX5_takeIds_48 : decode cX5_takeIds 48 = .ok (.iload_n 3, 1) := by decide +kernel
theorem dX5_takeIds_49 : decode cX5_takeIds 49 = .ok (.aload_n 2, 1) := by decide +kernel
theorem dX5_takeIds_50 : decode cX5_takeIds 50 = .ok (.aload_n 1, 1) := by decide +kernel
theorem dX5_takeIds_51 : decode cX5_takeIds 51 = .ok (.getfield 188, 3) := by decide +kernel
theorem dX5_takeIds_54 : decode cX5_takeIds 54 = .ok (.invokevirtual 120, 3) := by decide +kernel
theorem dX5_takeIds_57 : decode cX5_takeIds 57 = .ok (.if_icmp .ge 22, 3) := by decide +kernel
theorem dX5_takeIds_60 : decode cX5_takeIds 60 = .ok (.aload_n 0, 1) := by decide +kernel
theorem dX5_takeIds_61 : decode cX5_takeIds 61 = .ok (.aload_n 2, 1) := by decide +kernel
theorem dX5_takeIds_62 : decode cX5_takeIds 62 = .ok (.aload_n 1, 1) := by decide +kernel
theorem dX5_takeIds_63 : decode cX5_takeIds 63 = .ok (.getfield 188, 3) := by decide +kernel
theorem dX5_takeIds_66 : decode cX5_takeIds 66 = .ok (.iload_n 3, 1) := by decide +kernel
theorem dX5_takeIds_67 : decode cX5_takeIds 67 = .ok (.invokevirtual 124, 3) := by decide +kernel
theorem dX5_takeIds_70 : decode cX5_takeIds 70 = .ok (.invokevirtual 240, 3) := by decide +kernel
theorem dX5_takeIds_73 : decode cX5_takeIds 73 = .ok (.iinc 3 1, 3) := by decide +kernel
theorem dX5_takeIds_76 : decode cX5_takeIds 76 = .ok (.goto (-28), 3) := by decide +kernel
theorem dX5_takeIds_79 : decode cX5_takeIds 79 = .ok (.return_, 1) := by decide +kernel
theorem dX5_addId_0 : decode cX5_addId 0 = .ok (.aload_n 0, 1) := by decide +kernel
theorem dX5_addId_1 : decode cX5_addId 1 = .ok (.getfield 237, 3) := by decide +kernel
theorem dX5_addId_4 : decode cX5_addId 4 = .ok (.bipush 50, 2) := by decide +kernel
theorem dX5_addId_6 : decode cX5_addId 6 = .ok (.if_icmp .ge 23, 3) := by decide +kernel
theorem dX5_addId_9 : decode cX5_addId 9 = .ok (.aload_n 0, 1) := by decide +kernel
theorem dX5_addId_10 : decode cX5_addId 10 = .ok (.getfield 54, 3) := by decide +kernel
theorem dX5_addId_13 : decode cX5_addId 13 = .ok (.aload_n 0, 1) := by decide +kernel
theorem dX5_addId_14 : decode cX5_addId 14 = .ok (.getfield 237, 3) := by decide +kernel
theorem dX5_addId_17 : decode cX5_addId 17 = .ok (.iload_n 1, 1) := by decide +kernel
theorem dX5_addId_18 : decode cX5_addId 18 = .ok (.iastore, 1) := by decide +kernel
theorem dX5_addId_19 : decode cX5_addId 19 = .ok (.aload_n 0, 1) := by decide +kernel
theorem dX5_addId_20 : decode cX5_addId 20 = .ok (.dup, 1) := by decide +kernel
theorem dX5_addId_21 : decode cX5_addId 21 = .ok (.getfield 237, 3) := by decide +kernel
theorem dX5_addId_24 : decode cX5_addId 24 = .ok (.iconst 1, 1) := by decide +kernel
theorem dX5_addId_25 : decode cX5_addId 25 = .ok (.iadd, 1) := by decide +kernel
theorem dX5_addId_26 : decode cX5_addId 26 = .ok (.putfield 237, 3) := by decide +kernel
theorem dX5_addId_29 : decode cX5_addId 29 = .ok (.return_, 1) := by decide +kernel
theorem dX5_refusalOf_0 : decode cX5_refusalOf 0 = .ok (.aload_n 1, 1) := by decide +kernel
theorem dX5_refusalOf_1 : decode cX5_refusalOf 1 = .ok (.invokestatic 243, 3) := by decide +kernel
theorem dX5_refusalOf_4 : decode cX5_refusalOf 4 = .ok (.ifCond .ne 6, 3) := by decide +kernel
theorem dX5_refusalOf_7 : decode cX5_refusalOf 7 = .ok (.bipush (-2), 2) := by decide +kernel
theorem dX5_refusalOf_9 : decode cX5_refusalOf 9 = .ok (.ireturn, 1) := by decide +kernel
theorem dX5_refusalOf_10 : decode cX5_refusalOf 10 = .ok (.aload_n 0, 1) := by decide +kernel
theorem dX5_refusalOf_11 : decode cX5_refusalOf 11 = .ok (.aload_n 1, 1) := by decide +kernel
theorem dX5_refusalOf_12 : decode cX5_refusalOf 12 = .ok (.iload_n 2, 1) := by decide +kernel
theorem dX5_refusalOf_13 : decode cX5_refusalOf 13 = .ok (.invokevirtual 246, 3) := by decide +kernel
theorem dX5_refusalOf_16 : decode cX5_refusalOf 16 = .ok (.ifCond .eq 7, 3) := by decide +kernel
theorem dX5_refusalOf_19 : decode cX5_refusalOf 19 = .ok (.iconst 0, 1) := by decide +kernel
theorem dX5_refusalOf_20 : decode cX5_refusalOf 20 = .ok (.goto 5, 3) := by decide +kernel
theorem dX5_refusalOf_23 : decode cX5_refusalOf 23 = .ok (.bipush (-5), 2) := by decide +kernel
theorem dX5_refusalOf_25 : decode cX5_refusalOf 25 = .ok (.ireturn, 1) := by decide +kernel
theorem dX5_act_0 : decode cX5_act 0 = .ok (.aload_n 1, 1) := by decide +kernel
theorem dX5_act_1 : decode cX5_act 1 = .ok (.getfield 198, 3) := by decide +kernel
theorem dX5_act_4 : decode cX5_act 4 = .ok (.tableswitch 101 0 4 #[36, 43, 50, 71, 94], 36) := by decide +kernel
theorem dX5_act_40 : decode cX5_act 40 = .ok (.aload_n 0, 1) := by decide +kernel
theorem dX5_act_41 : decode cX5_act 41 = .ok (.aload_n 1, 1) := by decide +kernel
theorem dX5_act_42 : decode cX5_act 42 = .ok (.aload_n 2, 1) := by decide +kernel
theorem dX5_act_43 : decode cX5_act 43 = .ok (.invokevirtual 249, 3) := by decide +kernel
theorem dX5_act_46 : decode cX5_act 46 = .ok (.ireturn, 1) := by decide +kernel
theorem dX5_act_47 : decode cX5_act 47 = .ok (.aload_n 0, 1) := by decide +kernel
theorem dX5_act_48 : decode cX5_act 48 = .ok (.aload_n 1, 1) := by decide +kernel
theorem dX5_act_49 : decode cX5_act 49 = .ok (.aload_n 2, 1) := by decide +kernel
theorem dX5_act_50 : decode cX5_act 50 = .ok (.invokevirtual 252, 3) := by decide +kernel
theorem dX5_act_53 : decode cX5_act 53 = .ok (.ireturn, 1) := by decide +kernel
theorem dX5_act_54 : decode cX5_act 54 = .ok (.aload_n 0, 1) := by decide +kernel
theorem dX5_act_55 : decode cX5_act 55 = .ok (.getfield 43, 3) := by decide +kernel
theorem dX5_act_58 : decode cX5_act 58 = .ok (.aload_n 1, 1) := by decide +kernel
theorem dX5_act_59 : decode cX5_act 59 = .ok (.aload_n 0, 1) := by decide +kernel
theorem dX5_act_60 : decode cX5_act 60 = .ok (.aload_n 1, 1) := by decide +kernel
theorem dX5_act_61 : decode cX5_act 61 = .ok (.getfield 201, 3) := by decide +kernel
theorem dX5_act_64 : decode cX5_act 64 = .ok (.invokevirtual 132, 3) := by decide +kernel
theorem dX5_act_67 : decode cX5_act 67 = .ok (.getfield 136, 3) := by decide +kernel
theorem dX5_act_70 : decode cX5_act 70 = .ok (.aload_n 2, 1) := by decide +kernel
theorem dX5_act_71 : decode cX5_act 71 = .ok (.invokevirtual 255, 3) := by decide +kernel
theorem dX5_act_74 : decode cX5_act 74 = .ok (.ireturn, 1) := by decide +kernel
theorem dX5_act_75 : decode cX5_act 75 = .ok (.aload_n 1, 1) := by decide +kernel
theorem dX5_act_76 : decode cX5_act 76 = .ok (.getfield 201, 3) := by decide +kernel
theorem dX5_act_79 : decode cX5_act 79 = .ok (.ifCond .ne 12, 3) := by decide +kernel
theorem dX5_act_82 : decode cX5_act 82 = .ok (.aload_n 0, 1) := by decide +kernel
theorem dX5_act_83 : decode cX5_act 83 = .ok (.aload_n 1, 1) := by decide +kernel
theorem dX5_act_84 : decode cX5_act 84 = .ok (.aload_n 2, 1) := by decide +kernel
theorem dX5_act_85 : decode cX5_act 85 = .ok (.invokevirtual 259, 3) := by decide +kernel
theorem dX5_act_88 : decode cX5_act 88 = .ok (.goto 9, 3) := by decide +kernel
theorem dX5_act_91 : decode cX5_act 91 = .ok (.aload_n 0, 1) := by decide +kernel
theorem dX5_act_92 : decode cX5_act 92 = .ok (.aload_n 1, 1) := by decide +kernel
theorem dX5_act_93 : decode cX5_act 93 = .ok (.aload_n 2, 1) := by decide +kernel
theorem dX5_act_94 : decode cX5_act 94 = .ok (.invokevirtual 262, 3) := by decide +kernel
theorem dX5_act_97 : decode cX5_act 97 = .ok (.ireturn, 1) := by decide +kernel
theorem dX5_act_98 : decode cX5_act 98 = .ok (.aload_n 0, 1) := by decide +kernel
theorem dX5_act_99 : decode cX5_act 99 = .ok (.aload_n 1, 1) := by decide +kernel
theorem dX5_act_100 : decode cX5_act 100 = .ok (.aload_n 2, 1) := by decide +kernel
theorem dX5_act_101 : decode cX5_act 101 = .ok (.invokevirtual 265, 3) := by decide +kernel
theorem dX5_act_104 : decode cX5_act 104 = .ok (.ireturn, 1) := by decide +kernel
theorem dX5_act_105 : decode cX5_act 105 = .ok (.aload_n 0, 1) := by decide +kernel
theorem dX5_act_106 : decode cX5_act 106 = .ok (.aload_n 1, 1) := by decide +kernel
theorem dX5_act_107 : decode cX5_act 107 = .ok (.aload_n 2, 1) := by decide +kernel
theorem dX5_act_108 : decode cX5_act 108 = .ok (.invokevirtual 268, 3) := by decide +kernel
theorem dX5_act_111 : decode cX5_act 111 = .ok (.ireturn, 1) := by decide +kernel
theorem dX5_kindOf_0 : decode cX5_kindOf 0 = .ok (.iload_n 1, 1) := by decide +kernel
theorem dX5_kindOf_1 : decode cX5_kindOf 1 = .ok (.ifCond .ne 10, 3) := by decide +kernel
theorem dX5_kindOf_4 : decode cX5_kindOf 4 = .ok (.aload_n 0, 1) := by decide +kernel
theorem dX5_kindOf_5 : decode cX5_kindOf 5 = .ok (.getfield 30, 3) := by decide +kernel
theorem dX5_kindOf_8 : decode cX5_kindOf 8 = .ok (.goto 19, 3) := by decide +kernel
theorem dX5_kindOf_11 : decode cX5_kindOf 11 = .ok (.iload_n 1, 1) := by decide +kernel
theorem dX5_kindOf_12 : decode cX5_kindOf 12 = .ok (.iconst 1, 1) := by decide +kernel
theorem dX5_kindOf_13 : decode cX5_kindOf 13 = .ok (.if_icmp .ne 10, 3) := by decide +kernel
theorem dX5_kindOf_16 : decode cX5_kindOf 16 = .ok (.aload_n 0, 1) := by decide +kernel
theorem dX5_kindOf_17 : decode cX5_kindOf 17 = .ok (.getfield 34, 3) := by decide +kernel
theorem dX5_kindOf_20 : decode cX5_kindOf 20 = .ok (.goto 7, 3) := by decide +kernel
theorem dX5_kindOf_23 : decode cX5_kindOf 23 = .ok (.aload_n 0, 1) := by decide +kernel
theorem dX5_kindOf_24 : decode cX5_kindOf 24 = .ok (.getfield 37, 3) := by decide +kernel
theorem dX5_kindOf_27 : decode cX5_kindOf 27 = .ok (.areturn, 1) := by decide +kernel
theorem dX5_keepAll_0 : decode cX5_keepAll 0 = .ok (.aload_n 0, 1) := by decide +kernel
theorem dX5_keepAll_1 : decode cX5_keepAll 1 = .ok (.getfield 30, 3) := by decide +kernel
theorem dX5_keepAll_4 : decode cX5_keepAll 4 = .ok (.invokevirtual 271, 3) := by decide +kernel
theorem dX5_keepAll_7 : decode cX5_keepAll 7 = .ok (.aload_n 0, 1) := by decide +kernel
theorem dX5_keepAll_8 : decode cX5_keepAll 8 = .ok (.getfield 34, 3) := by decide +kernel
theorem dX5_keepAll_11 : decode cX5_keepAll 11 = .ok (.invokevirtual 271, 3) := by decide +kernel
theorem dX5_keepAll_14 : decode cX5_keepAll 14 = .ok (.aload_n 0, 1) := by decide +kernel
theorem dX5_keepAll_15 : decode cX5_keepAll 15 = .ok (.getfield 37, 3) := by decide +kernel
theorem dX5_keepAll_18 : decode cX5_keepAll 18 = .ok (.invokevirtual 271, 3) := by decide +kernel
theorem dX5_keepAll_21 : decode cX5_keepAll 21 = .ok (.return_, 1) := by decide +kernel
theorem dX5_bringAllBack_0 : decode cX5_bringAllBack 0 = .ok (.aload_n 0, 1) := by decide +kernel
theorem dX5_bringAllBack_1 : decode cX5_bringAllBack 1 = .ok (.getfield 30, 3) := by decide +kernel
theorem dX5_bringAllBack_4 : decode cX5_bringAllBack 4 = .ok (.invokevirtual 274, 3) := by decide +kernel
theorem dX5_bringAllBack_7 : decode cX5_bringAllBack 7 = .ok (.aload_n 0, 1) := by decide +kernel
theorem dX5_bringAllBack_8 : decode cX5_bringAllBack 8 = .ok (.getfield 34, 3) := by decide +kernel
theorem dX5_bringAllBack_11 : decode cX5_bringAllBack 11 = .ok (.invokevirtual 274, 3) := by decide +kernel
theorem dX5_bringAllBack_14 : decode cX5_bringAllBack 14 = .ok (.aload_n 0, 1) := by decide +kernel
theorem dX5_bringAllBack_15 : decode cX5_bringAllBack 15 = .ok (.getfield 37, 3) := by decide +kernel
theorem dX5_bringAllBack_18 : decode cX5_bringAllBack 18 = .ok (.invokevirtual 274, 3) := by decide +kernel
theorem dX5_bringAllBack_21 : decode cX5_bringAllBack 21 = .ok (.return_, 1) := by decide +kernel
theorem dX5_logTouched_0 : decode cX5_logTouched 0 = .ok (.iconst 0, 1) := by decide +kernel
theorem dX5_logTouched_1 : decode cX5_logTouched 1 = .ok (.istore_n 1, 1) := by decide +kernel
theorem dX5_logTouched_2 : decode cX5_logTouched 2 = .ok (.iload_n 1, 1) := by decide +kernel
theorem dX5_logTouched_3 : decode cX5_logTouched 3 = .ok (.iconst 3, 1) := by decide +kernel
theorem dX5_logTouched_4 : decode cX5_logTouched 4 = .ok (.if_icmp .ge 85, 3) := by decide +kernel
theorem dX5_logTouched_7 : decode cX5_logTouched 7 = .ok (.aload_n 0, 1) := by decide +kernel
theorem dX5_logTouched_8 : decode cX5_logTouched 8 = .ok (.iload_n 1, 1) := by decide +kernel
theorem dX5_logTouched_9 : decode cX5_logTouched 9 = .ok (.invokevirtual 132, 3) := by decide +kernel
theorem dX5_logTouched_12 : decode cX5_logTouched 12 = .ok (.astore_n 2, 1) := by decide +kernel
theorem dX5_logTouched_13 : decode cX5_logTouched 13 = .ok (.aload_n 2, 1) := by decide +kernel
theorem dX5_logTouched_14 : decode cX5_logTouched 14 = .ok (.getfield 277, 3) := by decide +kernel
theorem dX5_logTouched_17 : decode cX5_logTouched 17 = .ok (.ifCond .eq 66, 3) := by decide +kernel
theorem dX5_logTouched_20 : decode cX5_logTouched 20 = .ok (.aload_n 2, 1) := by decide +kernel
theorem dX5_logTouched_21 : decode cX5_logTouched 21 = .ok (.dup, 1) := by decide +kernel
theorem dX5_logTouched_22 : decode cX5_logTouched 22 = .ok (.getfield 136, 3) := by decide +kernel
theorem dX5_logTouched_25 : decode cX5_logTouched 25 = .ok (.iconst 1, 1) := by decide +kernel
theorem dX5_logTouched_26 : decode cX5_logTouched 26 = .ok (.iadd, 1) := by decide +kernel
theorem dX5_logTouched_27 : decode cX5_logTouched 27 = .ok (.putfield 136, 3) := by decide +kernel
theorem dX5_logTouched_30 : decode cX5_logTouched 30 = .ok (.iconst 0, 1) := by decide +kernel
theorem dX5_logTouched_31 : decode cX5_logTouched 31 = .ok (.istore_n 3, 1) := by decide +kernel
theorem dX5_logTouched_32 : decode cX5_logTouched 32 = .ok (.iload_n 3, 1) := by decide +kernel
theorem dX5_logTouched_33 : decode cX5_logTouched 33 = .ok (.aload_n 2, 1) := by decide +kernel
theorem dX5_logTouched_34 : decode cX5_logTouched 34 = .ok (.getfield 146, 3) := by decide +kernel
theorem dX5_logTouched_37 : decode cX5_logTouched 37 = .ok (.if_icmp .ge 42, 3) := by decide +kernel
theorem dX5_logTouched_40 : decode cX5_logTouched 40 = .ok (.iload_n 3, 1) := by decide +kernel
theorem dX5_logTouched_41 : decode cX5_logTouched 41 = .ok (.bipush 50, 2) := by decide +kernel
theorem dX5_logTouched_43 : decode cX5_logTouched 43 = .ok (.if_icmp .ge 36, 3) := by decide +kernel
theorem dX5_logTouched_46 : decode cX5_logTouched 46 = .ok (.aload_n 2, 1) := by decide +kernel
theorem dX5_logTouched_47 : decode cX5_logTouched 47 = .ok (.iload_n 3, 1) := by decide +kernel
theorem dX5_logTouched_48 : decode cX5_logTouched 48 = .ok (.invokevirtual 280, 3) := by decide +kernel
theorem dX5_logTouched_51 : decode cX5_logTouched 51 = .ok (.ifCond .eq 22, 3) := by decide +kernel
theorem dX5_logTouched_54 : decode cX5_logTouched 54 = .ok (.aload_n 0, 1) := by decide +kernel
theorem dX5_logTouched_55 : decode cX5_logTouched 55 = .ok (.getfield 43, 3) := by decide +kernel
theorem dX5_logTouched_58 : decode cX5_logTouched 58 = .ok (.iload_n 1, 1) := by decide +kernel
theorem dX5_logTouched_59 : decode cX5_logTouched 59 = .ok (.aload_n 2, 1) := by decide +kernel
theorem dX5_logTouched_60 : decode cX5_logTouched 60 = .ok (.getfield 136, 3) := by decide +kernel
theorem dX5_logTouched_63 : decode cX5_logTouched 63 = .ok (.iload_n 3, 1) := by decide +kernel
theorem dX5_logTouched_64 : decode cX5_logTouched 64 = .ok (.aload_n 2, 1) := by decide +kernel
theorem dX5_logTouched_65 : decode cX5_logTouched 65 = .ok (.getfield 283, 3) := by decide +kernel
theorem dX5_logTouched_68 : decode cX5_logTouched 68 = .ok (.iload_n 3, 1) := by decide +kernel
theorem dX5_logTouched_69 : decode cX5_logTouched 69 = .ok (.iaload, 1) := by decide +kernel
theorem dX5_logTouched_70 : decode cX5_logTouched 70 = .ok (.invokevirtual 286, 3) := by decide +kernel
theorem dX5_logTouched_73 : decode cX5_logTouched 73 = .ok (.iinc 3 1, 3) := by decide +kernel
theorem dX5_logTouched_76 : decode cX5_logTouched 76 = .ok (.goto (-44), 3) := by decide +kernel
theorem dX5_logTouched_79 : decode cX5_logTouched 79 = .ok (.aload_n 2, 1) := by decide +kernel
theorem dX5_logTouched_80 : decode cX5_logTouched 80 = .ok (.invokevirtual 289, 3) := by decide +kernel
theorem dX5_logTouched_83 : decode cX5_logTouched 83 = .ok (.iinc 1 1, 3) := by decide +kernel
theorem dX5_logTouched_86 : decode cX5_logTouched 86 = .ok (.goto (-84), 3) := by decide +kernel
theorem dX5_logTouched_89 : decode cX5_logTouched 89 = .ok (.return_, 1) := by decide +kernel
theorem dX5_tellIds_0 : decode cX5_tellIds 0 = .ok (.aload_n 0, 1) := by decide +kernel
theorem dX5_tellIds_1 : decode cX5_tellIds 1 = .ok (.aload_n 1, 1) := by decide +kernel
theorem dX5_tellIds_2 : decode cX5_tellIds 2 = .ok (.invokevirtual 292, 3) := by decide +kernel
theorem dX5_tellIds_5 : decode cX5_tellIds 5 = .ok (.aload_n 0, 1) := by decide +kernel
theorem dX5_tellIds_6 : decode cX5_tellIds 6 = .ok (.aload_n 1, 1) := by decide +kernel
theorem dX5_tellIds_7 : decode cX5_tellIds 7 = .ok (.getfield 201, 3) := by decide +kernel
theorem dX5_tellIds_10 : decode cX5_tellIds 10 = .ok (.invokevirtual 132, 3) := by decide +kernel
theorem dX5_tellIds_13 : decode cX5_tellIds 13 = .ok (.astore_n 3, 1) := by decide +kernel
theorem dX5_tellIds_14 : decode cX5_tellIds 14 = .ok (.iconst 0, 1) := by decide +kernel
theorem dX5_tellIds_15 : decode cX5_tellIds 15 = .ok (.istore 4, 2) := by decide +kernel
theorem dX5_tellIds_17 : decode cX5_tellIds 17 = .ok (.iload 4, 2) := by decide +kernel
theorem dX5_tellIds_19 : decode cX5_tellIds 19 = .ok (.aload_n 0, 1) := by decide +kernel
theorem dX5_tellIds_20 : decode cX5_tellIds 20 = .ok (.getfield 237, 3) := by decide +kernel
theorem dX5_tellIds_23 : decode cX5_tellIds 23 = .ok (.if_icmp .ge 39, 3) := by decide +kernel
theorem dX5_tellIds_26 : decode cX5_tellIds 26 = .ok (.aload_n 2, 1) := by decide +kernel
theorem dX5_tellIds_27 : decode cX5_tellIds 27 = .ok (.aload_n 3, 1) := by decide +kernel
theorem dX5_tellIds_28 : decode cX5_tellIds 28 = .ok (.aload_n 0, 1) := by decide +kernel
theorem dX5_tellIds_29 : decode cX5_tellIds 29 = .ok (.getfield 54, 3) := by decide +kernel
theorem dX5_tellIds_32 : decode cX5_tellIds 32 = .ok (.iload 4, 2) := by decide +kernel
theorem dX5_tellIds_34 : decode cX5_tellIds 34 = .ok (.iaload, 1) := by decide +kernel
theorem dX5_tellIds_35 : decode cX5_tellIds 35 = .ok (.invokevirtual 149, 3) := by decide +kernel
theorem dX5_tellIds_38 : decode cX5_tellIds 38 = .ok (.ifCond .eq 7, 3) := by decide +kernel
theorem dX5_tellIds_41 : decode cX5_tellIds 41 = .ok (.iconst 0, 1) := by decide +kernel
theorem dX5_tellIds_42 : decode cX5_tellIds 42 = .ok (.goto 4, 3) := by decide +kernel
theorem dX5_tellIds_45 : decode cX5_tellIds 45 = .ok (.iconst 3, 1) := by decide +kernel
theorem dX5_tellIds_46 : decode cX5_tellIds 46 = .ok (.aload_n 0, 1) := by decide +kernel
theorem dX5_tellIds_47 : decode cX5_tellIds 47 = .ok (.getfield 54, 3) := by decide +kernel
theorem dX5_tellIds_50 : decode cX5_tellIds 50 = .ok (.iload 4, 2) := by decide +kernel
theorem dX5_tellIds_52 : decode cX5_tellIds 52 = .ok (.iaload, 1) := by decide +kernel
theorem dX5_tellIds_53 : decode cX5_tellIds 53 = .ok (.invokevirtual 296, 3) := by decide +kernel
theorem dX5_tellIds_56 : decode cX5_tellIds 56 = .ok (.iinc 4 1, 3) := by decide +kernel
theorem dX5_tellIds_59 : decode cX5_tellIds 59 = .ok (.goto (-42), 3) := by decide +kernel
theorem dX5_tellIds_62 : decode cX5_tellIds 62 = .ok (.iconst 0, 1) := by decide +kernel
theorem dX5_tellIds_63 : decode cX5_tellIds 63 = .ok (.ireturn, 1) := by decide +kernel
theorem dX5_tellFitting_0 : decode cX5_tellFitting 0 = .ok (.aload_n 1, 1) := by decide +kernel
theorem dX5_tellFitting_1 : decode cX5_tellFitting 1 = .ok (.getfield 71, 3) := by decide +kernel
theorem dX5_tellFitting_4 : decode cX5_tellFitting 4 = .ok (.aload_n 0, 1) := by decide +kernel
theorem dX5_tellFitting_5 : decode cX5_tellFitting 5 = .ok (.getfield 50, 3) := by decide +kernel
theorem dX5_tellFitting_8 : decode cX5_tellFitting 8 = .ok (.getfield 145, 3) := by decide +kernel
theorem dX5_tellFitting_11 : decode cX5_tellFitting 11 = .ok (.if_icmp .lt 5, 3) := by decide +kernel
theorem dX5_tellFitting_14 : decode cX5_tellFitting 14 = .ok (.iconst (-1), 1) := by decide +kernel
theorem dX5_tellFitting_15 : decode cX5_tellFitting 15 = .ok (.ireturn, 1) := by decide +kernel
theorem dX5_tellFitting_16 : decode cX5_tellFitting 16 = .ok (.aload_n 0, 1) := by decide +kernel
theorem dX5_tellFitting_17 : decode cX5_tellFitting 17 = .ok (.iconst 0, 1) := by decide +kernel
theorem dX5_tellFitting_18 : decode cX5_tellFitting 18 = .ok (.putfield 237, 3) := by decide +kernel
theorem dX5_tellFitting_21 : decode cX5_tellFitting 21 = .ok (.iconst 0, 1) := by decide +kernel
theorem dX5_tellFitting_22 : decode cX5_tellFitting 22 = .ok (.istore_n 3, 1) := by decide +kernel
theorem dX5_tellFitting_23 : decode cX5_tellFitting 23 = .ok (.iload_n 3, 1) := by decide +kernel
theorem dX5_tellFitting_24 : decode cX5_tellFitting 24 = .ok (.aload_n 0, 1) := by decide +kernel
theorem dX5_tellFitting_25 : decode cX5_tellFitting 25 = .ok (.getfield 34, 3) := by decide +kernel
theorem dX5_tellFitting_28 : decode cX5_tellFitting 28 = .ok (.getfield 146, 3) := by decide +kernel
theorem dX5_tellFitting_31 : decode cX5_tellFitting 31 = .ok (.if_icmp .ge 44, 3) := by decide +kernel
theorem dX5_tellFitting_34 : decode cX5_tellFitting 34 = .ok (.aload_n 0, 1) := by decide +kernel
theorem dX5_tellFitting_35 : decode cX5_tellFitting 35 = .ok (.getfield 34, 3) := by decide +kernel
theorem dX5_tellFitting_38 : decode cX5_tellFitting 38 = .ok (.iload_n 3, 1) := by decide +kernel
theorem dX5_tellFitting_39 : decode cX5_tellFitting 39 = .ok (.invokevirtual 149, 3) := by decide +kernel
theorem dX5_tellFitting_42 : decode cX5_tellFitting 42 = .ok (.ifCond .eq 27, 3) := by decide +kernel
theorem dX5_tellFitting_45 : decode cX5_tellFitting 45 = .ok (.aload_n 1, 1) := by decide +kernel
theorem dX5_tellFitting_46 : decode cX5_tellFitting 46 = .ok (.getfield 71, 3) := by decide +kernel
theorem dX5_tellFitting_49 : decode cX5_tellFitting 49 = .ok (.ifCond .lt 15, 3) := by decide +kernel
theorem dX5_tellFitting_52 : decode cX5_tellFitting 52 = .ok (.aload_n 0, 1) := by decide +kernel
theorem dX5_tellFitting_53 : decode cX5_tellFitting 53 = .ok (.iload_n 3, 1) := by decide +kernel
theorem dX5_tellFitting_54 : decode cX5_tellFitting 54 = .ok (.aload_n 1, 1) := by decide +kernel
theorem dX5_tellFitting_55 : decode cX5_tellFitting 55 = .ok (.getfield 71, 3) := by decide +kernel
theorem dX5_tellFitting_58 : decode cX5_tellFitting 58 = .ok (.invokevirtual 182, 3) := by decide +kernel
theorem dX5_tellFitting_61 : decode cX5_tellFitting 61 = .ok (.ifCond .eq 8, 3) := by decide +kernel
theorem dX5_tellFitting_64 : decode cX5_tellFitting 64 = .ok (.aload_n 0, 1) := by decide +kernel
theorem dX5_tellFitting_65 : decode cX5_tellFitting 65 = .ok (.iload_n 3, 1) := by decide +kernel
theorem dX5_tellFitting_66 : decode cX5_tellFitting 66 = .ok (.invokevirtual 240, 3) := by decide +kernel
theorem dX5_tellFitting_69 : decode cX5_tellFitting 69 = .ok (.iinc 3 1, 3) := by decide +kernel
theorem dX5_tellFitting_72 : decode cX5_tellFitting 72 = .ok (.goto (-49), 3) := by decide +kernel
theorem dX5_tellFitting_75 : decode cX5_tellFitting 75 = .ok (.aload_n 0, 1) := by decide +kernel
theorem dX5_tellFitting_76 : decode cX5_tellFitting 76 = .ok (.aload_n 1, 1) := by decide +kernel
theorem dX5_tellFitting_77 : decode cX5_tellFitting 77 = .ok (.getfield 74, 3) := by decide +kernel
theorem dX5_tellFitting_80 : decode cX5_tellFitting 80 = .ok (.invokevirtual 298, 3) := by decide +kernel
theorem dX5_tellFitting_83 : decode cX5_tellFitting 83 = .ok (.aload_n 1, 1) := by decide +kernel
theorem dX5_tellFitting_84 : decode cX5_tellFitting 84 = .ok (.getfield 77, 3) := by decide +kernel
theorem dX5_tellFitting_87 : decode cX5_tellFitting 87 = .ok (.istore_n 3, 1) := by decide +kernel
theorem dX5_tellFitting_88 : decode cX5_tellFitting 88 = .ok (.iload_n 3, 1) := by decide +kernel
theorem dX5_tellFitting_89 : decode cX5_tellFitting 89 = .ok (.aload_n 0, 1) := by decide +kernel
theorem dX5_tellFitting_90 : decode cX5_tellFitting 90 = .ok (.getfield 237, 3) := by decide +kernel
theorem dX5_tellFitting_93 : decode cX5_tellFitting 93 = .ok (.if_icmp .ge 33, 3) := by decide +kernel
theorem dX5_tellFitting_96 : decode cX5_tellFitting 96 = .ok (.iload_n 3, 1) := by decide +kernel
theorem dX5_tellFitting_97 : decode cX5_tellFitting 97 = .ok (.aload_n 1, 1) := by decide +kernel
theorem dX5_tellFitting_98 : decode cX5_tellFitting 98 = .ok (.getfield 77, 3) := by decide +kernel
theorem dX5_tellFitting_101 : decode cX5_tellFitting 101 = .ok (.isub, 1) := by decide +kernel
theorem dX5_tellFitting_102 : decode cX5_tellFitting 102 = .ok (.aload_n 1, 1) := by decide +kernel
theorem dX5_tellFitting_103 : decode cX5_tellFitting 103 = .ok (.getfield 80, 3) := by decide +kernel
theorem dX5_tellFitting_106 : decode cX5_tellFitting 106 = .ok (.if_icmp .ge 20, 3) := by decide +kernel
theorem dX5_tellFitting_109 : decode cX5_tellFitting 109 = .ok (.aload_n 2, 1) := by decide +kernel
theorem dX5_tellFitting_110 : decode cX5_tellFitting 110 = .ok (.iconst 0, 1) := by decide +kernel
theorem dX5_tellFitting_111 : decode cX5_tellFitting 111 = .ok (.aload_n 0, 1) := by decide +kernel
theorem dX5_tellFitting_112 : decode cX5_tellFitting 112 = .ok (.getfield 54, 3) := by decide +kernel
theorem dX5_tellFitting_115 : decode cX5_tellFitting 115 = .ok (.iload_n 3, 1) := by decide +kernel
theorem dX5_tellFitting_116 : decode cX5_tellFitting 116 = .ok (.iaload, 1) := by decide +kernel
theorem dX5_tellFitting_117 : decode cX5_tellFitting 117 = .ok (.invokevirtual 296, 3) := by decide +kernel
theorem dX5_tellFitting_120 : decode cX5_tellFitting 120 = .ok (.iinc 3 1, 3) := by decide +kernel
theorem dX5_tellFitting_123 : decode cX5_tellFitting 123 = .ok (.goto (-35), 3) := by decide +kernel
theorem dX5_tellFitting_126 : decode cX5_tellFitting 126 = .ok (.iconst 0, 1) := by decide +kernel
theorem dX5_tellFitting_127 : decode cX5_tellFitting 127 = .ok (.ireturn, 1) := by decide +kernel
theorem dX5_sortIds_0 : decode cX5_sortIds 0 = .ok (.iconst 1, 1) := by decide +kernel
theorem dX5_sortIds_1 : decode cX5_sortIds 1 = .ok (.istore_n 2, 1) := by decide +kernel
theorem dX5_sortIds_2 : decode cX5_sortIds 2 = .ok (.iload_n 2, 1) := by decide +kernel
theorem dX5_sortIds_3 : decode cX5_sortIds 3 = .ok (.aload_n 0, 1) := by decide +kernel
theorem dX5_sortIds_4 : decode cX5_sortIds 4 = .ok (.getfield 237, 3) := by decide +kernel
theorem dX5_sortIds_7 : decode cX5_sortIds 7 = .ok (.if_icmp .ge 81, 3) := by decide +kernel
theorem dX5_sortIds_10 : decode cX5_sortIds 10 = .ok (.aload_n 0, 1) := by decide +kernel
theorem dX5_sortIds_11 : decode cX5_sortIds 11 = .ok (.getfield 54, 3) := by decide +kernel
theorem dX5_sortIds_14 : decode cX5_sortIds 14 = .ok (.iload_n 2, 1) := by decide +kernel
theorem dX5_sortIds_15 : decode cX5_sortIds 15 = .ok (.iaload, 1) := by decide +kernel
theorem dX5_sortIds_16 : decode cX5_sortIds 16 = .ok (.istore_n 3, 1) := by decide +kernel
theorem dX5_sortIds_17 : decode cX5_sortIds 17 = .ok (.aload_n 0, 1) := by decide +kernel
theorem dX5_sortIds_18 : decode cX5_sortIds 18 = .ok (.iload_n 3, 1) := by decide +kernel
theorem dX5_sortIds_19 : decode cX5_sortIds 19 = .ok (.iload_n 1, 1) := by decide +kernel
theorem dX5_sortIds_20 : decode cX5_sortIds 20 = .ok (.invokevirtual 301, 3) := by decide +kernel
theorem dX5_sortIds_23 : decode cX5_sortIds 23 = .ok (.istore 4, 2) := by decide +kernel
theorem dX5_sortIds_25 : decode cX5_sortIds 25 = .ok (.iload_n 2, 1) := by decide +kernel
theorem dX5_sortIds_26 : decode cX5_sortIds 26 = .ok (.istore 5, 2) := by decide +kernel
theorem dX5_sortIds_28 : decode cX5_sortIds 28 = .ok (.iload 5, 2) := by decide +kernel
theorem dX5_sortIds_30 : decode cX5_sortIds 30 = .ok (.ifCond .le 44, 3) := by decide +kernel
theorem dX5_sortIds_33 : decode cX5_sortIds 33 = .ok (.aload_n 0, 1) := by decide +kernel
theorem dX5_sortIds_34 : decode cX5_sortIds 34 = .ok (.aload_n 0, 1) := by decide +kernel
theorem dX5_sortIds_35 : decode cX5_sortIds 35 = .ok (.getfield 54, 3) := by decide +kernel
theorem dX5_sortIds_38 : decode cX5_sortIds 38 = .ok (.iload 5, 2) := by decide +kernel
theorem dX5_sortIds_40 : decode cX5_sortIds 40 = .ok (.iconst 1, 1) := by decide +kernel
theorem dX5_sortIds_41 : decode cX5_sortIds 41 = .ok (.isub, 1) := by decide +kernel
theorem dX5_sortIds_42 : decode cX5_sortIds 42 = .ok (.iaload, 1) := by decide +kernel
theorem dX5_sortIds_43 : decode cX5_sortIds 43 = .ok (.iload_n 1, 1) := by decide +kernel
theorem dX5_sortIds_44 : decode cX5_sortIds 44 = .ok (.invokevirtual 301, 3) := by decide +kernel
theorem dX5_sortIds_47 : decode cX5_sortIds 47 = .ok (.iload 4, 2) := by decide +kernel
theorem dX5_sortIds_49 : decode cX5_sortIds 49 = .ok (.if_icmp .le 25, 3) := by decide +kernel
theorem dX5_sortIds_52 : decode cX5_sortIds 52 = .ok (.aload_n 0, 1) := by decide +kernel
theorem dX5_sortIds_53 : decode cX5_sortIds 53 = .ok (.getfield 54, 3) := by decide +kernel
theorem dX5_sortIds_56 : decode cX5_sortIds 56 = .ok (.iload 5, 2) := by decide +kernel
theorem dX5_sortIds_58 : decode cX5_sortIds 58 = .ok (.aload_n 0, 1) := by decide +kernel
theorem dX5_sortIds_59 : decode cX5_sortIds 59 = .ok (.getfield 54, 3) := by decide +kernel
theorem dX5_sortIds_62 : decode cX5_sortIds 62 = .ok (.iload 5, 2) := by decide +kernel
theorem dX5_sortIds_64 : decode cX5_sortIds 64 = .ok (.iconst 1, 1) := by decide +kernel
theorem dX5_sortIds_65 : decode cX5_sortIds 65 = .ok (.isub, 1) := by decide +kernel
theorem dX5_sortIds_66 : decode cX5_sortIds 66 = .ok (.iaload, 1) := by decide +kernel
theorem dX5_sortIds_67 : decode cX5_sortIds 67 = .ok (.iastore, 1) := by decide +kernel
theorem dX5_sortIds_68 : decode cX5_sortIds 68 = .ok (.iinc 5 (-1), 3) := by decide +kernel
theorem dX5_sortIds_71 : decode cX5_sortIds 71 = .ok (.goto (-43), 3) := by decide +kernel
theorem dX5_sortIds_74 : decode cX5_sortIds 74 = .ok (.aload_n 0, 1) := by decide +kernel
theorem dX5_sortIds_75 : decode cX5_sortIds 75 = .ok (.getfield 54, 3) := by decide +kernel
theorem dX5_sortIds_78 : decode cX5_sortIds 78 = .ok (.iload 5, 2) := by decide +kernel
theorem dX5_sortIds_80 : decode cX5_sortIds 80 = .ok (.iload_n 3, 1) := by decide +kernel
theorem dX5_sortIds_81 : decode cX5_sortIds 81 = .ok (.iastore, 1) := by decide +kernel
theorem dX5_sortIds_82 : decode cX5_sortIds 82 = .ok (.iinc 2 1, 3) := by decide +kernel
theorem dX5_sortIds_85 : decode cX5_sortIds 85 = .ok (.goto (-83), 3) := by decide +kernel
theorem dX5_sortIds_88 : decode cX5_sortIds 88 = .ok (.return_, 1) := by decide +kernel
theorem dX5_weightOf_0 : decode cX5_weightOf 0 = .ok (.iload_n 2, 1) := by decide +kernel
theorem dX5_weightOf_1 : decode cX5_weightOf 1 = .ok (.iconst 4, 1) := by decide +kernel
theorem dX5_weightOf_2 : decode cX5_weightOf 2 = .ok (.if_icmp .ge 7, 3) := by decide +kernel
theorem dX5_weightOf_5 : decode cX5_weightOf 5 = .ok (.iload_n 2, 1) := by decide +kernel
theorem dX5_weightOf_6 : decode cX5_weightOf 6 = .ok (.goto 6, 3) := by decide +kernel
theorem dX5_weightOf_9 : decode cX5_weightOf 9 = .ok (.iload_n 2, 1) := by decide +kernel
theorem dX5_weightOf_10 : decode cX5_weightOf 10 = .ok (.iconst 4, 1) := by decide +kernel
theorem dX5_weightOf_11 : decode cX5_weightOf 11 = .ok (.isub, 1) := by decide +kernel
theorem dX5_weightOf_12 : decode cX5_weightOf 12 = .ok (.istore_n 3, 1) := by decide +kernel
theorem dX5_weightOf_13 : decode cX5_weightOf 13 = .ok (.iload_n 3, 1) := by decide +kernel
theorem dX5_weightOf_14 : decode cX5_weightOf 14 = .ok (.ifCond .ne 15, 3) := by decide +kernel
theorem dX5_weightOf_17 : decode cX5_weightOf 17 = .ok (.aload_n 0, 1) := by decide +kernel
theorem dX5_weightOf_18 : decode cX5_weightOf 18 = .ok (.getfield 34, 3) := by decide +kernel
theorem dX5_weightOf_21 : decode cX5_weightOf 21 = .ok (.iload_n 1, 1) := by decide +kernel
theorem dX5_weightOf_22 : decode cX5_weightOf 22 = .ok (.iconst 5, 1) := by decide +kernel
theorem dX5_weightOf_23 : decode cX5_weightOf 23 = .ok (.invokevirtual 152, 3) := by decide +kernel
theorem dX5_weightOf_26 : decode cX5_weightOf 26 = .ok (.goto 38, 3) := by decide +kernel
theorem dX5_weightOf_29 : decode cX5_weightOf 29 = .ok (.iload_n 3, 1) := by decide +kernel
theorem dX5_weightOf_30 : decode cX5_weightOf 30 = .ok (.iconst 1, 1) := by decide +kernel
theorem dX5_weightOf_31 : decode cX5_weightOf 31 = .ok (.if_icmp .ne 15, 3) := by decide +kernel
theorem dX5_weightOf_34 : decode cX5_weightOf 34 = .ok (.aload_n 0, 1) := by decide +kernel
theorem dX5_weightOf_35 : decode cX5_weightOf 35 = .ok (.getfield 34, 3) := by decide +kernel
theorem dX5_weightOf_38 : decode cX5_weightOf 38 = .ok (.iload_n 1, 1) := by decide +kernel
theorem dX5_weightOf_39 : decode cX5_weightOf 39 = .ok (.iconst 4, 1) := by decide +kernel
theorem dX5_weightOf_40 : decode cX5_weightOf 40 = .ok (.invokevirtual 152, 3) := by decide +kernel
theorem dX5_weightOf_43 : decode cX5_weightOf 43 = .ok (.goto 21, 3) := by decide +kernel
theorem dX5_weightOf_46 : decode cX5_weightOf 46 = .ok (.iload_n 3, 1) := by decide +kernel
theorem dX5_weightOf_47 : decode cX5_weightOf 47 = .ok (.iconst 2, 1) := by decide +kernel
theorem dX5_weightOf_48 : decode cX5_weightOf 48 = .ok (.if_icmp .ne 15, 3) := by decide +kernel
theorem dX5_weightOf_51 : decode cX5_weightOf 51 = .ok (.aload_n 0, 1) := by decide +kernel
theorem dX5_weightOf_52 : decode cX5_weightOf 52 = .ok (.getfield 34, 3) := by decide +kernel
theorem dX5_weightOf_55 : decode cX5_weightOf 55 = .ok (.iload_n 1, 1) := by decide +kernel
theorem dX5_weightOf_56 : decode cX5_weightOf 56 = .ok (.iconst 0, 1) := by decide +kernel
theorem dX5_weightOf_57 : decode cX5_weightOf 57 = .ok (.invokevirtual 152, 3) := by decide +kernel
theorem dX5_weightOf_60 : decode cX5_weightOf 60 = .ok (.goto 4, 3) := by decide +kernel
theorem dX5_weightOf_63 : decode cX5_weightOf 63 = .ok (.iload_n 1, 1) := by decide +kernel
theorem dX5_weightOf_64 : decode cX5_weightOf 64 = .ok (.istore 4, 2) := by decide +kernel
theorem dX5_weightOf_66 : decode cX5_weightOf 66 = .ok (.iload_n 2, 1) := by decide +kernel
theorem dX5_weightOf_67 : decode cX5_weightOf 67 = .ok (.iconst 4, 1) := by decide +kernel
theorem dX5_weightOf_68 : decode cX5_weightOf 68 = .ok (.if_icmp .ge 8, 3) := by decide +kernel
theorem dX5_weightOf_71 : decode cX5_weightOf 71 = .ok (.iload 4, 2) := by decide +kernel
theorem dX5_weightOf_73 : decode cX5_weightOf 73 = .ok (.goto 6, 3) := by decide +kernel
theorem dX5_weightOf_76 : decode cX5_weightOf 76 = .ok (.iload 4, 2) := by decide +kernel
theorem dX5_weightOf_78 : decode cX5_weightOf 78 = .ok (.ineg, 1) := by decide +kernel
theorem dX5_weightOf_79 : decode cX5_weightOf 79 = .ok (.ireturn, 1) := by decide +kernel
theorem dX5_makeBox_0 : decode cX5_makeBox 0 = .ok (.aload_n 0, 1) := by decide +kernel
theorem dX5_makeBox_1 : decode cX5_makeBox 1 = .ok (.aload_n 1, 1) := by decide +kernel
theorem dX5_makeBox_2 : decode cX5_makeBox 2 = .ok (.getfield 89, 3) := by decide +kernel
theorem dX5_makeBox_5 : decode cX5_makeBox 5 = .ok (.iconst 1, 1) := by decide +kernel
theorem dX5_makeBox_6 : decode cX5_makeBox 6 = .ok (.iaload, 1) := by decide +kernel
theorem dX5_makeBox_7 : decode cX5_makeBox 7 = .ok (.invokevirtual 304, 3) := by decide +kernel
theorem dX5_makeBox_10 : decode cX5_makeBox 10 = .ok (.istore_n 3, 1) := by decide +kernel
theorem dX5_makeBox_11 : decode cX5_makeBox 11 = .ok (.iload_n 3, 1) := by decide +kernel
theorem dX5_makeBox_12 : decode cX5_makeBox 12 = .ok (.bipush (-9), 2) := by decide +kernel
theorem dX5_makeBox_14 : decode cX5_makeBox 14 = .ok (.if_icmp .eq 16, 3) := by decide +kernel
theorem dX5_makeBox_17 : decode cX5_makeBox 17 = .ok (.aload_n 0, 1) := by decide +kernel
theorem dX5_makeBox_18 : decode cX5_makeBox 18 = .ok (.getfield 30, 3) := by decide +kernel
theorem dX5_makeBox_21 : decode cX5_makeBox 21 = .ok (.iload_n 3, 1) := by decide +kernel
theorem dX5_makeBox_22 : decode cX5_makeBox 22 = .ok (.invokevirtual 149, 3) := by decide +kernel
theorem dX5_makeBox_25 : decode cX5_makeBox 25 = .ok (.ifCond .ne 5, 3) := by decide +kernel
theorem dX5_makeBox_28 : decode cX5_makeBox 28 = .ok (.iconst (-1), 1) := by decide +kernel
theorem dX5_makeBox_29 : decode cX5_makeBox 29 = .ok (.ireturn, 1) := by decide +kernel
theorem dX5_makeBox_30 : decode cX5_makeBox 30 = .ok (.aload_n 0, 1) := by decide +kernel
theorem dX5_makeBox_31 : decode cX5_makeBox 31 = .ok (.aload_n 1, 1) := by decide +kernel
theorem dX5_makeBox_32 : decode cX5_makeBox 32 = .ok (.getfield 89, 3) := by decide +kernel
theorem dX5_makeBox_35 : decode cX5_makeBox 35 = .ok (.iconst 0, 1) := by decide +kernel
theorem dX5_makeBox_36 : decode cX5_makeBox 36 = .ok (.iaload, 1) := by decide +kernel
theorem dX5_makeBox_37 : decode cX5_makeBox 37 = .ok (.iload_n 3, 1) := by decide +kernel
theorem dX5_makeBox_38 : decode cX5_makeBox 38 = .ok (.bipush (-9), 2) := by decide +kernel
theorem dX5_makeBox_40 : decode cX5_makeBox 40 = .ok (.invokevirtual 307, 3) := by decide +kernel
theorem dX5_makeBox_43 : decode cX5_makeBox 43 = .ok (.ifCond .ne 12, 3) := by decide +kernel
theorem dX5_makeBox_46 : decode cX5_makeBox 46 = .ok (.aload_n 0, 1) := by decide +kernel
theorem dX5_makeBox_47 : decode cX5_makeBox 47 = .ok (.iload_n 3, 1) := by decide +kernel
theorem dX5_makeBox_48 : decode cX5_makeBox 48 = .ok (.invokevirtual 161, 3) := by decide +kernel
theorem dX5_makeBox_51 : decode cX5_makeBox 51 = .ok (.iconst 4, 1) := by decide +kernel
theorem dX5_makeBox_52 : decode cX5_makeBox 52 = .ok (.if_icmp .lt 6, 3) := by decide +kernel
theorem dX5_makeBox_55 : decode cX5_makeBox 55 = .ok (.bipush (-3), 2) := by decide +kernel
theorem dX5_makeBox_57 : decode cX5_makeBox 57 = .ok (.ireturn, 1) := by decide +kernel
theorem dX5_makeBox_58 : decode cX5_makeBox 58 = .ok (.aload_n 0, 1) := by decide +kernel
theorem dX5_makeBox_59 : decode cX5_makeBox 59 = .ok (.getfield 30, 3) := by decide +kernel
theorem dX5_makeBox_62 : decode cX5_makeBox 62 = .ok (.invokevirtual 310, 3) := by decide +kernel
theorem dX5_makeBox_65 : decode cX5_makeBox 65 = .ok (.ifCond .eq 6, 3) := by decide +kernel
theorem dX5_makeBox_68 : decode cX5_makeBox 68 = .ok (.bipush (-4), 2) := by decide +kernel
theorem dX5_makeBox_70 : decode cX5_makeBox 70 = .ok (.ireturn, 1) := by decide +kernel
theorem dX5_makeBox_71 : decode cX5_makeBox 71 = .ok (.aload_n 0, 1) := by decide +kernel
theorem dX5_makeBox_72 : decode cX5_makeBox 72 = .ok (.getfield 30, 3) := by decide +kernel
theorem dX5_makeBox_75 : decode cX5_makeBox 75 = .ok (.invokevirtual 314, 3) := by decide +kernel
theorem dX5_makeBox_78 : decode cX5_makeBox 78 = .ok (.istore 4, 2) := by decide +kernel
theorem dX5_makeBox_80 : decode cX5_makeBox 80 = .ok (.aload_n 0, 1) := by decide +kernel
theorem dX5_makeBox_81 : decode cX5_makeBox 81 = .ok (.getfield 30, 3) := by decide +kernel
theorem dX5_makeBox_84 : decode cX5_makeBox 84 = .ok (.iload 4, 2) := by decide +kernel
theorem dX5_makeBox_86 : decode cX5_makeBox 86 = .ok (.iconst 0, 1) := by decide +kernel
theorem dX5_makeBox_87 : decode cX5_makeBox 87 = .ok (.aload_n 1, 1) := by decide +kernel
theorem dX5_makeBox_88 : decode cX5_makeBox 88 = .ok (.getfield 89, 3) := by decide +kernel
theorem dX5_makeBox_91 : decode cX5_makeBox 91 = .ok (.iconst 0, 1) := by decide +kernel
theorem dX5_makeBox_92 : decode cX5_makeBox 92 = .ok (.iaload, 1) := by decide +kernel
theorem dX5_makeBox_93 : decode cX5_makeBox 93 = .ok (.invokevirtual 316, 3) := by decide +kernel
theorem dX5_makeBox_96 : decode cX5_makeBox 96 = .ok (.aload_n 0, 1) := by decide +kernel
theorem dX5_makeBox_97 : decode cX5_makeBox 97 = .ok (.getfield 30, 3) := by decide +kernel
theorem dX5_makeBox_100 : decode cX5_makeBox 100 = .ok (.iload 4, 2) := by decide +kernel
theorem dX5_makeBox_102 : decode cX5_makeBox 102 = .ok (.iconst 1, 1) := by decide +kernel
theorem dX5_makeBox_103 : decode cX5_makeBox 103 = .ok (.iload_n 3, 1) := by decide +kernel
theorem dX5_makeBox_104 : decode cX5_makeBox 104 = .ok (.invokevirtual 316, 3) := by decide +kernel
theorem dX5_makeBox_107 : decode cX5_makeBox 107 = .ok (.aload_n 0, 1) := by decide +kernel
theorem dX5_makeBox_108 : decode cX5_makeBox 108 = .ok (.getfield 30, 3) := by decide +kernel
theorem dX5_makeBox_111 : decode cX5_makeBox 111 = .ok (.iload 4, 2) := by decide +kernel
theorem dX5_makeBox_113 : decode cX5_makeBox 113 = .ok (.iconst 2, 1) := by decide +kernel
theorem dX5_makeBox_114 : decode cX5_makeBox 114 = .ok (.aload_n 1, 1) := by decide +kernel
theorem dX5_makeBox_115 : decode cX5_makeBox 115 = .ok (.getfield 89, 3) := by decide +kernel
theorem dX5_makeBox_118 : decode cX5_makeBox 118 = .ok (.iconst 2, 1) := by decide +kernel
theorem dX5_makeBox_119 : decode cX5_makeBox 119 = .ok (.iaload, 1) := by decide +kernel
theorem dX5_makeBox_120 : decode cX5_makeBox 120 = .ok (.invokevirtual 316, 3) := by decide +kernel
theorem dX5_makeBox_123 : decode cX5_makeBox 123 = .ok (.aload_n 2, 1) := by decide +kernel
theorem dX5_makeBox_124 : decode cX5_makeBox 124 = .ok (.iconst 1, 1) := by decide +kernel
theorem dX5_makeBox_125 : decode cX5_makeBox 125 = .ok (.iload 4, 2) := by decide +kernel
theorem dX5_makeBox_127 : decode cX5_makeBox 127 = .ok (.invokevirtual 296, 3) := by decide +kernel
theorem dX5_makeBox_130 : decode cX5_makeBox 130 = .ok (.iconst 0, 1) := by decide +kernel
theorem dX5_makeBox_131 : decode cX5_makeBox 131 = .ok (.ireturn, 1) := by decide +kernel
theorem dX5_makeMail_0 : decode cX5_makeMail 0 = .ok (.aload_n 0, 1) := by decide +kernel
theorem dX5_makeMail_1 : decode cX5_makeMail 1 = .ok (.aload_n 1, 1) := by decide +kernel
theorem dX5_makeMail_2 : decode cX5_makeMail 2 = .ok (.getfield 86, 3) := by decide +kernel
theorem dX5_makeMail_5 : decode cX5_makeMail 5 = .ok (.invokevirtual 234, 3) := by decide +kernel
theorem dX5_makeMail_8 : decode cX5_makeMail 8 = .ok (.istore_n 3, 1) := by decide +kernel
theorem dX5_makeMail_9 : decode cX5_makeMail 9 = .ok (.aload_n 0, 1) := by decide +kernel
theorem dX5_makeMail_10 : decode cX5_makeMail 10 = .ok (.getfield 30, 3) := by decide +kernel
theorem dX5_makeMail_13 : decode cX5_makeMail 13 = .ok (.iload_n 3, 1) := by decide +kernel
theorem dX5_makeMail_14 : decode cX5_makeMail 14 = .ok (.invokevirtual 149, 3) := by decide +kernel
theorem dX5_makeMail_17 : decode cX5_makeMail 17 = .ok (.ifCond .ne 5, 3) := by decide +kernel
theorem dX5_makeMail_20 : decode cX5_makeMail 20 = .ok (.iconst (-1), 1) := by decide +kernel
theorem dX5_makeMail_21 : decode cX5_makeMail 21 = .ok (.ireturn, 1) := by decide +kernel
theorem dX5_makeMail_22 : decode cX5_makeMail 22 = .ok (.aload_n 0, 1) := by decide +kernel
theorem dX5_makeMail_23 : decode cX5_makeMail 23 = .ok (.getfield 34, 3) := by decide +kernel
theorem dX5_makeMail_26 : decode cX5_makeMail 26 = .ok (.invokevirtual 310, 3) := by decide +kernel
theorem dX5_makeMail_29 : decode cX5_makeMail 29 = .ok (.ifCond .eq 6, 3) := by decide +kernel
theorem dX5_makeMail_32 : decode cX5_makeMail 32 = .ok (.bipush (-4), 2) := by decide +kernel
theorem dX5_makeMail_34 : decode cX5_makeMail 34 = .ok (.ireturn, 1) := by decide +kernel
theorem dX5_makeMail_35 : decode cX5_makeMail 35 = .ok (.aload_n 0, 1) := by decide +kernel
theorem dX5_makeMail_36 : decode cX5_makeMail 36 = .ok (.getfield 34, 3) := by decide +kernel
theorem dX5_makeMail_39 : decode cX5_makeMail 39 = .ok (.invokevirtual 314, 3) := by decide +kernel
theorem dX5_makeMail_42 : decode cX5_makeMail 42 = .ok (.istore 4, 2) := by decide +kernel
theorem dX5_makeMail_44 : decode cX5_makeMail 44 = .ok (.iconst 0, 1) := by decide +kernel
theorem dX5_makeMail_45 : decode cX5_makeMail 45 = .ok (.istore 5, 2) := by decide +kernel
theorem dX5_makeMail_47 : decode cX5_makeMail 47 = .ok (.iload 5, 2) := by decide +kernel
theorem dX5_makeMail_49 : decode cX5_makeMail 49 = .ok (.bipush 6, 2) := by decide +kernel
theorem dX5_makeMail_51 : decode cX5_makeMail 51 = .ok (.if_icmp .gt 70, 3) := by decide +kernel
theorem dX5_makeMail_54 : decode cX5_makeMail 54 = .ok (.aload_n 1, 1) := by decide +kernel
theorem dX5_makeMail_55 : decode cX5_makeMail 55 = .ok (.getfield 89, 3) := by decide +kernel
theorem dX5_makeMail_58 : decode cX5_makeMail 58 = .ok (.iconst 3, 1) := by decide +kernel
theorem dX5_makeMail_59 : decode cX5_makeMail 59 = .ok (.iload 5, 2) := by decide +kernel
theorem dX5_makeMail_61 : decode cX5_makeMail 61 = .ok (.iadd, 1) := by decide +kernel
theorem dX5_makeMail_62 : decode cX5_makeMail 62 = .ok (.iaload, 1) := by decide +kernel
theorem dX5_makeMail_63 : decode cX5_makeMail 63 = .ok (.istore 6, 2) := by decide +kernel
theorem dX5_makeMail_65 : decode cX5_makeMail 65 = .ok (.iload 6, 2) := by decide +kernel
theorem dX5_makeMail_67 : decode cX5_makeMail 67 = .ok (.sipush 1000, 3) := by decide +kernel
theorem dX5_makeMail_70 : decode cX5_makeMail 70 = .ok (.if_icmp .ne 19, 3) := by decide +kernel
theorem dX5_makeMail_73 : decode cX5_makeMail 73 = .ok (.iload 5, 2) := by decide +kernel
theorem dX5_makeMail_75 : decode cX5_makeMail 75 = .ok (.iconst 2, 1) := by decide +kernel
theorem dX5_makeMail_76 : decode cX5_makeMail 76 = .ok (.if_icmp .eq 9, 3) := by decide +kernel
theorem dX5_makeMail_79 : decode cX5_makeMail 79 = .ok (.iload 5, 2) := by decide +kernel
theorem dX5_makeMail_81 : decode cX5_makeMail 81 = .ok (.iconst 3, 1) := by decide +kernel
theorem dX5_makeMail_82 : decode cX5_makeMail 82 = .ok (.if_icmp .ne 7, 3) := by decide +kernel
theorem dX5_makeMail_85 : decode cX5_makeMail 85 = .ok (.iconst 1, 1) := by decide +kernel
theorem dX5_makeMail_86 : decode cX5_makeMail 86 = .ok (.goto 4, 3) := by decide +kernel
theorem dX5_makeMail_89 : decode cX5_makeMail 89 = .ok (.iconst 0, 1) := by decide +kernel
theorem dX5_makeMail_90 : decode cX5_makeMail 90 = .ok (.istore 7, 2) := by decide +kernel
theorem dX5_makeMail_92 : decode cX5_makeMail 92 = .ok (.aload_n 0, 1) := by decide +kernel
theorem dX5_makeMail_93 : decode cX5_makeMail 93 = .ok (.getfield 34, 3) := by decide +kernel
theorem dX5_makeMail_96 : decode cX5_makeMail 96 = .ok (.iload 4, 2) := by decide +kernel
theorem dX5_makeMail_98 : decode cX5_makeMail 98 = .ok (.iload 5, 2) := by decide +kernel
theorem dX5_makeMail_100 : decode cX5_makeMail 100 = .ok (.iload 7, 2) := by decide +kernel
theorem dX5_makeMail_102 : decode cX5_makeMail 102 = .ok (.ifCond .eq 8, 3) := by decide +kernel
theorem dX5_makeMail_105 : decode cX5_makeMail 105 = .ok (.bipush (-9), 2) := by decide +kernel
theorem dX5_makeMail_107 : decode cX5_makeMail 107 = .ok (.goto 5, 3) := by decide +kernel
theorem dX5_makeMail_110 : decode cX5_makeMail 110 = .ok (.iload 6, 2) := by decide +kernel
theorem dX5_makeMail_112 : decode cX5_makeMail 112 = .ok (.invokevirtual 316, 3) := by decide +kernel
theorem dX5_makeMail_115 : decode cX5_makeMail 115 = .ok (.iinc 5 1, 3) := by decide +kernel
theorem dX5_makeMail_118 : decode cX5_makeMail 118 = .ok (.goto (-71), 3) := by decide +kernel
theorem dX5_makeMail_121 : decode cX5_makeMail 121 = .ok (.aload_n 0, 1) := by decide +kernel
theorem dX5_makeMail_122 : decode cX5_makeMail 122 = .ok (.getfield 34, 3) := by decide +kernel
theorem dX5_makeMail_125 : decode cX5_makeMail 125 = .ok (.iload 4, 2) := by decide +kernel
theorem dX5_makeMail_127 : decode cX5_makeMail 127 = .ok (.bipush 8, 2) := by decide +kernel
theorem dX5_makeMail_129 : decode cX5_makeMail 129 = .ok (.iload_n 3, 1) := by decide +kernel
theorem dX5_makeMail_130 : decode cX5_makeMail 130 = .ok (.invokestatic 320, 3) := by decide +kernel
theorem dX5_makeMail_133 : decode cX5_makeMail 133 = .ok (.invokevirtual 316, 3) := by decide +kernel
theorem dX5_makeMail_136 : decode cX5_makeMail 136 = .ok (.aload_n 0, 1) := by decide +kernel
theorem dX5_makeMail_137 : decode cX5_makeMail 137 = .ok (.iload 4, 2) := by decide +kernel
theorem dX5_makeMail_139 : decode cX5_makeMail 139 = .ok (.invokevirtual 323, 3) := by decide +kernel
theorem dX5_makeMail_142 : decode cX5_makeMail 142 = .ok (.aload_n 2, 1) := by decide +kernel
theorem dX5_makeMail_143 : decode cX5_makeMail 143 = .ok (.iconst 1, 1) := by decide +kernel
theorem dX5_makeMail_144 : decode cX5_makeMail 144 = .ok (.iload 4, 2) := by decide +kernel
theorem dX5_makeMail_146 : decode cX5_makeMail 146 = .ok (.invokevirtual 296, 3) := by decide +kernel
theorem dX5_makeMail_149 : decode cX5_makeMail 149 = .ok (.iconst 0, 1) := by decide +kernel
theorem dX5_makeMail_150 : decode cX5_makeMail 150 = .ok (.ireturn, 1) := by decide +kernel
theorem dX5_changeIds_0 : decode cX5_changeIds 0 = .ok (.aload_n 0, 1) := by decide +kernel
theorem dX5_changeIds_1 : decode cX5_changeIds 1 = .ok (.aload_n 1, 1) := by decide +kernel
theorem dX5_changeIds_2 : decode cX5_changeIds 2 = .ok (.invokevirtual 292, 3) := by decide +kernel
theorem dX5_changeIds_5 : decode cX5_changeIds 5 = .ok (.aload_n 0, 1) := by decide +kernel
theorem dX5_changeIds_6 : decode cX5_changeIds 6 = .ok (.aload_n 1, 1) := by decide +kernel
theorem dX5_changeIds_7 : decode cX5_changeIds 7 = .ok (.getfield 201, 3) := by decide +kernel
theorem dX5_changeIds_10 : decode cX5_changeIds 10 = .ok (.invokevirtual 132, 3) := by decide +kernel
theorem dX5_changeIds_13 : decode cX5_changeIds 13 = .ok (.astore_n 3, 1) := by decide +kernel
theorem dX5_changeIds_14 : decode cX5_changeIds 14 = .ok (.aload_n 1, 1) := by decide +kernel
theorem dX5_changeIds_15 : decode cX5_changeIds 15 = .ok (.invokestatic 221, 3) := by decide +kernel
theorem dX5_changeIds_18 : decode cX5_changeIds 18 = .ok (.istore 4, 2) := by decide +kernel
theorem dX5_changeIds_20 : decode cX5_changeIds 20 = .ok (.iload 4, 2) := by decide +kernel
theorem dX5_changeIds_22 : decode cX5_changeIds 22 = .ok (.ifCond .ne 10, 3) := by decide +kernel
theorem dX5_changeIds_25 : decode cX5_changeIds 25 = .ok (.aload_n 1, 1) := by decide +kernel
theorem dX5_changeIds_26 : decode cX5_changeIds 26 = .ok (.getfield 86, 3) := by decide +kernel
theorem dX5_changeIds_29 : decode cX5_changeIds 29 = .ok (.goto 29, 3) := by decide +kernel
theorem dX5_changeIds_32 : decode cX5_changeIds 32 = .ok (.aload_n 1, 1) := by decide +kernel
theorem dX5_changeIds_33 : decode cX5_changeIds 33 = .ok (.getfield 201, 3) := by decide +kernel
theorem dX5_changeIds_36 : decode cX5_changeIds 36 = .ok (.ifCond .ne 14, 3) := by decide +kernel
theorem dX5_changeIds_39 : decode cX5_changeIds 39 = .ok (.aload_n 0, 1) := by decide +kernel
theorem dX5_changeIds_40 : decode cX5_changeIds 40 = .ok (.aload_n 1, 1) := by decide +kernel
theorem dX5_changeIds_41 : decode cX5_changeIds 41 = .ok (.getfield 86, 3) := by decide +kernel
theorem dX5_changeIds_44 : decode cX5_changeIds 44 = .ok (.invokevirtual 304, 3) := by decide +kernel
theorem dX5_changeIds_47 : decode cX5_changeIds 47 = .ok (.goto 11, 3) := by decide +kernel
theorem dX5_changeIds_50 : decode cX5_changeIds 50 = .ok (.aload_n 0, 1) := by decide +kernel
theorem dX5_changeIds_51 : decode cX5_changeIds 51 = .ok (.aload_n 1, 1) := by decide +kernel
theorem dX5_changeIds_52 : decode cX5_changeIds 52 = .ok (.getfield 86, 3) := by decide +kernel
theorem dX5_changeIds_55 : decode cX5_changeIds 55 = .ok (.invokevirtual 234, 3) := by decide +kernel
theorem dX5_changeIds_58 : decode cX5_changeIds 58 = .ok (.istore 5, 2) := by decide +kernel
theorem dX5_changeIds_60 : decode cX5_changeIds 60 = .ok (.aload_n 0, 1) := by decide +kernel
theorem dX5_changeIds_61 : decode cX5_changeIds 61 = .ok (.invokevirtual 326, 3) := by decide +kernel
theorem dX5_changeIds_64 : decode cX5_changeIds 64 = .ok (.iconst 0, 1) := by decide +kernel
theorem dX5_changeIds_65 : decode cX5_changeIds 65 = .ok (.istore 6, 2) := by decide +kernel
theorem dX5_changeIds_67 : decode cX5_changeIds 67 = .ok (.iload 6, 2) := by decide +kernel
theorem dX5_changeIds_69 : decode cX5_changeIds 69 = .ok (.aload_n 0, 1) := by decide +kernel
theorem dX5_changeIds_70 : decode cX5_changeIds 70 = .ok (.getfield 237, 3) := by decide +kernel
theorem dX5_changeIds_73 : decode cX5_changeIds 73 = .ok (.if_icmp .ge 82, 3) := by decide +kernel
theorem dX5_changeIds_76 : decode cX5_changeIds 76 = .ok (.aload_n 0, 1) := by decide +kernel
theorem dX5_changeIds_77 : decode cX5_changeIds 77 = .ok (.getfield 54, 3) := by decide +kernel
theorem dX5_changeIds_80 : decode cX5_changeIds 80 = .ok (.iload 6, 2) := by decide +kernel
theorem dX5_changeIds_82 : decode cX5_changeIds 82 = .ok (.iaload, 1) := by decide +kernel
theorem dX5_changeIds_83 : decode cX5_changeIds 83 = .ok (.istore 7, 2) := by decide +kernel
theorem dX5_changeIds_85 : decode cX5_changeIds 85 = .ok (.aload_n 1, 1) := by decide +kernel
theorem dX5_changeIds_86 : decode cX5_changeIds 86 = .ok (.getfield 201, 3) := by decide +kernel
theorem dX5_changeIds_89 : decode cX5_changeIds 89 = .ok (.ifCond .ne 18, 3) := by decide +kernel
theorem dX5_changeIds_92 : decode cX5_changeIds 92 = .ok (.aload_n 0, 1) := by decide +kernel
theorem dX5_changeIds_93 : decode cX5_changeIds 93 = .ok (.iload 7, 2) := by decide +kernel
theorem dX5_changeIds_95 : decode cX5_changeIds 95 = .ok (.aload_n 1, 1) := by decide +kernel
theorem dX5_changeIds_96 : decode cX5_changeIds 96 = .ok (.getfield 191, 3) := by decide +kernel
theorem dX5_changeIds_99 : decode cX5_changeIds 99 = .ok (.iload 5, 2) := by decide +kernel
theorem dX5_changeIds_101 : decode cX5_changeIds 101 = .ok (.invokevirtual 329, 3) := by decide +kernel
theorem dX5_changeIds_104 : decode cX5_changeIds 104 = .ok (.goto 15, 3) := by decide +kernel
theorem dX5_changeIds_107 : decode cX5_changeIds 107 = .ok (.aload_n 0, 1) := by decide +kernel
theorem dX5_changeIds_108 : decode cX5_changeIds 108 = .ok (.iload 7, 2) := by decide +kernel
theorem dX5_changeIds_110 : decode cX5_changeIds 110 = .ok (.aload_n 1, 1) := by decide +kernel
theorem dX5_changeIds_111 : decode cX5_changeIds 111 = .ok (.getfield 191, 3) := by decide +kernel
theorem dX5_changeIds_114 : decode cX5_changeIds 114 = .ok (.iload 5, 2) := by decide +kernel
theorem dX5_changeIds_116 : decode cX5_changeIds 116 = .ok (.invokevirtual 332, 3) := by decide +kernel
theorem dX5_changeIds_119 : decode cX5_changeIds 119 = .ok (.istore 8, 2) := by decide +kernel
theorem dX5_changeIds_121 : decode cX5_changeIds 121 = .ok (.iload 8, 2) := by decide +kernel
theorem dX5_changeIds_123 : decode cX5_changeIds 123 = .ok (.ifCond .eq 10, 3) := by decide +kernel
theorem dX5_changeIds_126 : decode cX5_changeIds 126 = .ok (.aload_n 0, 1) := by decide +kernel
theorem dX5_changeIds_127 : decode cX5_changeIds 127 = .ok (.invokevirtual 335, 3) := by decide +kernel
theorem dX5_changeIds_130 : decode cX5_changeIds 130 = .ok (.iload 8, 2) := by decide +kernel
theorem dX5_changeIds_132 : decode cX5_changeIds 132 = .ok (.ireturn, 1) := by decide +kernel
theorem dX5_changeIds_133 : decode cX5_changeIds 133 = .ok (.aload_n 3, 1) := by decide +kernel
theorem dX5_changeIds_134 : decode cX5_changeIds 134 = .ok (.iload 7, 2) := by decide +kernel
theorem dX5_changeIds_136 : decode cX5_changeIds 136 = .ok (.invokevirtual 280, 3) := by decide +kernel
theorem dX5_changeIds_139 : decode cX5_changeIds 139 = .ok (.ifCond .eq 10, 3) := by decide +kernel
theorem dX5_changeIds_142 : decode cX5_changeIds 142 = .ok (.aload_n 2, 1) := by decide +kernel
theorem dX5_changeIds_143 : decode cX5_changeIds 143 = .ok (.iconst 2, 1) := by decide +kernel
theorem dX5_changeIds_144 : decode cX5_changeIds 144 = .ok (.iload 7, 2) := by decide +kernel
theorem dX5_changeIds_146 : decode cX5_changeIds 146 = .ok (.invokevirtual 296, 3) := by decide +kernel
theorem dX5_changeIds_149 : decode cX5_changeIds 149 = .ok (.iinc 6 1, 3) := by decide +kernel
theorem dX5_changeIds_152 : decode cX5_changeIds 152 = .ok (.goto (-85), 3) := by decide +kernel
theorem dX5_changeIds_155 : decode cX5_changeIds 155 = .ok (.iconst 0, 1) := by decide +kernel
theorem dX5_changeIds_156 : decode cX5_changeIds 156 = .ok (.ireturn, 1) := by decide +kernel
theorem dX5_changeBox_0 : decode cX5_changeBox 0 = .ok (.aload_n 0, 1) := by decide +kernel
theorem dX5_changeBox_1 : decode cX5_changeBox 1 = .ok (.getfield 30, 3) := by decide +kernel
theorem dX5_changeBox_4 : decode cX5_changeBox 4 = .ok (.iload_n 1, 1) := by decide +kernel
theorem dX5_changeBox_5 : decode cX5_changeBox 5 = .ok (.invokevirtual 149, 3) := by decide +kernel
theorem dX5_changeBox_8 : decode cX5_changeBox 8 = .ok (.ifCond .eq 25, 3) := by decide +kernel
theorem dX5_changeBox_11 : decode cX5_changeBox 11 = .ok (.iload_n 2, 1) := by decide +kernel
theorem dX5_changeBox_12 : decode cX5_changeBox 12 = .ok (.iconst 1, 1) := by decide +kernel
theorem dX5_changeBox_13 : decode cX5_changeBox 13 = .ok (.if_icmp .ne 22, 3) := by decide +kernel
theorem dX5_changeBox_16 : decode cX5_changeBox 16 = .ok (.iload_n 3, 1) := by decide +kernel
theorem dX5_changeBox_17 : decode cX5_changeBox 17 = .ok (.bipush (-9), 2) := by decide +kernel
theorem dX5_changeBox_19 : decode cX5_changeBox 19 = .ok (.if_icmp .eq 16, 3) := by decide +kernel
theorem dX5_changeBox_22 : decode cX5_changeBox 22 = .ok (.aload_n 0, 1) := by decide +kernel
theorem dX5_changeBox_23 : decode cX5_changeBox 23 = .ok (.getfield 30, 3) := by decide +kernel
theorem dX5_changeBox_26 : decode cX5_changeBox 26 = .ok (.iload_n 3, 1) := by decide +kernel
theorem dX5_changeBox_27 : decode cX5_changeBox 27 = .ok (.invokevirtual 149, 3) := by decide +kernel
theorem dX5_changeBox_30 : decode cX5_changeBox 30 = .ok (.ifCond .ne 5, 3) := by decide +kernel
theorem dX5_changeBox_33 : decode cX5_changeBox 33 = .ok (.iconst (-1), 1) := by decide +kernel
theorem dX5_changeBox_34 : decode cX5_changeBox 34 = .ok (.ireturn, 1) := by decide +kernel
theorem dX5_changeBox_35 : decode cX5_changeBox 35 = .ok (.aload_n 0, 1) := by decide +kernel
theorem dX5_changeBox_36 : decode cX5_changeBox 36 = .ok (.getfield 30, 3) := by decide +kernel
theorem dX5_changeBox_39 : decode cX5_changeBox 39 = .ok (.iload_n 1, 1) := by decide +kernel
theorem dX5_changeBox_40 : decode cX5_changeBox 40 = .ok (.iload_n 2, 1) := by decide +kernel
theorem dX5_changeBox_41 : decode cX5_changeBox 41 = .ok (.invokevirtual 152, 3) := by decide +kernel
theorem dX5_changeBox_44 : decode cX5_changeBox 44 = .ok (.iload_n 3, 1) := by decide +kernel
theorem dX5_changeBox_45 : decode cX5_changeBox 45 = .ok (.if_icmp .ne 5, 3) := by decide +kernel
theorem dX5_changeBox_48 : decode cX5_changeBox 48 = .ok (.iconst 0, 1) := by decide +kernel
theorem dX5_changeBox_49 : decode cX5_changeBox 49 = .ok (.ireturn, 1) := by decide +kernel
theorem dX5_changeBox_50 : decode cX5_changeBox 50 = .ok (.aload_n 0, 1) := by decide +kernel
theorem dX5_changeBox_51 : decode cX5_changeBox 51 = .ok (.getfield 30, 3) := by decide +kernel
theorem dX5_changeBox_54 : decode cX5_changeBox 54 = .ok (.iload_n 1, 1) := by decide +kernel
theorem dX5_changeBox_55 : decode cX5_changeBox 55 = .ok (.iload_n 2, 1) := by decide +kernel
theorem dX5_changeBox_56 : decode cX5_changeBox 56 = .ok (.iload_n 3, 1) := by decide +kernel
theorem dX5_changeBox_57 : decode cX5_changeBox 57 = .ok (.invokevirtual 316, 3) := by decide +kernel
theorem dX5_changeBox_60 : decode cX5_changeBox 60 = .ok (.aload_n 0, 1) := by decide +kernel
theorem dX5_changeBox_61 : decode cX5_changeBox 61 = .ok (.getfield 30, 3) := by decide +kernel
theorem dX5_changeBox_64 : decode cX5_changeBox 64 = .ok (.iload_n 1, 1) := by decide +kernel
theorem dX5_changeBox_65 : decode cX5_changeBox 65 = .ok (.iconst 2, 1) := by decide +kernel
theorem dX5_changeBox_66 : decode cX5_changeBox 66 = .ok (.invokevirtual 338, 3) := by decide +kernel
theorem dX5_changeBox_69 : decode cX5_changeBox 69 = .ok (.aload_n 0, 1) := by decide +kernel
theorem dX5_changeBox_70 : decode cX5_changeBox 70 = .ok (.aload_n 0, 1) := by decide +kernel
theorem dX5_changeBox_71 : decode cX5_changeBox 71 = .ok (.getfield 30, 3) := by decide +kernel
theorem dX5_changeBox_74 : decode cX5_changeBox 74 = .ok (.iload_n 1, 1) := by decide +kernel
theorem dX5_changeBox_75 : decode cX5_changeBox 75 = .ok (.iconst 0, 1) := by decide +kernel
theorem dX5_changeBox_76 : decode cX5_changeBox 76 = .ok (.invokevirtual 152, 3) := by decide +kernel
theorem dX5_changeBox_79 : decode cX5_changeBox 79 = .ok (.aload_n 0, 1) := by decide +kernel
theorem dX5_changeBox_80 : decode cX5_changeBox 80 = .ok (.getfield 30, 3) := by decide +kernel
theorem dX5_changeBox_83 : decode cX5_changeBox 83 = .ok (.iload_n 1, 1) := by decide +kernel
theorem dX5_changeBox_84 : decode cX5_changeBox 84 = .ok (.iconst 1, 1) := by decide +kernel
theorem dX5_changeBox_85 : decode cX5_changeBox 85 = .ok (.invokevirtual 152, 3) := by decide +kernel
theorem dX5_changeBox_88 : decode cX5_changeBox 88 = .ok (.iload_n 1, 1) := by decide +kernel
theorem dX5_changeBox_89 : decode cX5_changeBox 89 = .ok (.invokevirtual 307, 3) := by decide +kernel
theorem dX5_changeBox_92 : decode cX5_changeBox 92 = .ok (.ifCond .ne 10, 3) := by decide +kernel
theorem dX5_changeBox_95 : decode cX5_changeBox 95 = .ok (.aload_n 0, 1) := by decide +kernel
theorem dX5_changeBox_96 : decode cX5_changeBox 96 = .ok (.invokevirtual 341, 3) := by decide +kernel
theorem dX5_changeBox_99 : decode cX5_changeBox 99 = .ok (.ifCond .eq 6, 3) := by decide +kernel
theorem dX5_changeBox_102 : decode cX5_changeBox 102 = .ok (.bipush (-3), 2) := by decide +kernel
theorem dX5_changeBox_104 : decode cX5_changeBox 104 = .ok (.ireturn, 1) := by decide +kernel
theorem dX5_changeBox_105 : decode cX5_changeBox 105 = .ok (.iconst 0, 1) := by decide +kernel
theorem dX5_changeBox_106 : decode cX5_changeBox 106 = .ok (.ireturn, 1) := by decide +kernel
theorem dX5_changeMail_0 : decode cX5_changeMail 0 = .ok (.aload_n 0, 1) := by decide +kernel
theorem dX5_changeMail_1 : decode cX5_changeMail 1 = .ok (.getfield 34, 3) := by decide +kernel
theorem dX5_changeMail_4 : decode cX5_changeMail 4 = .ok (.iload_n 1, 1) := by decide +kernel
theorem dX5_changeMail_5 : decode cX5_changeMail 5 = .ok (.invokevirtual 149, 3) := by decide +kernel
theorem dX5_changeMail_8 : decode cX5_changeMail 8 = .ok (.ifCond .eq 18, 3) := by decide +kernel
theorem dX5_changeMail_11 : decode cX5_changeMail 11 = .ok (.iload_n 2, 1) := by decide +kernel
theorem dX5_changeMail_12 : decode cX5_changeMail 12 = .ok (.ifCond .eq 16, 3) := by decide +kernel
theorem dX5_changeMail_15 : decode cX5_changeMail 15 = .ok (.aload_n 0, 1) := by decide +kernel
theorem dX5_changeMail_16 : decode cX5_changeMail 16 = .ok (.getfield 30, 3) := by decide +kernel
theorem dX5_changeMail_19 : decode cX5_changeMail 19 = .ok (.iload_n 3, 1) := by decide +kernel
theorem dX5_changeMail_20 : decode cX5_changeMail 20 = .ok (.invokevirtual 149, 3) := by decide +kernel
theorem dX5_changeMail_23 : decode cX5_changeMail 23 = .ok (.ifCond .ne 5, 3) := by decide +kernel
theorem dX5_changeMail_26 : decode cX5_changeMail 26 = .ok (.iconst (-1), 1) := by decide +kernel
theorem dX5_changeMail_27 : decode cX5_changeMail 27 = .ok (.ireturn, 1) := by decide +kernel
theorem dX5_changeMail_28 : decode cX5_changeMail 28 = .ok (.iload_n 2, 1) := by decide +kernel
theorem dX5_changeMail_29 : decode cX5_changeMail 29 = .ok (.ifCond .ne 8, 3) := by decide +kernel
theorem dX5_changeMail_32 : decode cX5_changeMail 32 = .ok (.bipush 6, 2) := by decide +kernel
theorem dX5_changeMail_34 : decode cX5_changeMail 34 = .ok (.goto 5, 3) := by decide +kernel
theorem dX5_changeMail_37 : decode cX5_changeMail 37 = .ok (.bipush 8, 2) := by decide +kernel
theorem dX5_changeMail_39 : decode cX5_changeMail 39 = .ok (.istore 4, 2) := by decide +kernel
theorem dX5_changeMail_41 : decode cX5_changeMail 41 = .ok (.aload_n 0, 1) := by decide +kernel
theorem dX5_changeMail_42 : decode cX5_changeMail 42 = .ok (.getfield 34, 3) := by decide +kernel
theorem dX5_changeMail_45 : decode cX5_changeMail 45 = .ok (.iload_n 1, 1) := by decide +kernel
theorem dX5_changeMail_46 : decode cX5_changeMail 46 = .ok (.iload 4, 2) := by decide +kernel
theorem dX5_changeMail_48 : decode cX5_changeMail 48 = .ok (.invokevirtual 152, 3) := by decide +kernel
theorem dX5_changeMail_51 : decode cX5_changeMail 51 = .ok (.istore 5, 2) := by decide +kernel
theorem dX5_changeMail_53 : decode cX5_changeMail 53 = .ok (.iload_n 2, 1) := by decide +kernel
theorem dX5_changeMail_54 : decode cX5_changeMail 54 = .ok (.ifCond .ne 7, 3) := by decide +kernel
theorem dX5_changeMail_57 : decode cX5_changeMail 57 = .ok (.iload_n 3, 1) := by decide +kernel
theorem dX5_changeMail_58 : decode cX5_changeMail 58 = .ok (.goto 27, 3) := by decide +kernel
theorem dX5_changeMail_61 : decode cX5_changeMail 61 = .ok (.iload_n 2, 1) := by decide +kernel
theorem dX5_changeMail_62 : decode cX5_changeMail 62 = .ok (.iconst 1, 1) := by decide +kernel
theorem dX5_changeMail_63 : decode cX5_changeMail 63 = .ok (.if_icmp .ne 13, 3) := by decide +kernel
theorem dX5_changeMail_66 : decode cX5_changeMail 66 = .ok (.iload 5, 2) := by decide +kernel
theorem dX5_changeMail_68 : decode cX5_changeMail 68 = .ok (.iload_n 3, 1) := by decide +kernel
theorem dX5_changeMail_69 : decode cX5_changeMail 69 = .ok (.invokestatic 320, 3) := by decide +kernel
theorem dX5_changeMail_72 : decode cX5_changeMail 72 = .ok (.ior, 1) := by decide +kernel
theorem dX5_changeMail_73 : decode cX5_changeMail 73 = .ok (.goto 12, 3) := by decide +kernel
theorem dX5_changeMail_76 : decode cX5_changeMail 76 = .ok (.iload 5, 2) := by decide +kernel
theorem dX5_changeMail_78 : decode cX5_changeMail 78 = .ok (.iload_n 3, 1) := by decide +kernel
theorem dX5_changeMail_79 : decode cX5_changeMail 79 = .ok (.invokestatic 320, 3) := by decide +kernel
theorem dX5_changeMail_82 : decode cX5_changeMail 82 = .ok (.iconst (-1), 1) := by decide +kernel
theorem dX5_changeMail_83 : decode cX5_changeMail 83 = .ok (.ixor, 1) := by decide +kernel
theorem dX5_changeMail_84 : decode cX5_changeMail 84 = .ok (.iand, 1) := by decide +kernel
theorem dX5_changeMail_85 : decode cX5_changeMail 85 = .ok (.istore 6, 2) := by decide +kernel
theorem dX5_changeMail_87 : decode cX5_changeMail 87 = .ok (.iload 4, 2) := by decide +kernel
theorem dX5_changeMail_89 : decode cX5_changeMail 89 = .ok (.bipush 8, 2) := by decide +kernel
theorem dX5_changeMail_91 : decode cX5_changeMail 91 = .ok (.if_icmp .ne 11, 3) := by decide +kernel
theorem dX5_changeMail_94 : decode cX5_changeMail 94 = .ok (.iload 6, 2) := by decide +kernel
theorem dX5_changeMail_96 : decode cX5_changeMail 96 = .ok (.ifCond .ne 6, 3) := by decide +kernel
theorem dX5_changeMail_99 : decode cX5_changeMail 99 = .ok (.bipush (-3), 2) := by decide +kernel
theorem dX5_changeMail_101 : decode cX5_changeMail 101 = .ok (.ireturn, 1) := by decide +kernel
theorem dX5_changeMail_102 : decode cX5_changeMail 102 = .ok (.iload 6, 2) := by decide +kernel
theorem dX5_changeMail_104 : decode cX5_changeMail 104 = .ok (.iload 5, 2) := by decide +kernel
theorem dX5_changeMail_106 : decode cX5_changeMail 106 = .ok (.if_icmp .eq 24, 3) := by decide +kernel
theorem dX5_changeMail_109 : decode cX5_changeMail 109 = .ok (.aload_n 0, 1) := by decide +kernel
theorem dX5_changeMail_110 : decode cX5_changeMail 110 = .ok (.getfield 34, 3) := by decide +kernel
theorem dX5_changeMail_113 : decode cX5_changeMail 113 = .ok (.iload_n 1, 1) := by decide +kernel
theorem dX5_changeMail_114 : decode cX5_changeMail 114 = .ok (.iload 4, 2) := by decide +kernel
theorem dX5_changeMail_116 : decode cX5_changeMail 116 = .ok (.iload 6, 2) := by decide +kernel
theorem dX5_changeMail_118 : decode cX5_changeMail 118 = .ok (.invokevirtual 316, 3) := by decide +kernel
theorem dX5_changeMail_121 : decode cX5_changeMail 121 = .ok (.aload_n 0, 1) := by decide +kernel
theorem dX5_changeMail_122 : decode cX5_changeMail 122 = .ok (.getfield 34, 3) := by decide +kernel
theorem dX5_changeMail_125 : decode cX5_changeMail 125 = .ok (.iload_n 1, 1) := by decide +kernel
theorem dX5_changeMail_126 : decode cX5_changeMail 126 = .ok (.iconst 2, 1) := by decide +kernel
theorem dX5_changeMail_127 : decode cX5_changeMail 127 = .ok (.invokevirtual 338, 3) := by decide +kernel
theorem dX5_changeMail_130 : decode cX5_changeMail 130 = .ok (.iconst 0, 1) := by decide +kernel
theorem dX5_changeMail_131 : decode cX5_changeMail 131 = .ok (.ireturn, 1) := by decide +kernel
theorem dX5_destroyIds_0 : decode cX5_destroyIds 0 = .ok (.aload_n 0, 1) := by decide +kernel
theorem dX5_destroyIds_1 : decode cX5_destroyIds 1 = .ok (.aload_n 1, 1) := by decide +kernel
theorem dX5_destroyIds_2 : decode cX5_destroyIds 2 = .ok (.invokevirtual 292, 3) := by decide +kernel
theorem dX5_destroyIds_5 : decode cX5_destroyIds 5 = .ok (.aload_n 0, 1) := by decide +kernel
theorem dX5_destroyIds_6 : decode cX5_destroyIds 6 = .ok (.invokevirtual 326, 3) := by decide +kernel
theorem dX5_destroyIds_9 : decode cX5_destroyIds 9 = .ok (.iconst 0, 1) := by decide +kernel
theorem dX5_destroyIds_10 : decode cX5_destroyIds 10 = .ok (.istore_n 3, 1) := by decide +kernel
theorem dX5_destroyIds_11 : decode cX5_destroyIds 11 = .ok (.iload_n 3, 1) := by decide +kernel
theorem dX5_destroyIds_12 : decode cX5_destroyIds 12 = .ok (.aload_n 0, 1) := by decide +kernel
theorem dX5_destroyIds_13 : decode cX5_destroyIds 13 = .ok (.getfield 237, 3) := by decide +kernel
theorem dX5_destroyIds_16 : decode cX5_destroyIds 16 = .ok (.if_icmp .ge 64, 3) := by decide +kernel
theorem dX5_destroyIds_19 : decode cX5_destroyIds 19 = .ok (.aload_n 1, 1) := by decide +kernel
theorem dX5_destroyIds_20 : decode cX5_destroyIds 20 = .ok (.getfield 201, 3) := by decide +kernel
theorem dX5_destroyIds_23 : decode cX5_destroyIds 23 = .ok (.ifCond .ne 16, 3) := by decide +kernel
theorem dX5_destroyIds_26 : decode cX5_destroyIds 26 = .ok (.aload_n 0, 1) := by decide +kernel
theorem dX5_destroyIds_27 : decode cX5_destroyIds 27 = .ok (.aload_n 0, 1) := by decide +kernel
theorem dX5_destroyIds_28 : decode cX5_destroyIds 28 = .ok (.getfield 54, 3) := by decide +kernel
theorem dX5_destroyIds_31 : decode cX5_destroyIds 31 = .ok (.iload_n 3, 1) := by decide +kernel
theorem dX5_destroyIds_32 : decode cX5_destroyIds 32 = .ok (.iaload, 1) := by decide +kernel
theorem dX5_destroyIds_33 : decode cX5_destroyIds 33 = .ok (.invokevirtual 344, 3) := by decide +kernel
theorem dX5_destroyIds_36 : decode cX5_destroyIds 36 = .ok (.goto 13, 3) := by decide +kernel
theorem dX5_destroyIds_39 : decode cX5_destroyIds 39 = .ok (.aload_n 0, 1) := by decide +kernel
theorem dX5_destroyIds_40 : decode cX5_destroyIds 40 = .ok (.aload_n 0, 1) := by decide +kernel
theorem dX5_destroyIds_41 : decode cX5_destroyIds 41 = .ok (.getfield 54, 3) := by decide +kernel
theorem dX5_destroyIds_44 : decode cX5_destroyIds 44 = .ok (.iload_n 3, 1) := by decide +kernel
theorem dX5_destroyIds_45 : decode cX5_destroyIds 45 = .ok (.iaload, 1) := by decide +kernel
theorem dX5_destroyIds_46 : decode cX5_destroyIds 46 = .ok (.invokevirtual 347, 3) := by decide +kernel
theorem dX5_destroyIds_49 : decode cX5_destroyIds 49 = .ok (.istore 4, 2) := by decide +kernel
theorem dX5_destroyIds_51 : decode cX5_destroyIds 51 = .ok (.iload 4, 2) := by decide +kernel
theorem dX5_destroyIds_53 : decode cX5_destroyIds 53 = .ok (.ifCond .eq 10, 3) := by decide +kernel
theorem dX5_destroyIds_56 : decode cX5_destroyIds 56 = .ok (.aload_n 0, 1) := by decide +kernel
theorem dX5_destroyIds_57 : decode cX5_destroyIds 57 = .ok (.invokevirtual 335, 3) := by decide +kernel
theorem dX5_destroyIds_60 : decode cX5_destroyIds 60 = .ok (.iload 4, 2) := by decide +kernel
theorem dX5_destroyIds_62 : decode cX5_destroyIds 62 = .ok (.ireturn, 1) := by decide +kernel
theorem dX5_destroyIds_63 : decode cX5_destroyIds 63 = .ok (.aload_n 2, 1) := by decide +kernel
theorem dX5_destroyIds_64 : decode cX5_destroyIds 64 = .ok (.iconst 3, 1) := by decide +kernel
theorem dX5_destroyIds_65 : decode cX5_destroyIds 65 = .ok (.aload_n 0, 1) := by decide +kernel
theorem dX5_destroyIds_66 : decode cX5_destroyIds 66 = .ok (.getfield 54, 3) := by decide +kernel
theorem dX5_destroyIds_69 : decode cX5_destroyIds 69 = .ok (.iload_n 3, 1) := by decide +kernel
theorem dX5_destroyIds_70 : decode cX5_destroyIds 70 = .ok (.iaload, 1) := by decide +kernel
theorem dX5_destroyIds_71 : decode cX5_destroyIds 71 = .ok (.invokevirtual 296, 3) := by decide +kernel
theorem dX5_destroyIds_74 : decode cX5_destroyIds 74 = .ok (.iinc 3 1, 3) := by decide +kernel
theorem dX5_destroyIds_77 : decode cX5_destroyIds 77 = .ok (.goto (-66), 3) := by decide +kernel
theorem dX5_destroyIds_80 : decode cX5_destroyIds 80 = .ok (.iconst 0, 1) := by decide +kernel
theorem dX5_destroyIds_81 : decode cX5_destroyIds 81 = .ok (.ireturn, 1) := by decide +kernel
theorem dX5_destroyBox_0 : decode cX5_destroyBox 0 = .ok (.aload_n 0, 1) := by decide +kernel
theorem dX5_destroyBox_1 : decode cX5_destroyBox 1 = .ok (.getfield 30, 3) := by decide +kernel
theorem dX5_destroyBox_4 : decode cX5_destroyBox 4 = .ok (.iload_n 1, 1) := by decide +kernel
theorem dX5_destroyBox_5 : decode cX5_destroyBox 5 = .ok (.invokevirtual 149, 3) := by decide +kernel
theorem dX5_destroyBox_8 : decode cX5_destroyBox 8 = .ok (.ifCond .ne 5, 3) := by decide +kernel
theorem dX5_destroyBox_11 : decode cX5_destroyBox 11 = .ok (.iconst (-1), 1) := by decide +kernel
theorem dX5_destroyBox_12 : decode cX5_destroyBox 12 = .ok (.ireturn, 1) := by decide +kernel
theorem dX5_destroyBox_13 : decode cX5_destroyBox 13 = .ok (.aload_n 0, 1) := by decide +kernel
theorem dX5_destroyBox_14 : decode cX5_destroyBox 14 = .ok (.getfield 30, 3) := by decide +kernel
theorem dX5_destroyBox_17 : decode cX5_destroyBox 17 = .ok (.iconst 1, 1) := by decide +kernel
theorem dX5_destroyBox_18 : decode cX5_destroyBox 18 = .ok (.iload_n 1, 1) := by decide +kernel
theorem dX5_destroyBox_19 : decode cX5_destroyBox 19 = .ok (.invokevirtual 158, 3) := by decide +kernel
theorem dX5_destroyBox_22 : decode cX5_destroyBox 22 = .ok (.ifCond .gt 11, 3) := by decide +kernel
theorem dX5_destroyBox_25 : decode cX5_destroyBox 25 = .ok (.aload_n 0, 1) := by decide +kernel
theorem dX5_destroyBox_26 : decode cX5_destroyBox 26 = .ok (.iload_n 1, 1) := by decide +kernel
theorem dX5_destroyBox_27 : decode cX5_destroyBox 27 = .ok (.invokevirtual 155, 3) := by decide +kernel
theorem dX5_destroyBox_30 : decode cX5_destroyBox 30 = .ok (.ifCond .le 6, 3) := by decide +kernel
theorem dX5_destroyBox_33 : decode cX5_destroyBox 33 = .ok (.bipush (-3), 2) := by decide +kernel
theorem dX5_destroyBox_35 : decode cX5_destroyBox 35 = .ok (.ireturn, 1) := by decide +kernel
theorem dX5_destroyBox_36 : decode cX5_destroyBox 36 = .ok (.aload_n 0, 1) := by decide +kernel
theorem dX5_destroyBox_37 : decode cX5_destroyBox 37 = .ok (.getfield 30, 3) := by decide +kernel
theorem dX5_destroyBox_40 : decode cX5_destroyBox 40 = .ok (.iload_n 1, 1) := by decide +kernel
theorem dX5_destroyBox_41 : decode cX5_destroyBox 41 = .ok (.invokevirtual 350, 3) := by decide +kernel
theorem dX5_destroyBox_44 : decode cX5_destroyBox 44 = .ok (.iconst 0, 1) := by decide +kernel
theorem dX5_destroyBox_45 : decode cX5_destroyBox 45 = .ok (.ireturn, 1) := by decide +kernel
theorem dX5_destroyMail_0 : decode cX5_destroyMail 0 = .ok (.aload_n 0, 1) := by decide +kernel
theorem dX5_destroyMail_1 : decode cX5_destroyMail 1 = .ok (.getfield 34, 3) := by decide +kernel
theorem dX5_destroyMail_4 : decode cX5_destroyMail 4 = .ok (.iload_n 1, 1) := by decide +kernel
theorem dX5_destroyMail_5 : decode cX5_destroyMail 5 = .ok (.invokevirtual 149, 3) := by decide +kernel
theorem dX5_destroyMail_8 : decode cX5_destroyMail 8 = .ok (.ifCond .ne 5, 3) := by decide +kernel
theorem dX5_destroyMail_11 : decode cX5_destroyMail 11 = .ok (.iconst (-1), 1) := by decide +kernel
theorem dX5_destroyMail_12 : decode cX5_destroyMail 12 = .ok (.ireturn, 1) := by decide +kernel
theorem dX5_destroyMail_13 : decode cX5_destroyMail 13 = .ok (.aload_n 0, 1) := by decide +kernel
theorem dX5_destroyMail_14 : decode cX5_destroyMail 14 = .ok (.getfield 34, 3) := by decide +kernel
theorem dX5_destroyMail_17 : decode cX5_destroyMail 17 = .ok (.iload_n 1, 1) := by decide +kernel
theorem dX5_destroyMail_18 : decode cX5_destroyMail 18 = .ok (.invokevirtual 350, 3) := by decide +kernel
theorem dX5_destroyMail_21 : decode cX5_destroyMail 21 = .ok (.aload_n 0, 1) := by decide +kernel
theorem dX5_destroyMail_22 : decode cX5_destroyMail 22 = .ok (.iload_n 1, 1) := by decide +kernel
theorem dX5_destroyMail_23 : decode cX5_destroyMail 23 = .ok (.invokevirtual 353, 3) := by decide +kernel
theorem dX5_destroyMail_26 : decode cX5_destroyMail 26 = .ok (.iconst 0, 1) := by decide +kernel
theorem dX5_destroyMail_27 : decode cX5_destroyMail 27 = .ok (.ireturn, 1) := by decide +kernel
theorem dX5_isNameTaken_0 : decode cX5_isNameTaken 0 = .ok (.iconst 0, 1) := by decide +kernel
theorem dX5_isNameTaken_1 : decode cX5_isNameTaken 1 = .ok (.istore 4, 2) := by decide +kernel
theorem dX5_isNameTaken_3 : decode cX5_isNameTaken 3 = .ok (.iload 4, 2) := by decide +kernel
theorem dX5_isNameTaken_5 : decode cX5_isNameTaken 5 = .ok (.aload_n 0, 1) := by decide +kernel
theorem dX5_isNameTaken_6 : decode cX5_isNameTaken 6 = .ok (.getfield 30, 3) := by decide +kernel
theorem dX5_isNameTaken_9 : decode cX5_isNameTaken 9 = .ok (.getfield 146, 3) := by decide +kernel
theorem dX5_isNameTaken_12 : decode cX5_isNameTaken 12 = .ok (.if_icmp .ge 57, 3) := by decide +kernel
theorem dX5_isNameTaken_15 : decode cX5_isNameTaken 15 = .ok (.iload 4, 2) := by decide +kernel
theorem dX5_isNameTaken_17 : decode cX5_isNameTaken 17 = .ok (.iload_n 3, 1) := by decide +kernel
theorem dX5_isNameTaken_18 : decode cX5_isNameTaken 18 = .ok (.if_icmp .eq 45, 3) := by decide +kernel
theorem dX5_isNameTaken_21 : decode cX5_isNameTaken 21 = .ok (.aload_n 0, 1) := by decide +kernel
theorem dX5_isNameTaken_22 : decode cX5_isNameTaken 22 = .ok (.getfield 30, 3) := by decide +kernel
theorem dX5_isNameTaken_25 : decode cX5_isNameTaken 25 = .ok (.iload 4, 2) := by decide +kernel
theorem dX5_isNameTaken_27 : decode cX5_isNameTaken 27 = .ok (.invokevirtual 149, 3) := by decide +kernel
theorem dX5_isNameTaken_30 : decode cX5_isNameTaken 30 = .ok (.ifCond .eq 33, 3) := by decide +kernel
theorem dX5_isNameTaken_33 : decode cX5_isNameTaken 33 = .ok (.aload_n 0, 1) := by decide +kernel
theorem dX5_isNameTaken_34 : decode cX5_isNameTaken 34 = .ok (.getfield 30, 3) := by decide +kernel
theorem dX5_isNameTaken_37 : decode cX5_isNameTaken 37 = .ok (.iload 4, 2) := by decide +kernel
theorem dX5_isNameTaken_39 : decode cX5_isNameTaken 39 = .ok (.iconst 0, 1) := by decide +kernel
theorem dX5_isNameTaken_40 : decode cX5_isNameTaken 40 = .ok (.invokevirtual 152, 3) := by decide +kernel
theorem dX5_isNameTaken_43 : decode cX5_isNameTaken 43 = .ok (.iload_n 1, 1) := by decide +kernel
theorem dX5_isNameTaken_44 : decode cX5_isNameTaken 44 = .ok (.if_icmp .ne 19, 3) := by decide +kernel
theorem dX5_isNameTaken_47 : decode cX5_isNameTaken 47 = .ok (.aload_n 0, 1) := by decide +kernel
theorem dX5_isNameTaken_48 : decode cX5_isNameTaken 48 = .ok (.getfield 30, 3) := by decide +kernel
theorem dX5_isNameTaken_51 : decode cX5_isNameTaken 51 = .ok (.iload 4, 2) := by decide +kernel
theorem dX5_isNameTaken_53 : decode cX5_isNameTaken 53 = .ok (.iconst 1, 1) := by decide +kernel
theorem dX5_isNameTaken_54 : decode cX5_isNameTaken 54 = .ok (.invokevirtual 152, 3) := by decide +kernel
theorem dX5_isNameTaken_57 : decode cX5_isNameTaken 57 = .ok (.iload_n 2, 1) := by decide +kernel
theorem dX5_isNameTaken_58 : decode cX5_isNameTaken 58 = .ok (.if_icmp .ne 5, 3) := by decide +kernel
theorem dX5_isNameTaken_61 : decode cX5_isNameTaken 61 = .ok (.iconst 1, 1) := by decide +kernel
theorem dX5_isNameTaken_62 : decode cX5_isNameTaken 62 = .ok (.ireturn, 1) := by decide +kernel
theorem dX5_isNameTaken_63 : decode cX5_isNameTaken 63 = .ok (.iinc 4 1, 3) := by decide +kernel
theorem dX5_isNameTaken_66 : decode cX5_isNameTaken 66 = .ok (.goto (-63), 3) := by decide +kernel
theorem dX5_isNameTaken_69 : decode cX5_isNameTaken 69 = .ok (.iconst 0, 1) := by decide +kernel
theorem dX5_isNameTaken_70 : decode cX5_isNameTaken 70 = .ok (.ireturn, 1) := by decide +kernel
theorem dX5_depthOf_0 : decode cX5_depthOf 0 = .ok (.iconst 0, 1) := by decide +kernel
theorem dX5_depthOf_1 : decode cX5_depthOf 1 = .ok (.istore_n 2, 1) := by decide +kernel
theorem dX5_depthOf_2 : decode cX5_depthOf 2 = .ok (.iload_n 1, 1) := by decide +kernel
theorem dX5_depthOf_3 : decode cX5_depthOf 3 = .ok (.istore_n 3, 1) := by decide +kernel
theorem dX5_depthOf_4 : decode cX5_depthOf 4 = .ok (.iload_n 2, 1) := by decide +kernel
theorem dX5_depthOf_5 : decode cX5_depthOf 5 = .ok (.iconst 4, 1) := by decide +kernel
theorem dX5_depthOf_6 : decode cX5_depthOf 6 = .ok (.if_icmp .gt 31, 3) := by decide +kernel
theorem dX5_depthOf_9 : decode cX5_depthOf 9 = .ok (.iload_n 3, 1) := by decide +kernel
theorem dX5_depthOf_10 : decode cX5_depthOf 10 = .ok (.ifCond .lt 27, 3) := by decide +kernel
theorem dX5_depthOf_13 : decode cX5_depthOf 13 = .ok (.iload_n 3, 1) := by decide +kernel
theorem dX5_depthOf_14 : decode cX5_depthOf 14 = .ok (.bipush 50, 2) := by decide +kernel
theorem dX5_depthOf_16 : decode cX5_depthOf 16 = .ok (.if_icmp .ge 21, 3) := by decide +kernel
theorem dX5_depthOf_19 : decode cX5_depthOf 19 = .ok (.iinc 2 1, 3) := by decide +kernel
theorem dX5_depthOf_22 : decode cX5_depthOf 22 = .ok (.aload_n 0, 1) := by decide +kernel
theorem dX5_depthOf_23 : decode cX5_depthOf 23 = .ok (.getfield 30, 3) := by decide +kernel
theorem dX5_depthOf_26 : decode cX5_depthOf 26 = .ok (.getfield 356, 3) := by decide +kernel
theorem dX5_depthOf_29 : decode cX5_depthOf 29 = .ok (.iconst 1, 1) := by decide +kernel
theorem dX5_depthOf_30 : decode cX5_depthOf 30 = .ok (.aaload, 1) := by decide +kernel
theorem dX5_depthOf_31 : decode cX5_depthOf 31 = .ok (.iload_n 3, 1) := by decide +kernel
theorem dX5_depthOf_32 : decode cX5_depthOf 32 = .ok (.iaload, 1) := by decide +kernel
theorem dX5_depthOf_33 : decode cX5_depthOf 33 = .ok (.istore_n 3, 1) := by decide +kernel
theorem dX5_depthOf_34 : decode cX5_depthOf 34 = .ok (.goto (-30), 3) := by decide +kernel
theorem dX5_depthOf_37 : decode cX5_depthOf 37 = .ok (.iload_n 2, 1) := by decide +kernel
theorem dX5_depthOf_38 : decode cX5_depthOf 38 = .ok (.ireturn, 1) := by decide +kernel
theorem dX5_isAnyTooDeep_0 : decode cX5_isAnyTooDeep 0 = .ok (.iconst 0, 1) := by decide +kernel
theorem dX5_isAnyTooDeep_1 : decode cX5_isAnyTooDeep 1 = .ok (.istore_n 1, 1) := by decide +kernel
theorem dX5_isAnyTooDeep_2 : decode cX5_isAnyTooDeep 2 = .ok (.iload_n 1, 1) := by decide +kernel
theorem dX5_isAnyTooDeep_3 : decode cX5_isAnyTooDeep 3 = .ok (.aload_n 0, 1) := by decide +kernel
theorem dX5_isAnyTooDeep_4 : decode cX5_isAnyTooDeep 4 = .ok (.getfield 30, 3) := by decide +kernel
theorem dX5_isAnyTooDeep_7 : decode cX5_isAnyTooDeep 7 = .ok (.getfield 146, 3) := by decide +kernel
theorem dX5_isAnyTooDeep_10 : decode cX5_isAnyTooDeep 10 = .ok (.if_icmp .ge 31, 3) := by decide +kernel
theorem dX5_isAnyTooDeep_13 : decode cX5_isAnyTooDeep 13 = .ok (.aload_n 0, 1) := by decide +kernel
theorem dX5_isAnyTooDeep_14 : decode cX5_isAnyTooDeep 14 = .ok (.getfield 30, 3) := by decide +kernel
theorem dX5_isAnyTooDeep_17 : decode cX5_isAnyTooDeep 17 = .ok (.iload_n 1, 1) := by decide +kernel
theorem dX5_isAnyTooDeep_18 : decode cX5_isAnyTooDeep 18 = .ok (.invokevirtual 149, 3) := by decide +kernel
theorem dX5_isAnyTooDeep_21 : decode cX5_isAnyTooDeep 21 = .ok (.ifCond .eq 14, 3) := by decide +kernel
theorem dX5_isAnyTooDeep_24 : decode cX5_isAnyTooDeep 24 = .ok (.aload_n 0, 1) := by decide +kernel
theorem dX5_isAnyTooDeep_25 : decode cX5_isAnyTooDeep 25 = .ok (.iload_n 1, 1) := by decide +kernel
theorem dX5_isAnyTooDeep_26 : decode cX5_isAnyTooDeep 26 = .ok (.invokevirtual 161, 3) := by decide +kernel
theorem dX5_isAnyTooDeep_29 : decode cX5_isAnyTooDeep 29 = .ok (.iconst 4, 1) := by decide +kernel
theorem dX5_isAnyTooDeep_30 : decode cX5_isAnyTooDeep 30 = .ok (.if_icmp .le 5, 3) := by decide +kernel
theorem dX5_isAnyTooDeep_33 : decode cX5_isAnyTooDeep 33 = .ok (.iconst 1, 1) := by decide +kernel
theorem dX5_isAnyTooDeep_34 : decode cX5_isAnyTooDeep 34 = .ok (.ireturn, 1) := by decide +kernel
theorem dX5_isAnyTooDeep_35 : decode cX5_isAnyTooDeep 35 = .ok (.iinc 1 1, 3) := by decide +kernel
theorem dX5_isAnyTooDeep_38 : decode cX5_isAnyTooDeep 38 = .ok (.goto (-36), 3) := by decide +kernel
theorem dX5_isAnyTooDeep_41 : decode cX5_isAnyTooDeep 41 = .ok (.iconst 0, 1) := by decide +kernel
theorem dX5_isAnyTooDeep_42 : decode cX5_isAnyTooDeep 42 = .ok (.ireturn, 1) := by decide +kernel
theorem dX5_bitOf_0 : decode cX5_bitOf 0 = .ok (.iload_n 0, 1) := by decide +kernel
theorem dX5_bitOf_1 : decode cX5_bitOf 1 = .ok (.ifCond .lt 15, 3) := by decide +kernel
theorem dX5_bitOf_4 : decode cX5_bitOf 4 = .ok (.iload_n 0, 1) := by decide +kernel
theorem dX5_bitOf_5 : decode cX5_bitOf 5 = .ok (.bipush 20, 2) := by decide +kernel
theorem dX5_bitOf_7 : decode cX5_bitOf 7 = .ok (.if_icmp .ge 9, 3) := by decide +kernel
theorem dX5_bitOf_10 : decode cX5_bitOf 10 = .ok (.iconst 1, 1) := by decide +kernel
theorem dX5_bitOf_11 : decode cX5_bitOf 11 = .ok (.iload_n 0, 1) := by decide +kernel
theorem dX5_bitOf_12 : decode cX5_bitOf 12 = .ok (.ishl, 1) := by decide +kernel
theorem dX5_bitOf_13 : decode cX5_bitOf 13 = .ok (.goto 4, 3) := by decide +kernel
theorem dX5_bitOf_16 : decode cX5_bitOf 16 = .ok (.iconst 0, 1) := by decide +kernel
theorem dX5_bitOf_17 : decode cX5_bitOf 17 = .ok (.ireturn, 1) := by decide +kernel
theorem dX5_isIn_0 : decode cX5_isIn 0 = .ok (.aload_n 0, 1) := by decide +kernel
theorem dX5_isIn_1 : decode cX5_isIn 1 = .ok (.getfield 34, 3) := by decide +kernel
theorem dX5_isIn_4 : decode cX5_isIn 4 = .ok (.iload_n 1, 1) := by decide +kernel
theorem dX5_isIn_5 : decode cX5_isIn 5 = .ok (.bipush 8, 2) := by decide +kernel
theorem dX5_isIn_7 : decode cX5_isIn 7 = .ok (.invokevirtual 152, 3) := by decide +kernel
theorem dX5_isIn_10 : decode cX5_isIn 10 = .ok (.iload_n 2, 1) := by decide +kernel
theorem dX5_isIn_11 : decode cX5_isIn 11 = .ok (.invokestatic 320, 3) := by decide +kernel
theorem dX5_isIn_14 : decode cX5_isIn 14 = .ok (.iand, 1) := by decide +kernel
theorem dX5_isIn_15 : decode cX5_isIn 15 = .ok (.ifCond .eq 7, 3) := by decide +kernel
theorem dX5_isIn_18 : decode cX5_isIn 18 = .ok (.iconst 1, 1) := by decide +kernel
theorem dX5_isIn_19 : decode cX5_isIn 19 = .ok (.goto 4, 3) := by decide +kernel
theorem dX5_isIn_22 : decode cX5_isIn 22 = .ok (.iconst 0, 1) := by decide +kernel
theorem dX5_isIn_23 : decode cX5_isIn 23 = .ok (.ireturn, 1) := by decide +kernel
theorem dX5_mailsIn_0 : decode cX5_mailsIn 0 = .ok (.iconst 0, 1) := by decide +kernel
theorem dX5_mailsIn_1 : decode cX5_mailsIn 1 = .ok (.istore_n 2, 1) := by decide +kernel
theorem dX5_mailsIn_2 : decode cX5_mailsIn 2 = .ok (.iconst 0, 1) := by decide +kernel
theorem dX5_mailsIn_3 : decode cX5_mailsIn 3 = .ok (.istore_n 3, 1) := by decide +kernel
theorem dX5_mailsIn_4 : decode cX5_mailsIn 4 = .ok (.iload_n 3, 1) := by decide +kernel
theorem dX5_mailsIn_5 : decode cX5_mailsIn 5 = .ok (.aload_n 0, 1) := by decide +kernel
theorem dX5_mailsIn_6 : decode cX5_mailsIn 6 = .ok (.getfield 34, 3) := by decide +kernel
theorem dX5_mailsIn_9 : decode cX5_mailsIn 9 = .ok (.getfield 146, 3) := by decide +kernel
theorem dX5_mailsIn_12 : decode cX5_mailsIn 12 = .ok (.if_icmp .ge 32, 3) := by decide +kernel
theorem dX5_mailsIn_15 : decode cX5_mailsIn 15 = .ok (.aload_n 0, 1) := by decide +kernel
theorem dX5_mailsIn_16 : decode cX5_mailsIn 16 = .ok (.getfield 34, 3) := by decide +kernel
theorem dX5_mailsIn_19 : decode cX5_mailsIn 19 = .ok (.iload_n 3, 1) := by decide +kernel
theorem dX5_mailsIn_20 : decode cX5_mailsIn 20 = .ok (.invokevirtual 149, 3) := by decide +kernel
theorem dX5_mailsIn_23 : decode cX5_mailsIn 23 = .ok (.ifCond .eq 15, 3) := by decide +kernel
theorem dX5_mailsIn_26 : decode cX5_mailsIn 26 = .ok (.aload_n 0, 1) := by decide +kernel
theorem dX5_mailsIn_27 : decode cX5_mailsIn 27 = .ok (.iload_n 3, 1) := by decide +kernel
theorem dX5_mailsIn_28 : decode cX5_mailsIn 28 = .ok (.iload_n 1, 1) := by decide +kernel
theorem dX5_mailsIn_29 : decode cX5_mailsIn 29 = .ok (.invokevirtual 169, 3) := by decide +kernel
theorem dX5_mailsIn_32 : decode cX5_mailsIn 32 = .ok (.ifCond .eq 6, 3) := by decide +kernel
theorem dX5_mailsIn_35 : decode cX5_mailsIn 35 = .ok (.iinc 2 1, 3) := by decide +kernel
theorem dX5_mailsIn_38 : decode cX5_mailsIn 38 = .ok (.iinc 3 1, 3) := by decide +kernel
theorem dX5_mailsIn_41 : decode cX5_mailsIn 41 = .ok (.goto (-37), 3) := by decide +kernel
theorem dX5_mailsIn_44 : decode cX5_mailsIn 44 = .ok (.iload_n 2, 1) := by decide +kernel
theorem dX5_mailsIn_45 : decode cX5_mailsIn 45 = .ok (.ireturn, 1) := by decide +kernel
theorem dX5_comeToThread_0 : decode cX5_comeToThread 0 = .ok (.aload_n 0, 1) := by decide +kernel
theorem dX5_comeToThread_1 : decode cX5_comeToThread 1 = .ok (.iload_n 1, 1) := by decide +kernel
theorem dX5_comeToThread_2 : decode cX5_comeToThread 2 = .ok (.invokevirtual 360, 3) := by decide +kernel
theorem dX5_comeToThread_5 : decode cX5_comeToThread 5 = .ok (.istore_n 2, 1) := by decide +kernel
theorem dX5_comeToThread_6 : decode cX5_comeToThread 6 = .ok (.iload_n 2, 1) := by decide +kernel
theorem dX5_comeToThread_7 : decode cX5_comeToThread 7 = .ok (.bipush (-9), 2) := by decide +kernel
theorem dX5_comeToThread_9 : decode cX5_comeToThread 9 = .ok (.if_icmp .ne 14, 3) := by decide +kernel
theorem dX5_comeToThread_12 : decode cX5_comeToThread 12 = .ok (.aload_n 0, 1) := by decide +kernel
theorem dX5_comeToThread_13 : decode cX5_comeToThread 13 = .ok (.getfield 37, 3) := by decide +kernel
theorem dX5_comeToThread_16 : decode cX5_comeToThread 16 = .ok (.invokevirtual 314, 3) := by decide +kernel
theorem dX5_comeToThread_19 : decode cX5_comeToThread 19 = .ok (.istore_n 2, 1) := by decide +kernel
theorem dX5_comeToThread_20 : decode cX5_comeToThread 20 = .ok (.goto 12, 3) := by decide +kernel
theorem dX5_comeToThread_23 : decode cX5_comeToThread 23 = .ok (.aload_n 0, 1) := by decide +kernel
theorem dX5_comeToThread_24 : decode cX5_comeToThread 24 = .ok (.getfield 37, 3) := by decide +kernel
theorem dX5_comeToThread_27 : decode cX5_comeToThread 27 = .ok (.iload_n 2, 1) := by decide +kernel
theorem dX5_comeToThread_28 : decode cX5_comeToThread 28 = .ok (.iconst 2, 1) := by decide +kernel
theorem dX5_comeToThread_29 : decode cX5_comeToThread 29 = .ok (.invokevirtual 338, 3) := by decide +kernel
theorem dX5_comeToThread_32 : decode cX5_comeToThread 32 = .ok (.aload_n 0, 1) := by decide +kernel
theorem dX5_comeToThread_33 : decode cX5_comeToThread 33 = .ok (.getfield 37, 3) := by decide +kernel
theorem dX5_comeToThread_36 : decode cX5_comeToThread 36 = .ok (.iload_n 2, 1) := by decide +kernel
theorem dX5_comeToThread_37 : decode cX5_comeToThread 37 = .ok (.iconst 0, 1) := by decide +kernel
theorem dX5_comeToThread_38 : decode cX5_comeToThread 38 = .ok (.aload_n 0, 1) := by decide +kernel
theorem dX5_comeToThread_39 : decode cX5_comeToThread 39 = .ok (.getfield 37, 3) := by decide +kernel
theorem dX5_comeToThread_42 : decode cX5_comeToThread 42 = .ok (.iload_n 2, 1) := by decide +kernel
theorem dX5_comeToThread_43 : decode cX5_comeToThread 43 = .ok (.iconst 0, 1) := by decide +kernel
theorem dX5_comeToThread_44 : decode cX5_comeToThread 44 = .ok (.invokevirtual 152, 3) := by decide +kernel
theorem dX5_comeToThread_47 : decode cX5_comeToThread 47 = .ok (.iconst 1, 1) := by decide +kernel
theorem dX5_comeToThread_48 : decode cX5_comeToThread 48 = .ok (.iadd, 1) := by decide +kernel
theorem dX5_comeToThread_49 : decode cX5_comeToThread 49 = .ok (.invokevirtual 316, 3) := by decide +kernel
theorem dX5_comeToThread_52 : decode cX5_comeToThread 52 = .ok (.aload_n 0, 1) := by decide +kernel
theorem dX5_comeToThread_53 : decode cX5_comeToThread 53 = .ok (.getfield 34, 3) := by decide +kernel
theorem dX5_comeToThread_56 : decode cX5_comeToThread 56 = .ok (.iload_n 1, 1) := by decide +kernel
theorem dX5_comeToThread_57 : decode cX5_comeToThread 57 = .ok (.bipush 7, 2) := by decide +kernel
theorem dX5_comeToThread_59 : decode cX5_comeToThread 59 = .ok (.iload_n 2, 1) := by decide +kernel
theorem dX5_comeToThread_60 : decode cX5_comeToThread 60 = .ok (.invokevirtual 316, 3) := by decide +kernel
theorem dX5_comeToThread_63 : decode cX5_comeToThread 63 = .ok (.return_, 1) := by decide +kernel
theorem dX5_leaveThread_0 : decode cX5_leaveThread 0 = .ok (.aload_n 0, 1) := by decide +kernel
theorem dX5_leaveThread_1 : decode cX5_leaveThread 1 = .ok (.getfield 34, 3) := by decide +kernel
theorem dX5_leaveThread_4 : decode cX5_leaveThread 4 = .ok (.iload_n 1, 1) := by decide +kernel
theorem dX5_leaveThread_5 : decode cX5_leaveThread 5 = .ok (.bipush 7, 2) := by decide +kernel
theorem dX5_leaveThread_7 : decode cX5_leaveThread 7 = .ok (.invokevirtual 152, 3) := by decide +kernel
theorem dX5_leaveThread_10 : decode cX5_leaveThread 10 = .ok (.istore_n 2, 1) := by decide +kernel
theorem dX5_leaveThread_11 : decode cX5_leaveThread 11 = .ok (.aload_n 0, 1) := by decide +kernel
theorem dX5_leaveThread_12 : decode cX5_leaveThread 12 = .ok (.getfield 37, 3) := by decide +kernel
theorem dX5_leaveThread_15 : decode cX5_leaveThread 15 = .ok (.iload_n 2, 1) := by decide +kernel
theorem dX5_leaveThread_16 : decode cX5_leaveThread 16 = .ok (.iconst 0, 1) := by decide +kernel
theorem dX5_leaveThread_17 : decode cX5_leaveThread 17 = .ok (.invokevirtual 152, 3) := by decide +kernel
theorem dX5_leaveThread_20 : decode cX5_leaveThread 20 = .ok (.iconst 1, 1) := by decide +kernel
theorem dX5_leaveThread_21 : decode cX5_leaveThread 21 = .ok (.isub, 1) := by decide +kernel
theorem dX5_leaveThread_22 : decode cX5_leaveThread 22 = .ok (.istore_n 3, 1) := by decide +kernel
theorem dX5_leaveThread_23 : decode cX5_leaveThread 23 = .ok (.aload_n 0, 1) := by decide +kernel
theorem dX5_leaveThread_24 : decode cX5_leaveThread 24 = .ok (.getfield 37, 3) := by decide +kernel
theorem dX5_leaveThread_27 : decode cX5_leaveThread 27 = .ok (.iload_n 2, 1) := by decide +kernel
theorem dX5_leaveThread_28 : decode cX5_leaveThread 28 = .ok (.iconst 0, 1) := by decide +kernel
theorem dX5_leaveThread_29 : decode cX5_leaveThread 29 = .ok (.iload_n 3, 1) := by decide +kernel
theorem dX5_leaveThread_30 : decode cX5_leaveThread 30 = .ok (.invokevirtual 316, 3) := by decide +kernel
theorem dX5_leaveThread_33 : decode cX5_leaveThread 33 = .ok (.iload_n 3, 1) := by decide +kernel
theorem dX5_leaveThread_34 : decode cX5_leaveThread 34 = .ok (.ifCond .ne 14, 3) := by decide +kernel
theorem dX5_leaveThread_37 : decode cX5_leaveThread 37 = .ok (.aload_n 0, 1) := by decide +kernel
theorem dX5_leaveThread_38 : decode cX5_leaveThread 38 = .ok (.getfield 37, 3) := by decide +kernel
theorem dX5_leaveThread_41 : decode cX5_leaveThread 41 = .ok (.iload_n 2, 1) := by decide +kernel
theorem dX5_leaveThread_42 : decode cX5_leaveThread 42 = .ok (.invokevirtual 350, 3) := by decide +kernel
theorem dX5_leaveThread_45 : decode cX5_leaveThread 45 = .ok (.goto 12, 3) := by decide +kernel
theorem dX5_leaveThread_48 : decode cX5_leaveThread 48 = .ok (.aload_n 0, 1) := by decide +kernel
theorem dX5_leaveThread_49 : decode cX5_leaveThread 49 = .ok (.getfield 37, 3) := by decide +kernel
theorem dX5_leaveThread_52 : decode cX5_leaveThread 52 = .ok (.iload_n 2, 1) := by decide +kernel
theorem dX5_leaveThread_53 : decode cX5_leaveThread 53 = .ok (.iconst 2, 1) := by decide +kernel
theorem dX5_leaveThread_54 : decode cX5_leaveThread 54 = .ok (.invokevirtual 338, 3) := by decide +kernel
theorem dX5_leaveThread_57 : decode cX5_leaveThread 57 = .ok (.return_, 1) := by decide +kernel
theorem dX5_threadFor_0 : decode cX5_threadFor 0 = .ok (.iconst 0, 1) := by decide +kernel
theorem dX5_threadFor_1 : decode cX5_threadFor 1 = .ok (.istore_n 2, 1) := by decide +kernel
theorem dX5_threadFor_2 : decode cX5_threadFor 2 = .ok (.iload_n 2, 1) := by decide +kernel
theorem dX5_threadFor_3 : decode cX5_threadFor 3 = .ok (.iload_n 1, 1) := by decide +kernel
theorem dX5_threadFor_4 : decode cX5_threadFor 4 = .ok (.if_icmp .ge 61, 3) := by decide +kernel
theorem dX5_threadFor_7 : decode cX5_threadFor 7 = .ok (.aload_n 0, 1) := by decide +kernel
theorem dX5_threadFor_8 : decode cX5_threadFor 8 = .ok (.getfield 34, 3) := by decide +kernel
theorem dX5_threadFor_11 : decode cX5_threadFor 11 = .ok (.iload_n 2, 1) := by decide +kernel
theorem dX5_threadFor_12 : decode cX5_threadFor 12 = .ok (.invokevirtual 149, 3) := by decide +kernel
theorem dX5_threadFor_15 : decode cX5_threadFor 15 = .ok (.ifCond .eq 44, 3) := by decide +kernel
theorem dX5_threadFor_18 : decode cX5_threadFor 18 = .ok (.aload_n 0, 1) := by decide +kernel
theorem dX5_threadFor_19 : decode cX5_threadFor 19 = .ok (.getfield 34, 3) := by decide +kernel
theorem dX5_threadFor_22 : decode cX5_threadFor 22 = .ok (.iload_n 2, 1) := by decide +kernel
theorem dX5_threadFor_23 : decode cX5_threadFor 23 = .ok (.iconst 0, 1) := by decide +kernel
theorem dX5_threadFor_24 : decode cX5_threadFor 24 = .ok (.invokevirtual 152, 3) := by decide +kernel
theorem dX5_threadFor_27 : decode cX5_threadFor 27 = .ok (.aload_n 0, 1) := by decide +kernel
theorem dX5_threadFor_28 : decode cX5_threadFor 28 = .ok (.getfield 34, 3) := by decide +kernel
theorem dX5_threadFor_31 : decode cX5_threadFor 31 = .ok (.iload_n 1, 1) := by decide +kernel
theorem dX5_threadFor_32 : decode cX5_threadFor 32 = .ok (.iconst 0, 1) := by decide +kernel
theorem dX5_threadFor_33 : decode cX5_threadFor 33 = .ok (.invokevirtual 152, 3) := by decide +kernel
theorem dX5_threadFor_36 : decode cX5_threadFor 36 = .ok (.if_icmp .ne 23, 3) := by decide +kernel
theorem dX5_threadFor_39 : decode cX5_threadFor 39 = .ok (.aload_n 0, 1) := by decide +kernel
theorem dX5_threadFor_40 : decode cX5_threadFor 40 = .ok (.iload_n 2, 1) := by decide +kernel
theorem dX5_threadFor_41 : decode cX5_threadFor 41 = .ok (.iload_n 1, 1) := by decide +kernel
theorem dX5_threadFor_42 : decode cX5_threadFor 42 = .ok (.invokevirtual 363, 3) := by decide +kernel
theorem dX5_threadFor_45 : decode cX5_threadFor 45 = .ok (.ifCond .eq 14, 3) := by decide +kernel
theorem dX5_threadFor_48 : decode cX5_threadFor 48 = .ok (.aload_n 0, 1) := by decide +kernel
theorem dX5_threadFor_49 : decode cX5_threadFor 49 = .ok (.getfield 34, 3) := by decide +kernel
theorem dX5_threadFor_52 : decode cX5_threadFor 52 = .ok (.iload_n 2, 1) := by decide +kernel
theorem dX5_threadFor_53 : decode cX5_threadFor 53 = .ok (.bipush 7, 2) := by decide +kernel
theorem dX5_threadFor_55 : decode cX5_threadFor 55 = .ok (.invokevirtual 152, 3) := by decide +kernel
theorem dX5_threadFor_58 : decode cX5_threadFor 58 = .ok (.ireturn, 1) := by decide +kernel
theorem dX5_threadFor_59 : decode cX5_threadFor 59 = .ok (.iinc 2 1, 3) := by decide +kernel
theorem dX5_threadFor_62 : decode cX5_threadFor 62 = .ok (.goto (-60), 3) := by decide +kernel
theorem dX5_threadFor_65 : decode cX5_threadFor 65 = .ok (.bipush (-9), 2) := by decide +kernel
theorem dX5_threadFor_67 : decode cX5_threadFor 67 = .ok (.ireturn, 1) := by decide +kernel
theorem dX5_doNumbersMeet_0 : decode cX5_doNumbersMeet 0 = .ok (.iconst 1, 1) := by decide +kernel
theorem dX5_doNumbersMeet_1 : decode cX5_doNumbersMeet 1 = .ok (.istore_n 3, 1) := by decide +kernel
theorem dX5_doNumbersMeet_2 : decode cX5_doNumbersMeet 2 = .ok (.iload_n 3, 1) := by decide +kernel
theorem dX5_doNumbersMeet_3 : decode cX5_doNumbersMeet 3 = .ok (.iconst 3, 1) := by decide +kernel
theorem dX5_doNumbersMeet_4 : decode cX5_doNumbersMeet 4 = .ok (.if_icmp .gt 59, 3) := by decide +kernel
theorem dX5_doNumbersMeet_7 : decode cX5_doNumbersMeet 7 = .ok (.aload_n 0, 1) := by decide +kernel
theorem dX5_doNumbersMeet_8 : decode cX5_doNumbersMeet 8 = .ok (.getfield 34, 3) := by decide +kernel
theorem dX5_doNumbersMeet_11 : decode cX5_doNumbersMeet 11 = .ok (.iload_n 1, 1) := by decide +kernel
theorem dX5_doNumbersMeet_12 : decode cX5_doNumbersMeet 12 = .ok (.iload_n 3, 1) := by decide +kernel
theorem dX5_doNumbersMeet_13 : decode cX5_doNumbersMeet 13 = .ok (.invokevirtual 152, 3) := by decide +kernel
theorem dX5_doNumbersMeet_16 : decode cX5_doNumbersMeet 16 = .ok (.istore 4, 2) := by decide +kernel
theorem dX5_doNumbersMeet_18 : decode cX5_doNumbersMeet 18 = .ok (.iconst 1, 1) := by decide +kernel
theorem dX5_doNumbersMeet_19 : decode cX5_doNumbersMeet 19 = .ok (.istore 5, 2) := by decide +kernel
theorem dX5_doNumbersMeet_21 : decode cX5_doNumbersMeet 21 = .ok (.iload 5, 2) := by decide +kernel
theorem dX5_doNumbersMeet_23 : decode cX5_doNumbersMeet 23 = .ok (.iconst 3, 1) := by decide +kernel
theorem dX5_doNumbersMeet_24 : decode cX5_doNumbersMeet 24 = .ok (.if_icmp .gt 33, 3) := by decide +kernel
theorem dX5_doNumbersMeet_27 : decode cX5_doNumbersMeet 27 = .ok (.iload 4, 2) := by decide +kernel
theorem dX5_doNumbersMeet_29 : decode cX5_doNumbersMeet 29 = .ok (.bipush (-9), 2) := by decide +kernel
theorem dX5_doNumbersMeet_31 : decode cX5_doNumbersMeet 31 = .ok (.if_icmp .eq 20, 3) := by decide +kernel
theorem dX5_doNumbersMeet_34 : decode cX5_doNumbersMeet 34 = .ok (.iload 4, 2) := by decide +kernel
theorem dX5_doNumbersMeet_36 : decode cX5_doNumbersMeet 36 = .ok (.aload_n 0, 1) := by decide +kernel
theorem dX5_doNumbersMeet_37 : decode cX5_doNumbersMeet 37 = .ok (.getfield 34, 3) := by decide +kernel
theorem dX5_doNumbersMeet_40 : decode cX5_doNumbersMeet 40 = .ok (.iload_n 2, 1) := by decide +kernel
theorem dX5_doNumbersMeet_41 : decode cX5_doNumbersMeet 41 = .ok (.iload 5, 2) := by decide +kernel
theorem dX5_doNumbersMeet_43 : decode cX5_doNumbersMeet 43 = .ok (.invokevirtual 152, 3) := by decide +kernel
theorem dX5_doNumbersMeet_46 : decode cX5_doNumbersMeet 46 = .ok (.if_icmp .ne 5, 3) := by decide +kernel
theorem dX5_doNumbersMeet_49 : decode cX5_doNumbersMeet 49 = .ok (.iconst 1, 1) := by decide +kernel
theorem dX5_doNumbersMeet_50 : decode cX5_doNumbersMeet 50 = .ok (.ireturn, 1) := by decide +kernel
theorem dX5_doNumbersMeet_51 : decode cX5_doNumbersMeet 51 = .ok (.iinc 5 1, 3) := by decide +kernel
theorem dX5_doNumbersMeet_54 : decode cX5_doNumbersMeet 54 = .ok (.goto (-33), 3) := by decide +kernel
theorem dX5_doNumbersMeet_57 : decode cX5_doNumbersMeet 57 = .ok (.iinc 3 1, 3) := by decide +kernel
theorem dX5_doNumbersMeet_60 : decode cX5_doNumbersMeet 60 = .ok (.goto (-58), 3) := by decide +kernel
theorem dX5_doNumbersMeet_63 : decode cX5_doNumbersMeet 63 = .ok (.iconst 0, 1) := by decide +kernel
theorem dX5_doNumbersMeet_64 : decode cX5_doNumbersMeet 64 = .ok (.ireturn, 1) := by decide +kernel
theorem dX5_passes_0 : decode cX5_passes 0 = .ok (.iconst 0, 1) := by decide +kernel
theorem dX5_passes_1 : decode cX5_passes 1 = .ok (.istore_n 3, 1) := by decide +kernel
theorem dX5_passes_2 : decode cX5_passes 2 = .ok (.iconst 0, 1) := by decide +kernel
theorem dX5_passes_3 : decode cX5_passes 3 = .ok (.istore 4, 2) := by decide +kernel
theorem dX5_passes_5 : decode cX5_passes 5 = .ok (.iload 4, 2) := by decide +kernel
theorem dX5_passes_7 : decode cX5_passes 7 = .ok (.iload_n 2, 1) := by decide +kernel
theorem dX5_passes_8 : decode cX5_passes 8 = .ok (.if_icmp .gt 39, 3) := by decide +kernel
theorem dX5_passes_11 : decode cX5_passes 11 = .ok (.iload 4, 2) := by decide +kernel
theorem dX5_passes_13 : decode cX5_passes 13 = .ok (.aload_n 0, 1) := by decide +kernel
theorem dX5_passes_14 : decode cX5_passes 14 = .ok (.getfield 50, 3) := by decide +kernel
theorem dX5_passes_17 : decode cX5_passes 17 = .ok (.getfield 145, 3) := by decide +kernel
theorem dX5_passes_20 : decode cX5_passes 20 = .ok (.if_icmp .ge 27, 3) := by decide +kernel
theorem dX5_passes_23 : decode cX5_passes 23 = .ok (.aload_n 0, 1) := by decide +kernel
theorem dX5_passes_24 : decode cX5_passes 24 = .ok (.iload_n 1, 1) := by decide +kernel
theorem dX5_passes_25 : decode cX5_passes 25 = .ok (.iload 4, 2) := by decide +kernel
theorem dX5_passes_27 : decode cX5_passes 27 = .ok (.iload_n 3, 1) := by decide +kernel
theorem dX5_passes_28 : decode cX5_passes 28 = .ok (.invokevirtual 366, 3) := by decide +kernel
theorem dX5_passes_31 : decode cX5_passes 31 = .ok (.ifCond .eq 10, 3) := by decide +kernel
theorem dX5_passes_34 : decode cX5_passes 34 = .ok (.iload_n 3, 1) := by decide +kernel
theorem dX5_passes_35 : decode cX5_passes 35 = .ok (.iconst 1, 1) := by decide +kernel
theorem dX5_passes_36 : decode cX5_passes 36 = .ok (.iload 4, 2) := by decide +kernel
theorem dX5_passes_38 : decode cX5_passes 38 = .ok (.ishl, 1) := by decide +kernel
theorem dX5_passes_39 : decode cX5_passes 39 = .ok (.ior, 1) := by decide +kernel
theorem dX5_passes_40 : decode cX5_passes 40 = .ok (.istore_n 3, 1) := by decide +kernel
theorem dX5_passes_41 : decode cX5_passes 41 = .ok (.iinc 4 1, 3) := by decide +kernel
theorem dX5_passes_44 : decode cX5_passes 44 = .ok (.goto (-39), 3) := by decide +kernel
theorem dX5_passes_47 : decode cX5_passes 47 = .ok (.iload_n 3, 1) := by decide +kernel
theorem dX5_passes_48 : decode cX5_passes 48 = .ok (.iload_n 2, 1) := by decide +kernel
theorem dX5_passes_49 : decode cX5_passes 49 = .ok (.invokestatic 369, 3) := by decide +kernel
theorem dX5_passes_52 : decode cX5_passes 52 = .ok (.ireturn, 1) := by decide +kernel
theorem dX5_hasBit_0 : decode cX5_hasBit 0 = .ok (.iload_n 0, 1) := by decide +kernel
theorem dX5_hasBit_1 : decode cX5_hasBit 1 = .ok (.iload_n 1, 1) := by decide +kernel
theorem dX5_hasBit_2 : decode cX5_hasBit 2 = .ok (.ishr, 1) := by decide +kernel
theorem dX5_hasBit_3 : decode cX5_hasBit 3 = .ok (.iconst 1, 1) := by decide +kernel
theorem dX5_hasBit_4 : decode cX5_hasBit 4 = .ok (.iand, 1) := by decide +kernel
theorem dX5_hasBit_5 : decode cX5_hasBit 5 = .ok (.ifCond .eq 7, 3) := by decide +kernel
theorem dX5_hasBit_8 : decode cX5_hasBit 8 = .ok (.iconst 1, 1) := by decide +kernel
theorem dX5_hasBit_9 : decode cX5_hasBit 9 = .ok (.goto 4, 3) := by decide +kernel
theorem dX5_hasBit_12 : decode cX5_hasBit 12 = .ok (.iconst 0, 1) := by decide +kernel
theorem dX5_hasBit_13 : decode cX5_hasBit 13 = .ok (.ireturn, 1) := by decide +kernel
theorem dX5_passesOne_0 : decode cX5_passesOne 0 = .ok (.aload_n 0, 1) := by decide +kernel
theorem dX5_passesOne_1 : decode cX5_passesOne 1 = .ok (.getfield 50, 3) := by decide +kernel
theorem dX5_passesOne_4 : decode cX5_passesOne 4 = .ok (.getfield 372, 3) := by decide +kernel
theorem dX5_passesOne_7 : decode cX5_passesOne 7 = .ok (.iload_n 2, 1) := by decide +kernel
theorem dX5_passesOne_8 : decode cX5_passesOne 8 = .ok (.iaload, 1) := by decide +kernel
theorem dX5_passesOne_9 : decode cX5_passesOne 9 = .ok (.istore 4, 2) := by decide +kernel
theorem dX5_passesOne_11 : decode cX5_passesOne 11 = .ok (.aload_n 0, 1) := by decide +kernel
theorem dX5_passesOne_12 : decode cX5_passesOne 12 = .ok (.getfield 50, 3) := by decide +kernel
theorem dX5_passesOne_15 : decode cX5_passesOne 15 = .ok (.getfield 375, 3) := by decide +kernel
theorem dX5_passesOne_18 : decode cX5_passesOne 18 = .ok (.iload_n 2, 1) := by decide +kernel
theorem dX5_passesOne_19 : decode cX5_passesOne 19 = .ok (.iaload, 1) := by decide +kernel
theorem dX5_passesOne_20 : decode cX5_passesOne 20 = .ok (.istore 5, 2) := by decide +kernel
theorem dX5_passesOne_22 : decode cX5_passesOne 22 = .ok (.aload_n 0, 1) := by decide +kernel
theorem dX5_passesOne_23 : decode cX5_passesOne 23 = .ok (.getfield 50, 3) := by decide +kernel
theorem dX5_passesOne_26 : decode cX5_passesOne 26 = .ok (.getfield 378, 3) := by decide +kernel
theorem dX5_passesOne_29 : decode cX5_passesOne 29 = .ok (.iload_n 2, 1) := by decide +kernel
theorem dX5_passesOne_30 : decode cX5_passesOne 30 = .ok (.iaload, 1) := by decide +kernel
theorem dX5_passesOne_31 : decode cX5_passesOne 31 = .ok (.tableswitch 246 0 9 #[53, 61, 81, 101, 121, 141, 157, 177, 198, 222], 53) := by decide +kernel
theorem dX5_passesOne_84 : decode cX5_passesOne 84 = .ok (.aload_n 0, 1) := by decide +kernel
theorem dX5_passesOne_85 : decode cX5_passesOne 85 = .ok (.iload_n 1, 1) := by decide +kernel
theorem dX5_passesOne_86 : decode cX5_passesOne 86 = .ok (.iload 4, 2) := by decide +kernel
theorem dX5_passesOne_88 : decode cX5_passesOne 88 = .ok (.invokevirtual 169, 3) := by decide +kernel
theorem dX5_passesOne_91 : decode cX5_passesOne 91 = .ok (.ireturn, 1) := by decide +kernel
theorem dX5_passesOne_92 : decode cX5_passesOne 92 = .ok (.aload_n 0, 1) := by decide +kernel
theorem dX5_passesOne_93 : decode cX5_passesOne 93 = .ok (.getfield 34, 3) := by decide +kernel
theorem dX5_passesOne_96 : decode cX5_passesOne 96 = .ok (.iload_n 1, 1) := by decide +kernel
theorem dX5_passesOne_97 : decode cX5_passesOne 97 = .ok (.iconst 5, 1) := by decide +kernel
theorem dX5_passesOne_98 : decode cX5_passesOne 98 = .ok (.invokevirtual 152, 3) := by decide +kernel
theorem dX5_passesOne_101 : decode cX5_passesOne 101 = .ok (.iload 4, 2) := by decide +kernel
theorem dX5_passesOne_103 : decode cX5_passesOne 103 = .ok (.if_icmp .ge 7, 3) := by decide +kernel
theorem dX5_passesOne_106 : decode cX5_passesOne 106 = .ok (.iconst 1, 1) := by decide +kernel
theorem dX5_passesOne_107 : decode cX5_passesOne 107 = .ok (.goto 4, 3) := by decide +kernel
theorem dX5_passesOne_110 : decode cX5_passesOne 110 = .ok (.iconst 0, 1) := by decide +kernel
theorem dX5_passesOne_111 : decode cX5_passesOne 111 = .ok (.ireturn, 1) := by decide +kernel
theorem dX5_passesOne_112 : decode cX5_passesOne 112 = .ok (.aload_n 0, 1) := by decide +kernel
theorem dX5_passesOne_113 : decode cX5_passesOne 113 = .ok (.getfield 34, 3) := by decide +kernel
theorem dX5_passesOne_116 : decode cX5_passesOne 116 = .ok (.iload_n 1, 1) := by decide +kernel
theorem dX5_passesOne_117 : decode cX5_passesOne 117 = .ok (.iconst 5, 1) := by decide +kernel
theorem dX5_passesOne_118 : decode cX5_passesOne 118 = .ok (.invokevirtual 152, 3) := by decide +kernel
theorem dX5_passesOne_121 : decode cX5_passesOne 121 = .ok (.iload 4, 2) := by decide +kernel
theorem dX5_passesOne_123 : decode cX5_passesOne 123 = .ok (.if_icmp .lt 7, 3) := by decide +kernel
theorem dX5_passesOne_126 : decode cX5_passesOne 126 = .ok (.iconst 1, 1) := by decide +kernel
theorem dX5_passesOne_127 : decode cX5_passesOne 127 = .ok (.goto 4, 3) := by decide +kernel
theorem dX5_passesOne_130 : decode cX5_passesOne 130 = .ok (.iconst 0, 1) := by decide +kernel
theorem dX5_passesOne_131 : decode cX5_passesOne 131 = .ok (.ireturn, 1) := by decide +kernel
theorem dX5_passesOne_132 : decode cX5_passesOne 132 = .ok (.aload_n 0, 1) := by decide +kernel
theorem dX5_passesOne_133 : decode cX5_passesOne 133 = .ok (.getfield 34, 3) := by decide +kernel
theorem dX5_passesOne_136 : decode cX5_passesOne 136 = .ok (.iload_n 1, 1) := by decide +kernel
theorem dX5_passesOne_137 : decode cX5_passesOne 137 = .ok (.iconst 4, 1) := by decide +kernel
theorem dX5_passesOne_138 : decode cX5_passesOne 138 = .ok (.invokevirtual 152, 3) := by decide +kernel
theorem dX5_passesOne_141 : decode cX5_passesOne 141 = .ok (.iload 4, 2) := by decide +kernel
theorem dX5_passesOne_143 : decode cX5_passesOne 143 = .ok (.if_icmp .ge 7, 3) := by decide +kernel
theorem dX5_passesOne_146 : decode cX5_passesOne 146 = .ok (.iconst 1, 1) := by decide +kernel
theorem dX5_passesOne_147 : decode cX5_passesOne 147 = .ok (.goto 4, 3) := by decide +kernel
theorem dX5_passesOne_150 : decode cX5_passesOne 150 = .ok (.iconst 0, 1) := by decide +kernel
theorem dX5_passesOne_151 : decode cX5_passesOne 151 = .ok (.ireturn, 1) := by decide +kernel
theorem dX5_passesOne_152 : decode cX5_passesOne 152 = .ok (.aload_n 0, 1) := by decide +kernel
theorem dX5_passesOne_153 : decode cX5_passesOne 153 = .ok (.getfield 34, 3) := by decide +kernel
theorem dX5_passesOne_156 : decode cX5_passesOne 156 = .ok (.iload_n 1, 1) := by decide +kernel
theorem dX5_passesOne_157 : decode cX5_passesOne 157 = .ok (.iconst 4, 1) := by decide +kernel
theorem dX5_passesOne_158 : decode cX5_passesOne 158 = .ok (.invokevirtual 152, 3) := by decide +kernel
theorem dX5_passesOne_161 : decode cX5_passesOne 161 = .ok (.iload 4, 2) := by decide +kernel
theorem dX5_passesOne_163 : decode cX5_passesOne 163 = .ok (.if_icmp .lt 7, 3) := by decide +kernel
theorem dX5_passesOne_166 : decode cX5_passesOne 166 = .ok (.iconst 1, 1) := by decide +kernel
theorem dX5_passesOne_167 : decode cX5_passesOne 167 = .ok (.goto 4, 3) := by decide +kernel
theorem dX5_passesOne_170 : decode cX5_passesOne 170 = .ok (.iconst 0, 1) := by decide +kernel
theorem dX5_passesOne_171 : decode cX5_passesOne 171 = .ok (.ireturn, 1) := by decide +kernel
theorem dX5_passesOne_172 : decode cX5_passesOne 172 = .ok (.aload_n 0, 1) := by decide +kernel
theorem dX5_passesOne_173 : decode cX5_passesOne 173 = .ok (.getfield 34, 3) := by decide +kernel
theorem dX5_passesOne_176 : decode cX5_passesOne 176 = .ok (.iload_n 1, 1) := by decide +kernel
theorem dX5_passesOne_177 : decode cX5_passesOne 177 = .ok (.bipush 6, 2) := by decide +kernel
theorem dX5_passesOne_179 : decode cX5_passesOne 179 = .ok (.invokevirtual 152, 3) := by decide +kernel
theorem dX5_passesOne_182 : decode cX5_passesOne 182 = .ok (.iload 4, 2) := by decide +kernel
theorem dX5_passesOne_184 : decode cX5_passesOne 184 = .ok (.invokestatic 369, 3) := by decide +kernel
theorem dX5_passesOne_187 : decode cX5_passesOne 187 = .ok (.ireturn, 1) := by decide +kernel
theorem dX5_passesOne_188 : decode cX5_passesOne 188 = .ok (.aload_n 0, 1) := by decide +kernel
theorem dX5_passesOne_189 : decode cX5_passesOne 189 = .ok (.getfield 34, 3) := by decide +kernel
theorem dX5_passesOne_192 : decode cX5_passesOne 192 = .ok (.iload_n 1, 1) := by decide +kernel
theorem dX5_passesOne_193 : decode cX5_passesOne 193 = .ok (.iconst 0, 1) := by decide +kernel
theorem dX5_passesOne_194 : decode cX5_passesOne 194 = .ok (.invokevirtual 152, 3) := by decide +kernel
theorem dX5_passesOne_197 : decode cX5_passesOne 197 = .ok (.iload 4, 2) := by decide +kernel
theorem dX5_passesOne_199 : decode cX5_passesOne 199 = .ok (.if_icmp .ne 7, 3) := by decide +kernel
theorem dX5_passesOne_202 : decode cX5_passesOne 202 = .ok (.iconst 1, 1) := by decide +kernel
theorem dX5_passesOne_203 : decode cX5_passesOne 203 = .ok (.goto 4, 3) := by decide +kernel
theorem dX5_passesOne_206 : decode cX5_passesOne 206 = .ok (.iconst 0, 1) := by decide +kernel
theorem dX5_passesOne_207 : decode cX5_passesOne 207 = .ok (.ireturn, 1) := by decide +kernel
theorem dX5_passesOne_208 : decode cX5_passesOne 208 = .ok (.aload_n 0, 1) := by decide +kernel
theorem dX5_passesOne_209 : decode cX5_passesOne 209 = .ok (.getfield 34, 3) := by decide +kernel
theorem dX5_passesOne_212 : decode cX5_passesOne 212 = .ok (.iload_n 1, 1) := by decide +kernel
theorem dX5_passesOne_213 : decode cX5_passesOne 213 = .ok (.bipush 7, 2) := by decide +kernel
theorem dX5_passesOne_215 : decode cX5_passesOne 215 = .ok (.invokevirtual 152, 3) := by decide +kernel
theorem dX5_passesOne_218 : decode cX5_passesOne 218 = .ok (.iload 4, 2) := by decide +kernel
theorem dX5_passesOne_220 : decode cX5_passesOne 220 = .ok (.if_icmp .ne 7, 3) := by decide +kernel
theorem dX5_passesOne_223 : decode cX5_passesOne 223 = .ok (.iconst 1, 1) := by decide +kernel
theorem dX5_passesOne_224 : decode cX5_passesOne 224 = .ok (.goto 4, 3) := by decide +kernel
theorem dX5_passesOne_227 : decode cX5_passesOne 227 = .ok (.iconst 0, 1) := by decide +kernel
theorem dX5_passesOne_228 : decode cX5_passesOne 228 = .ok (.ireturn, 1) := by decide +kernel
theorem dX5_passesOne_229 : decode cX5_passesOne 229 = .ok (.iload_n 3, 1) := by decide +kernel
theorem dX5_passesOne_230 : decode cX5_passesOne 230 = .ok (.iload 4, 2) := by decide +kernel
theorem dX5_passesOne_232 : decode cX5_passesOne 232 = .ok (.invokestatic 369, 3) := by decide +kernel
theorem dX5_passesOne_235 : decode cX5_passesOne 235 = .ok (.ifCond .eq 16, 3) := by decide +kernel
theorem dX5_passesOne_238 : decode cX5_passesOne 238 = .ok (.iload_n 3, 1) := by decide +kernel
theorem dX5_passesOne_239 : decode cX5_passesOne 239 = .ok (.iload 5, 2) := by decide +kernel
theorem dX5_passesOne_241 : decode cX5_passesOne 241 = .ok (.invokestatic 369, 3) := by decide +kernel
theorem dX5_passesOne_244 : decode cX5_passesOne 244 = .ok (.ifCond .eq 7, 3) := by decide +kernel
theorem dX5_passesOne_247 : decode cX5_passesOne 247 = .ok (.iconst 1, 1) := by decide +kernel
theorem dX5_passesOne_248 : decode cX5_passesOne 248 = .ok (.goto 4, 3) := by decide +kernel
theorem dX5_passesOne_251 : decode cX5_passesOne 251 = .ok (.iconst 0, 1) := by decide +kernel
theorem dX5_passesOne_252 : decode cX5_passesOne 252 = .ok (.ireturn, 1) := by decide +kernel
theorem dX5_passesOne_253 : decode cX5_passesOne 253 = .ok (.iload_n 3, 1) := by decide +kernel
theorem dX5_passesOne_254 : decode cX5_passesOne 254 = .ok (.iload 4, 2) := by decide +kernel
theorem dX5_passesOne_256 : decode cX5_passesOne 256 = .ok (.invokestatic 369, 3) := by decide +kernel
theorem dX5_passesOne_259 : decode cX5_passesOne 259 = .ok (.ifCond .ne 12, 3) := by decide +kernel
theorem dX5_passesOne_262 : decode cX5_passesOne 262 = .ok (.iload_n 3, 1) := by decide +kernel
theorem dX5_passesOne_263 : decode cX5_passesOne 263 = .ok (.iload 5, 2) := by decide +kernel
theorem dX5_passesOne_265 : decode cX5_passesOne 265 = .ok (.invokestatic 369, 3) := by decide +kernel
theorem dX5_passesOne_268 : decode cX5_passesOne 268 = .ok (.ifCond .eq 7, 3) := by decide +kernel
theorem dX5_passesOne_271 : decode cX5_passesOne 271 = .ok (.iconst 1, 1) := by decide +kernel
theorem dX5_passesOne_272 : decode cX5_passesOne 272 = .ok (.goto 4, 3) := by decide +kernel
theorem dX5_passesOne_275 : decode cX5_passesOne 275 = .ok (.iconst 0, 1) := by decide +kernel
theorem dX5_passesOne_276 : decode cX5_passesOne 276 = .ok (.ireturn, 1) := by decide +kernel
theorem dX5_passesOne_277 : decode cX5_passesOne 277 = .ok (.iload_n 3, 1) := by decide +kernel
theorem dX5_passesOne_278 : decode cX5_passesOne 278 = .ok (.iload 4, 2) := by decide +kernel
theorem dX5_passesOne_280 : decode cX5_passesOne 280 = .ok (.invokestatic 369, 3) := by decide +kernel
theorem dX5_passesOne_283 : decode cX5_passesOne 283 = .ok (.ifCond .ne 7, 3) := by decide +kernel
theorem dX5_passesOne_286 : decode cX5_passesOne 286 = .ok (.iconst 1, 1) := by decide +kernel
theorem dX5_passesOne_287 : decode cX5_passesOne 287 = .ok (.goto 4, 3) := by decide +kernel
theorem dX5_passesOne_290 : decode cX5_passesOne 290 = .ok (.iconst 0, 1) := by decide +kernel
theorem dX5_passesOne_291 : decode cX5_passesOne 291 = .ok (.ireturn, 1) := by decide +kernel
theorem dX6_init_0 : decode cX6_init 0 = .ok (.aload_n 0, 1) := by decide +kernel
theorem dX6_init_1 : decode cX6_init 1 = .ok (.invokespecial 1, 3) := by decide +kernel
theorem dX6_init_4 : decode cX6_init 4 = .ok (.aload_n 0, 1) := by decide +kernel
theorem dX6_init_5 : decode cX6_init 5 = .ok (.sipush 586, 3) := by decide +kernel
theorem dX6_init_8 : decode cX6_init 8 = .ok (.newarray .int, 2) := by decide +kernel
theorem dX6_init_10 : decode cX6_init 10 = .ok (.putfield 7, 3) := by decide +kernel
theorem dX6_init_13 : decode cX6_init 13 = .ok (.aload_n 0, 1) := by decide +kernel
theorem dX6_init_14 : decode cX6_init 14 = .ok (.sipush 586, 3) := by decide +kernel
theorem dX6_init_17 : decode cX6_init 17 = .ok (.newarray .int, 2) := by decide +kernel
theorem dX6_init_19 : decode cX6_init 19 = .ok (.putfield 13, 3) := by decide +kernel
theorem dX6_init_22 : decode cX6_init 22 = .ok (.aload_n 0, 1) := by decide +kernel
theorem dX6_init_23 : decode cX6_init 23 = .ok (.sipush 586, 3) := by decide +kernel
theorem dX6_init_26 : decode cX6_init 26 = .ok (.newarray .int, 2) := by decide +kernel
theorem dX6_init_28 : decode cX6_init 28 = .ok (.putfield 16, 3) := by decide +kernel
theorem dX6_init_31 : decode cX6_init 31 = .ok (.aload_n 0, 1) := by decide +kernel
theorem dX6_init_32 : decode cX6_init 32 = .ok (.bipush 10, 2) := by decide +kernel
theorem dX6_init_34 : decode cX6_init 34 = .ok (.newarray .int, 2) := by decide +kernel
theorem dX6_init_36 : decode cX6_init 36 = .ok (.dup, 1) := by decide +kernel
theorem dX6_init_37 : decode cX6_init 37 = .ok (.iconst 0, 1) := by decide +kernel
theorem dX6_init_38 : decode cX6_init 38 = .ok (.iconst 0, 1) := by decide +kernel
theorem dX6_init_39 : decode cX6_init 39 = .ok (.iastore, 1) := by decide +kernel
theorem dX6_init_40 : decode cX6_init 40 = .ok (.dup, 1) := by decide +kernel
theorem dX6_init_41 : decode cX6_init 41 = .ok (.iconst 1, 1) := by decide +kernel
theorem dX6_init_42 : decode cX6_init 42 = .ok (.sipush 1000, 3) := by decide +kernel
theorem dX6_init_45 : decode cX6_init 45 = .ok (.iastore, 1) := by decide +kernel
theorem dX6_init_46 : decode cX6_init 46 = .ok (.dup, 1) := by decide +kernel
theorem dX6_init_47 : decode cX6_init 47 = .ok (.iconst 2, 1) := by decide +kernel
theorem dX6_init_48 : decode cX6_init 48 = .ok (.iconst 0, 1) := by decide +kernel
theorem dX6_init_49 : decode cX6_init 49 = .ok (.iastore, 1) := by decide +kernel
theorem dX6_init_50 : decode cX6_init 50 = .ok (.dup, 1) := by decide +kernel
theorem dX6_init_51 : decode cX6_init 51 = .ok (.iconst 3, 1) := by decide +kernel
theorem dX6_init_52 : decode cX6_init 52 = .ok (.iconst 0, 1) := by decide +kernel
theorem dX6_init_53 : decode cX6_init 53 = .ok (.iastore, 1) := by decide +kernel
theorem dX6_init_54 : decode cX6_init 54 = .ok (.dup, 1) := by decide +kernel
theorem dX6_init_55 : decode cX6_init 55 = .ok (.iconst 4, 1) := by decide +kernel
theorem dX6_init_56 : decode cX6_init 56 = .ok (.iconst 0, 1) := by decide +kernel
theorem dX6_init_57 : decode cX6_init 57 = .ok (.iastore, 1) := by decide +kernel
theorem dX6_init_58 : decode cX6_init 58 = .ok (.dup, 1) := by decide +kernel
theorem dX6_init_59 : decode cX6_init 59 = .ok (.iconst 5, 1) := by decide +kernel
theorem dX6_init_60 : decode cX6_init 60 = .ok (.sipush 1000, 3) := by decide +kernel
theorem dX6_init_63 : decode cX6_init 63 = .ok (.iastore, 1) := by decide +kernel
theorem dX6_init_64 : decode cX6_init 64 = .ok (.dup, 1) := by decide +kernel
theorem dX6_init_65 : decode cX6_init 65 = .ok (.bipush 6, 2) := by decide +kernel
theorem dX6_init_67 : decode cX6_init 67 = .ok (.sipush 1000, 3) := by decide +kernel
theorem dX6_init_70 : decode cX6_init 70 = .ok (.iastore, 1) := by decide +kernel
theorem dX6_init_71 : decode cX6_init 71 = .ok (.dup, 1) := by decide +kernel
theorem dX6_init_72 : decode cX6_init 72 = .ok (.bipush 7, 2) := by decide +kernel
theorem dX6_init_74 : decode cX6_init 74 = .ok (.iconst 0, 1) := by decide +kernel
theorem dX6_init_75 : decode cX6_init 75 = .ok (.iastore, 1) := by decide +kernel
theorem dX6_init_76 : decode cX6_init 76 = .ok (.dup, 1) := by decide +kernel
theorem dX6_init_77 : decode cX6_init 77 = .ok (.bipush 8, 2) := by decide +kernel
theorem dX6_init_79 : decode cX6_init 79 = .ok (.iconst 0, 1) := by decide +kernel
theorem dX6_init_80 : decode cX6_init 80 = .ok (.iastore, 1) := by decide +kernel
theorem dX6_init_81 : decode cX6_init 81 = .ok (.dup, 1) := by decide +kernel
theorem dX6_init_82 : decode cX6_init 82 = .ok (.bipush 9, 2) := by decide +kernel
theorem dX6_init_84 : decode cX6_init 84 = .ok (.iconst 0, 1) := by decide +kernel
theorem dX6_init_85 : decode cX6_init 85 = .ok (.iastore, 1) := by decide +kernel
theorem dX6_init_86 : decode cX6_init 86 = .ok (.putfield 19, 3) := by decide +kernel
theorem dX6_init_89 : decode cX6_init 89 = .ok (.aload_n 0, 1) := by decide +kernel
theorem dX6_init_90 : decode cX6_init 90 = .ok (.bipush 12, 2) := by decide +kernel
theorem dX6_init_92 : decode cX6_init 92 = .ok (.newarray .int, 2) := by decide +kernel
theorem dX6_init_94 : decode cX6_init 94 = .ok (.putfield 22, 3) := by decide +kernel
theorem dX6_init_97 : decode cX6_init 97 = .ok (.aload_n 0, 1) := by decide +kernel
theorem dX6_init_98 : decode cX6_init 98 = .ok (.bipush 60, 2) := by decide +kernel
theorem dX6_init_100 : decode cX6_init 100 = .ok (.newarray .int, 2) := by decide +kernel
theorem dX6_init_102 : decode cX6_init 102 = .ok (.putfield 25, 3) := by decide +kernel
theorem dX6_init_105 : decode cX6_init 105 = .ok (.aload_n 0, 1) := by decide +kernel
theorem dX6_init_106 : decode cX6_init 106 = .ok (.bipush 120, 2) := by decide +kernel
theorem dX6_init_108 : decode cX6_init 108 = .ok (.newarray .int, 2) := by decide +kernel
theorem dX6_init_110 : decode cX6_init 110 = .ok (.putfield 28, 3) := by decide +kernel
theorem dX6_init_113 : decode cX6_init 113 = .ok (.aload_n 0, 1) := by decide +kernel
theorem dX6_init_114 : decode cX6_init 114 = .ok (.bipush (-9), 2) := by decide +kernel
theorem dX6_init_116 : decode cX6_init 116 = .ok (.putfield 31, 3) := by decide +kernel
theorem dX6_init_119 : decode cX6_init 119 = .ok (.aload_n 0, 1) := by decide +kernel
theorem dX6_init_120 : decode cX6_init 120 = .ok (.bipush 12, 2) := by decide +kernel
theorem dX6_init_122 : decode cX6_init 122 = .ok (.newarray .int, 2) := by decide +kernel
theorem dX6_init_124 : decode cX6_init 124 = .ok (.putfield 35, 3) := by decide +kernel
theorem dX6_init_127 : decode cX6_init 127 = .ok (.aload_n 0, 1) := by decide +kernel
theorem dX6_init_128 : decode cX6_init 128 = .ok (.bipush 48, 2) := by decide +kernel
theorem dX6_init_130 : decode cX6_init 130 = .ok (.newarray .int, 2) := by decide +kernel
theorem dX6_init_132 : decode cX6_init 132 = .ok (.putfield 38, 3) := by decide +kernel
theorem dX6_init_135 : decode cX6_init 135 = .ok (.aload_n 0, 1) := by decide +kernel
theorem dX6_init_136 : decode cX6_init 136 = .ok (.sipush 2400, 3) := by decide +kernel
theorem dX6_init_139 : decode cX6_init 139 = .ok (.newarray .int, 2) := by decide +kernel
theorem dX6_init_141 : decode cX6_init 141 = .ok (.putfield 41, 3) := by decide +kernel
theorem dX6_init_144 : decode cX6_init 144 = .ok (.aload_n 0, 1) := by decide +kernel
theorem dX6_init_145 : decode cX6_init 145 = .ok (.bipush 60, 2) := by decide +kernel
theorem dX6_init_147 : decode cX6_init 147 = .ok (.newarray .int, 2) := by decide +kernel
theorem dX6_init_149 : decode cX6_init 149 = .ok (.putfield 44, 3) := by decide +kernel
theorem dX6_init_152 : decode cX6_init 152 = .ok (.aload_n 0, 1) := by decide +kernel
theorem dX6_init_153 : decode cX6_init 153 = .ok (.bipush 60, 2) := by decide +kernel
theorem dX6_init_155 : decode cX6_init 155 = .ok (.newarray .int, 2) := by decide +kernel
theorem dX6_init_157 : decode cX6_init 157 = .ok (.putfield 47, 3) := by decide +kernel
theorem dX6_init_160 : decode cX6_init 160 = .ok (.aload_n 0, 1) := by decide +kernel
theorem dX6_init_161 : decode cX6_init 161 = .ok (.bipush 60, 2) := by decide +kernel
theorem dX6_init_163 : decode cX6_init 163 = .ok (.newarray .int, 2) := by decide +kernel
theorem dX6_init_165 : decode cX6_init 165 = .ok (.putfield 50, 3) := by decide +kernel
theorem dX6_init_168 : decode cX6_init 168 = .ok (.aload_n 0, 1) := by decide +kernel
theorem dX6_init_169 : decode cX6_init 169 = .ok (.bipush 60, 2) := by decide +kernel
theorem dX6_init_171 : decode cX6_init 171 = .ok (.newarray .int, 2) := by decide +kernel
theorem dX6_init_173 : decode cX6_init 173 = .ok (.putfield 53, 3) := by decide +kernel
theorem dX6_init_176 : decode cX6_init 176 = .ok (.aload_n 0, 1) := by decide +kernel
theorem dX6_init_177 : decode cX6_init 177 = .ok (.iconst 3, 1) := by decide +kernel
theorem dX6_init_178 : decode cX6_init 178 = .ok (.newarray .int, 2) := by decide +kernel
theorem dX6_init_180 : decode cX6_init 180 = .ok (.dup, 1) := by decide +kernel
theorem dX6_init_181 : decode cX6_init 181 = .ok (.iconst 0, 1) := by decide +kernel
theorem dX6_init_182 : decode cX6_init 182 = .ok (.iconst 0, 1) := by decide +kernel
theorem dX6_init_183 : decode cX6_init 183 = .ok (.iastore, 1) := by decide +kernel
theorem dX6_init_184 : decode cX6_init 184 = .ok (.dup, 1) := by decide +kernel
theorem dX6_init_185 : decode cX6_init 185 = .ok (.iconst 1, 1) := by decide +kernel
theorem dX6_init_186 : decode cX6_init 186 = .ok (.iconst 0, 1) := by decide +kernel
theorem dX6_init_187 : decode cX6_init 187 = .ok (.iastore, 1) := by decide +kernel
theorem dX6_init_188 : decode cX6_init 188 = .ok (.dup, 1) := by decide +kernel
theorem dX6_init_189 : decode cX6_init 189 = .ok (.iconst 2, 1) := by decide +kernel
theorem dX6_init_190 : decode cX6_init 190 = .ok (.iconst 0, 1) := by decide +kernel
theorem dX6_init_191 : decode cX6_init 191 = .ok (.iastore, 1) := by decide +kernel
theorem dX6_init_192 : decode cX6_init 192 = .ok (.putfield 56, 3) := by decide +kernel
theorem dX6_init_195 : decode cX6_init 195 = .ok (.aload_n 0, 1) := by decide +kernel
theorem dX6_init_196 : decode cX6_init 196 = .ok (.bipush 50, 2) := by decide +kernel
theorem dX6_init_198 : decode cX6_init 198 = .ok (.newarray .int, 2) := by decide +kernel
theorem dX6_init_200 : decode cX6_init 200 = .ok (.putfield 59, 3) := by decide +kernel
theorem dX6_init_203 : decode cX6_init 203 = .ok (.aload_n 0, 1) := by decide +kernel
theorem dX6_init_204 : decode cX6_init 204 = .ok (.bipush 50, 2) := by decide +kernel
theorem dX6_init_206 : decode cX6_init 206 = .ok (.newarray .int, 2) := by decide +kernel
theorem dX6_init_208 : decode cX6_init 208 = .ok (.putfield 62, 3) := by decide +kernel
theorem dX6_init_211 : decode cX6_init 211 = .ok (.aload_n 0, 1) := by decide +kernel
theorem dX6_init_212 : decode cX6_init 212 = .ok (.sipush 244, 3) := by decide +kernel
theorem dX6_init_215 : decode cX6_init 215 = .ok (.newarray .int, 2) := by decide +kernel
theorem dX6_init_217 : decode cX6_init 217 = .ok (.putfield 65, 3) := by decide +kernel
theorem dX6_init_220 : decode cX6_init 220 = .ok (.aload_n 0, 1) := by decide +kernel
theorem dX6_init_221 : decode cX6_init 221 = .ok (.bipush 20, 2) := by decide +kernel
theorem dX6_init_223 : decode cX6_init 223 = .ok (.newarray .int, 2) := by decide +kernel
theorem dX6_init_225 : decode cX6_init 225 = .ok (.putfield 68, 3) := by decide +kernel
theorem dX6_init_228 : decode cX6_init 228 = .ok (.aload_n 0, 1) := by decide +kernel
theorem dX6_init_229 : decode cX6_init 229 = .ok (.bipush 20, 2) := by decide +kernel
theorem dX6_init_231 : decode cX6_init 231 = .ok (.newarray .int, 2) := by decide +kernel
theorem dX6_init_233 : decode cX6_init 233 = .ok (.putfield 71, 3) := by decide +kernel
theorem dX6_init_236 : decode cX6_init 236 = .ok (.aload_n 0, 1) := by decide +kernel
theorem dX6_init_237 : decode cX6_init 237 = .ok (.bipush 20, 2) := by decide +kernel
theorem dX6_init_239 : decode cX6_init 239 = .ok (.newarray .int, 2) := by decide +kernel
theorem dX6_init_241 : decode cX6_init 241 = .ok (.putfield 74, 3) := by decide +kernel
theorem dX6_init_244 : decode cX6_init 244 = .ok (.aload_n 0, 1) := by decide +kernel
theorem dX6_init_245 : decode cX6_init 245 = .ok (.bipush 20, 2) := by decide +kernel
theorem dX6_init_247 : decode cX6_init 247 = .ok (.newarray .boolean, 2) := by decide +kernel
theorem dX6_init_249 : decode cX6_init 249 = .ok (.putfield 77, 3) := by decide +kernel
theorem dX6_init_252 : decode cX6_init 252 = .ok (.return_, 1) := by decide +kernel
theorem dX6_within_0 : decode cX6_within 0 = .ok (.iload_n 0, 1) := by decide +kernel
theorem dX6_within_1 : decode cX6_within 1 = .ok (.iload_n 1, 1) := by decide +kernel
theorem dX6_within_2 : decode cX6_within 2 = .ok (.if_icmp .lt 12, 3) := by decide +kernel
theorem dX6_within_5 : decode cX6_within 5 = .ok (.iload_n 0, 1) := by decide +kernel
theorem dX6_within_6 : decode cX6_within 6 = .ok (.iload_n 2, 1) := by decide +kernel
theorem dX6_within_7 : decode cX6_within 7 = .ok (.if_icmp .gt 7, 3) := by decide +kernel
theorem dX6_within_10 : decode cX6_within 10 = .ok (.iconst 1, 1) := by decide +kernel
theorem dX6_within_11 : decode cX6_within 11 = .ok (.goto 4, 3) := by decide +kernel
theorem dX6_within_14 : decode cX6_within 14 = .ok (.iconst 0, 1) := by decide +kernel
theorem dX6_within_15 : decode cX6_within 15 = .ok (.ireturn, 1) := by decide +kernel
theorem dX6_copy_0 : decode cX6_copy 0 = .ok (.iconst 0, 1) := by decide +kernel
theorem dX6_copy_1 : decode cX6_copy 1 = .ok (.istore_n 2, 1) := by decide +kernel
theorem dX6_copy_2 : decode cX6_copy 2 = .ok (.iload_n 2, 1) := by decide +kernel
theorem dX6_copy_3 : decode cX6_copy 3 = .ok (.sipush 586, 3) := by decide +kernel
theorem dX6_copy_6 : decode cX6_copy 6 = .ok (.if_icmp .ge 15, 3) := by decide +kernel
theorem dX6_copy_9 : decode cX6_copy 9 = .ok (.aload_n 1, 1) := by decide +kernel
theorem dX6_copy_10 : decode cX6_copy 10 = .ok (.iload_n 2, 1) := by decide +kernel
theorem dX6_copy_11 : decode cX6_copy 11 = .ok (.aload_n 0, 1) := by decide +kernel
theorem dX6_copy_12 : decode cX6_copy 12 = .ok (.iload_n 2, 1) := by decide +kernel
theorem dX6_copy_13 : decode cX6_copy 13 = .ok (.iaload, 1) := by decide +kernel
theorem dX6_copy_14 : decode cX6_copy 14 = .ok (.iastore, 1) := by decide +kernel
theorem dX6_copy_15 : decode cX6_copy 15 = .ok (.iinc 2 1, 3) := by decide +kernel
theorem dX6_copy_18 : decode cX6_copy 18 = .ok (.goto (-16), 3) := by decide +kernel
theorem dX6_copy_21 : decode cX6_copy 21 = .ok (.return_, 1) := by decide +kernel
theorem dX6_isBox_0 : decode cX6_isBox 0 = .ok (.iload_n 2, 1) := by decide +kernel
theorem dX6_isBox_1 : decode cX6_isBox 1 = .ok (.ifCond .lt 25, 3) := by decide +kernel
theorem dX6_isBox_4 : decode cX6_isBox 4 = .ok (.iload_n 2, 1) := by decide +kernel
theorem dX6_isBox_5 : decode cX6_isBox 5 = .ok (.aload_n 1, 1) := by decide +kernel
theorem dX6_isBox_6 : decode cX6_isBox 6 = .ok (.sipush 580, 3) := by decide +kernel
theorem dX6_isBox_9 : decode cX6_isBox 9 = .ok (.iaload, 1) := by decide +kernel
theorem dX6_isBox_10 : decode cX6_isBox 10 = .ok (.if_icmp .ge 16, 3) := by decide +kernel
theorem dX6_isBox_13 : decode cX6_isBox 13 = .ok (.aload_n 1, 1) := by decide +kernel
theorem dX6_isBox_14 : decode cX6_isBox 14 = .ok (.iconst 4, 1) := by decide +kernel
theorem dX6_isBox_15 : decode cX6_isBox 15 = .ok (.iload_n 2, 1) := by decide +kernel
theorem dX6_isBox_16 : decode cX6_isBox 16 = .ok (.imul, 1) := by decide +kernel
theorem dX6_isBox_17 : decode cX6_isBox 17 = .ok (.iaload, 1) := by decide +kernel
theorem dX6_isBox_18 : decode cX6_isBox 18 = .ok (.iconst 1, 1) := by decide +kernel
theorem dX6_isBox_19 : decode cX6_isBox 19 = .ok (.if_icmp .ne 7, 3) := by decide +kernel
theorem dX6_isBox_22 : decode cX6_isBox 22 = .ok (.iconst 1, 1) := by decide +kernel
theorem dX6_isBox_23 : decode cX6_isBox 23 = .ok (.goto 4, 3) := by decide +kernel
theorem dX6_isBox_26 : decode cX6_isBox 26 = .ok (.iconst 0, 1) := by decide +kernel
theorem dX6_isBox_27 : decode cX6_isBox 27 = .ok (.ireturn, 1) := by decide +kernel
theorem dX6_isMail_0 : decode cX6_isMail 0 = .ok (.iload_n 2, 1) := by decide +kernel
theorem dX6_isMail_1 : decode cX6_isMail 1 = .ok (.ifCond .lt 29, 3) := by decide +kernel
theorem dX6_isMail_4 : decode cX6_isMail 4 = .ok (.iload_n 2, 1) := by decide +kernel
theorem dX6_isMail_5 : decode cX6_isMail 5 = .ok (.aload_n 1, 1) := by decide +kernel
theorem dX6_isMail_6 : decode cX6_isMail 6 = .ok (.sipush 581, 3) := by decide +kernel
theorem dX6_isMail_9 : decode cX6_isMail 9 = .ok (.iaload, 1) := by decide +kernel
theorem dX6_isMail_10 : decode cX6_isMail 10 = .ok (.if_icmp .ge 20, 3) := by decide +kernel
theorem dX6_isMail_13 : decode cX6_isMail 13 = .ok (.aload_n 1, 1) := by decide +kernel
theorem dX6_isMail_14 : decode cX6_isMail 14 = .ok (.bipush 80, 2) := by decide +kernel
theorem dX6_isMail_16 : decode cX6_isMail 16 = .ok (.bipush 10, 2) := by decide +kernel
theorem dX6_isMail_18 : decode cX6_isMail 18 = .ok (.iload_n 2, 1) := by decide +kernel
theorem dX6_isMail_19 : decode cX6_isMail 19 = .ok (.imul, 1) := by decide +kernel
theorem dX6_isMail_20 : decode cX6_isMail 20 = .ok (.iadd, 1) := by decide +kernel
theorem dX6_isMail_21 : decode cX6_isMail 21 = .ok (.iaload, 1) := by decide +kernel
theorem dX6_isMail_22 : decode cX6_isMail 22 = .ok (.iconst 1, 1) := by decide +kernel
theorem dX6_isMail_23 : decode cX6_isMail 23 = .ok (.if_icmp .ne 7, 3) := by decide +kernel
theorem dX6_isMail_26 : decode cX6_isMail 26 = .ok (.iconst 1, 1) := by decide +kernel
theorem dX6_isMail_27 : decode cX6_isMail 27 = .ok (.goto 4, 3) := by decide +kernel
theorem dX6_isMail_30 : decode cX6_isMail 30 = .ok (.iconst 0, 1) := by decide +kernel
theorem dX6_isMail_31 : decode cX6_isMail 31 = .ok (.ireturn, 1) := by decide +kernel
theorem dX6_boxPart_0 : decode cX6_boxPart 0 = .ok (.aload_n 1, 1) := by decide +kernel
theorem dX6_boxPart_1 : decode cX6_boxPart 1 = .ok (.iconst 4, 1) := by decide +kernel
theorem dX6_boxPart_2 : decode cX6_boxPart 2 = .ok (.iload_n 2, 1) := by decide +kernel
theorem dX6_boxPart_3 : decode cX6_boxPart 3 = .ok (.imul, 1) := by decide +kernel
theorem dX6_boxPart_4 : decode cX6_boxPart 4 = .ok (.iload_n 3, 1) := by decide +kernel
theorem dX6_boxPart_5 : decode cX6_boxPart 5 = .ok (.iadd, 1) := by decide +kernel
theorem dX6_boxPart_6 : decode cX6_boxPart 6 = .ok (.iaload, 1) := by decide +kernel
theorem dX6_boxPart_7 : decode cX6_boxPart 7 = .ok (.ireturn, 1) := by decide +kernel
theorem dX6_mailPart_0 : decode cX6_mailPart 0 = .ok (.aload_n 1, 1) := by decide +kernel
theorem dX6_mailPart_1 : decode cX6_mailPart 1 = .ok (.bipush 80, 2) := by decide +kernel
theorem dX6_mailPart_3 : decode cX6_mailPart 3 = .ok (.bipush 10, 2) := by decide +kernel
theorem dX6_mailPart_5 : decode cX6_mailPart 5 = .ok (.iload_n 2, 1) := by decide +kernel
theorem dX6_mailPart_6 : decode cX6_mailPart 6 = .ok (.imul, 1) := by decide +kernel
theorem dX6_mailPart_7 : decode cX6_mailPart 7 = .ok (.iadd, 1) := by decide +kernel
theorem dX6_mailPart_8 : decode cX6_mailPart 8 = .ok (.iload_n 3, 1) := by decide +kernel
theorem dX6_mailPart_9 : decode cX6_mailPart 9 = .ok (.iadd, 1) := by decide +kernel
theorem dX6_mailPart_10 : decode cX6_mailPart 10 = .ok (.iaload, 1) := by decide +kernel
theorem dX6_mailPart_11 : decode cX6_mailPart 11 = .ok (.ireturn, 1) := by decide +kernel
theorem dX6_mailsOf_0 : decode cX6_mailsOf 0 = .ok (.iconst 0, 1) := by decide +kernel
theorem dX6_mailsOf_1 : decode cX6_mailsOf 1 = .ok (.istore_n 3, 1) := by decide +kernel
theorem dX6_mailsOf_2 : decode cX6_mailsOf 2 = .ok (.iconst 0, 1) := by decide +kernel
theorem dX6_mailsOf_3 : decode cX6_mailsOf 3 = .ok (.istore 4, 2) := by decide +kernel
theorem dX6_mailsOf_5 : decode cX6_mailsOf 5 = .ok (.iload 4, 2) := by decide +kernel
theorem dX6_mailsOf_7 : decode cX6_mailsOf 7 = .ok (.aload_n 1, 1) := by decide +kernel
theorem dX6_mailsOf_8 : decode cX6_mailsOf 8 = .ok (.sipush 581, 3) := by decide +kernel
theorem dX6_mailsOf_11 : decode cX6_mailsOf 11 = .ok (.iaload, 1) := by decide +kernel
theorem dX6_mailsOf_12 : decode cX6_mailsOf 12 = .ok (.if_icmp .ge 40, 3) := by decide +kernel
theorem dX6_mailsOf_15 : decode cX6_mailsOf 15 = .ok (.iload_n 3, 1) := by decide +kernel
theorem dX6_mailsOf_16 : decode cX6_mailsOf 16 = .ok (.aload_n 0, 1) := by decide +kernel
theorem dX6_mailsOf_17 : decode cX6_mailsOf 17 = .ok (.aload_n 1, 1) := by decide +kernel
theorem dX6_mailsOf_18 : decode cX6_mailsOf 18 = .ok (.iload 4, 2) := by decide +kernel
theorem dX6_mailsOf_20 : decode cX6_mailsOf 20 = .ok (.invokevirtual 81, 3) := by decide +kernel
theorem dX6_mailsOf_23 : decode cX6_mailsOf 23 = .ok (.ifCond .eq 20, 3) := by decide +kernel
theorem dX6_mailsOf_26 : decode cX6_mailsOf 26 = .ok (.aload_n 0, 1) := by decide +kernel
theorem dX6_mailsOf_27 : decode cX6_mailsOf 27 = .ok (.aload_n 1, 1) := by decide +kernel
theorem dX6_mailsOf_28 : decode cX6_mailsOf 28 = .ok (.iload 4, 2) := by decide +kernel
theorem dX6_mailsOf_30 : decode cX6_mailsOf 30 = .ok (.bipush 8, 2) := by decide +kernel
theorem dX6_mailsOf_32 : decode cX6_mailsOf 32 = .ok (.invokevirtual 85, 3) := by decide +kernel
theorem dX6_mailsOf_35 : decode cX6_mailsOf 35 = .ok (.iload_n 2, 1) := by decide +kernel
theorem dX6_mailsOf_36 : decode cX6_mailsOf 36 = .ok (.if_icmp .ne 7, 3) := by decide +kernel
theorem dX6_mailsOf_39 : decode cX6_mailsOf 39 = .ok (.iconst 1, 1) := by decide +kernel
theorem dX6_mailsOf_40 : decode cX6_mailsOf 40 = .ok (.goto 4, 3) := by decide +kernel
theorem dX6_mailsOf_43 : decode cX6_mailsOf 43 = .ok (.iconst 0, 1) := by decide +kernel
theorem dX6_mailsOf_44 : decode cX6_mailsOf 44 = .ok (.iadd, 1) := by decide +kernel
theorem dX6_mailsOf_45 : decode cX6_mailsOf 45 = .ok (.istore_n 3, 1) := by decide +kernel
theorem dX6_mailsOf_46 : decode cX6_mailsOf 46 = .ok (.iinc 4 1, 3) := by decide +kernel
theorem dX6_mailsOf_49 : decode cX6_mailsOf 49 = .ok (.goto (-44), 3) := by decide +kernel
theorem dX6_mailsOf_52 : decode cX6_mailsOf 52 = .ok (.iload_n 3, 1) := by decide +kernel
theorem dX6_mailsOf_53 : decode cX6_mailsOf 53 = .ok (.ireturn, 1) := by decide +kernel
theorem dX6_isThere_0 : decode cX6_isThere 0 = .ok (.iload_n 2, 1) := by decide +kernel
theorem dX6_isThere_1 : decode cX6_isThere 1 = .ok (.ifCond .ne 12, 3) := by decide +kernel
theorem dX6_isThere_4 : decode cX6_isThere 4 = .ok (.aload_n 0, 1) := by decide +kernel
theorem dX6_isThere_5 : decode cX6_isThere 5 = .ok (.aload_n 1, 1) := by decide +kernel
theorem dX6_isThere_6 : decode cX6_isThere 6 = .ok (.iload_n 3, 1) := by decide +kernel
theorem dX6_isThere_7 : decode cX6_isThere 7 = .ok (.invokevirtual 89, 3) := by decide +kernel
theorem dX6_isThere_10 : decode cX6_isThere 10 = .ok (.goto 44, 3) := by decide +kernel
theorem dX6_isThere_13 : decode cX6_isThere 13 = .ok (.iload_n 2, 1) := by decide +kernel
theorem dX6_isThere_14 : decode cX6_isThere 14 = .ok (.iconst 1, 1) := by decide +kernel
theorem dX6_isThere_15 : decode cX6_isThere 15 = .ok (.if_icmp .ne 12, 3) := by decide +kernel
theorem dX6_isThere_18 : decode cX6_isThere 18 = .ok (.aload_n 0, 1) := by decide +kernel
theorem dX6_isThere_19 : decode cX6_isThere 19 = .ok (.aload_n 1, 1) := by decide +kernel
theorem dX6_isThere_20 : decode cX6_isThere 20 = .ok (.iload_n 3, 1) := by decide +kernel
theorem dX6_isThere_21 : decode cX6_isThere 21 = .ok (.invokevirtual 81, 3) := by decide +kernel
theorem dX6_isThere_24 : decode cX6_isThere 24 = .ok (.goto 30, 3) := by decide +kernel
theorem dX6_isThere_27 : decode cX6_isThere 27 = .ok (.iload_n 3, 1) := by decide +kernel
theorem dX6_isThere_28 : decode cX6_isThere 28 = .ok (.ifCond .lt 25, 3) := by decide +kernel
theorem dX6_isThere_31 : decode cX6_isThere 31 = .ok (.iload_n 3, 1) := by decide +kernel
theorem dX6_isThere_32 : decode cX6_isThere 32 = .ok (.aload_n 1, 1) := by decide +kernel
theorem dX6_isThere_33 : decode cX6_isThere 33 = .ok (.sipush 582, 3) := by decide +kernel
theorem dX6_isThere_36 : decode cX6_isThere 36 = .ok (.iaload, 1) := by decide +kernel
theorem dX6_isThere_37 : decode cX6_isThere 37 = .ok (.if_icmp .ge 16, 3) := by decide +kernel
theorem dX6_isThere_40 : decode cX6_isThere 40 = .ok (.aload_n 0, 1) := by decide +kernel
theorem dX6_isThere_41 : decode cX6_isThere 41 = .ok (.aload_n 1, 1) := by decide +kernel
theorem dX6_isThere_42 : decode cX6_isThere 42 = .ok (.iload_n 3, 1) := by decide +kernel
theorem dX6_isThere_43 : decode cX6_isThere 43 = .ok (.invokevirtual 92, 3) := by decide +kernel
theorem dX6_isThere_46 : decode cX6_isThere 46 = .ok (.ifCond .le 7, 3) := by decide +kernel
theorem dX6_isThere_49 : decode cX6_isThere 49 = .ok (.iconst 1, 1) := by decide +kernel
theorem dX6_isThere_50 : decode cX6_isThere 50 = .ok (.goto 4, 3) := by decide +kernel
theorem dX6_isThere_53 : decode cX6_isThere 53 = .ok (.iconst 0, 1) := by decide +kernel
theorem dX6_isThere_54 : decode cX6_isThere 54 = .ok (.ireturn, 1) := by decide +kernel
theorem dX6_deep_0 : decode cX6_deep 0 = .ok (.iconst 0, 1) := by decide +kernel
theorem dX6_deep_1 : decode cX6_deep 1 = .ok (.istore_n 3, 1) := by decide +kernel
theorem dX6_deep_2 : decode cX6_deep 2 = .ok (.iload_n 2, 1) := by decide +kernel
theorem dX6_deep_3 : decode cX6_deep 3 = .ok (.istore 4, 2) := by decide +kernel
theorem dX6_deep_5 : decode cX6_deep 5 = .ok (.iload 4, 2) := by decide +kernel
theorem dX6_deep_7 : decode cX6_deep 7 = .ok (.bipush (-9), 2) := by decide +kernel
theorem dX6_deep_9 : decode cX6_deep 9 = .ok (.if_icmp .eq 19, 3) := by decide +kernel
theorem dX6_deep_12 : decode cX6_deep 12 = .ok (.iinc 3 1, 3) := by decide +kernel
theorem dX6_deep_15 : decode cX6_deep 15 = .ok (.aload_n 0, 1) := by decide +kernel
theorem dX6_deep_16 : decode cX6_deep 16 = .ok (.aload_n 1, 1) := by decide +kernel
theorem dX6_deep_17 : decode cX6_deep 17 = .ok (.iload 4, 2) := by decide +kernel
theorem dX6_deep_19 : decode cX6_deep 19 = .ok (.iconst 2, 1) := by decide +kernel
theorem dX6_deep_20 : decode cX6_deep 20 = .ok (.invokevirtual 96, 3) := by decide +kernel
theorem dX6_deep_23 : decode cX6_deep 23 = .ok (.istore 4, 2) := by decide +kernel
theorem dX6_deep_25 : decode cX6_deep 25 = .ok (.goto (-20), 3) := by decide +kernel
theorem dX6_deep_28 : decode cX6_deep 28 = .ok (.iload_n 3, 1) := by decide +kernel
theorem dX6_deep_29 : decode cX6_deep 29 = .ok (.ireturn, 1) := by decide +kernel
theorem dX6_under_0 : decode cX6_under 0 = .ok (.iconst 0, 1) := by decide +kernel
theorem dX6_under_1 : decode cX6_under 1 = .ok (.istore_n 3, 1) := by decide +kernel
theorem dX6_under_2 : decode cX6_under 2 = .ok (.iconst 0, 1) := by decide +kernel
theorem dX6_under_3 : decode cX6_under 3 = .ok (.istore 4, 2) := by decide +kernel
theorem dX6_under_5 : decode cX6_under 5 = .ok (.iload 4, 2) := by decide +kernel
theorem dX6_under_7 : decode cX6_under 7 = .ok (.aload_n 1, 1) := by decide +kernel
theorem dX6_under_8 : decode cX6_under 8 = .ok (.sipush 580, 3) := by decide +kernel
theorem dX6_under_11 : decode cX6_under 11 = .ok (.iaload, 1) := by decide +kernel
theorem dX6_under_12 : decode cX6_under 12 = .ok (.if_icmp .ge 77, 3) := by decide +kernel
theorem dX6_under_15 : decode cX6_under 15 = .ok (.aload_n 0, 1) := by decide +kernel
theorem dX6_under_16 : decode cX6_under 16 = .ok (.aload_n 1, 1) := by decide +kernel
theorem dX6_under_17 : decode cX6_under 17 = .ok (.iload 4, 2) := by decide +kernel
theorem dX6_under_19 : decode cX6_under 19 = .ok (.invokevirtual 89, 3) := by decide +kernel
theorem dX6_under_22 : decode cX6_under 22 = .ok (.ifCond .ne 6, 3) := by decide +kernel
theorem dX6_under_25 : decode cX6_under 25 = .ok (.goto 58, 3) := by decide +kernel
theorem dX6_under_28 : decode cX6_under 28 = .ok (.iconst 0, 1) := by decide +kernel
theorem dX6_under_29 : decode cX6_under 29 = .ok (.istore 5, 2) := by decide +kernel
theorem dX6_under_31 : decode cX6_under 31 = .ok (.iload 4, 2) := by decide +kernel
theorem dX6_under_33 : decode cX6_under 33 = .ok (.istore 6, 2) := by decide +kernel
theorem dX6_under_35 : decode cX6_under 35 = .ok (.iload 6, 2) := by decide +kernel
theorem dX6_under_37 : decode cX6_under 37 = .ok (.bipush (-9), 2) := by decide +kernel
theorem dX6_under_39 : decode cX6_under 39 = .ok (.if_icmp .eq 25, 3) := by decide +kernel
theorem dX6_under_42 : decode cX6_under 42 = .ok (.iload 6, 2) := by decide +kernel
theorem dX6_under_44 : decode cX6_under 44 = .ok (.iload_n 2, 1) := by decide +kernel
theorem dX6_under_45 : decode cX6_under 45 = .ok (.if_icmp .eq 19, 3) := by decide +kernel
theorem dX6_under_48 : decode cX6_under 48 = .ok (.aload_n 0, 1) := by decide +kernel
theorem dX6_under_49 : decode cX6_under 49 = .ok (.aload_n 1, 1) := by decide +kernel
theorem dX6_under_50 : decode cX6_under 50 = .ok (.iload 6, 2) := by decide +kernel
theorem dX6_under_52 : decode cX6_under 52 = .ok (.iconst 2, 1) := by decide +kernel
theorem dX6_under_53 : decode cX6_under 53 = .ok (.invokevirtual 96, 3) := by decide +kernel
theorem dX6_under_56 : decode cX6_under 56 = .ok (.istore 6, 2) := by decide +kernel
theorem dX6_under_58 : decode cX6_under 58 = .ok (.iinc 5 1, 3) := by decide +kernel
theorem dX6_under_61 : decode cX6_under 61 = .ok (.goto (-26), 3) := by decide +kernel
theorem dX6_under_64 : decode cX6_under 64 = .ok (.iload 6, 2) := by decide +kernel
theorem dX6_under_66 : decode cX6_under 66 = .ok (.iload_n 2, 1) := by decide +kernel
theorem dX6_under_67 : decode cX6_under 67 = .ok (.if_icmp .ne 14, 3) := by decide +kernel
theorem dX6_under_70 : decode cX6_under 70 = .ok (.iload 5, 2) := by decide +kernel
theorem dX6_under_72 : decode cX6_under 72 = .ok (.iload_n 3, 1) := by decide +kernel
theorem dX6_under_73 : decode cX6_under 73 = .ok (.if_icmp .le 8, 3) := by decide +kernel
theorem dX6_under_76 : decode cX6_under 76 = .ok (.iload 5, 2) := by decide +kernel
theorem dX6_under_78 : decode cX6_under 78 = .ok (.goto 4, 3) := by decide +kernel
theorem dX6_under_81 : decode cX6_under 81 = .ok (.iload_n 3, 1) := by decide +kernel
theorem dX6_under_82 : decode cX6_under 82 = .ok (.istore_n 3, 1) := by decide +kernel
theorem dX6_under_83 : decode cX6_under 83 = .ok (.iinc 4 1, 3) := by decide +kernel
theorem dX6_under_86 : decode cX6_under 86 = .ok (.goto (-81), 3) := by decide +kernel
theorem dX6_under_89 : decode cX6_under 89 = .ok (.iload_n 3, 1) := by decide +kernel
theorem dX6_under_90 : decode cX6_under 90 = .ok (.ireturn, 1) := by decide +kernel
theorem dX6_isNamed_0 : decode cX6_isNamed 0 = .ok (.iconst 0, 1) := by decide +kernel
theorem dX6_isNamed_1 : decode cX6_isNamed 1 = .ok (.istore 5, 2) := by decide +kernel
theorem dX6_isNamed_3 : decode cX6_isNamed 3 = .ok (.iconst 0, 1) := by decide +kernel
theorem dX6_isNamed_4 : decode cX6_isNamed 4 = .ok (.istore 6, 2) := by decide +kernel
theorem dX6_isNamed_6 : decode cX6_isNamed 6 = .ok (.iload 6, 2) := by decide +kernel
theorem dX6_isNamed_8 : decode cX6_isNamed 8 = .ok (.aload_n 1, 1) := by decide +kernel
theorem dX6_isNamed_9 : decode cX6_isNamed 9 = .ok (.sipush 580, 3) := by decide +kernel
theorem dX6_isNamed_12 : decode cX6_isNamed 12 = .ok (.iaload, 1) := by decide +kernel
theorem dX6_isNamed_13 : decode cX6_isNamed 13 = .ok (.if_icmp .ge 60, 3) := by decide +kernel
theorem dX6_isNamed_16 : decode cX6_isNamed 16 = .ok (.iload 5, 2) := by decide +kernel
theorem dX6_isNamed_18 : decode cX6_isNamed 18 = .ok (.iload 6, 2) := by decide +kernel
theorem dX6_isNamed_20 : decode cX6_isNamed 20 = .ok (.iload_n 2, 1) := by decide +kernel
theorem dX6_isNamed_21 : decode cX6_isNamed 21 = .ok (.if_icmp .eq 42, 3) := by decide +kernel
theorem dX6_isNamed_24 : decode cX6_isNamed 24 = .ok (.aload_n 0, 1) := by decide +kernel
theorem dX6_isNamed_25 : decode cX6_isNamed 25 = .ok (.aload_n 1, 1) := by decide +kernel
theorem dX6_isNamed_26 : decode cX6_isNamed 26 = .ok (.iload 6, 2) := by decide +kernel
theorem dX6_isNamed_28 : decode cX6_isNamed 28 = .ok (.invokevirtual 89, 3) := by decide +kernel
theorem dX6_isNamed_31 : decode cX6_isNamed 31 = .ok (.ifCond .eq 32, 3) := by decide +kernel
theorem dX6_isNamed_34 : decode cX6_isNamed 34 = .ok (.aload_n 0, 1) := by decide +kernel
theorem dX6_isNamed_35 : decode cX6_isNamed 35 = .ok (.aload_n 1, 1) := by decide +kernel
theorem dX6_isNamed_36 : decode cX6_isNamed 36 = .ok (.iload 6, 2) := by decide +kernel
theorem dX6_isNamed_38 : decode cX6_isNamed 38 = .ok (.iconst 2, 1) := by decide +kernel
theorem dX6_isNamed_39 : decode cX6_isNamed 39 = .ok (.invokevirtual 96, 3) := by decide +kernel
theorem dX6_isNamed_42 : decode cX6_isNamed 42 = .ok (.iload_n 3, 1) := by decide +kernel
theorem dX6_isNamed_43 : decode cX6_isNamed 43 = .ok (.if_icmp .ne 20, 3) := by decide +kernel
theorem dX6_isNamed_46 : decode cX6_isNamed 46 = .ok (.aload_n 0, 1) := by decide +kernel
theorem dX6_isNamed_47 : decode cX6_isNamed 47 = .ok (.aload_n 1, 1) := by decide +kernel
theorem dX6_isNamed_48 : decode cX6_isNamed 48 = .ok (.iload 6, 2) := by decide +kernel
theorem dX6_isNamed_50 : decode cX6_isNamed 50 = .ok (.iconst 1, 1) := by decide +kernel
theorem dX6_isNamed_51 : decode cX6_isNamed 51 = .ok (.invokevirtual 96, 3) := by decide +kernel
theorem dX6_isNamed_54 : decode cX6_isNamed 54 = .ok (.iload 4, 2) := by decide +kernel
theorem dX6_isNamed_56 : decode cX6_isNamed 56 = .ok (.if_icmp .ne 7, 3) := by decide +kernel
theorem dX6_isNamed_59 : decode cX6_isNamed 59 = .ok (.iconst 1, 1) := by decide +kernel
theorem dX6_isNamed_60 : decode cX6_isNamed 60 = .ok (.goto 4, 3) := by decide +kernel
theorem dX6_isNamed_63 : decode cX6_isNamed 63 = .ok (.iconst 0, 1) := by decide +kernel
theorem dX6_isNamed_64 : decode cX6_isNamed 64 = .ok (.ior, 1) := by decide +kernel
theorem dX6_isNamed_65 : decode cX6_isNamed 65 = .ok (.istore 5, 2) := by decide +kernel
theorem dX6_isNamed_67 : decode cX6_isNamed 67 = .ok (.iinc 6 1, 3) := by decide +kernel
theorem dX6_isNamed_70 : decode cX6_isNamed 70 = .ok (.goto (-64), 3) := by decide +kernel
theorem dX6_isNamed_73 : decode cX6_isNamed 73 = .ok (.iload 5, 2) := by decide +kernel
theorem dX6_isNamed_75 : decode cX6_isNamed 75 = .ok (.ireturn, 1) := by decide +kernel
theorem dX6_draft_0 : decode cX6_draft 0 = .ok (.iload_n 1, 1) := by decide +kernel
theorem dX6_draft_1 : decode cX6_draft 1 = .ok (.iconst 0, 1) := by decide +kernel
theorem dX6_draft_2 : decode cX6_draft 2 = .ok (.bipush 9, 2) := by decide +kernel
theorem dX6_draft_4 : decode cX6_draft 4 = .ok (.invokestatic 99, 3) := by decide +kernel
theorem dX6_draft_7 : decode cX6_draft 7 = .ok (.ifCond .ne 5, 3) := by decide +kernel
theorem dX6_draft_10 : decode cX6_draft 10 = .ok (.iconst (-1), 1) := by decide +kernel
theorem dX6_draft_11 : decode cX6_draft 11 = .ok (.ireturn, 1) := by decide +kernel
theorem dX6_draft_12 : decode cX6_draft 12 = .ok (.aload_n 0, 1) := by decide +kernel
theorem dX6_draft_13 : decode cX6_draft 13 = .ok (.getfield 19, 3) := by decide +kernel
theorem dX6_draft_16 : decode cX6_draft 16 = .ok (.iload_n 1, 1) := by decide +kernel
theorem dX6_draft_17 : decode cX6_draft 17 = .ok (.iaload, 1) := by decide +kernel
theorem dX6_draft_18 : decode cX6_draft 18 = .ok (.istore_n 3, 1) := by decide +kernel
theorem dX6_draft_19 : decode cX6_draft 19 = .ok (.aload_n 0, 1) := by decide +kernel
theorem dX6_draft_20 : decode cX6_draft 20 = .ok (.getfield 19, 3) := by decide +kernel
theorem dX6_draft_23 : decode cX6_draft 23 = .ok (.iload_n 1, 1) := by decide +kernel
theorem dX6_draft_24 : decode cX6_draft 24 = .ok (.iload_n 2, 1) := by decide +kernel
theorem dX6_draft_25 : decode cX6_draft 25 = .ok (.iastore, 1) := by decide +kernel
theorem dX6_draft_26 : decode cX6_draft 26 = .ok (.iload_n 3, 1) := by decide +kernel
theorem dX6_draft_27 : decode cX6_draft 27 = .ok (.ireturn, 1) := by decide +kernel
theorem dX6_comes_0 : decode cX6_comes 0 = .ok (.aload_n 0, 1) := by decide +kernel
theorem dX6_comes_1 : decode cX6_comes 1 = .ok (.getfield 103, 3) := by decide +kernel
theorem dX6_comes_4 : decode cX6_comes 4 = .ok (.bipush 12, 2) := by decide +kernel
theorem dX6_comes_6 : decode cX6_comes 6 = .ok (.if_icmp .ne 6, 3) := by decide +kernel
theorem dX6_comes_9 : decode cX6_comes 9 = .ok (.bipush (-4), 2) := by decide +kernel
theorem dX6_comes_11 : decode cX6_comes 11 = .ok (.ireturn, 1) := by decide +kernel
theorem dX6_comes_12 : decode cX6_comes 12 = .ok (.aload_n 0, 1) := by decide +kernel
theorem dX6_comes_13 : decode cX6_comes 13 = .ok (.getfield 22, 3) := by decide +kernel
theorem dX6_comes_16 : decode cX6_comes 16 = .ok (.aload_n 0, 1) := by decide +kernel
theorem dX6_comes_17 : decode cX6_comes 17 = .ok (.getfield 103, 3) := by decide +kernel
theorem dX6_comes_20 : decode cX6_comes 20 = .ok (.iload_n 1, 1) := by decide +kernel
theorem dX6_comes_21 : decode cX6_comes 21 = .ok (.iastore, 1) := by decide +kernel
theorem dX6_comes_22 : decode cX6_comes 22 = .ok (.aload_n 0, 1) := by decide +kernel
theorem dX6_comes_23 : decode cX6_comes 23 = .ok (.getfield 25, 3) := by decide +kernel
theorem dX6_comes_26 : decode cX6_comes 26 = .ok (.iconst 5, 1) := by decide +kernel
theorem dX6_comes_27 : decode cX6_comes 27 = .ok (.aload_n 0, 1) := by decide +kernel
theorem dX6_comes_28 : decode cX6_comes 28 = .ok (.getfield 103, 3) := by decide +kernel
theorem dX6_comes_31 : decode cX6_comes 31 = .ok (.imul, 1) := by decide +kernel
theorem dX6_comes_32 : decode cX6_comes 32 = .ok (.iload_n 2, 1) := by decide +kernel
theorem dX6_comes_33 : decode cX6_comes 33 = .ok (.iastore, 1) := by decide +kernel
theorem dX6_comes_34 : decode cX6_comes 34 = .ok (.aload_n 0, 1) := by decide +kernel
theorem dX6_comes_35 : decode cX6_comes 35 = .ok (.getfield 25, 3) := by decide +kernel
theorem dX6_comes_38 : decode cX6_comes 38 = .ok (.iconst 5, 1) := by decide +kernel
theorem dX6_comes_39 : decode cX6_comes 39 = .ok (.aload_n 0, 1) := by decide +kernel
theorem dX6_comes_40 : decode cX6_comes 40 = .ok (.getfield 103, 3) := by decide +kernel
theorem dX6_comes_43 : decode cX6_comes 43 = .ok (.imul, 1) := by decide +kernel
theorem dX6_comes_44 : decode cX6_comes 44 = .ok (.iconst 1, 1) := by decide +kernel
theorem dX6_comes_45 : decode cX6_comes 45 = .ok (.iadd, 1) := by decide +kernel
theorem dX6_comes_46 : decode cX6_comes 46 = .ok (.iload_n 3, 1) := by decide +kernel
theorem dX6_comes_47 : decode cX6_comes 47 = .ok (.iastore, 1) := by decide +kernel
theorem dX6_comes_48 : decode cX6_comes 48 = .ok (.aload_n 0, 1) := by decide +kernel
theorem dX6_comes_49 : decode cX6_comes 49 = .ok (.getfield 25, 3) := by decide +kernel
theorem dX6_comes_52 : decode cX6_comes 52 = .ok (.iconst 5, 1) := by decide +kernel
theorem dX6_comes_53 : decode cX6_comes 53 = .ok (.aload_n 0, 1) := by decide +kernel
theorem dX6_comes_54 : decode cX6_comes 54 = .ok (.getfield 103, 3) := by decide +kernel
theorem dX6_comes_57 : decode cX6_comes 57 = .ok (.imul, 1) := by decide +kernel
theorem dX6_comes_58 : decode cX6_comes 58 = .ok (.iconst 2, 1) := by decide +kernel
theorem dX6_comes_59 : decode cX6_comes 59 = .ok (.iadd, 1) := by decide +kernel
theorem dX6_comes_60 : decode cX6_comes 60 = .ok (.iload 4, 2) := by decide +kernel
theorem dX6_comes_62 : decode cX6_comes 62 = .ok (.iastore, 1) := by decide +kernel
theorem dX6_comes_63 : decode cX6_comes 63 = .ok (.aload_n 0, 1) := by decide +kernel
theorem dX6_comes_64 : decode cX6_comes 64 = .ok (.getfield 25, 3) := by decide +kernel
theorem dX6_comes_67 : decode cX6_comes 67 = .ok (.iconst 5, 1) := by decide +kernel
theorem dX6_comes_68 : decode cX6_comes 68 = .ok (.aload_n 0, 1) := by decide +kernel
theorem dX6_comes_69 : decode cX6_comes 69 = .ok (.getfield 103, 3) := by decide +kernel
theorem dX6_comes_72 : decode cX6_comes 72 = .ok (.imul, 1) := by decide +kernel
theorem dX6_comes_73 : decode cX6_comes 73 = .ok (.iconst 3, 1) := by decide +kernel
theorem dX6_comes_74 : decode cX6_comes 74 = .ok (.iadd, 1) := by decide +kernel
theorem dX6_comes_75 : decode cX6_comes 75 = .ok (.iload 5, 2) := by decide +kernel
theorem dX6_comes_77 : decode cX6_comes 77 = .ok (.iastore, 1) := by decide +kernel
theorem dX6_comes_78 : decode cX6_comes 78 = .ok (.aload_n 0, 1) := by decide +kernel
theorem dX6_comes_79 : decode cX6_comes 79 = .ok (.getfield 25, 3) := by decide +kernel
theorem dX6_comes_82 : decode cX6_comes 82 = .ok (.iconst 5, 1) := by decide +kernel
theorem dX6_comes_83 : decode cX6_comes 83 = .ok (.aload_n 0, 1) := by decide +kernel
theorem dX6_comes_84 : decode cX6_comes 84 = .ok (.getfield 103, 3) := by decide +kernel
theorem dX6_comes_87 : decode cX6_comes 87 = .ok (.imul, 1) := by decide +kernel
theorem dX6_comes_88 : decode cX6_comes 88 = .ok (.iconst 4, 1) := by decide +kernel
theorem dX6_comes_89 : decode cX6_comes 89 = .ok (.iadd, 1) := by decide +kernel
theorem dX6_comes_90 : decode cX6_comes 90 = .ok (.iload 6, 2) := by decide +kernel
theorem dX6_comes_92 : decode cX6_comes 92 = .ok (.iastore, 1) := by decide +kernel
theorem dX6_comes_93 : decode cX6_comes 93 = .ok (.iconst 0, 1) := by decide +kernel
theorem dX6_comes_94 : decode cX6_comes 94 = .ok (.istore 7, 2) := by decide +kernel
theorem dX6_comes_96 : decode cX6_comes 96 = .ok (.iload 7, 2) := by decide +kernel
theorem dX6_comes_98 : decode cX6_comes 98 = .ok (.bipush 10, 2) := by decide +kernel
theorem dX6_comes_100 : decode cX6_comes 100 = .ok (.if_icmp .ge 31, 3) := by decide +kernel
theorem dX6_comes_103 : decode cX6_comes 103 = .ok (.aload_n 0, 1) := by decide +kernel
theorem dX6_comes_104 : decode cX6_comes 104 = .ok (.getfield 28, 3) := by decide +kernel
theorem dX6_comes_107 : decode cX6_comes 107 = .ok (.bipush 10, 2) := by decide +kernel
theorem dX6_comes_109 : decode cX6_comes 109 = .ok (.aload_n 0, 1) := by decide +kernel
theorem dX6_comes_110 : decode cX6_comes 110 = .ok (.getfield 103, 3) := by decide +kernel
theorem dX6_comes_113 : decode cX6_comes 113 = .ok (.imul, 1) := by decide +kernel
theorem dX6_comes_114 : decode cX6_comes 114 = .ok (.iload 7, 2) := by decide +kernel
theorem dX6_comes_116 : decode cX6_comes 116 = .ok (.iadd, 1) := by decide +kernel
theorem dX6_comes_117 : decode cX6_comes 117 = .ok (.aload_n 0, 1) := by decide +kernel
theorem dX6_comes_118 : decode cX6_comes 118 = .ok (.getfield 19, 3) := by decide +kernel
theorem dX6_comes_121 : decode cX6_comes 121 = .ok (.iload 7, 2) := by decide +kernel
theorem dX6_comes_123 : decode cX6_comes 123 = .ok (.iaload, 1) := by decide +kernel
theorem dX6_comes_124 : decode cX6_comes 124 = .ok (.iastore, 1) := by decide +kernel
theorem dX6_comes_125 : decode cX6_comes 125 = .ok (.iinc 7 1, 3) := by decide +kernel
theorem dX6_comes_128 : decode cX6_comes 128 = .ok (.goto (-32), 3) := by decide +kernel
theorem dX6_comes_131 : decode cX6_comes 131 = .ok (.aload_n 0, 1) := by decide +kernel
theorem dX6_comes_132 : decode cX6_comes 132 = .ok (.dup, 1) := by decide +kernel
theorem dX6_comes_133 : decode cX6_comes 133 = .ok (.getfield 103, 3) := by decide +kernel
theorem dX6_comes_136 : decode cX6_comes 136 = .ok (.iconst 1, 1) := by decide +kernel
theorem dX6_comes_137 : decode cX6_comes 137 = .ok (.iadd, 1) := by decide +kernel
theorem dX6_comes_138 : decode cX6_comes 138 = .ok (.putfield 103, 3) := by decide +kernel
theorem dX6_comes_141 : decode cX6_comes 141 = .ok (.aload_n 0, 1) := by decide +kernel
theorem dX6_comes_142 : decode cX6_comes 142 = .ok (.getfield 103, 3) := by decide +kernel
theorem dX6_comes_145 : decode cX6_comes 145 = .ok (.iconst 1, 1) := by decide +kernel
theorem dX6_comes_146 : decode cX6_comes 146 = .ok (.isub, 1) := by decide +kernel
theorem dX6_comes_147 : decode cX6_comes 147 = .ok (.ireturn, 1) := by decide +kernel
theorem dX6_get_0 : decode cX6_get 0 = .ok (.aload_n 0, 1) := by decide +kernel
theorem dX6_get_1 : decode cX6_get 1 = .ok (.iconst 0, 1) := by decide +kernel
theorem dX6_get_2 : decode cX6_get 2 = .ok (.iload_n 1, 1) := by decide +kernel
theorem dX6_get_3 : decode cX6_get 3 = .ok (.iload_n 2, 1) := by decide +kernel
theorem dX6_get_4 : decode cX6_get 4 = .ok (.iload_n 3, 1) := by decide +kernel
theorem dX6_get_5 : decode cX6_get 5 = .ok (.iconst 0, 1) := by decide +kernel
theorem dX6_get_6 : decode cX6_get 6 = .ok (.iconst 0, 1) := by decide +kernel
theorem dX6_get_7 : decode cX6_get 7 = .ok (.invokevirtual 106, 3) := by decide +kernel
theorem dX6_get_10 : decode cX6_get 10 = .ok (.ireturn, 1) := by decide +kernel
theorem dX6_query_0 : decode cX6_query 0 = .ok (.aload_n 0, 1) := by decide +kernel
theorem dX6_query_1 : decode cX6_query 1 = .ok (.iconst 1, 1) := by decide +kernel
theorem dX6_query_2 : decode cX6_query 2 = .ok (.iload_n 1, 1) := by decide +kernel
theorem dX6_query_3 : decode cX6_query 3 = .ok (.iload_n 2, 1) := by decide +kernel
theorem dX6_query_4 : decode cX6_query 4 = .ok (.iload_n 3, 1) := by decide +kernel
theorem dX6_query_5 : decode cX6_query 5 = .ok (.iload 4, 2) := by decide +kernel
theorem dX6_query_7 : decode cX6_query 7 = .ok (.iconst 0, 1) := by decide +kernel
theorem dX6_query_8 : decode cX6_query 8 = .ok (.invokevirtual 106, 3) := by decide +kernel
theorem dX6_query_11 : decode cX6_query 11 = .ok (.ireturn, 1) := by decide +kernel
theorem dX6_changes_0 : decode cX6_changes 0 = .ok (.aload_n 0, 1) := by decide +kernel
theorem dX6_changes_1 : decode cX6_changes 1 = .ok (.iconst 2, 1) := by decide +kernel
theorem dX6_changes_2 : decode cX6_changes 2 = .ok (.iload_n 1, 1) := by decide +kernel
theorem dX6_changes_3 : decode cX6_changes 3 = .ok (.iload_n 2, 1) := by decide +kernel
theorem dX6_changes_4 : decode cX6_changes 4 = .ok (.iload_n 3, 1) := by decide +kernel
theorem dX6_changes_5 : decode cX6_changes 5 = .ok (.iconst 0, 1) := by decide +kernel
theorem dX6_changes_6 : decode cX6_changes 6 = .ok (.iconst 0, 1) := by decide +kernel
theorem dX6_changes_7 : decode cX6_changes 7 = .ok (.invokevirtual 106, 3) := by decide +kernel
theorem dX6_changes_10 : decode cX6_changes 10 = .ok (.ireturn, 1) := by decide +kernel
theorem dX6_make_0 : decode cX6_make 0 = .ok (.aload_n 0, 1) := by decide +kernel
theorem dX6_make_1 : decode cX6_make 1 = .ok (.iconst 3, 1) := by decide +kernel
theorem dX6_make_2 : decode cX6_make 2 = .ok (.iload_n 1, 1) := by decide +kernel
theorem dX6_make_3 : decode cX6_make 3 = .ok (.iload_n 2, 1) := by decide +kernel
theorem dX6_make_4 : decode cX6_make 4 = .ok (.iconst 0, 1) := by decide +kernel
theorem dX6_make_5 : decode cX6_make 5 = .ok (.iconst 0, 1) := by decide +kernel
theorem dX6_make_6 : decode cX6_make 6 = .ok (.iconst 0, 1) := by decide +kernel
theorem dX6_make_7 : decode cX6_make 7 = .ok (.invokevirtual 106, 3) := by decide +kernel
theorem dX6_make_10 : decode cX6_make 10 = .ok (.ireturn, 1) := by decide +kernel
theorem dX6_change_0 : decode cX6_change 0 = .ok (.aload_n 0, 1) := by decide +kernel
theorem dX6_change_1 : decode cX6_change 1 = .ok (.iconst 4, 1) := by decide +kernel
theorem dX6_change_2 : decode cX6_change 2 = .ok (.iload_n 1, 1) := by decide +kernel
theorem dX6_change_3 : decode cX6_change 3 = .ok (.iload_n 2, 1) := by decide +kernel
theorem dX6_change_4 : decode cX6_change 4 = .ok (.iload_n 3, 1) := by decide +kernel
theorem dX6_change_5 : decode cX6_change 5 = .ok (.iload 4, 2) := by decide +kernel
theorem dX6_change_7 : decode cX6_change 7 = .ok (.iload 5, 2) := by decide +kernel
theorem dX6_change_9 : decode cX6_change 9 = .ok (.invokevirtual 106, 3) := by decide +kernel
theorem dX6_change_12 : decode cX6_change 12 = .ok (.ireturn, 1) := by decide +kernel
theorem dX6_destroy_0 : decode cX6_destroy 0 = .ok (.aload_n 0, 1) := by decide +kernel
theorem dX6_destroy_1 : decode cX6_destroy 1 = .ok (.iconst 5, 1) := by decide +kernel
theorem dX6_destroy_2 : decode cX6_destroy 2 = .ok (.iload_n 1, 1) := by decide +kernel
theorem dX6_destroy_3 : decode cX6_destroy 3 = .ok (.iload_n 2, 1) := by decide +kernel
theorem dX6_destroy_4 : decode cX6_destroy 4 = .ok (.iload_n 3, 1) := by decide +kernel
theorem dX6_destroy_5 : decode cX6_destroy 5 = .ok (.iconst 0, 1) := by decide +kernel
theorem dX6_destroy_6 : decode cX6_destroy 6 = .ok (.iconst 0, 1) := by decide +kernel
theorem dX6_destroy_7 : decode cX6_destroy 7 = .ok (.invokevirtual 106, 3) := by decide +kernel
theorem dX6_destroy_10 : decode cX6_destroy 10 = .ok (.ireturn, 1) := by decide +kernel
theorem dX6_crash_0 : decode cX6_crash 0 = .ok (.iload_n 1, 1) := by decide +kernel
theorem dX6_crash_1 : decode cX6_crash 1 = .ok (.iconst 0, 1) := by decide +kernel
theorem dX6_crash_2 : decode cX6_crash 2 = .ok (.bipush 12, 2) := by decide +kernel
theorem dX6_crash_4 : decode cX6_crash 4 = .ok (.invokestatic 99, 3) := by decide +kernel
theorem dX6_crash_7 : decode cX6_crash 7 = .ok (.ifCond .ne 6, 3) := by decide +kernel
theorem dX6_crash_10 : decode cX6_crash 10 = .ok (.bipush (-2), 2) := by decide +kernel
theorem dX6_crash_12 : decode cX6_crash 12 = .ok (.ireturn, 1) := by decide +kernel
theorem dX6_crash_13 : decode cX6_crash 13 = .ok (.aload_n 0, 1) := by decide +kernel
theorem dX6_crash_14 : decode cX6_crash 14 = .ok (.iload_n 1, 1) := by decide +kernel
theorem dX6_crash_15 : decode cX6_crash 15 = .ok (.putfield 31, 3) := by decide +kernel
theorem dX6_crash_18 : decode cX6_crash 18 = .ok (.iconst 1, 1) := by decide +kernel
theorem dX6_crash_19 : decode cX6_crash 19 = .ok (.ireturn, 1) := by decide +kernel
theorem dX6_drop_0 : decode cX6_drop 0 = .ok (.aload_n 0, 1) := by decide +kernel
theorem dX6_drop_1 : decode cX6_drop 1 = .ok (.getfield 103, 3) := by decide +kernel
theorem dX6_drop_4 : decode cX6_drop 4 = .ok (.istore_n 1, 1) := by decide +kernel
theorem dX6_drop_5 : decode cX6_drop 5 = .ok (.aload_n 0, 1) := by decide +kernel
theorem dX6_drop_6 : decode cX6_drop 6 = .ok (.iconst 0, 1) := by decide +kernel
theorem dX6_drop_7 : decode cX6_drop 7 = .ok (.putfield 103, 3) := by decide +kernel
theorem dX6_drop_10 : decode cX6_drop 10 = .ok (.iload_n 1, 1) := by decide +kernel
theorem dX6_drop_11 : decode cX6_drop 11 = .ok (.ireturn, 1) := by decide +kernel
theorem dX6_give_0 : decode cX6_give 0 = .ok (.iconst 4, 1) := by decide +kernel
theorem dX6_give_1 : decode cX6_give 1 = .ok (.iload_n 1, 1) := by decide +kernel
theorem dX6_give_2 : decode cX6_give 2 = .ok (.imul, 1) := by decide +kernel
theorem dX6_give_3 : decode cX6_give 3 = .ok (.iload_n 2, 1) := by decide +kernel
theorem dX6_give_4 : decode cX6_give 4 = .ok (.iadd, 1) := by decide +kernel
theorem dX6_give_5 : decode cX6_give 5 = .ok (.istore 4, 2) := by decide +kernel
theorem dX6_give_7 : decode cX6_give 7 = .ok (.aload_n 0, 1) := by decide +kernel
theorem dX6_give_8 : decode cX6_give 8 = .ok (.getfield 41, 3) := by decide +kernel
theorem dX6_give_11 : decode cX6_give 11 = .ok (.bipush 50, 2) := by decide +kernel
theorem dX6_give_13 : decode cX6_give 13 = .ok (.iload 4, 2) := by decide +kernel
theorem dX6_give_15 : decode cX6_give 15 = .ok (.imul, 1) := by decide +kernel
theorem dX6_give_16 : decode cX6_give 16 = .ok (.aload_n 0, 1) := by decide +kernel
theorem dX6_give_17 : decode cX6_give 17 = .ok (.getfield 38, 3) := by decide +kernel
theorem dX6_give_20 : decode cX6_give 20 = .ok (.iload 4, 2) := by decide +kernel
theorem dX6_give_22 : decode cX6_give 22 = .ok (.iaload, 1) := by decide +kernel
theorem dX6_give_23 : decode cX6_give 23 = .ok (.iadd, 1) := by decide +kernel
theorem dX6_give_24 : decode cX6_give 24 = .ok (.iload_n 3, 1) := by decide +kernel
theorem dX6_give_25 : decode cX6_give 25 = .ok (.iastore, 1) := by decide +kernel
theorem dX6_give_26 : decode cX6_give 26 = .ok (.aload_n 0, 1) := by decide +kernel
theorem dX6_give_27 : decode cX6_give 27 = .ok (.getfield 38, 3) := by decide +kernel
theorem dX6_give_30 : decode cX6_give 30 = .ok (.iload 4, 2) := by decide +kernel
theorem dX6_give_32 : decode cX6_give 32 = .ok (.dup2, 1) := by decide +kernel
theorem dX6_give_33 : decode cX6_give 33 = .ok (.iaload, 1) := by decide +kernel
theorem dX6_give_34 : decode cX6_give 34 = .ok (.iconst 1, 1) := by decide +kernel
theorem dX6_give_35 : decode cX6_give 35 = .ok (.iadd, 1) := by decide +kernel
theorem dX6_give_36 : decode cX6_give 36 = .ok (.iastore, 1) := by decide +kernel
theorem dX6_give_37 : decode cX6_give 37 = .ok (.return_, 1) := by decide +kernel
theorem dX6_isGiven_0 : decode cX6_isGiven 0 = .ok (.iconst 0, 1) := by decide +kernel
theorem dX6_isGiven_1 : decode cX6_isGiven 1 = .ok (.istore 4, 2) := by decide +kernel
theorem dX6_isGiven_3 : decode cX6_isGiven 3 = .ok (.iconst 0, 1) := by decide +kernel
theorem dX6_isGiven_4 : decode cX6_isGiven 4 = .ok (.istore 5, 2) := by decide +kernel
theorem dX6_isGiven_6 : decode cX6_isGiven 6 = .ok (.iload 5, 2) := by decide +kernel
theorem dX6_isGiven_8 : decode cX6_isGiven 8 = .ok (.aload_n 0, 1) := by decide +kernel
theorem dX6_isGiven_9 : decode cX6_isGiven 9 = .ok (.getfield 38, 3) := by decide +kernel
theorem dX6_isGiven_12 : decode cX6_isGiven 12 = .ok (.iconst 4, 1) := by decide +kernel
theorem dX6_isGiven_13 : decode cX6_isGiven 13 = .ok (.iload_n 1, 1) := by decide +kernel
theorem dX6_isGiven_14 : decode cX6_isGiven 14 = .ok (.imul, 1) := by decide +kernel
theorem dX6_isGiven_15 : decode cX6_isGiven 15 = .ok (.iload_n 2, 1) := by decide +kernel
theorem dX6_isGiven_16 : decode cX6_isGiven 16 = .ok (.iadd, 1) := by decide +kernel
theorem dX6_isGiven_17 : decode cX6_isGiven 17 = .ok (.iaload, 1) := by decide +kernel
theorem dX6_isGiven_18 : decode cX6_isGiven 18 = .ok (.if_icmp .ge 39, 3) := by decide +kernel
theorem dX6_isGiven_21 : decode cX6_isGiven 21 = .ok (.iload 4, 2) := by decide +kernel
theorem dX6_isGiven_23 : decode cX6_isGiven 23 = .ok (.aload_n 0, 1) := by decide +kernel
theorem dX6_isGiven_24 : decode cX6_isGiven 24 = .ok (.getfield 41, 3) := by decide +kernel
theorem dX6_isGiven_27 : decode cX6_isGiven 27 = .ok (.bipush 50, 2) := by decide +kernel
theorem dX6_isGiven_29 : decode cX6_isGiven 29 = .ok (.iconst 4, 1) := by decide +kernel
theorem dX6_isGiven_30 : decode cX6_isGiven 30 = .ok (.iload_n 1, 1) := by decide +kernel
theorem dX6_isGiven_31 : decode cX6_isGiven 31 = .ok (.imul, 1) := by decide +kernel
theorem dX6_isGiven_32 : decode cX6_isGiven 32 = .ok (.iload_n 2, 1) := by decide +kernel
theorem dX6_isGiven_33 : decode cX6_isGiven 33 = .ok (.iadd, 1) := by decide +kernel
theorem dX6_isGiven_34 : decode cX6_isGiven 34 = .ok (.imul, 1) := by decide +kernel
theorem dX6_isGiven_35 : decode cX6_isGiven 35 = .ok (.iload 5, 2) := by decide +kernel
theorem dX6_isGiven_37 : decode cX6_isGiven 37 = .ok (.iadd, 1) := by decide +kernel
theorem dX6_isGiven_38 : decode cX6_isGiven 38 = .ok (.iaload, 1) := by decide +kernel
theorem dX6_isGiven_39 : decode cX6_isGiven 39 = .ok (.iload_n 3, 1) := by decide +kernel
theorem dX6_isGiven_40 : decode cX6_isGiven 40 = .ok (.if_icmp .ne 7, 3) := by decide +kernel
theorem dX6_isGiven_43 : decode cX6_isGiven 43 = .ok (.iconst 1, 1) := by decide +kernel
theorem dX6_isGiven_44 : decode cX6_isGiven 44 = .ok (.goto 4, 3) := by decide +kernel
theorem dX6_isGiven_47 : decode cX6_isGiven 47 = .ok (.iconst 0, 1) := by decide +kernel
theorem dX6_isGiven_48 : decode cX6_isGiven 48 = .ok (.ior, 1) := by decide +kernel
theorem dX6_isGiven_49 : decode cX6_isGiven 49 = .ok (.istore 4, 2) := by decide +kernel
theorem dX6_isGiven_51 : decode cX6_isGiven 51 = .ok (.iinc 5 1, 3) := by decide +kernel
theorem dX6_isGiven_54 : decode cX6_isGiven 54 = .ok (.goto (-48), 3) := by decide +kernel
theorem dX6_isGiven_57 : decode cX6_isGiven 57 = .ok (.iload 4, 2) := by decide +kernel
theorem dX6_isGiven_59 : decode cX6_isGiven 59 = .ok (.ireturn, 1) := by decide +kernel
theorem dX6_clearRows_0 : decode cX6_clearRows 0 = .ok (.iconst 0, 1) := by decide +kernel
theorem dX6_clearRows_1 : decode cX6_clearRows 1 = .ok (.istore_n 2, 1) := by decide +kernel
theorem dX6_clearRows_2 : decode cX6_clearRows 2 = .ok (.iload_n 2, 1) := by decide +kernel
theorem dX6_clearRows_3 : decode cX6_clearRows 3 = .ok (.iconst 4, 1) := by decide +kernel
theorem dX6_clearRows_4 : decode cX6_clearRows 4 = .ok (.if_icmp .ge 20, 3) := by decide +kernel
theorem dX6_clearRows_7 : decode cX6_clearRows 7 = .ok (.aload_n 0, 1) := by decide +kernel
theorem dX6_clearRows_8 : decode cX6_clearRows 8 = .ok (.getfield 38, 3) := by decide +kernel
theorem dX6_clearRows_11 : decode cX6_clearRows 11 = .ok (.iconst 4, 1) := by decide +kernel
theorem dX6_clearRows_12 : decode cX6_clearRows 12 = .ok (.iload_n 1, 1) := by decide +kernel
theorem dX6_clearRows_13 : decode cX6_clearRows 13 = .ok (.imul, 1) := by decide +kernel
theorem dX6_clearRows_14 : decode cX6_clearRows 14 = .ok (.iload_n 2, 1) := by decide +kernel
theorem dX6_clearRows_15 : decode cX6_clearRows 15 = .ok (.iadd, 1) := by decide +kernel
theorem dX6_clearRows_16 : decode cX6_clearRows 16 = .ok (.iconst 0, 1) := by decide +kernel
theorem dX6_clearRows_17 : decode cX6_clearRows 17 = .ok (.iastore, 1) := by decide +kernel
theorem dX6_clearRows_18 : decode cX6_clearRows 18 = .ok (.iinc 2 1, 3) := by decide +kernel
theorem dX6_clearRows_21 : decode cX6_clearRows 21 = .ok (.goto (-19), 3) := by decide +kernel
theorem dX6_clearRows_24 : decode cX6_clearRows 24 = .ok (.return_, 1) := by decide +kernel
theorem dX6_note_0 : decode cX6_note 0 = .ok (.aload_n 0, 1) := by decide +kernel
theorem dX6_note_1 : decode cX6_note 1 = .ok (.getfield 110, 3) := by decide +kernel
theorem dX6_note_4 : decode cX6_note 4 = .ok (.bipush 60, 2) := by decide +kernel
theorem dX6_note_6 : decode cX6_note 6 = .ok (.if_icmp .ne 142, 3) := by decide +kernel
theorem dX6_note_9 : decode cX6_note 9 = .ok (.aload_n 0, 1) := by decide +kernel
theorem dX6_note_10 : decode cX6_note 10 = .ok (.getfield 44, 3) := by decide +kernel
theorem dX6_note_13 : decode cX6_note 13 = .ok (.iconst 0, 1) := by decide +kernel
theorem dX6_note_14 : decode cX6_note 14 = .ok (.iaload, 1) := by decide +kernel
theorem dX6_note_15 : decode cX6_note 15 = .ok (.istore 5, 2) := by decide +kernel
theorem dX6_note_17 : decode cX6_note 17 = .ok (.aload_n 0, 1) := by decide +kernel
theorem dX6_note_18 : decode cX6_note 18 = .ok (.getfield 56, 3) := by decide +kernel
theorem dX6_note_21 : decode cX6_note 21 = .ok (.iload 5, 2) := by decide +kernel
theorem dX6_note_23 : decode cX6_note 23 = .ok (.aload_n 0, 1) := by decide +kernel
theorem dX6_note_24 : decode cX6_note 24 = .ok (.getfield 47, 3) := by decide +kernel
theorem dX6_note_27 : decode cX6_note 27 = .ok (.iconst 0, 1) := by decide +kernel
theorem dX6_note_28 : decode cX6_note 28 = .ok (.iaload, 1) := by decide +kernel
theorem dX6_note_29 : decode cX6_note 29 = .ok (.aload_n 0, 1) := by decide +kernel
theorem dX6_note_30 : decode cX6_note 30 = .ok (.getfield 56, 3) := by decide +kernel
theorem dX6_note_33 : decode cX6_note 33 = .ok (.iload 5, 2) := by decide +kernel
theorem dX6_note_35 : decode cX6_note 35 = .ok (.iaload, 1) := by decide +kernel
theorem dX6_note_36 : decode cX6_note 36 = .ok (.if_icmp .le 12, 3) := by decide +kernel
theorem dX6_note_39 : decode cX6_note 39 = .ok (.aload_n 0, 1) := by decide +kernel
theorem dX6_note_40 : decode cX6_note 40 = .ok (.getfield 47, 3) := by decide +kernel
theorem dX6_note_43 : decode cX6_note 43 = .ok (.iconst 0, 1) := by decide +kernel
theorem dX6_note_44 : decode cX6_note 44 = .ok (.iaload, 1) := by decide +kernel
theorem dX6_note_45 : decode cX6_note 45 = .ok (.goto 10, 3) := by decide +kernel
theorem dX6_note_48 : decode cX6_note 48 = .ok (.aload_n 0, 1) := by decide +kernel
theorem dX6_note_49 : decode cX6_note 49 = .ok (.getfield 56, 3) := by decide +kernel
theorem dX6_note_52 : decode cX6_note 52 = .ok (.iload 5, 2) := by decide +kernel
theorem dX6_note_54 : decode cX6_note 54 = .ok (.iaload, 1) := by decide +kernel
theorem dX6_note_55 : decode cX6_note 55 = .ok (.iastore, 1) := by decide +kernel
theorem dX6_note_56 : decode cX6_note 56 = .ok (.iconst 0, 1) := by decide +kernel
theorem dX6_note_57 : decode cX6_note 57 = .ok (.istore 6, 2) := by decide +kernel
theorem dX6_note_59 : decode cX6_note 59 = .ok (.iload 6, 2) := by decide +kernel
theorem dX6_note_61 : decode cX6_note 61 = .ok (.iconst 1, 1) := by decide +kernel
theorem dX6_note_62 : decode cX6_note 62 = .ok (.iadd, 1) := by decide +kernel
theorem dX6_note_63 : decode cX6_note 63 = .ok (.bipush 60, 2) := by decide +kernel
theorem dX6_note_65 : decode cX6_note 65 = .ok (.if_icmp .ge 73, 3) := by decide +kernel
theorem dX6_note_68 : decode cX6_note 68 = .ok (.aload_n 0, 1) := by decide +kernel
theorem dX6_note_69 : decode cX6_note 69 = .ok (.getfield 44, 3) := by decide +kernel
theorem dX6_note_72 : decode cX6_note 72 = .ok (.iload 6, 2) := by decide +kernel
theorem dX6_note_74 : decode cX6_note 74 = .ok (.aload_n 0, 1) := by decide +kernel
theorem dX6_note_75 : decode cX6_note 75 = .ok (.getfield 44, 3) := by decide +kernel
theorem dX6_note_78 : decode cX6_note 78 = .ok (.iload 6, 2) := by decide +kernel
theorem dX6_note_80 : decode cX6_note 80 = .ok (.iconst 1, 1) := by decide +kernel
theorem dX6_note_81 : decode cX6_note 81 = .ok (.iadd, 1) := by decide +kernel
theorem dX6_note_82 : decode cX6_note 82 = .ok (.iaload, 1) := by decide +kernel
theorem dX6_note_83 : decode cX6_note 83 = .ok (.iastore, 1) := by decide +kernel
theorem dX6_note_84 : decode cX6_note 84 = .ok (.aload_n 0, 1) := by decide +kernel
theorem dX6_note_85 : decode cX6_note 85 = .ok (.getfield 47, 3) := by decide +kernel
theorem dX6_note_88 : decode cX6_note 88 = .ok (.iload 6, 2) := by decide +kernel
theorem dX6_note_90 : decode cX6_note 90 = .ok (.aload_n 0, 1) := by decide +kernel
theorem dX6_note_91 : decode cX6_note 91 = .ok (.getfield 47, 3) := by decide +kernel
theorem dX6_note_94 : decode cX6_note 94 = .ok (.iload 6, 2) := by decide +kernel
theorem dX6_note_96 : decode cX6_note 96 = .ok (.iconst 1, 1) := by decide +kernel
theorem dX6_note_97 : decode cX6_note 97 = .ok (.iadd, 1) := by decide +kernel
theorem dX6_note_98 : decode cX6_note 98 = .ok (.iaload, 1) := by decide +kernel
theorem dX6_note_99 : decode cX6_note 99 = .ok (.iastore, 1) := by decide +kernel
theorem dX6_note_100 : decode cX6_note 100 = .ok (.aload_n 0, 1) := by decide +kernel
theorem dX6_note_101 : decode cX6_note 101 = .ok (.getfield 50, 3) := by decide +kernel
theorem dX6_note_104 : decode cX6_note 104 = .ok (.iload 6, 2) := by decide +kernel
theorem dX6_note_106 : decode cX6_note 106 = .ok (.aload_n 0, 1) := by decide +kernel
theorem dX6_note_107 : decode cX6_note 107 = .ok (.getfield 50, 3) := by decide +kernel
theorem dX6_note_110 : decode cX6_note 110 = .ok (.iload 6, 2) := by decide +kernel
theorem dX6_note_112 : decode cX6_note 112 = .ok (.iconst 1, 1) := by decide +kernel
theorem dX6_note_113 : decode cX6_note 113 = .ok (.iadd, 1) := by decide +kernel
theorem dX6_note_114 : decode cX6_note 114 = .ok (.iaload, 1) := by decide +kernel
theorem dX6_note_115 : decode cX6_note 115 = .ok (.iastore, 1) := by decide +kernel
theorem dX6_note_116 : decode cX6_note 116 = .ok (.aload_n 0, 1) := by decide +kernel
theorem dX6_note_117 : decode cX6_note 117 = .ok (.getfield 53, 3) := by decide +kernel
theorem dX6_note_120 : decode cX6_note 120 = .ok (.iload 6, 2) := by decide +kernel
theorem dX6_note_122 : decode cX6_note 122 = .ok (.aload_n 0, 1) := by decide +kernel
theorem dX6_note_123 : decode cX6_note 123 = .ok (.getfield 53, 3) := by decide +kernel
theorem dX6_note_126 : decode cX6_note 126 = .ok (.iload 6, 2) := by decide +kernel
theorem dX6_note_128 : decode cX6_note 128 = .ok (.iconst 1, 1) := by decide +kernel
theorem dX6_note_129 : decode cX6_note 129 = .ok (.iadd, 1) := by decide +kernel
theorem dX6_note_130 : decode cX6_note 130 = .ok (.iaload, 1) := by decide +kernel
theorem dX6_note_131 : decode cX6_note 131 = .ok (.iastore, 1) := by decide +kernel
theorem dX6_note_132 : decode cX6_note 132 = .ok (.iinc 6 1, 3) := by decide +kernel
theorem dX6_note_135 : decode cX6_note 135 = .ok (.goto (-76), 3) := by decide +kernel
theorem dX6_note_138 : decode cX6_note 138 = .ok (.aload_n 0, 1) := by decide +kernel
theorem dX6_note_139 : decode cX6_note 139 = .ok (.dup, 1) := by decide +kernel
theorem dX6_note_140 : decode cX6_note 140 = .ok (.getfield 110, 3) := by decide +kernel
theorem dX6_note_143 : decode cX6_note 143 = .ok (.iconst 1, 1) := by decide +kernel
theorem dX6_note_144 : decode cX6_note 144 = .ok (.isub, 1) := by decide +kernel
theorem dX6_note_145 : decode cX6_note 145 = .ok (.putfield 110, 3) := by decide +kernel
theorem dX6_note_148 : decode cX6_note 148 = .ok (.aload_n 0, 1) := by decide +kernel
theorem dX6_note_149 : decode cX6_note 149 = .ok (.getfield 44, 3) := by decide +kernel
theorem dX6_note_152 : decode cX6_note 152 = .ok (.aload_n 0, 1) := by decide +kernel
theorem dX6_note_153 : decode cX6_note 153 = .ok (.getfield 110, 3) := by decide +kernel
theorem dX6_note_156 : decode cX6_note 156 = .ok (.iload_n 1, 1) := by decide +kernel
theorem dX6_note_157 : decode cX6_note 157 = .ok (.iastore, 1) := by decide +kernel
theorem dX6_note_158 : decode cX6_note 158 = .ok (.aload_n 0, 1) := by decide +kernel
theorem dX6_note_159 : decode cX6_note 159 = .ok (.getfield 47, 3) := by decide +kernel
theorem dX6_note_162 : decode cX6_note 162 = .ok (.aload_n 0, 1) := by decide +kernel
theorem dX6_note_163 : decode cX6_note 163 = .ok (.getfield 110, 3) := by decide +kernel
theorem dX6_note_166 : decode cX6_note 166 = .ok (.iload_n 2, 1) := by decide +kernel
theorem dX6_note_167 : decode cX6_note 167 = .ok (.iastore, 1) := by decide +kernel
theorem dX6_note_168 : decode cX6_note 168 = .ok (.aload_n 0, 1) := by decide +kernel
theorem dX6_note_169 : decode cX6_note 169 = .ok (.getfield 50, 3) := by decide +kernel
theorem dX6_note_172 : decode cX6_note 172 = .ok (.aload_n 0, 1) := by decide +kernel
theorem dX6_note_173 : decode cX6_note 173 = .ok (.getfield 110, 3) := by decide +kernel
theorem dX6_note_176 : decode cX6_note 176 = .ok (.iload_n 3, 1) := by decide +kernel
theorem dX6_note_177 : decode cX6_note 177 = .ok (.iastore, 1) := by decide +kernel
theorem dX6_note_178 : decode cX6_note 178 = .ok (.aload_n 0, 1) := by decide +kernel
theorem dX6_note_179 : decode cX6_note 179 = .ok (.getfield 53, 3) := by decide +kernel
theorem dX6_note_182 : decode cX6_note 182 = .ok (.aload_n 0, 1) := by decide +kernel
theorem dX6_note_183 : decode cX6_note 183 = .ok (.getfield 110, 3) := by decide +kernel
theorem dX6_note_186 : decode cX6_note 186 = .ok (.iload 4, 2) := by decide +kernel
theorem dX6_note_188 : decode cX6_note 188 = .ok (.iastore, 1) := by decide +kernel
theorem dX6_note_189 : decode cX6_note 189 = .ok (.aload_n 0, 1) := by decide +kernel
theorem dX6_note_190 : decode cX6_note 190 = .ok (.dup, 1) := by decide +kernel
theorem dX6_note_191 : decode cX6_note 191 = .ok (.getfield 110, 3) := by decide +kernel
theorem dX6_note_194 : decode cX6_note 194 = .ok (.iconst 1, 1) := by decide +kernel
theorem dX6_note_195 : decode cX6_note 195 = .ok (.iadd, 1) := by decide +kernel
theorem dX6_note_196 : decode cX6_note 196 = .ok (.putfield 110, 3) := by decide +kernel
theorem dX6_note_199 : decode cX6_note 199 = .ok (.return_, 1) := by decide +kernel
theorem dX6_isOther_0 : decode cX6_isOther 0 = .ok (.iconst 0, 1) := by decide +kernel
theorem dX6_isOther_1 : decode cX6_isOther 1 = .ok (.istore_n 3, 1) := by decide +kernel
theorem dX6_isOther_2 : decode cX6_isOther 2 = .ok (.iload_n 1, 1) := by decide +kernel
theorem dX6_isOther_3 : decode cX6_isOther 3 = .ok (.ifCond .ne 54, 3) := by decide +kernel
theorem dX6_isOther_6 : decode cX6_isOther 6 = .ok (.iconst 1, 1) := by decide +kernel
theorem dX6_isOther_7 : decode cX6_isOther 7 = .ok (.istore 4, 2) := by decide +kernel
theorem dX6_isOther_9 : decode cX6_isOther 9 = .ok (.iload 4, 2) := by decide +kernel
theorem dX6_isOther_11 : decode cX6_isOther 11 = .ok (.iconst 4, 1) := by decide +kernel
theorem dX6_isOther_12 : decode cX6_isOther 12 = .ok (.if_icmp .ge 42, 3) := by decide +kernel
theorem dX6_isOther_15 : decode cX6_isOther 15 = .ok (.iload_n 3, 1) := by decide +kernel
theorem dX6_isOther_16 : decode cX6_isOther 16 = .ok (.aload_n 0, 1) := by decide +kernel
theorem dX6_isOther_17 : decode cX6_isOther 17 = .ok (.aload_n 0, 1) := by decide +kernel
theorem dX6_isOther_18 : decode cX6_isOther 18 = .ok (.getfield 7, 3) := by decide +kernel
theorem dX6_isOther_21 : decode cX6_isOther 21 = .ok (.iload_n 2, 1) := by decide +kernel
theorem dX6_isOther_22 : decode cX6_isOther 22 = .ok (.iload 4, 2) := by decide +kernel
theorem dX6_isOther_24 : decode cX6_isOther 24 = .ok (.invokevirtual 96, 3) := by decide +kernel
theorem dX6_isOther_27 : decode cX6_isOther 27 = .ok (.aload_n 0, 1) := by decide +kernel
theorem dX6_isOther_28 : decode cX6_isOther 28 = .ok (.aload_n 0, 1) := by decide +kernel
theorem dX6_isOther_29 : decode cX6_isOther 29 = .ok (.getfield 13, 3) := by decide +kernel
theorem dX6_isOther_32 : decode cX6_isOther 32 = .ok (.iload_n 2, 1) := by decide +kernel
theorem dX6_isOther_33 : decode cX6_isOther 33 = .ok (.iload 4, 2) := by decide +kernel
theorem dX6_isOther_35 : decode cX6_isOther 35 = .ok (.invokevirtual 96, 3) := by decide +kernel
theorem dX6_isOther_38 : decode cX6_isOther 38 = .ok (.if_icmp .eq 7, 3) := by decide +kernel
theorem dX6_isOther_41 : decode cX6_isOther 41 = .ok (.iconst 1, 1) := by decide +kernel
theorem dX6_isOther_42 : decode cX6_isOther 42 = .ok (.goto 4, 3) := by decide +kernel
theorem dX6_isOther_45 : decode cX6_isOther 45 = .ok (.iconst 0, 1) := by decide +kernel
theorem dX6_isOther_46 : decode cX6_isOther 46 = .ok (.ior, 1) := by decide +kernel
theorem dX6_isOther_47 : decode cX6_isOther 47 = .ok (.istore_n 3, 1) := by decide +kernel
theorem dX6_isOther_48 : decode cX6_isOther 48 = .ok (.iinc 4 1, 3) := by decide +kernel
theorem dX6_isOther_51 : decode cX6_isOther 51 = .ok (.goto (-42), 3) := by decide +kernel
theorem dX6_isOther_54 : decode cX6_isOther 54 = .ok (.goto 169, 3) := by decide +kernel
theorem dX6_isOther_57 : decode cX6_isOther 57 = .ok (.iload_n 1, 1) := by decide +kernel
theorem dX6_isOther_58 : decode cX6_isOther 58 = .ok (.iconst 1, 1) := by decide +kernel
theorem dX6_isOther_59 : decode cX6_isOther 59 = .ok (.if_icmp .ne 55, 3) := by decide +kernel
theorem dX6_isOther_62 : decode cX6_isOther 62 = .ok (.iconst 1, 1) := by decide +kernel
theorem dX6_isOther_63 : decode cX6_isOther 63 = .ok (.istore 4, 2) := by decide +kernel
theorem dX6_isOther_65 : decode cX6_isOther 65 = .ok (.iload 4, 2) := by decide +kernel
theorem dX6_isOther_67 : decode cX6_isOther 67 = .ok (.bipush 10, 2) := by decide +kernel
theorem dX6_isOther_69 : decode cX6_isOther 69 = .ok (.if_icmp .ge 42, 3) := by decide +kernel
theorem dX6_isOther_72 : decode cX6_isOther 72 = .ok (.iload_n 3, 1) := by decide +kernel
theorem dX6_isOther_73 : decode cX6_isOther 73 = .ok (.aload_n 0, 1) := by decide +kernel
theorem dX6_isOther_74 : decode cX6_isOther 74 = .ok (.aload_n 0, 1) := by decide +kernel
theorem dX6_isOther_75 : decode cX6_isOther 75 = .ok (.getfield 7, 3) := by decide +kernel
theorem dX6_isOther_78 : decode cX6_isOther 78 = .ok (.iload_n 2, 1) := by decide +kernel
theorem dX6_isOther_79 : decode cX6_isOther 79 = .ok (.iload 4, 2) := by decide +kernel
theorem dX6_isOther_81 : decode cX6_isOther 81 = .ok (.invokevirtual 85, 3) := by decide +kernel
theorem dX6_isOther_84 : decode cX6_isOther 84 = .ok (.aload_n 0, 1) := by decide +kernel
theorem dX6_isOther_85 : decode cX6_isOther 85 = .ok (.aload_n 0, 1) := by decide +kernel
theorem dX6_isOther_86 : decode cX6_isOther 86 = .ok (.getfield 13, 3) := by decide +kernel
theorem dX6_isOther_89 : decode cX6_isOther 89 = .ok (.iload_n 2, 1) := by decide +kernel
theorem dX6_isOther_90 : decode cX6_isOther 90 = .ok (.iload 4, 2) := by decide +kernel
theorem dX6_isOther_92 : decode cX6_isOther 92 = .ok (.invokevirtual 85, 3) := by decide +kernel
theorem dX6_isOther_95 : decode cX6_isOther 95 = .ok (.if_icmp .eq 7, 3) := by decide +kernel
theorem dX6_isOther_98 : decode cX6_isOther 98 = .ok (.iconst 1, 1) := by decide +kernel
theorem dX6_isOther_99 : decode cX6_isOther 99 = .ok (.goto 4, 3) := by decide +kernel
theorem dX6_isOther_102 : decode cX6_isOther 102 = .ok (.iconst 0, 1) := by decide +kernel
theorem dX6_isOther_103 : decode cX6_isOther 103 = .ok (.ior, 1) := by decide +kernel
theorem dX6_isOther_104 : decode cX6_isOther 104 = .ok (.istore_n 3, 1) := by decide +kernel
theorem dX6_isOther_105 : decode cX6_isOther 105 = .ok (.iinc 4 1, 3) := by decide +kernel
theorem dX6_isOther_108 : decode cX6_isOther 108 = .ok (.goto (-43), 3) := by decide +kernel
theorem dX6_isOther_111 : decode cX6_isOther 111 = .ok (.goto 112, 3) := by decide +kernel
theorem dX6_isOther_114 : decode cX6_isOther 114 = .ok (.iconst 0, 1) := by decide +kernel
theorem dX6_isOther_115 : decode cX6_isOther 115 = .ok (.istore 4, 2) := by decide +kernel
theorem dX6_isOther_117 : decode cX6_isOther 117 = .ok (.iload 4, 2) := by decide +kernel
theorem dX6_isOther_119 : decode cX6_isOther 119 = .ok (.aload_n 0, 1) := by decide +kernel
theorem dX6_isOther_120 : decode cX6_isOther 120 = .ok (.getfield 7, 3) := by decide +kernel
theorem dX6_isOther_123 : decode cX6_isOther 123 = .ok (.sipush 581, 3) := by decide +kernel
theorem dX6_isOther_126 : decode cX6_isOther 126 = .ok (.iaload, 1) := by decide +kernel
theorem dX6_isOther_127 : decode cX6_isOther 127 = .ok (.if_icmp .ge 96, 3) := by decide +kernel
theorem dX6_isOther_130 : decode cX6_isOther 130 = .ok (.aload_n 0, 1) := by decide +kernel
theorem dX6_isOther_131 : decode cX6_isOther 131 = .ok (.aload_n 0, 1) := by decide +kernel
theorem dX6_isOther_132 : decode cX6_isOther 132 = .ok (.getfield 7, 3) := by decide +kernel
theorem dX6_isOther_135 : decode cX6_isOther 135 = .ok (.iload 4, 2) := by decide +kernel
theorem dX6_isOther_137 : decode cX6_isOther 137 = .ok (.invokevirtual 81, 3) := by decide +kernel
theorem dX6_isOther_140 : decode cX6_isOther 140 = .ok (.ifCond .eq 23, 3) := by decide +kernel
theorem dX6_isOther_143 : decode cX6_isOther 143 = .ok (.aload_n 0, 1) := by decide +kernel
theorem dX6_isOther_144 : decode cX6_isOther 144 = .ok (.aload_n 0, 1) := by decide +kernel
theorem dX6_isOther_145 : decode cX6_isOther 145 = .ok (.getfield 7, 3) := by decide +kernel
theorem dX6_isOther_148 : decode cX6_isOther 148 = .ok (.iload 4, 2) := by decide +kernel
theorem dX6_isOther_150 : decode cX6_isOther 150 = .ok (.bipush 8, 2) := by decide +kernel
theorem dX6_isOther_152 : decode cX6_isOther 152 = .ok (.invokevirtual 85, 3) := by decide +kernel
theorem dX6_isOther_155 : decode cX6_isOther 155 = .ok (.iload_n 2, 1) := by decide +kernel
theorem dX6_isOther_156 : decode cX6_isOther 156 = .ok (.if_icmp .ne 7, 3) := by decide +kernel
theorem dX6_isOther_159 : decode cX6_isOther 159 = .ok (.iconst 1, 1) := by decide +kernel
theorem dX6_isOther_160 : decode cX6_isOther 160 = .ok (.goto 4, 3) := by decide +kernel
theorem dX6_isOther_163 : decode cX6_isOther 163 = .ok (.iconst 0, 1) := by decide +kernel
theorem dX6_isOther_164 : decode cX6_isOther 164 = .ok (.istore 5, 2) := by decide +kernel
theorem dX6_isOther_166 : decode cX6_isOther 166 = .ok (.aload_n 0, 1) := by decide +kernel
theorem dX6_isOther_167 : decode cX6_isOther 167 = .ok (.aload_n 0, 1) := by decide +kernel
theorem dX6_isOther_168 : decode cX6_isOther 168 = .ok (.getfield 13, 3) := by decide +kernel
theorem dX6_isOther_171 : decode cX6_isOther 171 = .ok (.iload 4, 2) := by decide +kernel
theorem dX6_isOther_173 : decode cX6_isOther 173 = .ok (.invokevirtual 81, 3) := by decide +kernel
theorem dX6_isOther_176 : decode cX6_isOther 176 = .ok (.ifCond .eq 23, 3) := by decide +kernel
theorem dX6_isOther_179 : decode cX6_isOther 179 = .ok (.aload_n 0, 1) := by decide +kernel
theorem dX6_isOther_180 : decode cX6_isOther 180 = .ok (.aload_n 0, 1) := by decide +kernel
theorem dX6_isOther_181 : decode cX6_isOther 181 = .ok (.getfield 13, 3) := by decide +kernel
theorem dX6_isOther_184 : decode cX6_isOther 184 = .ok (.iload 4, 2) := by decide +kernel
theorem dX6_isOther_186 : decode cX6_isOther 186 = .ok (.bipush 8, 2) := by decide +kernel
theorem dX6_isOther_188 : decode cX6_isOther 188 = .ok (.invokevirtual 85, 3) := by decide +kernel
theorem dX6_isOther_191 : decode cX6_isOther 191 = .ok (.iload_n 2, 1) := by decide +kernel
theorem dX6_isOther_192 : decode cX6_isOther 192 = .ok (.if_icmp .ne 7, 3) := by decide +kernel
theorem dX6_isOther_195 : decode cX6_isOther 195 = .ok (.iconst 1, 1) := by decide +kernel
theorem dX6_isOther_196 : decode cX6_isOther 196 = .ok (.goto 4, 3) := by decide +kernel
theorem dX6_isOther_199 : decode cX6_isOther 199 = .ok (.iconst 0, 1) := by decide +kernel
theorem dX6_isOther_200 : decode cX6_isOther 200 = .ok (.istore 6, 2) := by decide +kernel
theorem dX6_isOther_202 : decode cX6_isOther 202 = .ok (.iload_n 3, 1) := by decide +kernel
theorem dX6_isOther_203 : decode cX6_isOther 203 = .ok (.iload 5, 2) := by decide +kernel
theorem dX6_isOther_205 : decode cX6_isOther 205 = .ok (.iload 6, 2) := by decide +kernel
theorem dX6_isOther_207 : decode cX6_isOther 207 = .ok (.if_icmp .eq 7, 3) := by decide +kernel
theorem dX6_isOther_210 : decode cX6_isOther 210 = .ok (.iconst 1, 1) := by decide +kernel
theorem dX6_isOther_211 : decode cX6_isOther 211 = .ok (.goto 4, 3) := by decide +kernel
theorem dX6_isOther_214 : decode cX6_isOther 214 = .ok (.iconst 0, 1) := by decide +kernel
theorem dX6_isOther_215 : decode cX6_isOther 215 = .ok (.ior, 1) := by decide +kernel
theorem dX6_isOther_216 : decode cX6_isOther 216 = .ok (.istore_n 3, 1) := by decide +kernel
theorem dX6_isOther_217 : decode cX6_isOther 217 = .ok (.iinc 4 1, 3) := by decide +kernel
theorem dX6_isOther_220 : decode cX6_isOther 220 = .ok (.goto (-103), 3) := by decide +kernel
theorem dX6_isOther_223 : decode cX6_isOther 223 = .ok (.iload_n 3, 1) := by decide +kernel
theorem dX6_isOther_224 : decode cX6_isOther 224 = .ok (.ireturn, 1) := by decide +kernel
theorem dX6_whatOf_0 : decode cX6_whatOf 0 = .ok (.aload_n 0, 1) := by decide +kernel
theorem dX6_whatOf_1 : decode cX6_whatOf 1 = .ok (.aload_n 0, 1) := by decide +kernel
theorem dX6_whatOf_2 : decode cX6_whatOf 2 = .ok (.getfield 13, 3) := by decide +kernel
theorem dX6_whatOf_5 : decode cX6_whatOf 5 = .ok (.iload_n 1, 1) := by decide +kernel
theorem dX6_whatOf_6 : decode cX6_whatOf 6 = .ok (.iload_n 2, 1) := by decide +kernel
theorem dX6_whatOf_7 : decode cX6_whatOf 7 = .ok (.invokevirtual 113, 3) := by decide +kernel
theorem dX6_whatOf_10 : decode cX6_whatOf 10 = .ok (.istore_n 3, 1) := by decide +kernel
theorem dX6_whatOf_11 : decode cX6_whatOf 11 = .ok (.aload_n 0, 1) := by decide +kernel
theorem dX6_whatOf_12 : decode cX6_whatOf 12 = .ok (.aload_n 0, 1) := by decide +kernel
theorem dX6_whatOf_13 : decode cX6_whatOf 13 = .ok (.getfield 7, 3) := by decide +kernel
theorem dX6_whatOf_16 : decode cX6_whatOf 16 = .ok (.iload_n 1, 1) := by decide +kernel
theorem dX6_whatOf_17 : decode cX6_whatOf 17 = .ok (.iload_n 2, 1) := by decide +kernel
theorem dX6_whatOf_18 : decode cX6_whatOf 18 = .ok (.invokevirtual 113, 3) := by decide +kernel
theorem dX6_whatOf_21 : decode cX6_whatOf 21 = .ok (.istore 4, 2) := by decide +kernel
theorem dX6_whatOf_23 : decode cX6_whatOf 23 = .ok (.iload_n 3, 1) := by decide +kernel
theorem dX6_whatOf_24 : decode cX6_whatOf 24 = .ok (.iload 4, 2) := by decide +kernel
theorem dX6_whatOf_26 : decode cX6_whatOf 26 = .ok (.if_icmp .eq 14, 3) := by decide +kernel
theorem dX6_whatOf_29 : decode cX6_whatOf 29 = .ok (.iload 4, 2) := by decide +kernel
theorem dX6_whatOf_31 : decode cX6_whatOf 31 = .ok (.ifCond .eq 7, 3) := by decide +kernel
theorem dX6_whatOf_34 : decode cX6_whatOf 34 = .ok (.iconst 1, 1) := by decide +kernel
theorem dX6_whatOf_35 : decode cX6_whatOf 35 = .ok (.goto 4, 3) := by decide +kernel
theorem dX6_whatOf_38 : decode cX6_whatOf 38 = .ok (.iconst 3, 1) := by decide +kernel
theorem dX6_whatOf_39 : decode cX6_whatOf 39 = .ok (.ireturn, 1) := by decide +kernel
theorem dX6_whatOf_40 : decode cX6_whatOf 40 = .ok (.iload 4, 2) := by decide +kernel
theorem dX6_whatOf_42 : decode cX6_whatOf 42 = .ok (.ifCond .eq 16, 3) := by decide +kernel
theorem dX6_whatOf_45 : decode cX6_whatOf 45 = .ok (.aload_n 0, 1) := by decide +kernel
theorem dX6_whatOf_46 : decode cX6_whatOf 46 = .ok (.iload_n 1, 1) := by decide +kernel
theorem dX6_whatOf_47 : decode cX6_whatOf 47 = .ok (.iload_n 2, 1) := by decide +kernel
theorem dX6_whatOf_48 : decode cX6_whatOf 48 = .ok (.invokevirtual 117, 3) := by decide +kernel
theorem dX6_whatOf_51 : decode cX6_whatOf 51 = .ok (.ifCond .eq 7, 3) := by decide +kernel
theorem dX6_whatOf_54 : decode cX6_whatOf 54 = .ok (.iconst 2, 1) := by decide +kernel
theorem dX6_whatOf_55 : decode cX6_whatOf 55 = .ok (.goto 4, 3) := by decide +kernel
theorem dX6_whatOf_58 : decode cX6_whatOf 58 = .ok (.iconst 0, 1) := by decide +kernel
theorem dX6_whatOf_59 : decode cX6_whatOf 59 = .ok (.ireturn, 1) := by decide +kernel
theorem dX6_settle_0 : decode cX6_settle 0 = .ok (.iconst 0, 1) := by decide +kernel
theorem dX6_settle_1 : decode cX6_settle 1 = .ok (.istore_n 1, 1) := by decide +kernel
theorem dX6_settle_2 : decode cX6_settle 2 = .ok (.iload_n 1, 1) := by decide +kernel
theorem dX6_settle_3 : decode cX6_settle 3 = .ok (.iconst 3, 1) := by decide +kernel
theorem dX6_settle_4 : decode cX6_settle 4 = .ok (.if_icmp .ge 124, 3) := by decide +kernel
theorem dX6_settle_7 : decode cX6_settle 7 = .ok (.iconst 0, 1) := by decide +kernel
theorem dX6_settle_8 : decode cX6_settle 8 = .ok (.istore_n 2, 1) := by decide +kernel
theorem dX6_settle_9 : decode cX6_settle 9 = .ok (.iconst 0, 1) := by decide +kernel
theorem dX6_settle_10 : decode cX6_settle 10 = .ok (.istore_n 3, 1) := by decide +kernel
theorem dX6_settle_11 : decode cX6_settle 11 = .ok (.iload_n 3, 1) := by decide +kernel
theorem dX6_settle_12 : decode cX6_settle 12 = .ok (.aload_n 0, 1) := by decide +kernel
theorem dX6_settle_13 : decode cX6_settle 13 = .ok (.getfield 7, 3) := by decide +kernel
theorem dX6_settle_16 : decode cX6_settle 16 = .ok (.sipush 580, 3) := by decide +kernel
theorem dX6_settle_19 : decode cX6_settle 19 = .ok (.iload_n 1, 1) := by decide +kernel
theorem dX6_settle_20 : decode cX6_settle 20 = .ok (.iadd, 1) := by decide +kernel
theorem dX6_settle_21 : decode cX6_settle 21 = .ok (.iaload, 1) := by decide +kernel
theorem dX6_settle_22 : decode cX6_settle 22 = .ok (.if_icmp .ge 26, 3) := by decide +kernel
theorem dX6_settle_25 : decode cX6_settle 25 = .ok (.iload_n 2, 1) := by decide +kernel
theorem dX6_settle_26 : decode cX6_settle 26 = .ok (.aload_n 0, 1) := by decide +kernel
theorem dX6_settle_27 : decode cX6_settle 27 = .ok (.iload_n 1, 1) := by decide +kernel
theorem dX6_settle_28 : decode cX6_settle 28 = .ok (.iload_n 3, 1) := by decide +kernel
theorem dX6_settle_29 : decode cX6_settle 29 = .ok (.invokevirtual 121, 3) := by decide +kernel
theorem dX6_settle_32 : decode cX6_settle 32 = .ok (.ifCond .le 7, 3) := by decide +kernel
theorem dX6_settle_35 : decode cX6_settle 35 = .ok (.iconst 1, 1) := by decide +kernel
theorem dX6_settle_36 : decode cX6_settle 36 = .ok (.goto 4, 3) := by decide +kernel
theorem dX6_settle_39 : decode cX6_settle 39 = .ok (.iconst 0, 1) := by decide +kernel
theorem dX6_settle_40 : decode cX6_settle 40 = .ok (.ior, 1) := by decide +kernel
theorem dX6_settle_41 : decode cX6_settle 41 = .ok (.istore_n 2, 1) := by decide +kernel
theorem dX6_settle_42 : decode cX6_settle 42 = .ok (.iinc 3 1, 3) := by decide +kernel
theorem dX6_settle_45 : decode cX6_settle 45 = .ok (.goto (-34), 3) := by decide +kernel
theorem dX6_settle_48 : decode cX6_settle 48 = .ok (.iload_n 2, 1) := by decide +kernel
theorem dX6_settle_49 : decode cX6_settle 49 = .ok (.ifCond .ne 6, 3) := by decide +kernel
theorem dX6_settle_52 : decode cX6_settle 52 = .ok (.goto 70, 3) := by decide +kernel
theorem dX6_settle_55 : decode cX6_settle 55 = .ok (.aload_n 0, 1) := by decide +kernel
theorem dX6_settle_56 : decode cX6_settle 56 = .ok (.getfield 7, 3) := by decide +kernel
theorem dX6_settle_59 : decode cX6_settle 59 = .ok (.sipush 583, 3) := by decide +kernel
theorem dX6_settle_62 : decode cX6_settle 62 = .ok (.iload_n 1, 1) := by decide +kernel
theorem dX6_settle_63 : decode cX6_settle 63 = .ok (.iadd, 1) := by decide +kernel
theorem dX6_settle_64 : decode cX6_settle 64 = .ok (.dup2, 1) := by decide +kernel
theorem dX6_settle_65 : decode cX6_settle 65 = .ok (.iaload, 1) := by decide +kernel
theorem dX6_settle_66 : decode cX6_settle 66 = .ok (.iconst 1, 1) := by decide +kernel
theorem dX6_settle_67 : decode cX6_settle 67 = .ok (.iadd, 1) := by decide +kernel
theorem dX6_settle_68 : decode cX6_settle 68 = .ok (.iastore, 1) := by decide +kernel
theorem dX6_settle_69 : decode cX6_settle 69 = .ok (.iconst 0, 1) := by decide +kernel
theorem dX6_settle_70 : decode cX6_settle 70 = .ok (.istore_n 3, 1) := by decide +kernel
theorem dX6_settle_71 : decode cX6_settle 71 = .ok (.iload_n 3, 1) := by decide +kernel
theorem dX6_settle_72 : decode cX6_settle 72 = .ok (.aload_n 0, 1) := by decide +kernel
theorem dX6_settle_73 : decode cX6_settle 73 = .ok (.getfield 7, 3) := by decide +kernel
theorem dX6_settle_76 : decode cX6_settle 76 = .ok (.sipush 580, 3) := by decide +kernel
theorem dX6_settle_79 : decode cX6_settle 79 = .ok (.iload_n 1, 1) := by decide +kernel
theorem dX6_settle_80 : decode cX6_settle 80 = .ok (.iadd, 1) := by decide +kernel
theorem dX6_settle_81 : decode cX6_settle 81 = .ok (.iaload, 1) := by decide +kernel
theorem dX6_settle_82 : decode cX6_settle 82 = .ok (.if_icmp .ge 40, 3) := by decide +kernel
theorem dX6_settle_85 : decode cX6_settle 85 = .ok (.aload_n 0, 1) := by decide +kernel
theorem dX6_settle_86 : decode cX6_settle 86 = .ok (.iload_n 1, 1) := by decide +kernel
theorem dX6_settle_87 : decode cX6_settle 87 = .ok (.iload_n 3, 1) := by decide +kernel
theorem dX6_settle_88 : decode cX6_settle 88 = .ok (.invokevirtual 121, 3) := by decide +kernel
theorem dX6_settle_91 : decode cX6_settle 91 = .ok (.ifCond .le 25, 3) := by decide +kernel
theorem dX6_settle_94 : decode cX6_settle 94 = .ok (.aload_n 0, 1) := by decide +kernel
theorem dX6_settle_95 : decode cX6_settle 95 = .ok (.iload_n 1, 1) := by decide +kernel
theorem dX6_settle_96 : decode cX6_settle 96 = .ok (.aload_n 0, 1) := by decide +kernel
theorem dX6_settle_97 : decode cX6_settle 97 = .ok (.getfield 7, 3) := by decide +kernel
theorem dX6_settle_100 : decode cX6_settle 100 = .ok (.sipush 583, 3) := by decide +kernel
theorem dX6_settle_103 : decode cX6_settle 103 = .ok (.iload_n 1, 1) := by decide +kernel
theorem dX6_settle_104 : decode cX6_settle 104 = .ok (.iadd, 1) := by decide +kernel
theorem dX6_settle_105 : decode cX6_settle 105 = .ok (.iaload, 1) := by decide +kernel
theorem dX6_settle_106 : decode cX6_settle 106 = .ok (.iload_n 3, 1) := by decide +kernel
theorem dX6_settle_107 : decode cX6_settle 107 = .ok (.aload_n 0, 1) := by decide +kernel
theorem dX6_settle_108 : decode cX6_settle 108 = .ok (.iload_n 1, 1) := by decide +kernel
theorem dX6_settle_109 : decode cX6_settle 109 = .ok (.iload_n 3, 1) := by decide +kernel
theorem dX6_settle_110 : decode cX6_settle 110 = .ok (.invokevirtual 121, 3) := by decide +kernel
theorem dX6_settle_113 : decode cX6_settle 113 = .ok (.invokevirtual 125, 3) := by decide +kernel
theorem dX6_settle_116 : decode cX6_settle 116 = .ok (.iinc 3 1, 3) := by decide +kernel
theorem dX6_settle_119 : decode cX6_settle 119 = .ok (.goto (-48), 3) := by decide +kernel
theorem dX6_settle_122 : decode cX6_settle 122 = .ok (.iinc 1 1, 3) := by decide +kernel
theorem dX6_settle_125 : decode cX6_settle 125 = .ok (.goto (-123), 3) := by decide +kernel
theorem dX6_settle_128 : decode cX6_settle 128 = .ok (.return_, 1) := by decide +kernel
theorem dX6_number_0 : decode cX6_number 0 = .ok (.aload_n 0, 1) := by decide +kernel
theorem dX6_number_1 : decode cX6_number 1 = .ok (.getfield 25, 3) := by decide +kernel
theorem dX6_number_4 : decode cX6_number 4 = .ok (.iconst 5, 1) := by decide +kernel
theorem dX6_number_5 : decode cX6_number 5 = .ok (.aload_n 0, 1) := by decide +kernel
theorem dX6_number_6 : decode cX6_number 6 = .ok (.getfield 129, 3) := by decide +kernel
theorem dX6_number_9 : decode cX6_number 9 = .ok (.imul, 1) := by decide +kernel
theorem dX6_number_10 : decode cX6_number 10 = .ok (.iload_n 1, 1) := by decide +kernel
theorem dX6_number_11 : decode cX6_number 11 = .ok (.iadd, 1) := by decide +kernel
theorem dX6_number_12 : decode cX6_number 12 = .ok (.iaload, 1) := by decide +kernel
theorem dX6_number_13 : decode cX6_number 13 = .ok (.ireturn, 1) := by decide +kernel
theorem dX6_isKnown_0 : decode cX6_isKnown 0 = .ok (.iload_n 1, 1) := by decide +kernel
theorem dX6_isKnown_1 : decode cX6_isKnown 1 = .ok (.aload_n 0, 1) := by decide +kernel
theorem dX6_isKnown_2 : decode cX6_isKnown 2 = .ok (.getfield 129, 3) := by decide +kernel
theorem dX6_isKnown_5 : decode cX6_isKnown 5 = .ok (.if_icmp .ge 16, 3) := by decide +kernel
theorem dX6_isKnown_8 : decode cX6_isKnown 8 = .ok (.aload_n 0, 1) := by decide +kernel
theorem dX6_isKnown_9 : decode cX6_isKnown 9 = .ok (.getfield 35, 3) := by decide +kernel
theorem dX6_isKnown_12 : decode cX6_isKnown 12 = .ok (.iload_n 1, 1) := by decide +kernel
theorem dX6_isKnown_13 : decode cX6_isKnown 13 = .ok (.iaload, 1) := by decide +kernel
theorem dX6_isKnown_14 : decode cX6_isKnown 14 = .ok (.ifCond .ne 7, 3) := by decide +kernel
theorem dX6_isKnown_17 : decode cX6_isKnown 17 = .ok (.iconst 1, 1) := by decide +kernel
theorem dX6_isKnown_18 : decode cX6_isKnown 18 = .ok (.goto 4, 3) := by decide +kernel
theorem dX6_isKnown_21 : decode cX6_isKnown 21 = .ok (.iconst 0, 1) := by decide +kernel
theorem dX6_isKnown_22 : decode cX6_isKnown 22 = .ok (.ireturn, 1) := by decide +kernel
theorem dX6_isOne_0 : decode cX6_isOne 0 = .ok (.iload_n 1, 1) := by decide +kernel
theorem dX6_isOne_1 : decode cX6_isOne 1 = .ok (.ifCond .lt 5, 3) := by decide +kernel
theorem dX6_isOne_4 : decode cX6_isOne 4 = .ok (.iconst 1, 1) := by decide +kernel
theorem dX6_isOne_5 : decode cX6_isOne 5 = .ok (.ireturn, 1) := by decide +kernel
theorem dX6_isOne_6 : decode cX6_isOne 6 = .ok (.iconst (-1), 1) := by decide +kernel
theorem dX6_isOne_7 : decode cX6_isOne 7 = .ok (.iload_n 1, 1) := by decide +kernel
theorem dX6_isOne_8 : decode cX6_isOne 8 = .ok (.isub, 1) := by decide +kernel
theorem dX6_isOne_9 : decode cX6_isOne 9 = .ok (.istore_n 2, 1) := by decide +kernel
theorem dX6_isOne_10 : decode cX6_isOne 10 = .ok (.iload_n 2, 1) := by decide +kernel
theorem dX6_isOne_11 : decode cX6_isOne 11 = .ok (.aload_n 0, 1) := by decide +kernel
theorem dX6_isOne_12 : decode cX6_isOne 12 = .ok (.getfield 129, 3) := by decide +kernel
theorem dX6_isOne_15 : decode cX6_isOne 15 = .ok (.if_icmp .ge 28, 3) := by decide +kernel
theorem dX6_isOne_18 : decode cX6_isOne 18 = .ok (.aload_n 0, 1) := by decide +kernel
theorem dX6_isOne_19 : decode cX6_isOne 19 = .ok (.iload_n 2, 1) := by decide +kernel
theorem dX6_isOne_20 : decode cX6_isOne 20 = .ok (.invokevirtual 132, 3) := by decide +kernel
theorem dX6_isOne_23 : decode cX6_isOne 23 = .ok (.ifCond .eq 20, 3) := by decide +kernel
theorem dX6_isOne_26 : decode cX6_isOne 26 = .ok (.aload_n 0, 1) := by decide +kernel
theorem dX6_isOne_27 : decode cX6_isOne 27 = .ok (.getfield 38, 3) := by decide +kernel
theorem dX6_isOne_30 : decode cX6_isOne 30 = .ok (.iconst 4, 1) := by decide +kernel
theorem dX6_isOne_31 : decode cX6_isOne 31 = .ok (.iload_n 2, 1) := by decide +kernel
theorem dX6_isOne_32 : decode cX6_isOne 32 = .ok (.imul, 1) := by decide +kernel
theorem dX6_isOne_33 : decode cX6_isOne 33 = .ok (.iconst 1, 1) := by decide +kernel
theorem dX6_isOne_34 : decode cX6_isOne 34 = .ok (.iadd, 1) := by decide +kernel
theorem dX6_isOne_35 : decode cX6_isOne 35 = .ok (.iaload, 1) := by decide +kernel
theorem dX6_isOne_36 : decode cX6_isOne 36 = .ok (.ifCond .le 7, 3) := by decide +kernel
theorem dX6_isOne_39 : decode cX6_isOne 39 = .ok (.iconst 1, 1) := by decide +kernel
theorem dX6_isOne_40 : decode cX6_isOne 40 = .ok (.goto 4, 3) := by decide +kernel
theorem dX6_isOne_43 : decode cX6_isOne 43 = .ok (.iconst 0, 1) := by decide +kernel
theorem dX6_isOne_44 : decode cX6_isOne 44 = .ok (.ireturn, 1) := by decide +kernel
theorem dX6_oneOf_0 : decode cX6_oneOf 0 = .ok (.iload_n 1, 1) := by decide +kernel
theorem dX6_oneOf_1 : decode cX6_oneOf 1 = .ok (.ifCond .lt 7, 3) := by decide +kernel
theorem dX6_oneOf_4 : decode cX6_oneOf 4 = .ok (.iload_n 1, 1) := by decide +kernel
theorem dX6_oneOf_5 : decode cX6_oneOf 5 = .ok (.goto 18, 3) := by decide +kernel
theorem dX6_oneOf_8 : decode cX6_oneOf 8 = .ok (.aload_n 0, 1) := by decide +kernel
theorem dX6_oneOf_9 : decode cX6_oneOf 9 = .ok (.getfield 41, 3) := by decide +kernel
theorem dX6_oneOf_12 : decode cX6_oneOf 12 = .ok (.bipush 50, 2) := by decide +kernel
theorem dX6_oneOf_14 : decode cX6_oneOf 14 = .ok (.iconst 4, 1) := by decide +kernel
theorem dX6_oneOf_15 : decode cX6_oneOf 15 = .ok (.iconst (-1), 1) := by decide +kernel
theorem dX6_oneOf_16 : decode cX6_oneOf 16 = .ok (.iload_n 1, 1) := by decide +kernel
theorem dX6_oneOf_17 : decode cX6_oneOf 17 = .ok (.isub, 1) := by decide +kernel
theorem dX6_oneOf_18 : decode cX6_oneOf 18 = .ok (.imul, 1) := by decide +kernel
theorem dX6_oneOf_19 : decode cX6_oneOf 19 = .ok (.iconst 1, 1) := by decide +kernel
theorem dX6_oneOf_20 : decode cX6_oneOf 20 = .ok (.iadd, 1) := by decide +kernel
theorem dX6_oneOf_21 : decode cX6_oneOf 21 = .ok (.imul, 1) := by decide +kernel
theorem dX6_oneOf_22 : decode cX6_oneOf 22 = .ok (.iaload, 1) := by decide +kernel
theorem dX6_oneOf_23 : decode cX6_oneOf 23 = .ok (.ireturn, 1) := by decide +kernel
theorem dX6_areIds_0 : decode cX6_areIds 0 = .ok (.iload_n 1, 1) := by decide +kernel
theorem dX6_areIds_1 : decode cX6_areIds 1 = .ok (.iconst (-1), 1) := by decide +kernel
theorem dX6_areIds_2 : decode cX6_areIds 2 = .ok (.if_icmp .ne 11, 3) := by decide +kernel
theorem dX6_areIds_5 : decode cX6_areIds 5 = .ok (.aload_n 0, 1) := by decide +kernel
theorem dX6_areIds_6 : decode cX6_areIds 6 = .ok (.iload_n 2, 1) := by decide +kernel
theorem dX6_areIds_7 : decode cX6_areIds 7 = .ok (.invokevirtual 136, 3) := by decide +kernel
theorem dX6_areIds_10 : decode cX6_areIds 10 = .ok (.goto 8, 3) := by decide +kernel
theorem dX6_areIds_13 : decode cX6_areIds 13 = .ok (.aload_n 0, 1) := by decide +kernel
theorem dX6_areIds_14 : decode cX6_areIds 14 = .ok (.iload_n 1, 1) := by decide +kernel
theorem dX6_areIds_15 : decode cX6_areIds 15 = .ok (.invokevirtual 132, 3) := by decide +kernel
theorem dX6_areIds_18 : decode cX6_areIds 18 = .ok (.ireturn, 1) := by decide +kernel
theorem dX6_takeIds_0 : decode cX6_takeIds 0 = .ok (.iload_n 1, 1) := by decide +kernel
theorem dX6_takeIds_1 : decode cX6_takeIds 1 = .ok (.iconst (-1), 1) := by decide +kernel
theorem dX6_takeIds_2 : decode cX6_takeIds 2 = .ok (.if_icmp .ne 20, 3) := by decide +kernel
theorem dX6_takeIds_5 : decode cX6_takeIds 5 = .ok (.aload_n 0, 1) := by decide +kernel
theorem dX6_takeIds_6 : decode cX6_takeIds 6 = .ok (.getfield 59, 3) := by decide +kernel
theorem dX6_takeIds_9 : decode cX6_takeIds 9 = .ok (.iconst 0, 1) := by decide +kernel
theorem dX6_takeIds_10 : decode cX6_takeIds 10 = .ok (.aload_n 0, 1) := by decide +kernel
theorem dX6_takeIds_11 : decode cX6_takeIds 11 = .ok (.iload_n 2, 1) := by decide +kernel
theorem dX6_takeIds_12 : decode cX6_takeIds 12 = .ok (.invokevirtual 139, 3) := by decide +kernel
theorem dX6_takeIds_15 : decode cX6_takeIds 15 = .ok (.iastore, 1) := by decide +kernel
theorem dX6_takeIds_16 : decode cX6_takeIds 16 = .ok (.aload_n 0, 1) := by decide +kernel
theorem dX6_takeIds_17 : decode cX6_takeIds 17 = .ok (.iconst 1, 1) := by decide +kernel
theorem dX6_takeIds_18 : decode cX6_takeIds 18 = .ok (.putfield 143, 3) := by decide +kernel
theorem dX6_takeIds_21 : decode cX6_takeIds 21 = .ok (.return_, 1) := by decide +kernel
theorem dX6_takeIds_22 : decode cX6_takeIds 22 = .ok (.aload_n 0, 1) := by decide +kernel
theorem dX6_takeIds_23 : decode cX6_takeIds 23 = .ok (.aload_n 0, 1) := by decide +kernel
theorem dX6_takeIds_24 : decode cX6_takeIds 24 = .ok (.getfield 38, 3) := by decide +kernel
theorem dX6_takeIds_27 : decode cX6_takeIds 27 = .ok (.iconst 4, 1) := by decide +kernel
theorem dX6_takeIds_28 : decode cX6_takeIds 28 = .ok (.iload_n 1, 1) := by decide +kernel
theorem dX6_takeIds_29 : decode cX6_takeIds 29 = .ok (.imul, 1) := by decide +kernel
theorem dX6_takeIds_30 : decode cX6_takeIds 30 = .ok (.iload_n 2, 1) := by decide +kernel
theorem dX6_takeIds_31 : decode cX6_takeIds 31 = .ok (.iadd, 1) := by decide +kernel
theorem dX6_takeIds_32 : decode cX6_takeIds 32 = .ok (.iaload, 1) := by decide +kernel
theorem dX6_takeIds_33 : decode cX6_takeIds 33 = .ok (.putfield 143, 3) := by decide +kernel
theorem dX6_takeIds_36 : decode cX6_takeIds 36 = .ok (.iconst 0, 1) := by decide +kernel
theorem dX6_takeIds_37 : decode cX6_takeIds 37 = .ok (.istore_n 3, 1) := by decide +kernel
theorem dX6_takeIds_38 : decode cX6_takeIds 38 = .ok (.iload_n 3, 1) := by decide +kernel
theorem dX6_takeIds_39 : decode cX6_takeIds 39 = .ok (.aload_n 0, 1) := by decide +kernel
theorem dX6_takeIds_40 : decode cX6_takeIds 40 = .ok (.getfield 143, 3) := by decide +kernel
theorem dX6_takeIds_43 : decode cX6_takeIds 43 = .ok (.if_icmp .ge 30, 3) := by decide +kernel
theorem dX6_takeIds_46 : decode cX6_takeIds 46 = .ok (.aload_n 0, 1) := by decide +kernel
theorem dX6_takeIds_47 : decode cX6_takeIds 47 = .ok (.getfield 59, 3) := by decide +kernel
theorem dX6_takeIds_50 : decode cX6_takeIds 50 = .ok (.iload_n 3, 1) := by decide +kernel
theorem dX6_takeIds_51 : decode cX6_takeIds 51 = .ok (.aload_n 0, 1) := by decide +kernel
theorem dX6_takeIds_52 : decode cX6_takeIds 52 = .ok (.getfield 41, 3) := by decide +kernel
theorem dX6_takeIds_55 : decode cX6_takeIds 55 = .ok (.bipush 50, 2) := by decide +kernel
theorem dX6_takeIds_57 : decode cX6_takeIds 57 = .ok (.iconst 4, 1) := by decide +kernel
theorem dX6_takeIds_58 : decode cX6_takeIds 58 = .ok (.iload_n 1, 1) := by decide +kernel
theorem dX6_takeIds_59 : decode cX6_takeIds 59 = .ok (.imul, 1) := by decide +kernel
theorem dX6_takeIds_60 : decode cX6_takeIds 60 = .ok (.iload_n 2, 1) := by decide +kernel
theorem dX6_takeIds_61 : decode cX6_takeIds 61 = .ok (.iadd, 1) := by decide +kernel
theorem dX6_takeIds_62 : decode cX6_takeIds 62 = .ok (.imul, 1) := by decide +kernel
theorem dX6_takeIds_63 : decode cX6_takeIds 63 = .ok (.iload_n 3, 1) := by decide +kernel
theorem dX6_takeIds_64 : decode cX6_takeIds 64 = .ok (.iadd, 1) := by decide +kernel
theorem dX6_takeIds_65 : decode cX6_takeIds 65 = .ok (.iaload, 1) := by decide +kernel
theorem dX6_takeIds_66 : decode cX6_takeIds 66 = .ok (.iastore, 1) := by decide +kernel
theorem dX6_takeIds_67 : decode cX6_takeIds 67 = .ok (.iinc 3 1, 3) := by decide +kernel
theorem dX6_takeIds_70 : decode cX6_takeIds 70 = .ok (.goto (-32), 3) := by decide +kernel
theorem dX6_takeIds_73 : decode cX6_takeIds 73 = .ok (.return_, 1) := by decide +kernel
theorem dX6_isRow_0 : decode cX6_isRow 0 = .ok (.iload_n 0, 1) := by decide +kernel
theorem dX6_isRow_1 : decode cX6_isRow 1 = .ok (.iconst (-1), 1) := by decide +kernel
theorem dX6_isRow_2 : decode cX6_isRow 2 = .ok (.if_icmp .eq 16, 3) := by decide +kernel
theorem dX6_isRow_5 : decode cX6_isRow 5 = .ok (.iload_n 0, 1) := by decide +kernel
theorem dX6_isRow_6 : decode cX6_isRow 6 = .ok (.ifCond .lt 16, 3) := by decide +kernel
theorem dX6_isRow_9 : decode cX6_isRow 9 = .ok (.iload_n 1, 1) := by decide +kernel
theorem dX6_isRow_10 : decode cX6_isRow 10 = .ok (.iconst 0, 1) := by decide +kernel
theorem dX6_isRow_11 : decode cX6_isRow 11 = .ok (.iconst 3, 1) := by decide +kernel
theorem dX6_isRow_12 : decode cX6_isRow 12 = .ok (.invokestatic 99, 3) := by decide +kernel
theorem dX6_isRow_15 : decode cX6_isRow 15 = .ok (.ifCond .eq 7, 3) := by decide +kernel
theorem dX6_isRow_18 : decode cX6_isRow 18 = .ok (.iconst 1, 1) := by decide +kernel
theorem dX6_isRow_19 : decode cX6_isRow 19 = .ok (.goto 4, 3) := by decide +kernel
theorem dX6_isRow_22 : decode cX6_isRow 22 = .ok (.iconst 0, 1) := by decide +kernel
theorem dX6_isRow_23 : decode cX6_isRow 23 = .ok (.ireturn, 1) := by decide +kernel
theorem dX6_doGet_0 : decode cX6_doGet 0 = .ok (.aload_n 0, 1) := by decide +kernel
theorem dX6_doGet_1 : decode cX6_doGet 1 = .ok (.iconst 0, 1) := by decide +kernel
theorem dX6_doGet_2 : decode cX6_doGet 2 = .ok (.invokevirtual 146, 3) := by decide +kernel
theorem dX6_doGet_5 : decode cX6_doGet 5 = .ok (.istore_n 1, 1) := by decide +kernel
theorem dX6_doGet_6 : decode cX6_doGet 6 = .ok (.iload_n 1, 1) := by decide +kernel
theorem dX6_doGet_7 : decode cX6_doGet 7 = .ok (.iconst 0, 1) := by decide +kernel
theorem dX6_doGet_8 : decode cX6_doGet 8 = .ok (.iconst 2, 1) := by decide +kernel
theorem dX6_doGet_9 : decode cX6_doGet 9 = .ok (.invokestatic 99, 3) := by decide +kernel
theorem dX6_doGet_12 : decode cX6_doGet 12 = .ok (.ifCond .eq 19, 3) := by decide +kernel
theorem dX6_doGet_15 : decode cX6_doGet 15 = .ok (.aload_n 0, 1) := by decide +kernel
theorem dX6_doGet_16 : decode cX6_doGet 16 = .ok (.iconst 1, 1) := by decide +kernel
theorem dX6_doGet_17 : decode cX6_doGet 17 = .ok (.invokevirtual 146, 3) := by decide +kernel
theorem dX6_doGet_20 : decode cX6_doGet 20 = .ok (.aload_n 0, 1) := by decide +kernel
theorem dX6_doGet_21 : decode cX6_doGet 21 = .ok (.iconst 2, 1) := by decide +kernel
theorem dX6_doGet_22 : decode cX6_doGet 22 = .ok (.invokevirtual 146, 3) := by decide +kernel
theorem dX6_doGet_25 : decode cX6_doGet 25 = .ok (.invokestatic 149, 3) := by decide +kernel
theorem dX6_doGet_28 : decode cX6_doGet 28 = .ok (.ifCond .ne 6, 3) := by decide +kernel
theorem dX6_doGet_31 : decode cX6_doGet 31 = .ok (.bipush (-2), 2) := by decide +kernel
theorem dX6_doGet_33 : decode cX6_doGet 33 = .ok (.ireturn, 1) := by decide +kernel
theorem dX6_doGet_34 : decode cX6_doGet 34 = .ok (.aload_n 0, 1) := by decide +kernel
theorem dX6_doGet_35 : decode cX6_doGet 35 = .ok (.aload_n 0, 1) := by decide +kernel
theorem dX6_doGet_36 : decode cX6_doGet 36 = .ok (.iconst 1, 1) := by decide +kernel
theorem dX6_doGet_37 : decode cX6_doGet 37 = .ok (.invokevirtual 146, 3) := by decide +kernel
theorem dX6_doGet_40 : decode cX6_doGet 40 = .ok (.aload_n 0, 1) := by decide +kernel
theorem dX6_doGet_41 : decode cX6_doGet 41 = .ok (.iconst 2, 1) := by decide +kernel
theorem dX6_doGet_42 : decode cX6_doGet 42 = .ok (.invokevirtual 146, 3) := by decide +kernel
theorem dX6_doGet_45 : decode cX6_doGet 45 = .ok (.invokevirtual 152, 3) := by decide +kernel
theorem dX6_doGet_48 : decode cX6_doGet 48 = .ok (.ifCond .ne 6, 3) := by decide +kernel
theorem dX6_doGet_51 : decode cX6_doGet 51 = .ok (.bipush (-5), 2) := by decide +kernel
theorem dX6_doGet_53 : decode cX6_doGet 53 = .ok (.ireturn, 1) := by decide +kernel
theorem dX6_doGet_54 : decode cX6_doGet 54 = .ok (.aload_n 0, 1) := by decide +kernel
theorem dX6_doGet_55 : decode cX6_doGet 55 = .ok (.aload_n 0, 1) := by decide +kernel
theorem dX6_doGet_56 : decode cX6_doGet 56 = .ok (.iconst 1, 1) := by decide +kernel
theorem dX6_doGet_57 : decode cX6_doGet 57 = .ok (.invokevirtual 146, 3) := by decide +kernel
theorem dX6_doGet_60 : decode cX6_doGet 60 = .ok (.aload_n 0, 1) := by decide +kernel
theorem dX6_doGet_61 : decode cX6_doGet 61 = .ok (.iconst 2, 1) := by decide +kernel
theorem dX6_doGet_62 : decode cX6_doGet 62 = .ok (.invokevirtual 146, 3) := by decide +kernel
theorem dX6_doGet_65 : decode cX6_doGet 65 = .ok (.invokevirtual 155, 3) := by decide +kernel
theorem dX6_doGet_68 : decode cX6_doGet 68 = .ok (.iconst 0, 1) := by decide +kernel
theorem dX6_doGet_69 : decode cX6_doGet 69 = .ok (.istore_n 2, 1) := by decide +kernel
theorem dX6_doGet_70 : decode cX6_doGet 70 = .ok (.iload_n 2, 1) := by decide +kernel
theorem dX6_doGet_71 : decode cX6_doGet 71 = .ok (.aload_n 0, 1) := by decide +kernel
theorem dX6_doGet_72 : decode cX6_doGet 72 = .ok (.getfield 143, 3) := by decide +kernel
theorem dX6_doGet_75 : decode cX6_doGet 75 = .ok (.if_icmp .ge 66, 3) := by decide +kernel
theorem dX6_doGet_78 : decode cX6_doGet 78 = .ok (.aload_n 0, 1) := by decide +kernel
theorem dX6_doGet_79 : decode cX6_doGet 79 = .ok (.aload_n 0, 1) := by decide +kernel
theorem dX6_doGet_80 : decode cX6_doGet 80 = .ok (.getfield 7, 3) := by decide +kernel
theorem dX6_doGet_83 : decode cX6_doGet 83 = .ok (.iload_n 1, 1) := by decide +kernel
theorem dX6_doGet_84 : decode cX6_doGet 84 = .ok (.aload_n 0, 1) := by decide +kernel
theorem dX6_doGet_85 : decode cX6_doGet 85 = .ok (.getfield 59, 3) := by decide +kernel
theorem dX6_doGet_88 : decode cX6_doGet 88 = .ok (.iload_n 2, 1) := by decide +kernel
theorem dX6_doGet_89 : decode cX6_doGet 89 = .ok (.iaload, 1) := by decide +kernel
theorem dX6_doGet_90 : decode cX6_doGet 90 = .ok (.invokevirtual 113, 3) := by decide +kernel
theorem dX6_doGet_93 : decode cX6_doGet 93 = .ok (.ifCond .eq 7, 3) := by decide +kernel
theorem dX6_doGet_96 : decode cX6_doGet 96 = .ok (.iconst 0, 1) := by decide +kernel
theorem dX6_doGet_97 : decode cX6_doGet 97 = .ok (.goto 4, 3) := by decide +kernel
theorem dX6_doGet_100 : decode cX6_doGet 100 = .ok (.iconst 3, 1) := by decide +kernel
theorem dX6_doGet_101 : decode cX6_doGet 101 = .ok (.istore_n 3, 1) := by decide +kernel
theorem dX6_doGet_102 : decode cX6_doGet 102 = .ok (.aload_n 0, 1) := by decide +kernel
theorem dX6_doGet_103 : decode cX6_doGet 103 = .ok (.aload_n 0, 1) := by decide +kernel
theorem dX6_doGet_104 : decode cX6_doGet 104 = .ok (.getfield 129, 3) := by decide +kernel
theorem dX6_doGet_107 : decode cX6_doGet 107 = .ok (.iload_n 3, 1) := by decide +kernel
theorem dX6_doGet_108 : decode cX6_doGet 108 = .ok (.aload_n 0, 1) := by decide +kernel
theorem dX6_doGet_109 : decode cX6_doGet 109 = .ok (.getfield 59, 3) := by decide +kernel
theorem dX6_doGet_112 : decode cX6_doGet 112 = .ok (.iload_n 2, 1) := by decide +kernel
theorem dX6_doGet_113 : decode cX6_doGet 113 = .ok (.iaload, 1) := by decide +kernel
theorem dX6_doGet_114 : decode cX6_doGet 114 = .ok (.invokevirtual 159, 3) := by decide +kernel
theorem dX6_doGet_117 : decode cX6_doGet 117 = .ok (.ifCond .ne 18, 3) := by decide +kernel
theorem dX6_doGet_120 : decode cX6_doGet 120 = .ok (.aload_n 0, 1) := by decide +kernel
theorem dX6_doGet_121 : decode cX6_doGet 121 = .ok (.aload_n 0, 1) := by decide +kernel
theorem dX6_doGet_122 : decode cX6_doGet 122 = .ok (.getfield 129, 3) := by decide +kernel
theorem dX6_doGet_125 : decode cX6_doGet 125 = .ok (.iload_n 3, 1) := by decide +kernel
theorem dX6_doGet_126 : decode cX6_doGet 126 = .ok (.aload_n 0, 1) := by decide +kernel
theorem dX6_doGet_127 : decode cX6_doGet 127 = .ok (.getfield 59, 3) := by decide +kernel
theorem dX6_doGet_130 : decode cX6_doGet 130 = .ok (.iload_n 2, 1) := by decide +kernel
theorem dX6_doGet_131 : decode cX6_doGet 131 = .ok (.iaload, 1) := by decide +kernel
theorem dX6_doGet_132 : decode cX6_doGet 132 = .ok (.invokevirtual 162, 3) := by decide +kernel
theorem dX6_doGet_135 : decode cX6_doGet 135 = .ok (.iinc 2 1, 3) := by decide +kernel
theorem dX6_doGet_138 : decode cX6_doGet 138 = .ok (.goto (-68), 3) := by decide +kernel
theorem dX6_doGet_141 : decode cX6_doGet 141 = .ok (.iconst 0, 1) := by decide +kernel
theorem dX6_doGet_142 : decode cX6_doGet 142 = .ok (.ireturn, 1) := by decide +kernel
theorem dX6_keyOf_0 : decode cX6_keyOf 0 = .ok (.iload_n 2, 1) := by decide +kernel
theorem dX6_keyOf_1 : decode cX6_keyOf 1 = .ok (.ifCond .ne 17, 3) := by decide +kernel
theorem dX6_keyOf_4 : decode cX6_keyOf 4 = .ok (.aload_n 0, 1) := by decide +kernel
theorem dX6_keyOf_5 : decode cX6_keyOf 5 = .ok (.aload_n 0, 1) := by decide +kernel
theorem dX6_keyOf_6 : decode cX6_keyOf 6 = .ok (.getfield 7, 3) := by decide +kernel
theorem dX6_keyOf_9 : decode cX6_keyOf 9 = .ok (.iload_n 1, 1) := by decide +kernel
theorem dX6_keyOf_10 : decode cX6_keyOf 10 = .ok (.bipush 6, 2) := by decide +kernel
theorem dX6_keyOf_12 : decode cX6_keyOf 12 = .ok (.invokevirtual 85, 3) := by decide +kernel
theorem dX6_keyOf_15 : decode cX6_keyOf 15 = .ok (.goto 40, 3) := by decide +kernel
theorem dX6_keyOf_18 : decode cX6_keyOf 18 = .ok (.iload_n 2, 1) := by decide +kernel
theorem dX6_keyOf_19 : decode cX6_keyOf 19 = .ok (.iconst 1, 1) := by decide +kernel
theorem dX6_keyOf_20 : decode cX6_keyOf 20 = .ok (.if_icmp .ne 16, 3) := by decide +kernel
theorem dX6_keyOf_23 : decode cX6_keyOf 23 = .ok (.aload_n 0, 1) := by decide +kernel
theorem dX6_keyOf_24 : decode cX6_keyOf 24 = .ok (.aload_n 0, 1) := by decide +kernel
theorem dX6_keyOf_25 : decode cX6_keyOf 25 = .ok (.getfield 7, 3) := by decide +kernel
theorem dX6_keyOf_28 : decode cX6_keyOf 28 = .ok (.iload_n 1, 1) := by decide +kernel
theorem dX6_keyOf_29 : decode cX6_keyOf 29 = .ok (.iconst 5, 1) := by decide +kernel
theorem dX6_keyOf_30 : decode cX6_keyOf 30 = .ok (.invokevirtual 85, 3) := by decide +kernel
theorem dX6_keyOf_33 : decode cX6_keyOf 33 = .ok (.goto 22, 3) := by decide +kernel
theorem dX6_keyOf_36 : decode cX6_keyOf 36 = .ok (.iload_n 2, 1) := by decide +kernel
theorem dX6_keyOf_37 : decode cX6_keyOf 37 = .ok (.iconst 2, 1) := by decide +kernel
theorem dX6_keyOf_38 : decode cX6_keyOf 38 = .ok (.if_icmp .ne 16, 3) := by decide +kernel
theorem dX6_keyOf_41 : decode cX6_keyOf 41 = .ok (.aload_n 0, 1) := by decide +kernel
theorem dX6_keyOf_42 : decode cX6_keyOf 42 = .ok (.aload_n 0, 1) := by decide +kernel
theorem dX6_keyOf_43 : decode cX6_keyOf 43 = .ok (.getfield 7, 3) := by decide +kernel
theorem dX6_keyOf_46 : decode cX6_keyOf 46 = .ok (.iload_n 1, 1) := by decide +kernel
theorem dX6_keyOf_47 : decode cX6_keyOf 47 = .ok (.iconst 1, 1) := by decide +kernel
theorem dX6_keyOf_48 : decode cX6_keyOf 48 = .ok (.invokevirtual 85, 3) := by decide +kernel
theorem dX6_keyOf_51 : decode cX6_keyOf 51 = .ok (.goto 4, 3) := by decide +kernel
theorem dX6_keyOf_54 : decode cX6_keyOf 54 = .ok (.iload_n 1, 1) := by decide +kernel
theorem dX6_keyOf_55 : decode cX6_keyOf 55 = .ok (.ireturn, 1) := by decide +kernel
theorem dX6_doQuery_0 : decode cX6_doQuery 0 = .ok (.aload_n 0, 1) := by decide +kernel
theorem dX6_doQuery_1 : decode cX6_doQuery 1 = .ok (.iconst 0, 1) := by decide +kernel
theorem dX6_doQuery_2 : decode cX6_doQuery 2 = .ok (.invokevirtual 146, 3) := by decide +kernel
theorem dX6_doQuery_5 : decode cX6_doQuery 5 = .ok (.istore_n 1, 1) := by decide +kernel
theorem dX6_doQuery_6 : decode cX6_doQuery 6 = .ok (.aload_n 0, 1) := by decide +kernel
theorem dX6_doQuery_7 : decode cX6_doQuery 7 = .ok (.iconst 1, 1) := by decide +kernel
theorem dX6_doQuery_8 : decode cX6_doQuery 8 = .ok (.invokevirtual 146, 3) := by decide +kernel
theorem dX6_doQuery_11 : decode cX6_doQuery 11 = .ok (.istore_n 2, 1) := by decide +kernel
theorem dX6_doQuery_12 : decode cX6_doQuery 12 = .ok (.aload_n 0, 1) := by decide +kernel
theorem dX6_doQuery_13 : decode cX6_doQuery 13 = .ok (.iconst 2, 1) := by decide +kernel
theorem dX6_doQuery_14 : decode cX6_doQuery 14 = .ok (.invokevirtual 146, 3) := by decide +kernel
theorem dX6_doQuery_17 : decode cX6_doQuery 17 = .ok (.istore_n 3, 1) := by decide +kernel
theorem dX6_doQuery_18 : decode cX6_doQuery 18 = .ok (.aload_n 0, 1) := by decide +kernel
theorem dX6_doQuery_19 : decode cX6_doQuery 19 = .ok (.iconst 3, 1) := by decide +kernel
theorem dX6_doQuery_20 : decode cX6_doQuery 20 = .ok (.invokevirtual 146, 3) := by decide +kernel
theorem dX6_doQuery_23 : decode cX6_doQuery 23 = .ok (.istore 4, 2) := by decide +kernel
theorem dX6_doQuery_25 : decode cX6_doQuery 25 = .ok (.iload_n 1, 1) := by decide +kernel
theorem dX6_doQuery_26 : decode cX6_doQuery 26 = .ok (.iconst (-1), 1) := by decide +kernel
theorem dX6_doQuery_27 : decode cX6_doQuery 27 = .ok (.if_icmp .lt 34, 3) := by decide +kernel
theorem dX6_doQuery_30 : decode cX6_doQuery 30 = .ok (.iload_n 2, 1) := by decide +kernel
theorem dX6_doQuery_31 : decode cX6_doQuery 31 = .ok (.iconst 0, 1) := by decide +kernel
theorem dX6_doQuery_32 : decode cX6_doQuery 32 = .ok (.bipush 7, 2) := by decide +kernel
theorem dX6_doQuery_34 : decode cX6_doQuery 34 = .ok (.invokestatic 99, 3) := by decide +kernel
theorem dX6_doQuery_37 : decode cX6_doQuery 37 = .ok (.ifCond .eq 24, 3) := by decide +kernel
theorem dX6_doQuery_40 : decode cX6_doQuery 40 = .ok (.iload_n 3, 1) := by decide +kernel
theorem dX6_doQuery_41 : decode cX6_doQuery 41 = .ok (.iconst 0, 1) := by decide +kernel
theorem dX6_doQuery_42 : decode cX6_doQuery 42 = .ok (.bipush 99, 2) := by decide +kernel
theorem dX6_doQuery_44 : decode cX6_doQuery 44 = .ok (.invokestatic 99, 3) := by decide +kernel
theorem dX6_doQuery_47 : decode cX6_doQuery 47 = .ok (.ifCond .eq 14, 3) := by decide +kernel
theorem dX6_doQuery_50 : decode cX6_doQuery 50 = .ok (.iload 4, 2) := by decide +kernel
theorem dX6_doQuery_52 : decode cX6_doQuery 52 = .ok (.iconst 0, 1) := by decide +kernel
theorem dX6_doQuery_53 : decode cX6_doQuery 53 = .ok (.bipush 99, 2) := by decide +kernel
theorem dX6_doQuery_55 : decode cX6_doQuery 55 = .ok (.invokestatic 99, 3) := by decide +kernel
theorem dX6_doQuery_58 : decode cX6_doQuery 58 = .ok (.ifCond .ne 6, 3) := by decide +kernel
theorem dX6_doQuery_61 : decode cX6_doQuery 61 = .ok (.bipush (-2), 2) := by decide +kernel
theorem dX6_doQuery_63 : decode cX6_doQuery 63 = .ok (.ireturn, 1) := by decide +kernel
theorem dX6_doQuery_64 : decode cX6_doQuery 64 = .ok (.iload_n 1, 1) := by decide +kernel
theorem dX6_doQuery_65 : decode cX6_doQuery 65 = .ok (.aload_n 0, 1) := by decide +kernel
theorem dX6_doQuery_66 : decode cX6_doQuery 66 = .ok (.getfield 166, 3) := by decide +kernel
theorem dX6_doQuery_69 : decode cX6_doQuery 69 = .ok (.if_icmp .lt 5, 3) := by decide +kernel
theorem dX6_doQuery_72 : decode cX6_doQuery 72 = .ok (.iconst (-1), 1) := by decide +kernel
theorem dX6_doQuery_73 : decode cX6_doQuery 73 = .ok (.ireturn, 1) := by decide +kernel
theorem dX6_doQuery_74 : decode cX6_doQuery 74 = .ok (.iconst 0, 1) := by decide +kernel
theorem dX6_doQuery_75 : decode cX6_doQuery 75 = .ok (.istore 5, 2) := by decide +kernel
theorem dX6_doQuery_77 : decode cX6_doQuery 77 = .ok (.iconst 0, 1) := by decide +kernel
theorem dX6_doQuery_78 : decode cX6_doQuery 78 = .ok (.istore 6, 2) := by decide +kernel
theorem dX6_doQuery_80 : decode cX6_doQuery 80 = .ok (.iload 6, 2) := by decide +kernel
theorem dX6_doQuery_82 : decode cX6_doQuery 82 = .ok (.aload_n 0, 1) := by decide +kernel
theorem dX6_doQuery_83 : decode cX6_doQuery 83 = .ok (.getfield 7, 3) := by decide +kernel
theorem dX6_doQuery_86 : decode cX6_doQuery 86 = .ok (.sipush 581, 3) := by decide +kernel
theorem dX6_doQuery_89 : decode cX6_doQuery 89 = .ok (.iaload, 1) := by decide +kernel
theorem dX6_doQuery_90 : decode cX6_doQuery 90 = .ok (.if_icmp .ge 101, 3) := by decide +kernel
theorem dX6_doQuery_93 : decode cX6_doQuery 93 = .ok (.aload_n 0, 1) := by decide +kernel
theorem dX6_doQuery_94 : decode cX6_doQuery 94 = .ok (.aload_n 0, 1) := by decide +kernel
theorem dX6_doQuery_95 : decode cX6_doQuery 95 = .ok (.getfield 7, 3) := by decide +kernel
theorem dX6_doQuery_98 : decode cX6_doQuery 98 = .ok (.iload 6, 2) := by decide +kernel
theorem dX6_doQuery_100 : decode cX6_doQuery 100 = .ok (.invokevirtual 81, 3) := by decide +kernel
theorem dX6_doQuery_103 : decode cX6_doQuery 103 = .ok (.ifCond .eq 82, 3) := by decide +kernel
theorem dX6_doQuery_106 : decode cX6_doQuery 106 = .ok (.iload_n 1, 1) := by decide +kernel
theorem dX6_doQuery_107 : decode cX6_doQuery 107 = .ok (.ifCond .lt 16, 3) := by decide +kernel
theorem dX6_doQuery_110 : decode cX6_doQuery 110 = .ok (.aload_n 0, 1) := by decide +kernel
theorem dX6_doQuery_111 : decode cX6_doQuery 111 = .ok (.iload 6, 2) := by decide +kernel
theorem dX6_doQuery_113 : decode cX6_doQuery 113 = .ok (.iload_n 1, 1) := by decide +kernel
theorem dX6_doQuery_114 : decode cX6_doQuery 114 = .ok (.invokevirtual 169, 3) := by decide +kernel
theorem dX6_doQuery_117 : decode cX6_doQuery 117 = .ok (.ifCond .ne 6, 3) := by decide +kernel
theorem dX6_doQuery_120 : decode cX6_doQuery 120 = .ok (.goto 65, 3) := by decide +kernel
theorem dX6_doQuery_123 : decode cX6_doQuery 123 = .ok (.iload 5, 2) := by decide +kernel
theorem dX6_doQuery_125 : decode cX6_doQuery 125 = .ok (.istore 7, 2) := by decide +kernel
theorem dX6_doQuery_127 : decode cX6_doQuery 127 = .ok (.iload 7, 2) := by decide +kernel
theorem dX6_doQuery_129 : decode cX6_doQuery 129 = .ok (.ifCond .le 44, 3) := by decide +kernel
theorem dX6_doQuery_132 : decode cX6_doQuery 132 = .ok (.aload_n 0, 1) := by decide +kernel
theorem dX6_doQuery_133 : decode cX6_doQuery 133 = .ok (.aload_n 0, 1) := by decide +kernel
theorem dX6_doQuery_134 : decode cX6_doQuery 134 = .ok (.getfield 62, 3) := by decide +kernel
theorem dX6_doQuery_137 : decode cX6_doQuery 137 = .ok (.iload 7, 2) := by decide +kernel
theorem dX6_doQuery_139 : decode cX6_doQuery 139 = .ok (.iconst 1, 1) := by decide +kernel
theorem dX6_doQuery_140 : decode cX6_doQuery 140 = .ok (.isub, 1) := by decide +kernel
theorem dX6_doQuery_141 : decode cX6_doQuery 141 = .ok (.iaload, 1) := by decide +kernel
theorem dX6_doQuery_142 : decode cX6_doQuery 142 = .ok (.iload 6, 2) := by decide +kernel
theorem dX6_doQuery_144 : decode cX6_doQuery 144 = .ok (.iload_n 2, 1) := by decide +kernel
theorem dX6_doQuery_145 : decode cX6_doQuery 145 = .ok (.invokevirtual 172, 3) := by decide +kernel
theorem dX6_doQuery_148 : decode cX6_doQuery 148 = .ok (.ifCond .eq 25, 3) := by decide +kernel
theorem dX6_doQuery_151 : decode cX6_doQuery 151 = .ok (.aload_n 0, 1) := by decide +kernel
theorem dX6_doQuery_152 : decode cX6_doQuery 152 = .ok (.getfield 62, 3) := by decide +kernel
theorem dX6_doQuery_155 : decode cX6_doQuery 155 = .ok (.iload 7, 2) := by decide +kernel
theorem dX6_doQuery_157 : decode cX6_doQuery 157 = .ok (.aload_n 0, 1) := by decide +kernel
theorem dX6_doQuery_158 : decode cX6_doQuery 158 = .ok (.getfield 62, 3) := by decide +kernel
theorem dX6_doQuery_161 : decode cX6_doQuery 161 = .ok (.iload 7, 2) := by decide +kernel
theorem dX6_doQuery_163 : decode cX6_doQuery 163 = .ok (.iconst 1, 1) := by decide +kernel
theorem dX6_doQuery_164 : decode cX6_doQuery 164 = .ok (.isub, 1) := by decide +kernel
theorem dX6_doQuery_165 : decode cX6_doQuery 165 = .ok (.iaload, 1) := by decide +kernel
theorem dX6_doQuery_166 : decode cX6_doQuery 166 = .ok (.iastore, 1) := by decide +kernel
theorem dX6_doQuery_167 : decode cX6_doQuery 167 = .ok (.iinc 7 (-1), 3) := by decide +kernel
theorem dX6_doQuery_170 : decode cX6_doQuery 170 = .ok (.goto (-43), 3) := by decide +kernel
theorem dX6_doQuery_173 : decode cX6_doQuery 173 = .ok (.aload_n 0, 1) := by decide +kernel
theorem dX6_doQuery_174 : decode cX6_doQuery 174 = .ok (.getfield 62, 3) := by decide +kernel
theorem dX6_doQuery_177 : decode cX6_doQuery 177 = .ok (.iload 7, 2) := by decide +kernel
theorem dX6_doQuery_179 : decode cX6_doQuery 179 = .ok (.iload 6, 2) := by decide +kernel
theorem dX6_doQuery_181 : decode cX6_doQuery 181 = .ok (.iastore, 1) := by decide +kernel
theorem dX6_doQuery_182 : decode cX6_doQuery 182 = .ok (.iinc 5 1, 3) := by decide +kernel
theorem dX6_doQuery_185 : decode cX6_doQuery 185 = .ok (.iinc 6 1, 3) := by decide +kernel
theorem dX6_doQuery_188 : decode cX6_doQuery 188 = .ok (.goto (-108), 3) := by decide +kernel
theorem dX6_doQuery_191 : decode cX6_doQuery 191 = .ok (.iload_n 3, 1) := by decide +kernel
theorem dX6_doQuery_192 : decode cX6_doQuery 192 = .ok (.istore 6, 2) := by decide +kernel
theorem dX6_doQuery_194 : decode cX6_doQuery 194 = .ok (.iload 6, 2) := by decide +kernel
theorem dX6_doQuery_196 : decode cX6_doQuery 196 = .ok (.iload 5, 2) := by decide +kernel
theorem dX6_doQuery_198 : decode cX6_doQuery 198 = .ok (.if_icmp .ge 34, 3) := by decide +kernel
theorem dX6_doQuery_201 : decode cX6_doQuery 201 = .ok (.iload 6, 2) := by decide +kernel
theorem dX6_doQuery_203 : decode cX6_doQuery 203 = .ok (.iload_n 3, 1) := by decide +kernel
theorem dX6_doQuery_204 : decode cX6_doQuery 204 = .ok (.iload 4, 2) := by decide +kernel
theorem dX6_doQuery_206 : decode cX6_doQuery 206 = .ok (.iadd, 1) := by decide +kernel
theorem dX6_doQuery_207 : decode cX6_doQuery 207 = .ok (.if_icmp .ge 25, 3) := by decide +kernel
theorem dX6_doQuery_210 : decode cX6_doQuery 210 = .ok (.aload_n 0, 1) := by decide +kernel
theorem dX6_doQuery_211 : decode cX6_doQuery 211 = .ok (.aload_n 0, 1) := by decide +kernel
theorem dX6_doQuery_212 : decode cX6_doQuery 212 = .ok (.getfield 129, 3) := by decide +kernel
theorem dX6_doQuery_215 : decode cX6_doQuery 215 = .ok (.iconst 0, 1) := by decide +kernel
theorem dX6_doQuery_216 : decode cX6_doQuery 216 = .ok (.aload_n 0, 1) := by decide +kernel
theorem dX6_doQuery_217 : decode cX6_doQuery 217 = .ok (.getfield 62, 3) := by decide +kernel
theorem dX6_doQuery_220 : decode cX6_doQuery 220 = .ok (.iload 6, 2) := by decide +kernel
theorem dX6_doQuery_222 : decode cX6_doQuery 222 = .ok (.iaload, 1) := by decide +kernel
theorem dX6_doQuery_223 : decode cX6_doQuery 223 = .ok (.invokevirtual 162, 3) := by decide +kernel
theorem dX6_doQuery_226 : decode cX6_doQuery 226 = .ok (.iinc 6 1, 3) := by decide +kernel
theorem dX6_doQuery_229 : decode cX6_doQuery 229 = .ok (.goto (-35), 3) := by decide +kernel
theorem dX6_doQuery_232 : decode cX6_doQuery 232 = .ok (.iconst 0, 1) := by decide +kernel
theorem dX6_doQuery_233 : decode cX6_doQuery 233 = .ok (.ireturn, 1) := by decide +kernel
theorem dX6_isBehind_0 : decode cX6_isBehind 0 = .ok (.aload_n 0, 1) := by decide +kernel
theorem dX6_isBehind_1 : decode cX6_isBehind 1 = .ok (.iload_n 1, 1) := by decide +kernel
theorem dX6_isBehind_2 : decode cX6_isBehind 2 = .ok (.iload_n 3, 1) := by decide +kernel
theorem dX6_isBehind_3 : decode cX6_isBehind 3 = .ok (.iconst 4, 1) := by decide +kernel
theorem dX6_isBehind_4 : decode cX6_isBehind 4 = .ok (.irem, 1) := by decide +kernel
theorem dX6_isBehind_5 : decode cX6_isBehind 5 = .ok (.invokevirtual 175, 3) := by decide +kernel
theorem dX6_isBehind_8 : decode cX6_isBehind 8 = .ok (.istore 4, 2) := by decide +kernel
theorem dX6_isBehind_10 : decode cX6_isBehind 10 = .ok (.aload_n 0, 1) := by decide +kernel
theorem dX6_isBehind_11 : decode cX6_isBehind 11 = .ok (.iload_n 2, 1) := by decide +kernel
theorem dX6_isBehind_12 : decode cX6_isBehind 12 = .ok (.iload_n 3, 1) := by decide +kernel
theorem dX6_isBehind_13 : decode cX6_isBehind 13 = .ok (.iconst 4, 1) := by decide +kernel
theorem dX6_isBehind_14 : decode cX6_isBehind 14 = .ok (.irem, 1) := by decide +kernel
theorem dX6_isBehind_15 : decode cX6_isBehind 15 = .ok (.invokevirtual 175, 3) := by decide +kernel
theorem dX6_isBehind_18 : decode cX6_isBehind 18 = .ok (.istore 5, 2) := by decide +kernel
theorem dX6_isBehind_20 : decode cX6_isBehind 20 = .ok (.iload_n 3, 1) := by decide +kernel
theorem dX6_isBehind_21 : decode cX6_isBehind 21 = .ok (.iconst 4, 1) := by decide +kernel
theorem dX6_isBehind_22 : decode cX6_isBehind 22 = .ok (.if_icmp .ge 18, 3) := by decide +kernel
theorem dX6_isBehind_25 : decode cX6_isBehind 25 = .ok (.iload 4, 2) := by decide +kernel
theorem dX6_isBehind_27 : decode cX6_isBehind 27 = .ok (.iload 5, 2) := by decide +kernel
theorem dX6_isBehind_29 : decode cX6_isBehind 29 = .ok (.if_icmp .le 7, 3) := by decide +kernel
theorem dX6_isBehind_32 : decode cX6_isBehind 32 = .ok (.iconst 1, 1) := by decide +kernel
theorem dX6_isBehind_33 : decode cX6_isBehind 33 = .ok (.goto 19, 3) := by decide +kernel
theorem dX6_isBehind_36 : decode cX6_isBehind 36 = .ok (.iconst 0, 1) := by decide +kernel
theorem dX6_isBehind_37 : decode cX6_isBehind 37 = .ok (.goto 15, 3) := by decide +kernel
theorem dX6_isBehind_40 : decode cX6_isBehind 40 = .ok (.iload 4, 2) := by decide +kernel
theorem dX6_isBehind_42 : decode cX6_isBehind 42 = .ok (.iload 5, 2) := by decide +kernel
theorem dX6_isBehind_44 : decode cX6_isBehind 44 = .ok (.if_icmp .ge 7, 3) := by decide +kernel
theorem dX6_isBehind_47 : decode cX6_isBehind 47 = .ok (.iconst 1, 1) := by decide +kernel
theorem dX6_isBehind_48 : decode cX6_isBehind 48 = .ok (.goto 4, 3) := by decide +kernel
theorem dX6_isBehind_51 : decode cX6_isBehind 51 = .ok (.iconst 0, 1) := by decide +kernel
theorem dX6_isBehind_52 : decode cX6_isBehind 52 = .ok (.ireturn, 1) := by decide +kernel
theorem dX6_between_0 : decode cX6_between 0 = .ok (.iconst 0, 1) := by decide +kernel
theorem dX6_between_1 : decode cX6_between 1 = .ok (.istore 5, 2) := by decide +kernel
theorem dX6_between_3 : decode cX6_between 3 = .ok (.iconst 0, 1) := by decide +kernel
theorem dX6_between_4 : decode cX6_between 4 = .ok (.istore 6, 2) := by decide +kernel
theorem dX6_between_6 : decode cX6_between 6 = .ok (.iconst 0, 1) := by decide +kernel
theorem dX6_between_7 : decode cX6_between 7 = .ok (.istore 7, 2) := by decide +kernel
theorem dX6_between_9 : decode cX6_between 9 = .ok (.iconst 0, 1) := by decide +kernel
theorem dX6_between_10 : decode cX6_between 10 = .ok (.istore 8, 2) := by decide +kernel
theorem dX6_between_12 : decode cX6_between 12 = .ok (.iload 8, 2) := by decide +kernel
theorem dX6_between_14 : decode cX6_between 14 = .ok (.aload_n 0, 1) := by decide +kernel
theorem dX6_between_15 : decode cX6_between 15 = .ok (.getfield 110, 3) := by decide +kernel
theorem dX6_between_18 : decode cX6_between 18 = .ok (.if_icmp .ge 106, 3) := by decide +kernel
theorem dX6_between_21 : decode cX6_between 21 = .ok (.aload_n 0, 1) := by decide +kernel
theorem dX6_between_22 : decode cX6_between 22 = .ok (.getfield 44, 3) := by decide +kernel
theorem dX6_between_25 : decode cX6_between 25 = .ok (.iload 8, 2) := by decide +kernel
theorem dX6_between_27 : decode cX6_between 27 = .ok (.iaload, 1) := by decide +kernel
theorem dX6_between_28 : decode cX6_between 28 = .ok (.iload_n 1, 1) := by decide +kernel
theorem dX6_between_29 : decode cX6_between 29 = .ok (.if_icmp .ne 89, 3) := by decide +kernel
theorem dX6_between_32 : decode cX6_between 32 = .ok (.aload_n 0, 1) := by decide +kernel
theorem dX6_between_33 : decode cX6_between 33 = .ok (.getfield 50, 3) := by decide +kernel
theorem dX6_between_36 : decode cX6_between 36 = .ok (.iload 8, 2) := by decide +kernel
theorem dX6_between_38 : decode cX6_between 38 = .ok (.iaload, 1) := by decide +kernel
theorem dX6_between_39 : decode cX6_between 39 = .ok (.iload_n 2, 1) := by decide +kernel
theorem dX6_between_40 : decode cX6_between 40 = .ok (.if_icmp .ne 78, 3) := by decide +kernel
theorem dX6_between_43 : decode cX6_between 43 = .ok (.aload_n 0, 1) := by decide +kernel
theorem dX6_between_44 : decode cX6_between 44 = .ok (.getfield 47, 3) := by decide +kernel
theorem dX6_between_47 : decode cX6_between 47 = .ok (.iload 8, 2) := by decide +kernel
theorem dX6_between_49 : decode cX6_between 49 = .ok (.iaload, 1) := by decide +kernel
theorem dX6_between_50 : decode cX6_between 50 = .ok (.iload_n 3, 1) := by decide +kernel
theorem dX6_between_51 : decode cX6_between 51 = .ok (.if_icmp .le 67, 3) := by decide +kernel
theorem dX6_between_54 : decode cX6_between 54 = .ok (.aload_n 0, 1) := by decide +kernel
theorem dX6_between_55 : decode cX6_between 55 = .ok (.getfield 47, 3) := by decide +kernel
theorem dX6_between_58 : decode cX6_between 58 = .ok (.iload 8, 2) := by decide +kernel
theorem dX6_between_60 : decode cX6_between 60 = .ok (.iaload, 1) := by decide +kernel
theorem dX6_between_61 : decode cX6_between 61 = .ok (.iload 4, 2) := by decide +kernel
theorem dX6_between_63 : decode cX6_between 63 = .ok (.if_icmp .le 6, 3) := by decide +kernel
theorem dX6_between_66 : decode cX6_between 66 = .ok (.goto 52, 3) := by decide +kernel
theorem dX6_between_69 : decode cX6_between 69 = .ok (.iload 5, 2) := by decide +kernel
theorem dX6_between_71 : decode cX6_between 71 = .ok (.ifCond .ne 13, 3) := by decide +kernel
theorem dX6_between_74 : decode cX6_between 74 = .ok (.aload_n 0, 1) := by decide +kernel
theorem dX6_between_75 : decode cX6_between 75 = .ok (.getfield 53, 3) := by decide +kernel
theorem dX6_between_78 : decode cX6_between 78 = .ok (.iload 8, 2) := by decide +kernel
theorem dX6_between_80 : decode cX6_between 80 = .ok (.iaload, 1) := by decide +kernel
theorem dX6_between_81 : decode cX6_between 81 = .ok (.goto 5, 3) := by decide +kernel
theorem dX6_between_84 : decode cX6_between 84 = .ok (.iload 5, 2) := by decide +kernel
theorem dX6_between_86 : decode cX6_between 86 = .ok (.istore 5, 2) := by decide +kernel
theorem dX6_between_88 : decode cX6_between 88 = .ok (.aload_n 0, 1) := by decide +kernel
theorem dX6_between_89 : decode cX6_between 89 = .ok (.getfield 53, 3) := by decide +kernel
theorem dX6_between_92 : decode cX6_between 92 = .ok (.iload 8, 2) := by decide +kernel
theorem dX6_between_94 : decode cX6_between 94 = .ok (.iaload, 1) := by decide +kernel
theorem dX6_between_95 : decode cX6_between 95 = .ok (.istore 6, 2) := by decide +kernel
theorem dX6_between_97 : decode cX6_between 97 = .ok (.iload 7, 2) := by decide +kernel
theorem dX6_between_99 : decode cX6_between 99 = .ok (.aload_n 0, 1) := by decide +kernel
theorem dX6_between_100 : decode cX6_between 100 = .ok (.getfield 53, 3) := by decide +kernel
theorem dX6_between_103 : decode cX6_between 103 = .ok (.iload 8, 2) := by decide +kernel
theorem dX6_between_105 : decode cX6_between 105 = .ok (.iaload, 1) := by decide +kernel
theorem dX6_between_106 : decode cX6_between 106 = .ok (.iconst 2, 1) := by decide +kernel
theorem dX6_between_107 : decode cX6_between 107 = .ok (.if_icmp .ne 7, 3) := by decide +kernel
theorem dX6_between_110 : decode cX6_between 110 = .ok (.iconst 1, 1) := by decide +kernel
theorem dX6_between_111 : decode cX6_between 111 = .ok (.goto 4, 3) := by decide +kernel
theorem dX6_between_114 : decode cX6_between 114 = .ok (.iconst 0, 1) := by decide +kernel
theorem dX6_between_115 : decode cX6_between 115 = .ok (.ior, 1) := by decide +kernel
theorem dX6_between_116 : decode cX6_between 116 = .ok (.istore 7, 2) := by decide +kernel
theorem dX6_between_118 : decode cX6_between 118 = .ok (.iinc 8 1, 3) := by decide +kernel
theorem dX6_between_121 : decode cX6_between 121 = .ok (.goto (-109), 3) := by decide +kernel
theorem dX6_between_124 : decode cX6_between 124 = .ok (.iload 5, 2) := by decide +kernel
theorem dX6_between_126 : decode cX6_between 126 = .ok (.ifCond .ne 5, 3) := by decide +kernel
theorem dX6_between_129 : decode cX6_between 129 = .ok (.iconst 0, 1) := by decide +kernel
theorem dX6_between_130 : decode cX6_between 130 = .ok (.ireturn, 1) := by decide +kernel
theorem dX6_between_131 : decode cX6_between 131 = .ok (.iload 5, 2) := by decide +kernel
theorem dX6_between_133 : decode cX6_between 133 = .ok (.iconst 1, 1) := by decide +kernel
theorem dX6_between_134 : decode cX6_between 134 = .ok (.if_icmp .ne 7, 3) := by decide +kernel
theorem dX6_between_137 : decode cX6_between 137 = .ok (.iconst 0, 1) := by decide +kernel
theorem dX6_between_138 : decode cX6_between 138 = .ok (.goto 4, 3) := by decide +kernel
theorem dX6_between_141 : decode cX6_between 141 = .ok (.iconst 1, 1) := by decide +kernel
theorem dX6_between_142 : decode cX6_between 142 = .ok (.iload 6, 2) := by decide +kernel
theorem dX6_between_144 : decode cX6_between 144 = .ok (.iconst 3, 1) := by decide +kernel
theorem dX6_between_145 : decode cX6_between 145 = .ok (.if_icmp .ne 7, 3) := by decide +kernel
theorem dX6_between_148 : decode cX6_between 148 = .ok (.iconst 0, 1) := by decide +kernel
theorem dX6_between_149 : decode cX6_between 149 = .ok (.goto 4, 3) := by decide +kernel
theorem dX6_between_152 : decode cX6_between 152 = .ok (.iconst 2, 1) := by decide +kernel
theorem dX6_between_153 : decode cX6_between 153 = .ok (.iadd, 1) := by decide +kernel
theorem dX6_between_154 : decode cX6_between 154 = .ok (.iload 7, 2) := by decide +kernel
theorem dX6_between_156 : decode cX6_between 156 = .ok (.ifCond .eq 7, 3) := by decide +kernel
theorem dX6_between_159 : decode cX6_between 159 = .ok (.iconst 4, 1) := by decide +kernel
theorem dX6_between_160 : decode cX6_between 160 = .ok (.goto 4, 3) := by decide +kernel
theorem dX6_between_163 : decode cX6_between 163 = .ok (.iconst 0, 1) := by decide +kernel
theorem dX6_between_164 : decode cX6_between 164 = .ok (.iadd, 1) := by decide +kernel
theorem dX6_between_165 : decode cX6_between 165 = .ok (.ireturn, 1) := by decide +kernel
theorem dX6_rowOf_0 : decode cX6_rowOf 0 = .ok (.iload_n 1, 1) := by decide +kernel
theorem dX6_rowOf_1 : decode cX6_rowOf 1 = .ok (.iconst 3, 1) := by decide +kernel
theorem dX6_rowOf_2 : decode cX6_rowOf 2 = .ok (.iand, 1) := by decide +kernel
theorem dX6_rowOf_3 : decode cX6_rowOf 3 = .ok (.iconst 2, 1) := by decide +kernel
theorem dX6_rowOf_4 : decode cX6_rowOf 4 = .ok (.if_icmp .ne 5, 3) := by decide +kernel
theorem dX6_rowOf_7 : decode cX6_rowOf 7 = .ok (.iconst 1, 1) := by decide +kernel
theorem dX6_rowOf_8 : decode cX6_rowOf 8 = .ok (.ireturn, 1) := by decide +kernel
theorem dX6_rowOf_9 : decode cX6_rowOf 9 = .ok (.iload_n 1, 1) := by decide +kernel
theorem dX6_rowOf_10 : decode cX6_rowOf 10 = .ok (.iconst 3, 1) := by decide +kernel
theorem dX6_rowOf_11 : decode cX6_rowOf 11 = .ok (.iand, 1) := by decide +kernel
theorem dX6_rowOf_12 : decode cX6_rowOf 12 = .ok (.iconst 3, 1) := by decide +kernel
theorem dX6_rowOf_13 : decode cX6_rowOf 13 = .ok (.if_icmp .ne 16, 3) := by decide +kernel
theorem dX6_rowOf_16 : decode cX6_rowOf 16 = .ok (.iload_n 1, 1) := by decide +kernel
theorem dX6_rowOf_17 : decode cX6_rowOf 17 = .ok (.iconst 4, 1) := by decide +kernel
theorem dX6_rowOf_18 : decode cX6_rowOf 18 = .ok (.iand, 1) := by decide +kernel
theorem dX6_rowOf_19 : decode cX6_rowOf 19 = .ok (.ifCond .eq 7, 3) := by decide +kernel
theorem dX6_rowOf_22 : decode cX6_rowOf 22 = .ok (.iconst 2, 1) := by decide +kernel
theorem dX6_rowOf_23 : decode cX6_rowOf 23 = .ok (.goto 5, 3) := by decide +kernel
theorem dX6_rowOf_26 : decode cX6_rowOf 26 = .ok (.bipush (-9), 2) := by decide +kernel
theorem dX6_rowOf_28 : decode cX6_rowOf 28 = .ok (.ireturn, 1) := by decide +kernel
theorem dX6_rowOf_29 : decode cX6_rowOf 29 = .ok (.iload_n 1, 1) := by decide +kernel
theorem dX6_rowOf_30 : decode cX6_rowOf 30 = .ok (.iconst 3, 1) := by decide +kernel
theorem dX6_rowOf_31 : decode cX6_rowOf 31 = .ok (.iand, 1) := by decide +kernel
theorem dX6_rowOf_32 : decode cX6_rowOf 32 = .ok (.iconst 1, 1) := by decide +kernel
theorem dX6_rowOf_33 : decode cX6_rowOf 33 = .ok (.if_icmp .ne 7, 3) := by decide +kernel
theorem dX6_rowOf_36 : decode cX6_rowOf 36 = .ok (.iconst 3, 1) := by decide +kernel
theorem dX6_rowOf_37 : decode cX6_rowOf 37 = .ok (.goto 5, 3) := by decide +kernel
theorem dX6_rowOf_40 : decode cX6_rowOf 40 = .ok (.bipush (-9), 2) := by decide +kernel
theorem dX6_rowOf_42 : decode cX6_rowOf 42 = .ok (.ireturn, 1) := by decide +kernel
theorem dX6_countBetween_0 : decode cX6_countBetween 0 = .ok (.iconst 0, 1) := by decide +kernel
theorem dX6_countBetween_1 : decode cX6_countBetween 1 = .ok (.istore 4, 2) := by decide +kernel
theorem dX6_countBetween_3 : decode cX6_countBetween 3 = .ok (.iconst 0, 1) := by decide +kernel
theorem dX6_countBetween_4 : decode cX6_countBetween 4 = .ok (.istore 5, 2) := by decide +kernel
theorem dX6_countBetween_6 : decode cX6_countBetween 6 = .ok (.iload 5, 2) := by decide +kernel
theorem dX6_countBetween_8 : decode cX6_countBetween 8 = .ok (.aload_n 0, 1) := by decide +kernel
theorem dX6_countBetween_9 : decode cX6_countBetween 9 = .ok (.getfield 7, 3) := by decide +kernel
theorem dX6_countBetween_12 : decode cX6_countBetween 12 = .ok (.sipush 580, 3) := by decide +kernel
theorem dX6_countBetween_15 : decode cX6_countBetween 15 = .ok (.iload_n 1, 1) := by decide +kernel
theorem dX6_countBetween_16 : decode cX6_countBetween 16 = .ok (.iadd, 1) := by decide +kernel
theorem dX6_countBetween_17 : decode cX6_countBetween 17 = .ok (.iaload, 1) := by decide +kernel
theorem dX6_countBetween_18 : decode cX6_countBetween 18 = .ok (.if_icmp .ge 37, 3) := by decide +kernel
theorem dX6_countBetween_21 : decode cX6_countBetween 21 = .ok (.iload 4, 2) := by decide +kernel
theorem dX6_countBetween_23 : decode cX6_countBetween 23 = .ok (.aload_n 0, 1) := by decide +kernel
theorem dX6_countBetween_24 : decode cX6_countBetween 24 = .ok (.aload_n 0, 1) := by decide +kernel
theorem dX6_countBetween_25 : decode cX6_countBetween 25 = .ok (.iload_n 1, 1) := by decide +kernel
theorem dX6_countBetween_26 : decode cX6_countBetween 26 = .ok (.iload 5, 2) := by decide +kernel
theorem dX6_countBetween_28 : decode cX6_countBetween 28 = .ok (.iload_n 2, 1) := by decide +kernel
theorem dX6_countBetween_29 : decode cX6_countBetween 29 = .ok (.iload_n 3, 1) := by decide +kernel
theorem dX6_countBetween_30 : decode cX6_countBetween 30 = .ok (.invokevirtual 178, 3) := by decide +kernel
theorem dX6_countBetween_33 : decode cX6_countBetween 33 = .ok (.invokevirtual 182, 3) := by decide +kernel
theorem dX6_countBetween_36 : decode cX6_countBetween 36 = .ok (.bipush (-9), 2) := by decide +kernel
theorem dX6_countBetween_38 : decode cX6_countBetween 38 = .ok (.if_icmp .eq 7, 3) := by decide +kernel
theorem dX6_countBetween_41 : decode cX6_countBetween 41 = .ok (.iconst 1, 1) := by decide +kernel
theorem dX6_countBetween_42 : decode cX6_countBetween 42 = .ok (.goto 4, 3) := by decide +kernel
theorem dX6_countBetween_45 : decode cX6_countBetween 45 = .ok (.iconst 0, 1) := by decide +kernel
theorem dX6_countBetween_46 : decode cX6_countBetween 46 = .ok (.iadd, 1) := by decide +kernel
theorem dX6_countBetween_47 : decode cX6_countBetween 47 = .ok (.istore 4, 2) := by decide +kernel
theorem dX6_countBetween_49 : decode cX6_countBetween 49 = .ok (.iinc 5 1, 3) := by decide +kernel
theorem dX6_countBetween_52 : decode cX6_countBetween 52 = .ok (.goto (-46), 3) := by decide +kernel
theorem dX6_countBetween_55 : decode cX6_countBetween 55 = .ok (.iload 4, 2) := by decide +kernel
theorem dX6_countBetween_57 : decode cX6_countBetween 57 = .ok (.ireturn, 1) := by decide +kernel
theorem dX6_doChanges_0 : decode cX6_doChanges 0 = .ok (.aload_n 0, 1) := by decide +kernel
theorem dX6_doChanges_1 : decode cX6_doChanges 1 = .ok (.iconst 0, 1) := by decide +kernel
theorem dX6_doChanges_2 : decode cX6_doChanges 2 = .ok (.invokevirtual 146, 3) := by decide +kernel
theorem dX6_doChanges_5 : decode cX6_doChanges 5 = .ok (.istore_n 1, 1) := by decide +kernel
theorem dX6_doChanges_6 : decode cX6_doChanges 6 = .ok (.aload_n 0, 1) := by decide +kernel
theorem dX6_doChanges_7 : decode cX6_doChanges 7 = .ok (.iconst 1, 1) := by decide +kernel
theorem dX6_doChanges_8 : decode cX6_doChanges 8 = .ok (.invokevirtual 146, 3) := by decide +kernel
theorem dX6_doChanges_11 : decode cX6_doChanges 11 = .ok (.istore_n 2, 1) := by decide +kernel
theorem dX6_doChanges_12 : decode cX6_doChanges 12 = .ok (.aload_n 0, 1) := by decide +kernel
theorem dX6_doChanges_13 : decode cX6_doChanges 13 = .ok (.iconst 2, 1) := by decide +kernel
theorem dX6_doChanges_14 : decode cX6_doChanges 14 = .ok (.invokevirtual 146, 3) := by decide +kernel
theorem dX6_doChanges_17 : decode cX6_doChanges 17 = .ok (.istore_n 3, 1) := by decide +kernel
theorem dX6_doChanges_18 : decode cX6_doChanges 18 = .ok (.iload_n 1, 1) := by decide +kernel
theorem dX6_doChanges_19 : decode cX6_doChanges 19 = .ok (.iconst 0, 1) := by decide +kernel
theorem dX6_doChanges_20 : decode cX6_doChanges 20 = .ok (.iconst 2, 1) := by decide +kernel
theorem dX6_doChanges_21 : decode cX6_doChanges 21 = .ok (.invokestatic 99, 3) := by decide +kernel
theorem dX6_doChanges_24 : decode cX6_doChanges 24 = .ok (.ifCond .eq 17, 3) := by decide +kernel
theorem dX6_doChanges_27 : decode cX6_doChanges 27 = .ok (.iload_n 2, 1) := by decide +kernel
theorem dX6_doChanges_28 : decode cX6_doChanges 28 = .ok (.ifCond .lt 13, 3) := by decide +kernel
theorem dX6_doChanges_31 : decode cX6_doChanges 31 = .ok (.iload_n 3, 1) := by decide +kernel
theorem dX6_doChanges_32 : decode cX6_doChanges 32 = .ok (.iconst 1, 1) := by decide +kernel
theorem dX6_doChanges_33 : decode cX6_doChanges 33 = .ok (.bipush 99, 2) := by decide +kernel
theorem dX6_doChanges_35 : decode cX6_doChanges 35 = .ok (.invokestatic 99, 3) := by decide +kernel
theorem dX6_doChanges_38 : decode cX6_doChanges 38 = .ok (.ifCond .ne 6, 3) := by decide +kernel
theorem dX6_doChanges_41 : decode cX6_doChanges 41 = .ok (.bipush (-2), 2) := by decide +kernel
theorem dX6_doChanges_43 : decode cX6_doChanges 43 = .ok (.ireturn, 1) := by decide +kernel
theorem dX6_doChanges_44 : decode cX6_doChanges 44 = .ok (.aload_n 0, 1) := by decide +kernel
theorem dX6_doChanges_45 : decode cX6_doChanges 45 = .ok (.getfield 7, 3) := by decide +kernel
theorem dX6_doChanges_48 : decode cX6_doChanges 48 = .ok (.sipush 583, 3) := by decide +kernel
theorem dX6_doChanges_51 : decode cX6_doChanges 51 = .ok (.iload_n 1, 1) := by decide +kernel
theorem dX6_doChanges_52 : decode cX6_doChanges 52 = .ok (.iadd, 1) := by decide +kernel
theorem dX6_doChanges_53 : decode cX6_doChanges 53 = .ok (.iaload, 1) := by decide +kernel
theorem dX6_doChanges_54 : decode cX6_doChanges 54 = .ok (.istore 4, 2) := by decide +kernel
theorem dX6_doChanges_56 : decode cX6_doChanges 56 = .ok (.iload_n 2, 1) := by decide +kernel
theorem dX6_doChanges_57 : decode cX6_doChanges 57 = .ok (.iload 4, 2) := by decide +kernel
theorem dX6_doChanges_59 : decode cX6_doChanges 59 = .ok (.if_icmp .gt 13, 3) := by decide +kernel
theorem dX6_doChanges_62 : decode cX6_doChanges 62 = .ok (.aload_n 0, 1) := by decide +kernel
theorem dX6_doChanges_63 : decode cX6_doChanges 63 = .ok (.getfield 56, 3) := by decide +kernel
theorem dX6_doChanges_66 : decode cX6_doChanges 66 = .ok (.iload_n 1, 1) := by decide +kernel
theorem dX6_doChanges_67 : decode cX6_doChanges 67 = .ok (.iaload, 1) := by decide +kernel
theorem dX6_doChanges_68 : decode cX6_doChanges 68 = .ok (.iload_n 2, 1) := by decide +kernel
theorem dX6_doChanges_69 : decode cX6_doChanges 69 = .ok (.if_icmp .le 6, 3) := by decide +kernel
theorem dX6_doChanges_72 : decode cX6_doChanges 72 = .ok (.bipush (-6), 2) := by decide +kernel
theorem dX6_doChanges_74 : decode cX6_doChanges 74 = .ok (.ireturn, 1) := by decide +kernel
theorem dX6_doChanges_75 : decode cX6_doChanges 75 = .ok (.iload 4, 2) := by decide +kernel
theorem dX6_doChanges_77 : decode cX6_doChanges 77 = .ok (.istore 5, 2) := by decide +kernel
theorem dX6_doChanges_79 : decode cX6_doChanges 79 = .ok (.iload 5, 2) := by decide +kernel
theorem dX6_doChanges_81 : decode cX6_doChanges 81 = .ok (.iload_n 2, 1) := by decide +kernel
theorem dX6_doChanges_82 : decode cX6_doChanges 82 = .ok (.if_icmp .le 21, 3) := by decide +kernel
theorem dX6_doChanges_85 : decode cX6_doChanges 85 = .ok (.aload_n 0, 1) := by decide +kernel
theorem dX6_doChanges_86 : decode cX6_doChanges 86 = .ok (.iload_n 1, 1) := by decide +kernel
theorem dX6_doChanges_87 : decode cX6_doChanges 87 = .ok (.iload_n 2, 1) := by decide +kernel
theorem dX6_doChanges_88 : decode cX6_doChanges 88 = .ok (.iload 5, 2) := by decide +kernel
theorem dX6_doChanges_90 : decode cX6_doChanges 90 = .ok (.invokevirtual 185, 3) := by decide +kernel
theorem dX6_doChanges_93 : decode cX6_doChanges 93 = .ok (.iload_n 3, 1) := by decide +kernel
theorem dX6_doChanges_94 : decode cX6_doChanges 94 = .ok (.if_icmp .le 9, 3) := by decide +kernel
theorem dX6_doChanges_97 : decode cX6_doChanges 97 = .ok (.iinc 5 (-1), 3) := by decide +kernel
theorem dX6_doChanges_100 : decode cX6_doChanges 100 = .ok (.goto (-21), 3) := by decide +kernel
theorem dX6_doChanges_103 : decode cX6_doChanges 103 = .ok (.iload 5, 2) := by decide +kernel
theorem dX6_doChanges_105 : decode cX6_doChanges 105 = .ok (.iload_n 2, 1) := by decide +kernel
theorem dX6_doChanges_106 : decode cX6_doChanges 106 = .ok (.if_icmp .ne 12, 3) := by decide +kernel
theorem dX6_doChanges_109 : decode cX6_doChanges 109 = .ok (.iload_n 2, 1) := by decide +kernel
theorem dX6_doChanges_110 : decode cX6_doChanges 110 = .ok (.iload 4, 2) := by decide +kernel
theorem dX6_doChanges_112 : decode cX6_doChanges 112 = .ok (.if_icmp .ge 6, 3) := by decide +kernel
theorem dX6_doChanges_115 : decode cX6_doChanges 115 = .ok (.bipush (-6), 2) := by decide +kernel
theorem dX6_doChanges_117 : decode cX6_doChanges 117 = .ok (.ireturn, 1) := by decide +kernel
theorem dX6_doChanges_118 : decode cX6_doChanges 118 = .ok (.aload_n 0, 1) := by decide +kernel
theorem dX6_doChanges_119 : decode cX6_doChanges 119 = .ok (.aload_n 0, 1) := by decide +kernel
theorem dX6_doChanges_120 : decode cX6_doChanges 120 = .ok (.getfield 129, 3) := by decide +kernel
theorem dX6_doChanges_123 : decode cX6_doChanges 123 = .ok (.iconst 0, 1) := by decide +kernel
theorem dX6_doChanges_124 : decode cX6_doChanges 124 = .ok (.iload 5, 2) := by decide +kernel
theorem dX6_doChanges_126 : decode cX6_doChanges 126 = .ok (.invokevirtual 162, 3) := by decide +kernel
theorem dX6_doChanges_129 : decode cX6_doChanges 129 = .ok (.iconst 0, 1) := by decide +kernel
theorem dX6_doChanges_130 : decode cX6_doChanges 130 = .ok (.istore 6, 2) := by decide +kernel
theorem dX6_doChanges_132 : decode cX6_doChanges 132 = .ok (.iload 6, 2) := by decide +kernel
theorem dX6_doChanges_134 : decode cX6_doChanges 134 = .ok (.aload_n 0, 1) := by decide +kernel
theorem dX6_doChanges_135 : decode cX6_doChanges 135 = .ok (.getfield 7, 3) := by decide +kernel
theorem dX6_doChanges_138 : decode cX6_doChanges 138 = .ok (.sipush 580, 3) := by decide +kernel
theorem dX6_doChanges_141 : decode cX6_doChanges 141 = .ok (.iload_n 1, 1) := by decide +kernel
theorem dX6_doChanges_142 : decode cX6_doChanges 142 = .ok (.iadd, 1) := by decide +kernel
theorem dX6_doChanges_143 : decode cX6_doChanges 143 = .ok (.iaload, 1) := by decide +kernel
theorem dX6_doChanges_144 : decode cX6_doChanges 144 = .ok (.if_icmp .ge 44, 3) := by decide +kernel
theorem dX6_doChanges_147 : decode cX6_doChanges 147 = .ok (.aload_n 0, 1) := by decide +kernel
theorem dX6_doChanges_148 : decode cX6_doChanges 148 = .ok (.aload_n 0, 1) := by decide +kernel
theorem dX6_doChanges_149 : decode cX6_doChanges 149 = .ok (.iload_n 1, 1) := by decide +kernel
theorem dX6_doChanges_150 : decode cX6_doChanges 150 = .ok (.iload 6, 2) := by decide +kernel
theorem dX6_doChanges_152 : decode cX6_doChanges 152 = .ok (.iload_n 2, 1) := by decide +kernel
theorem dX6_doChanges_153 : decode cX6_doChanges 153 = .ok (.iload 5, 2) := by decide +kernel
theorem dX6_doChanges_155 : decode cX6_doChanges 155 = .ok (.invokevirtual 178, 3) := by decide +kernel
theorem dX6_doChanges_158 : decode cX6_doChanges 158 = .ok (.invokevirtual 182, 3) := by decide +kernel
theorem dX6_doChanges_161 : decode cX6_doChanges 161 = .ok (.istore 7, 2) := by decide +kernel
theorem dX6_doChanges_163 : decode cX6_doChanges 163 = .ok (.iload 7, 2) := by decide +kernel
theorem dX6_doChanges_165 : decode cX6_doChanges 165 = .ok (.bipush (-9), 2) := by decide +kernel
theorem dX6_doChanges_167 : decode cX6_doChanges 167 = .ok (.if_icmp .eq 15, 3) := by decide +kernel
theorem dX6_doChanges_170 : decode cX6_doChanges 170 = .ok (.aload_n 0, 1) := by decide +kernel
theorem dX6_doChanges_171 : decode cX6_doChanges 171 = .ok (.aload_n 0, 1) := by decide +kernel
theorem dX6_doChanges_172 : decode cX6_doChanges 172 = .ok (.getfield 129, 3) := by decide +kernel
theorem dX6_doChanges_175 : decode cX6_doChanges 175 = .ok (.iload 7, 2) := by decide +kernel
theorem dX6_doChanges_177 : decode cX6_doChanges 177 = .ok (.iload 6, 2) := by decide +kernel
theorem dX6_doChanges_179 : decode cX6_doChanges 179 = .ok (.invokevirtual 162, 3) := by decide +kernel
theorem dX6_doChanges_182 : decode cX6_doChanges 182 = .ok (.iinc 6 1, 3) := by decide +kernel
theorem dX6_doChanges_185 : decode cX6_doChanges 185 = .ok (.goto (-53), 3) := by decide +kernel
theorem dX6_doChanges_188 : decode cX6_doChanges 188 = .ok (.iconst 0, 1) := by decide +kernel
theorem dX6_doChanges_189 : decode cX6_doChanges 189 = .ok (.ireturn, 1) := by decide +kernel
theorem dX6_drafted_0 : decode cX6_drafted 0 = .ok (.aload_n 0, 1) := by decide +kernel
theorem dX6_drafted_1 : decode cX6_drafted 1 = .ok (.getfield 28, 3) := by decide +kernel
theorem dX6_drafted_4 : decode cX6_drafted 4 = .ok (.bipush 10, 2) := by decide +kernel
theorem dX6_drafted_6 : decode cX6_drafted 6 = .ok (.aload_n 0, 1) := by decide +kernel
theorem dX6_drafted_7 : decode cX6_drafted 7 = .ok (.getfield 129, 3) := by decide +kernel
theorem dX6_drafted_10 : decode cX6_drafted 10 = .ok (.imul, 1) := by decide +kernel
theorem dX6_drafted_11 : decode cX6_drafted 11 = .ok (.iload_n 1, 1) := by decide +kernel
theorem dX6_drafted_12 : decode cX6_drafted 12 = .ok (.iadd, 1) := by decide +kernel
theorem dX6_drafted_13 : decode cX6_drafted 13 = .ok (.iaload, 1) := by decide +kernel
theorem dX6_drafted_14 : decode cX6_drafted 14 = .ok (.ireturn, 1) := by decide +kernel
theorem dX6_isDraft_0 : decode cX6_isDraft 0 = .ok (.aload_n 0, 1) := by decide +kernel
theorem dX6_isDraft_1 : decode cX6_isDraft 1 = .ok (.iload_n 1, 1) := by decide +kernel
theorem dX6_isDraft_2 : decode cX6_isDraft 2 = .ok (.invokevirtual 189, 3) := by decide +kernel
theorem dX6_isDraft_5 : decode cX6_isDraft 5 = .ok (.iload_n 2, 1) := by decide +kernel
theorem dX6_isDraft_6 : decode cX6_isDraft 6 = .ok (.iload_n 3, 1) := by decide +kernel
theorem dX6_isDraft_7 : decode cX6_isDraft 7 = .ok (.invokestatic 99, 3) := by decide +kernel
theorem dX6_isDraft_10 : decode cX6_isDraft 10 = .ok (.ireturn, 1) := by decide +kernel
theorem dX6_makeBox_0 : decode cX6_makeBox 0 = .ok (.aload_n 0, 1) := by decide +kernel
theorem dX6_makeBox_1 : decode cX6_makeBox 1 = .ok (.iconst 0, 1) := by decide +kernel
theorem dX6_makeBox_2 : decode cX6_makeBox 2 = .ok (.iconst 0, 1) := by decide +kernel
theorem dX6_makeBox_3 : decode cX6_makeBox 3 = .ok (.bipush 99, 2) := by decide +kernel
theorem dX6_makeBox_5 : decode cX6_makeBox 5 = .ok (.invokevirtual 192, 3) := by decide +kernel
theorem dX6_makeBox_8 : decode cX6_makeBox 8 = .ok (.ifCond .eq 14, 3) := by decide +kernel
theorem dX6_makeBox_11 : decode cX6_makeBox 11 = .ok (.aload_n 0, 1) := by decide +kernel
theorem dX6_makeBox_12 : decode cX6_makeBox 12 = .ok (.iconst 2, 1) := by decide +kernel
theorem dX6_makeBox_13 : decode cX6_makeBox 13 = .ok (.iconst 0, 1) := by decide +kernel
theorem dX6_makeBox_14 : decode cX6_makeBox 14 = .ok (.bipush 9, 2) := by decide +kernel
theorem dX6_makeBox_16 : decode cX6_makeBox 16 = .ok (.invokevirtual 192, 3) := by decide +kernel
theorem dX6_makeBox_19 : decode cX6_makeBox 19 = .ok (.ifCond .ne 6, 3) := by decide +kernel
theorem dX6_makeBox_22 : decode cX6_makeBox 22 = .ok (.bipush (-2), 2) := by decide +kernel
theorem dX6_makeBox_24 : decode cX6_makeBox 24 = .ok (.ireturn, 1) := by decide +kernel
theorem dX6_makeBox_25 : decode cX6_makeBox 25 = .ok (.aload_n 0, 1) := by decide +kernel
theorem dX6_makeBox_26 : decode cX6_makeBox 26 = .ok (.iconst 1, 1) := by decide +kernel
theorem dX6_makeBox_27 : decode cX6_makeBox 27 = .ok (.invokevirtual 189, 3) := by decide +kernel
theorem dX6_makeBox_30 : decode cX6_makeBox 30 = .ok (.sipush 1000, 3) := by decide +kernel
theorem dX6_makeBox_33 : decode cX6_makeBox 33 = .ok (.if_icmp .eq 7, 3) := by decide +kernel
theorem dX6_makeBox_36 : decode cX6_makeBox 36 = .ok (.iconst 1, 1) := by decide +kernel
theorem dX6_makeBox_37 : decode cX6_makeBox 37 = .ok (.goto 4, 3) := by decide +kernel
theorem dX6_makeBox_40 : decode cX6_makeBox 40 = .ok (.iconst 0, 1) := by decide +kernel
theorem dX6_makeBox_41 : decode cX6_makeBox 41 = .ok (.istore_n 1, 1) := by decide +kernel
theorem dX6_makeBox_42 : decode cX6_makeBox 42 = .ok (.iload_n 1, 1) := by decide +kernel
theorem dX6_makeBox_43 : decode cX6_makeBox 43 = .ok (.ifCond .eq 18, 3) := by decide +kernel
theorem dX6_makeBox_46 : decode cX6_makeBox 46 = .ok (.aload_n 0, 1) := by decide +kernel
theorem dX6_makeBox_47 : decode cX6_makeBox 47 = .ok (.aload_n 0, 1) := by decide +kernel
theorem dX6_makeBox_48 : decode cX6_makeBox 48 = .ok (.iconst 1, 1) := by decide +kernel
theorem dX6_makeBox_49 : decode cX6_makeBox 49 = .ok (.invokevirtual 189, 3) := by decide +kernel
theorem dX6_makeBox_52 : decode cX6_makeBox 52 = .ok (.invokevirtual 136, 3) := by decide +kernel
theorem dX6_makeBox_55 : decode cX6_makeBox 55 = .ok (.ifCond .ne 6, 3) := by decide +kernel
theorem dX6_makeBox_58 : decode cX6_makeBox 58 = .ok (.bipush (-5), 2) := by decide +kernel
theorem dX6_makeBox_60 : decode cX6_makeBox 60 = .ok (.ireturn, 1) := by decide +kernel
theorem dX6_makeBox_61 : decode cX6_makeBox 61 = .ok (.iload_n 1, 1) := by decide +kernel
theorem dX6_makeBox_62 : decode cX6_makeBox 62 = .ok (.ifCond .eq 15, 3) := by decide +kernel
theorem dX6_makeBox_65 : decode cX6_makeBox 65 = .ok (.aload_n 0, 1) := by decide +kernel
theorem dX6_makeBox_66 : decode cX6_makeBox 66 = .ok (.aload_n 0, 1) := by decide +kernel
theorem dX6_makeBox_67 : decode cX6_makeBox 67 = .ok (.iconst 1, 1) := by decide +kernel
theorem dX6_makeBox_68 : decode cX6_makeBox 68 = .ok (.invokevirtual 189, 3) := by decide +kernel
theorem dX6_makeBox_71 : decode cX6_makeBox 71 = .ok (.invokevirtual 139, 3) := by decide +kernel
theorem dX6_makeBox_74 : decode cX6_makeBox 74 = .ok (.goto 5, 3) := by decide +kernel
theorem dX6_makeBox_77 : decode cX6_makeBox 77 = .ok (.bipush (-9), 2) := by decide +kernel
theorem dX6_makeBox_79 : decode cX6_makeBox 79 = .ok (.istore_n 2, 1) := by decide +kernel
theorem dX6_makeBox_80 : decode cX6_makeBox 80 = .ok (.iload_n 1, 1) := by decide +kernel
theorem dX6_makeBox_81 : decode cX6_makeBox 81 = .ok (.ifCond .eq 17, 3) := by decide +kernel
theorem dX6_makeBox_84 : decode cX6_makeBox 84 = .ok (.aload_n 0, 1) := by decide +kernel
theorem dX6_makeBox_85 : decode cX6_makeBox 85 = .ok (.aload_n 0, 1) := by decide +kernel
theorem dX6_makeBox_86 : decode cX6_makeBox 86 = .ok (.getfield 7, 3) := by decide +kernel
theorem dX6_makeBox_89 : decode cX6_makeBox 89 = .ok (.iload_n 2, 1) := by decide +kernel
theorem dX6_makeBox_90 : decode cX6_makeBox 90 = .ok (.invokevirtual 89, 3) := by decide +kernel
theorem dX6_makeBox_93 : decode cX6_makeBox 93 = .ok (.ifCond .ne 5, 3) := by decide +kernel
theorem dX6_makeBox_96 : decode cX6_makeBox 96 = .ok (.iconst (-1), 1) := by decide +kernel
theorem dX6_makeBox_97 : decode cX6_makeBox 97 = .ok (.ireturn, 1) := by decide +kernel
theorem dX6_makeBox_98 : decode cX6_makeBox 98 = .ok (.iload_n 1, 1) := by decide +kernel
theorem dX6_makeBox_99 : decode cX6_makeBox 99 = .ok (.ifCond .eq 16, 3) := by decide +kernel
theorem dX6_makeBox_102 : decode cX6_makeBox 102 = .ok (.aload_n 0, 1) := by decide +kernel
theorem dX6_makeBox_103 : decode cX6_makeBox 103 = .ok (.aload_n 0, 1) := by decide +kernel
theorem dX6_makeBox_104 : decode cX6_makeBox 104 = .ok (.getfield 7, 3) := by decide +kernel
theorem dX6_makeBox_107 : decode cX6_makeBox 107 = .ok (.iload_n 2, 1) := by decide +kernel
theorem dX6_makeBox_108 : decode cX6_makeBox 108 = .ok (.invokevirtual 195, 3) := by decide +kernel
theorem dX6_makeBox_111 : decode cX6_makeBox 111 = .ok (.iconst 4, 1) := by decide +kernel
theorem dX6_makeBox_112 : decode cX6_makeBox 112 = .ok (.if_icmp .eq 22, 3) := by decide +kernel
theorem dX6_makeBox_115 : decode cX6_makeBox 115 = .ok (.aload_n 0, 1) := by decide +kernel
theorem dX6_makeBox_116 : decode cX6_makeBox 116 = .ok (.aload_n 0, 1) := by decide +kernel
theorem dX6_makeBox_117 : decode cX6_makeBox 117 = .ok (.getfield 7, 3) := by decide +kernel
theorem dX6_makeBox_120 : decode cX6_makeBox 120 = .ok (.bipush (-9), 2) := by decide +kernel
theorem dX6_makeBox_122 : decode cX6_makeBox 122 = .ok (.iload_n 2, 1) := by decide +kernel
theorem dX6_makeBox_123 : decode cX6_makeBox 123 = .ok (.aload_n 0, 1) := by decide +kernel
theorem dX6_makeBox_124 : decode cX6_makeBox 124 = .ok (.iconst 0, 1) := by decide +kernel
theorem dX6_makeBox_125 : decode cX6_makeBox 125 = .ok (.invokevirtual 189, 3) := by decide +kernel
theorem dX6_makeBox_128 : decode cX6_makeBox 128 = .ok (.invokevirtual 198, 3) := by decide +kernel
theorem dX6_makeBox_131 : decode cX6_makeBox 131 = .ok (.ifCond .eq 6, 3) := by decide +kernel
theorem dX6_makeBox_134 : decode cX6_makeBox 134 = .ok (.bipush (-3), 2) := by decide +kernel
theorem dX6_makeBox_136 : decode cX6_makeBox 136 = .ok (.ireturn, 1) := by decide +kernel
theorem dX6_makeBox_137 : decode cX6_makeBox 137 = .ok (.aload_n 0, 1) := by decide +kernel
theorem dX6_makeBox_138 : decode cX6_makeBox 138 = .ok (.getfield 7, 3) := by decide +kernel
theorem dX6_makeBox_141 : decode cX6_makeBox 141 = .ok (.sipush 580, 3) := by decide +kernel
theorem dX6_makeBox_144 : decode cX6_makeBox 144 = .ok (.iaload, 1) := by decide +kernel
theorem dX6_makeBox_145 : decode cX6_makeBox 145 = .ok (.bipush 20, 2) := by decide +kernel
theorem dX6_makeBox_147 : decode cX6_makeBox 147 = .ok (.if_icmp .ne 6, 3) := by decide +kernel
theorem dX6_makeBox_150 : decode cX6_makeBox 150 = .ok (.bipush (-4), 2) := by decide +kernel
theorem dX6_makeBox_152 : decode cX6_makeBox 152 = .ok (.ireturn, 1) := by decide +kernel
theorem dX6_makeBox_153 : decode cX6_makeBox 153 = .ok (.aload_n 0, 1) := by decide +kernel
theorem dX6_makeBox_154 : decode cX6_makeBox 154 = .ok (.getfield 7, 3) := by decide +kernel
theorem dX6_makeBox_157 : decode cX6_makeBox 157 = .ok (.sipush 580, 3) := by decide +kernel
theorem dX6_makeBox_160 : decode cX6_makeBox 160 = .ok (.iaload, 1) := by decide +kernel
theorem dX6_makeBox_161 : decode cX6_makeBox 161 = .ok (.istore_n 3, 1) := by decide +kernel
theorem dX6_makeBox_162 : decode cX6_makeBox 162 = .ok (.aload_n 0, 1) := by decide +kernel
theorem dX6_makeBox_163 : decode cX6_makeBox 163 = .ok (.getfield 7, 3) := by decide +kernel
theorem dX6_makeBox_166 : decode cX6_makeBox 166 = .ok (.sipush 580, 3) := by decide +kernel
theorem dX6_makeBox_169 : decode cX6_makeBox 169 = .ok (.dup2, 1) := by decide +kernel
theorem dX6_makeBox_170 : decode cX6_makeBox 170 = .ok (.iaload, 1) := by decide +kernel
theorem dX6_makeBox_171 : decode cX6_makeBox 171 = .ok (.iconst 1, 1) := by decide +kernel
theorem dX6_makeBox_172 : decode cX6_makeBox 172 = .ok (.iadd, 1) := by decide +kernel
theorem dX6_makeBox_173 : decode cX6_makeBox 173 = .ok (.iastore, 1) := by decide +kernel
theorem dX6_makeBox_174 : decode cX6_makeBox 174 = .ok (.aload_n 0, 1) := by decide +kernel
theorem dX6_makeBox_175 : decode cX6_makeBox 175 = .ok (.getfield 7, 3) := by decide +kernel
theorem dX6_makeBox_178 : decode cX6_makeBox 178 = .ok (.iconst 4, 1) := by decide +kernel
theorem dX6_makeBox_179 : decode cX6_makeBox 179 = .ok (.iload_n 3, 1) := by decide +kernel
theorem dX6_makeBox_180 : decode cX6_makeBox 180 = .ok (.imul, 1) := by decide +kernel
theorem dX6_makeBox_181 : decode cX6_makeBox 181 = .ok (.iconst 1, 1) := by decide +kernel
theorem dX6_makeBox_182 : decode cX6_makeBox 182 = .ok (.iastore, 1) := by decide +kernel
theorem dX6_makeBox_183 : decode cX6_makeBox 183 = .ok (.aload_n 0, 1) := by decide +kernel
theorem dX6_makeBox_184 : decode cX6_makeBox 184 = .ok (.getfield 7, 3) := by decide +kernel
theorem dX6_makeBox_187 : decode cX6_makeBox 187 = .ok (.iconst 4, 1) := by decide +kernel
theorem dX6_makeBox_188 : decode cX6_makeBox 188 = .ok (.iload_n 3, 1) := by decide +kernel
theorem dX6_makeBox_189 : decode cX6_makeBox 189 = .ok (.imul, 1) := by decide +kernel
theorem dX6_makeBox_190 : decode cX6_makeBox 190 = .ok (.iconst 1, 1) := by decide +kernel
theorem dX6_makeBox_191 : decode cX6_makeBox 191 = .ok (.iadd, 1) := by decide +kernel
theorem dX6_makeBox_192 : decode cX6_makeBox 192 = .ok (.aload_n 0, 1) := by decide +kernel
theorem dX6_makeBox_193 : decode cX6_makeBox 193 = .ok (.iconst 0, 1) := by decide +kernel
theorem dX6_makeBox_194 : decode cX6_makeBox 194 = .ok (.invokevirtual 189, 3) := by decide +kernel
theorem dX6_makeBox_197 : decode cX6_makeBox 197 = .ok (.iastore, 1) := by decide +kernel
theorem dX6_makeBox_198 : decode cX6_makeBox 198 = .ok (.aload_n 0, 1) := by decide +kernel
theorem dX6_makeBox_199 : decode cX6_makeBox 199 = .ok (.getfield 7, 3) := by decide +kernel
theorem dX6_makeBox_202 : decode cX6_makeBox 202 = .ok (.iconst 4, 1) := by decide +kernel
theorem dX6_makeBox_203 : decode cX6_makeBox 203 = .ok (.iload_n 3, 1) := by decide +kernel
theorem dX6_makeBox_204 : decode cX6_makeBox 204 = .ok (.imul, 1) := by decide +kernel
theorem dX6_makeBox_205 : decode cX6_makeBox 205 = .ok (.iconst 2, 1) := by decide +kernel
theorem dX6_makeBox_206 : decode cX6_makeBox 206 = .ok (.iadd, 1) := by decide +kernel
theorem dX6_makeBox_207 : decode cX6_makeBox 207 = .ok (.iload_n 2, 1) := by decide +kernel
theorem dX6_makeBox_208 : decode cX6_makeBox 208 = .ok (.iastore, 1) := by decide +kernel
theorem dX6_makeBox_209 : decode cX6_makeBox 209 = .ok (.aload_n 0, 1) := by decide +kernel
theorem dX6_makeBox_210 : decode cX6_makeBox 210 = .ok (.getfield 7, 3) := by decide +kernel
theorem dX6_makeBox_213 : decode cX6_makeBox 213 = .ok (.iconst 4, 1) := by decide +kernel
theorem dX6_makeBox_214 : decode cX6_makeBox 214 = .ok (.iload_n 3, 1) := by decide +kernel
theorem dX6_makeBox_215 : decode cX6_makeBox 215 = .ok (.imul, 1) := by decide +kernel
theorem dX6_makeBox_216 : decode cX6_makeBox 216 = .ok (.iconst 3, 1) := by decide +kernel
theorem dX6_makeBox_217 : decode cX6_makeBox 217 = .ok (.iadd, 1) := by decide +kernel
theorem dX6_makeBox_218 : decode cX6_makeBox 218 = .ok (.aload_n 0, 1) := by decide +kernel
theorem dX6_makeBox_219 : decode cX6_makeBox 219 = .ok (.iconst 2, 1) := by decide +kernel
theorem dX6_makeBox_220 : decode cX6_makeBox 220 = .ok (.invokevirtual 189, 3) := by decide +kernel
theorem dX6_makeBox_223 : decode cX6_makeBox 223 = .ok (.iastore, 1) := by decide +kernel
theorem dX6_makeBox_224 : decode cX6_makeBox 224 = .ok (.aload_n 0, 1) := by decide +kernel
theorem dX6_makeBox_225 : decode cX6_makeBox 225 = .ok (.aload_n 0, 1) := by decide +kernel
theorem dX6_makeBox_226 : decode cX6_makeBox 226 = .ok (.getfield 129, 3) := by decide +kernel
theorem dX6_makeBox_229 : decode cX6_makeBox 229 = .ok (.iconst 1, 1) := by decide +kernel
theorem dX6_makeBox_230 : decode cX6_makeBox 230 = .ok (.iload_n 3, 1) := by decide +kernel
theorem dX6_makeBox_231 : decode cX6_makeBox 231 = .ok (.invokevirtual 162, 3) := by decide +kernel
theorem dX6_makeBox_234 : decode cX6_makeBox 234 = .ok (.iconst 0, 1) := by decide +kernel
theorem dX6_makeBox_235 : decode cX6_makeBox 235 = .ok (.ireturn, 1) := by decide +kernel
theorem dX6_hasNumber_0 : decode cX6_hasNumber 0 = .ok (.aload_n 0, 1) := by decide +kernel
theorem dX6_hasNumber_1 : decode cX6_hasNumber 1 = .ok (.aload_n 0, 1) := by decide +kernel
theorem dX6_hasNumber_2 : decode cX6_hasNumber 2 = .ok (.getfield 7, 3) := by decide +kernel
theorem dX6_hasNumber_5 : decode cX6_hasNumber 5 = .ok (.iload_n 1, 1) := by decide +kernel
theorem dX6_hasNumber_6 : decode cX6_hasNumber 6 = .ok (.iconst 2, 1) := by decide +kernel
theorem dX6_hasNumber_7 : decode cX6_hasNumber 7 = .ok (.invokevirtual 85, 3) := by decide +kernel
theorem dX6_hasNumber_10 : decode cX6_hasNumber 10 = .ok (.iload_n 2, 1) := by decide +kernel
theorem dX6_hasNumber_11 : decode cX6_hasNumber 11 = .ok (.if_icmp .eq 31, 3) := by decide +kernel
theorem dX6_hasNumber_14 : decode cX6_hasNumber 14 = .ok (.aload_n 0, 1) := by decide +kernel
theorem dX6_hasNumber_15 : decode cX6_hasNumber 15 = .ok (.aload_n 0, 1) := by decide +kernel
theorem dX6_hasNumber_16 : decode cX6_hasNumber 16 = .ok (.getfield 7, 3) := by decide +kernel
theorem dX6_hasNumber_19 : decode cX6_hasNumber 19 = .ok (.iload_n 1, 1) := by decide +kernel
theorem dX6_hasNumber_20 : decode cX6_hasNumber 20 = .ok (.iconst 3, 1) := by decide +kernel
theorem dX6_hasNumber_21 : decode cX6_hasNumber 21 = .ok (.invokevirtual 85, 3) := by decide +kernel
theorem dX6_hasNumber_24 : decode cX6_hasNumber 24 = .ok (.iload_n 2, 1) := by decide +kernel
theorem dX6_hasNumber_25 : decode cX6_hasNumber 25 = .ok (.if_icmp .eq 17, 3) := by decide +kernel
theorem dX6_hasNumber_28 : decode cX6_hasNumber 28 = .ok (.aload_n 0, 1) := by decide +kernel
theorem dX6_hasNumber_29 : decode cX6_hasNumber 29 = .ok (.aload_n 0, 1) := by decide +kernel
theorem dX6_hasNumber_30 : decode cX6_hasNumber 30 = .ok (.getfield 7, 3) := by decide +kernel
theorem dX6_hasNumber_33 : decode cX6_hasNumber 33 = .ok (.iload_n 1, 1) := by decide +kernel
theorem dX6_hasNumber_34 : decode cX6_hasNumber 34 = .ok (.iconst 4, 1) := by decide +kernel
theorem dX6_hasNumber_35 : decode cX6_hasNumber 35 = .ok (.invokevirtual 85, 3) := by decide +kernel
theorem dX6_hasNumber_38 : decode cX6_hasNumber 38 = .ok (.iload_n 2, 1) := by decide +kernel
theorem dX6_hasNumber_39 : decode cX6_hasNumber 39 = .ok (.if_icmp .ne 7, 3) := by decide +kernel
theorem dX6_hasNumber_42 : decode cX6_hasNumber 42 = .ok (.iconst 1, 1) := by decide +kernel
theorem dX6_hasNumber_43 : decode cX6_hasNumber 43 = .ok (.goto 4, 3) := by decide +kernel
theorem dX6_hasNumber_46 : decode cX6_hasNumber 46 = .ok (.iconst 0, 1) := by decide +kernel
theorem dX6_hasNumber_47 : decode cX6_hasNumber 47 = .ok (.ireturn, 1) := by decide +kernel
theorem dX6_gathers_0 : decode cX6_gathers 0 = .ok (.aload_n 0, 1) := by decide +kernel
theorem dX6_gathers_1 : decode cX6_gathers 1 = .ok (.aload_n 0, 1) := by decide +kernel
theorem dX6_gathers_2 : decode cX6_gathers 2 = .ok (.getfield 7, 3) := by decide +kernel
theorem dX6_gathers_5 : decode cX6_gathers 5 = .ok (.iload_n 1, 1) := by decide +kernel
theorem dX6_gathers_6 : decode cX6_gathers 6 = .ok (.iconst 1, 1) := by decide +kernel
theorem dX6_gathers_7 : decode cX6_gathers 7 = .ok (.invokevirtual 85, 3) := by decide +kernel
theorem dX6_gathers_10 : decode cX6_gathers 10 = .ok (.aload_n 0, 1) := by decide +kernel
theorem dX6_gathers_11 : decode cX6_gathers 11 = .ok (.iconst 3, 1) := by decide +kernel
theorem dX6_gathers_12 : decode cX6_gathers 12 = .ok (.invokevirtual 189, 3) := by decide +kernel
theorem dX6_gathers_15 : decode cX6_gathers 15 = .ok (.if_icmp .eq 5, 3) := by decide +kernel
theorem dX6_gathers_18 : decode cX6_gathers 18 = .ok (.iconst 0, 1) := by decide +kernel
theorem dX6_gathers_19 : decode cX6_gathers 19 = .ok (.ireturn, 1) := by decide +kernel
theorem dX6_gathers_20 : decode cX6_gathers 20 = .ok (.aload_n 0, 1) := by decide +kernel
theorem dX6_gathers_21 : decode cX6_gathers 21 = .ok (.iload_n 1, 1) := by decide +kernel
theorem dX6_gathers_22 : decode cX6_gathers 22 = .ok (.aload_n 0, 1) := by decide +kernel
theorem dX6_gathers_23 : decode cX6_gathers 23 = .ok (.iconst 4, 1) := by decide +kernel
theorem dX6_gathers_24 : decode cX6_gathers 24 = .ok (.invokevirtual 189, 3) := by decide +kernel
theorem dX6_gathers_27 : decode cX6_gathers 27 = .ok (.invokevirtual 202, 3) := by decide +kernel
theorem dX6_gathers_30 : decode cX6_gathers 30 = .ok (.istore_n 2, 1) := by decide +kernel
theorem dX6_gathers_31 : decode cX6_gathers 31 = .ok (.iload_n 2, 1) := by decide +kernel
theorem dX6_gathers_32 : decode cX6_gathers 32 = .ok (.aload_n 0, 1) := by decide +kernel
theorem dX6_gathers_33 : decode cX6_gathers 33 = .ok (.iconst 5, 1) := by decide +kernel
theorem dX6_gathers_34 : decode cX6_gathers 34 = .ok (.invokevirtual 189, 3) := by decide +kernel
theorem dX6_gathers_37 : decode cX6_gathers 37 = .ok (.sipush 1000, 3) := by decide +kernel
theorem dX6_gathers_40 : decode cX6_gathers 40 = .ok (.if_icmp .eq 20, 3) := by decide +kernel
theorem dX6_gathers_43 : decode cX6_gathers 43 = .ok (.aload_n 0, 1) := by decide +kernel
theorem dX6_gathers_44 : decode cX6_gathers 44 = .ok (.iload_n 1, 1) := by decide +kernel
theorem dX6_gathers_45 : decode cX6_gathers 45 = .ok (.aload_n 0, 1) := by decide +kernel
theorem dX6_gathers_46 : decode cX6_gathers 46 = .ok (.iconst 5, 1) := by decide +kernel
theorem dX6_gathers_47 : decode cX6_gathers 47 = .ok (.invokevirtual 189, 3) := by decide +kernel
theorem dX6_gathers_50 : decode cX6_gathers 50 = .ok (.invokevirtual 202, 3) := by decide +kernel
theorem dX6_gathers_53 : decode cX6_gathers 53 = .ok (.ifCond .eq 7, 3) := by decide +kernel
theorem dX6_gathers_56 : decode cX6_gathers 56 = .ok (.iconst 1, 1) := by decide +kernel
theorem dX6_gathers_57 : decode cX6_gathers 57 = .ok (.goto 4, 3) := by decide +kernel
theorem dX6_gathers_60 : decode cX6_gathers 60 = .ok (.iconst 0, 1) := by decide +kernel
theorem dX6_gathers_61 : decode cX6_gathers 61 = .ok (.ior, 1) := by decide +kernel
theorem dX6_gathers_62 : decode cX6_gathers 62 = .ok (.istore_n 2, 1) := by decide +kernel
theorem dX6_gathers_63 : decode cX6_gathers 63 = .ok (.iload_n 2, 1) := by decide +kernel
theorem dX6_gathers_64 : decode cX6_gathers 64 = .ok (.aload_n 0, 1) := by decide +kernel
theorem dX6_gathers_65 : decode cX6_gathers 65 = .ok (.bipush 6, 2) := by decide +kernel
theorem dX6_gathers_67 : decode cX6_gathers 67 = .ok (.invokevirtual 189, 3) := by decide +kernel
theorem dX6_gathers_70 : decode cX6_gathers 70 = .ok (.sipush 1000, 3) := by decide +kernel
theorem dX6_gathers_73 : decode cX6_gathers 73 = .ok (.if_icmp .eq 21, 3) := by decide +kernel
theorem dX6_gathers_76 : decode cX6_gathers 76 = .ok (.aload_n 0, 1) := by decide +kernel
theorem dX6_gathers_77 : decode cX6_gathers 77 = .ok (.iload_n 1, 1) := by decide +kernel
theorem dX6_gathers_78 : decode cX6_gathers 78 = .ok (.aload_n 0, 1) := by decide +kernel
theorem dX6_gathers_79 : decode cX6_gathers 79 = .ok (.bipush 6, 2) := by decide +kernel
theorem dX6_gathers_81 : decode cX6_gathers 81 = .ok (.invokevirtual 189, 3) := by decide +kernel
theorem dX6_gathers_84 : decode cX6_gathers 84 = .ok (.invokevirtual 202, 3) := by decide +kernel
theorem dX6_gathers_87 : decode cX6_gathers 87 = .ok (.ifCond .eq 7, 3) := by decide +kernel
theorem dX6_gathers_90 : decode cX6_gathers 90 = .ok (.iconst 1, 1) := by decide +kernel
theorem dX6_gathers_91 : decode cX6_gathers 91 = .ok (.goto 4, 3) := by decide +kernel
theorem dX6_gathers_94 : decode cX6_gathers 94 = .ok (.iconst 0, 1) := by decide +kernel
theorem dX6_gathers_95 : decode cX6_gathers 95 = .ok (.ior, 1) := by decide +kernel
theorem dX6_gathers_96 : decode cX6_gathers 96 = .ok (.istore_n 2, 1) := by decide +kernel
theorem dX6_gathers_97 : decode cX6_gathers 97 = .ok (.iload_n 2, 1) := by decide +kernel
theorem dX6_gathers_98 : decode cX6_gathers 98 = .ok (.ireturn, 1) := by decide +kernel
theorem dX6_isName_0 : decode cX6_isName 0 = .ok (.iload_n 0, 1) := by decide +kernel
theorem dX6_isName_1 : decode cX6_isName 1 = .ok (.iconst 0, 1) := by decide +kernel
theorem dX6_isName_2 : decode cX6_isName 2 = .ok (.sipush 999, 3) := by decide +kernel
theorem dX6_isName_5 : decode cX6_isName 5 = .ok (.invokestatic 99, 3) := by decide +kernel
theorem dX6_isName_8 : decode cX6_isName 8 = .ok (.ifCond .ne 10, 3) := by decide +kernel
theorem dX6_isName_11 : decode cX6_isName 11 = .ok (.iload_n 0, 1) := by decide +kernel
theorem dX6_isName_12 : decode cX6_isName 12 = .ok (.sipush 1000, 3) := by decide +kernel
theorem dX6_isName_15 : decode cX6_isName 15 = .ok (.if_icmp .ne 7, 3) := by decide +kernel
theorem dX6_isName_18 : decode cX6_isName 18 = .ok (.iconst 1, 1) := by decide +kernel
theorem dX6_isName_19 : decode cX6_isName 19 = .ok (.goto 4, 3) := by decide +kernel
theorem dX6_isName_22 : decode cX6_isName 22 = .ok (.iconst 0, 1) := by decide +kernel
theorem dX6_isName_23 : decode cX6_isName 23 = .ok (.ireturn, 1) := by decide +kernel
theorem dX6_makeMail_0 : decode cX6_makeMail 0 = .ok (.aload_n 0, 1) := by decide +kernel
theorem dX6_makeMail_1 : decode cX6_makeMail 1 = .ok (.iconst 3, 1) := by decide +kernel
theorem dX6_makeMail_2 : decode cX6_makeMail 2 = .ok (.iconst 0, 1) := by decide +kernel
theorem dX6_makeMail_3 : decode cX6_makeMail 3 = .ok (.bipush 99, 2) := by decide +kernel
theorem dX6_makeMail_5 : decode cX6_makeMail 5 = .ok (.invokevirtual 192, 3) := by decide +kernel
theorem dX6_makeMail_8 : decode cX6_makeMail 8 = .ok (.ifCond .eq 80, 3) := by decide +kernel
theorem dX6_makeMail_11 : decode cX6_makeMail 11 = .ok (.aload_n 0, 1) := by decide +kernel
theorem dX6_makeMail_12 : decode cX6_makeMail 12 = .ok (.iconst 4, 1) := by decide +kernel
theorem dX6_makeMail_13 : decode cX6_makeMail 13 = .ok (.iconst 0, 1) := by decide +kernel
theorem dX6_makeMail_14 : decode cX6_makeMail 14 = .ok (.sipush 999, 3) := by decide +kernel
theorem dX6_makeMail_17 : decode cX6_makeMail 17 = .ok (.invokevirtual 192, 3) := by decide +kernel
theorem dX6_makeMail_20 : decode cX6_makeMail 20 = .ok (.ifCond .eq 68, 3) := by decide +kernel
theorem dX6_makeMail_23 : decode cX6_makeMail 23 = .ok (.aload_n 0, 1) := by decide +kernel
theorem dX6_makeMail_24 : decode cX6_makeMail 24 = .ok (.iconst 5, 1) := by decide +kernel
theorem dX6_makeMail_25 : decode cX6_makeMail 25 = .ok (.invokevirtual 189, 3) := by decide +kernel
theorem dX6_makeMail_28 : decode cX6_makeMail 28 = .ok (.invokestatic 205, 3) := by decide +kernel
theorem dX6_makeMail_31 : decode cX6_makeMail 31 = .ok (.ifCond .eq 57, 3) := by decide +kernel
theorem dX6_makeMail_34 : decode cX6_makeMail 34 = .ok (.aload_n 0, 1) := by decide +kernel
theorem dX6_makeMail_35 : decode cX6_makeMail 35 = .ok (.bipush 6, 2) := by decide +kernel
theorem dX6_makeMail_37 : decode cX6_makeMail 37 = .ok (.invokevirtual 189, 3) := by decide +kernel
theorem dX6_makeMail_40 : decode cX6_makeMail 40 = .ok (.invokestatic 205, 3) := by decide +kernel
theorem dX6_makeMail_43 : decode cX6_makeMail 43 = .ok (.ifCond .eq 45, 3) := by decide +kernel
theorem dX6_makeMail_46 : decode cX6_makeMail 46 = .ok (.aload_n 0, 1) := by decide +kernel
theorem dX6_makeMail_47 : decode cX6_makeMail 47 = .ok (.bipush 7, 2) := by decide +kernel
theorem dX6_makeMail_49 : decode cX6_makeMail 49 = .ok (.iconst 0, 1) := by decide +kernel
theorem dX6_makeMail_50 : decode cX6_makeMail 50 = .ok (.sipush 9999, 3) := by decide +kernel
theorem dX6_makeMail_53 : decode cX6_makeMail 53 = .ok (.invokevirtual 192, 3) := by decide +kernel
theorem dX6_makeMail_56 : decode cX6_makeMail 56 = .ok (.ifCond .eq 32, 3) := by decide +kernel
theorem dX6_makeMail_59 : decode cX6_makeMail 59 = .ok (.aload_n 0, 1) := by decide +kernel
theorem dX6_makeMail_60 : decode cX6_makeMail 60 = .ok (.bipush 8, 2) := by decide +kernel
theorem dX6_makeMail_62 : decode cX6_makeMail 62 = .ok (.iconst 0, 1) := by decide +kernel
theorem dX6_makeMail_63 : decode cX6_makeMail 63 = .ok (.sipush 9999, 3) := by decide +kernel
theorem dX6_makeMail_66 : decode cX6_makeMail 66 = .ok (.invokevirtual 192, 3) := by decide +kernel
theorem dX6_makeMail_69 : decode cX6_makeMail 69 = .ok (.ifCond .eq 19, 3) := by decide +kernel
theorem dX6_makeMail_72 : decode cX6_makeMail 72 = .ok (.aload_n 0, 1) := by decide +kernel
theorem dX6_makeMail_73 : decode cX6_makeMail 73 = .ok (.bipush 9, 2) := by decide +kernel
theorem dX6_makeMail_75 : decode cX6_makeMail 75 = .ok (.iconst 0, 1) := by decide +kernel
theorem dX6_makeMail_76 : decode cX6_makeMail 76 = .ok (.bipush 15, 2) := by decide +kernel
theorem dX6_makeMail_78 : decode cX6_makeMail 78 = .ok (.invokevirtual 192, 3) := by decide +kernel
theorem dX6_makeMail_81 : decode cX6_makeMail 81 = .ok (.ifCond .eq 7, 3) := by decide +kernel
theorem dX6_makeMail_84 : decode cX6_makeMail 84 = .ok (.iconst 1, 1) := by decide +kernel
theorem dX6_makeMail_85 : decode cX6_makeMail 85 = .ok (.goto 4, 3) := by decide +kernel
theorem dX6_makeMail_88 : decode cX6_makeMail 88 = .ok (.iconst 0, 1) := by decide +kernel
theorem dX6_makeMail_89 : decode cX6_makeMail 89 = .ok (.istore_n 1, 1) := by decide +kernel
theorem dX6_makeMail_90 : decode cX6_makeMail 90 = .ok (.iload_n 1, 1) := by decide +kernel
theorem dX6_makeMail_91 : decode cX6_makeMail 91 = .ok (.ifCond .ne 6, 3) := by decide +kernel
theorem dX6_makeMail_94 : decode cX6_makeMail 94 = .ok (.bipush (-2), 2) := by decide +kernel
theorem dX6_makeMail_96 : decode cX6_makeMail 96 = .ok (.ireturn, 1) := by decide +kernel
theorem dX6_makeMail_97 : decode cX6_makeMail 97 = .ok (.aload_n 0, 1) := by decide +kernel
theorem dX6_makeMail_98 : decode cX6_makeMail 98 = .ok (.aload_n 0, 1) := by decide +kernel
theorem dX6_makeMail_99 : decode cX6_makeMail 99 = .ok (.iconst 1, 1) := by decide +kernel
theorem dX6_makeMail_100 : decode cX6_makeMail 100 = .ok (.invokevirtual 146, 3) := by decide +kernel
theorem dX6_makeMail_103 : decode cX6_makeMail 103 = .ok (.invokevirtual 136, 3) := by decide +kernel
theorem dX6_makeMail_106 : decode cX6_makeMail 106 = .ok (.ifCond .ne 6, 3) := by decide +kernel
theorem dX6_makeMail_109 : decode cX6_makeMail 109 = .ok (.bipush (-5), 2) := by decide +kernel
theorem dX6_makeMail_111 : decode cX6_makeMail 111 = .ok (.ireturn, 1) := by decide +kernel
theorem dX6_makeMail_112 : decode cX6_makeMail 112 = .ok (.aload_n 0, 1) := by decide +kernel
theorem dX6_makeMail_113 : decode cX6_makeMail 113 = .ok (.aload_n 0, 1) := by decide +kernel
theorem dX6_makeMail_114 : decode cX6_makeMail 114 = .ok (.iconst 1, 1) := by decide +kernel
theorem dX6_makeMail_115 : decode cX6_makeMail 115 = .ok (.invokevirtual 146, 3) := by decide +kernel
theorem dX6_makeMail_118 : decode cX6_makeMail 118 = .ok (.invokevirtual 139, 3) := by decide +kernel
theorem dX6_makeMail_121 : decode cX6_makeMail 121 = .ok (.istore_n 2, 1) := by decide +kernel
theorem dX6_makeMail_122 : decode cX6_makeMail 122 = .ok (.aload_n 0, 1) := by decide +kernel
theorem dX6_makeMail_123 : decode cX6_makeMail 123 = .ok (.aload_n 0, 1) := by decide +kernel
theorem dX6_makeMail_124 : decode cX6_makeMail 124 = .ok (.getfield 7, 3) := by decide +kernel
theorem dX6_makeMail_127 : decode cX6_makeMail 127 = .ok (.iload_n 2, 1) := by decide +kernel
theorem dX6_makeMail_128 : decode cX6_makeMail 128 = .ok (.invokevirtual 89, 3) := by decide +kernel
theorem dX6_makeMail_131 : decode cX6_makeMail 131 = .ok (.ifCond .ne 5, 3) := by decide +kernel
theorem dX6_makeMail_134 : decode cX6_makeMail 134 = .ok (.iconst (-1), 1) := by decide +kernel
theorem dX6_makeMail_135 : decode cX6_makeMail 135 = .ok (.ireturn, 1) := by decide +kernel
theorem dX6_makeMail_136 : decode cX6_makeMail 136 = .ok (.aload_n 0, 1) := by decide +kernel
theorem dX6_makeMail_137 : decode cX6_makeMail 137 = .ok (.getfield 7, 3) := by decide +kernel
theorem dX6_makeMail_140 : decode cX6_makeMail 140 = .ok (.sipush 581, 3) := by decide +kernel
theorem dX6_makeMail_143 : decode cX6_makeMail 143 = .ok (.iaload, 1) := by decide +kernel
theorem dX6_makeMail_144 : decode cX6_makeMail 144 = .ok (.bipush 50, 2) := by decide +kernel
theorem dX6_makeMail_146 : decode cX6_makeMail 146 = .ok (.if_icmp .ne 6, 3) := by decide +kernel
theorem dX6_makeMail_149 : decode cX6_makeMail 149 = .ok (.bipush (-4), 2) := by decide +kernel
theorem dX6_makeMail_151 : decode cX6_makeMail 151 = .ok (.ireturn, 1) := by decide +kernel
theorem dX6_makeMail_152 : decode cX6_makeMail 152 = .ok (.bipush (-9), 2) := by decide +kernel
theorem dX6_makeMail_154 : decode cX6_makeMail 154 = .ok (.istore_n 3, 1) := by decide +kernel
theorem dX6_makeMail_155 : decode cX6_makeMail 155 = .ok (.aload_n 0, 1) := by decide +kernel
theorem dX6_makeMail_156 : decode cX6_makeMail 156 = .ok (.getfield 7, 3) := by decide +kernel
theorem dX6_makeMail_159 : decode cX6_makeMail 159 = .ok (.sipush 581, 3) := by decide +kernel
theorem dX6_makeMail_162 : decode cX6_makeMail 162 = .ok (.iaload, 1) := by decide +kernel
theorem dX6_makeMail_163 : decode cX6_makeMail 163 = .ok (.iconst 1, 1) := by decide +kernel
theorem dX6_makeMail_164 : decode cX6_makeMail 164 = .ok (.isub, 1) := by decide +kernel
theorem dX6_makeMail_165 : decode cX6_makeMail 165 = .ok (.istore 4, 2) := by decide +kernel
theorem dX6_makeMail_167 : decode cX6_makeMail 167 = .ok (.iload 4, 2) := by decide +kernel
theorem dX6_makeMail_169 : decode cX6_makeMail 169 = .ok (.ifCond .lt 44, 3) := by decide +kernel
theorem dX6_makeMail_172 : decode cX6_makeMail 172 = .ok (.aload_n 0, 1) := by decide +kernel
theorem dX6_makeMail_173 : decode cX6_makeMail 173 = .ok (.aload_n 0, 1) := by decide +kernel
theorem dX6_makeMail_174 : decode cX6_makeMail 174 = .ok (.getfield 7, 3) := by decide +kernel
theorem dX6_makeMail_177 : decode cX6_makeMail 177 = .ok (.iload 4, 2) := by decide +kernel
theorem dX6_makeMail_179 : decode cX6_makeMail 179 = .ok (.invokevirtual 81, 3) := by decide +kernel
theorem dX6_makeMail_182 : decode cX6_makeMail 182 = .ok (.ifCond .eq 25, 3) := by decide +kernel
theorem dX6_makeMail_185 : decode cX6_makeMail 185 = .ok (.aload_n 0, 1) := by decide +kernel
theorem dX6_makeMail_186 : decode cX6_makeMail 186 = .ok (.iload 4, 2) := by decide +kernel
theorem dX6_makeMail_188 : decode cX6_makeMail 188 = .ok (.invokevirtual 208, 3) := by decide +kernel
theorem dX6_makeMail_191 : decode cX6_makeMail 191 = .ok (.ifCond .eq 16, 3) := by decide +kernel
theorem dX6_makeMail_194 : decode cX6_makeMail 194 = .ok (.aload_n 0, 1) := by decide +kernel
theorem dX6_makeMail_195 : decode cX6_makeMail 195 = .ok (.aload_n 0, 1) := by decide +kernel
theorem dX6_makeMail_196 : decode cX6_makeMail 196 = .ok (.getfield 7, 3) := by decide +kernel
theorem dX6_makeMail_199 : decode cX6_makeMail 199 = .ok (.iload 4, 2) := by decide +kernel
theorem dX6_makeMail_201 : decode cX6_makeMail 201 = .ok (.bipush 8, 2) := by decide +kernel
theorem dX6_makeMail_203 : decode cX6_makeMail 203 = .ok (.invokevirtual 85, 3) := by decide +kernel
theorem dX6_makeMail_206 : decode cX6_makeMail 206 = .ok (.istore_n 3, 1) := by decide +kernel
theorem dX6_makeMail_207 : decode cX6_makeMail 207 = .ok (.iinc 4 (-1), 3) := by decide +kernel
theorem dX6_makeMail_210 : decode cX6_makeMail 210 = .ok (.goto (-43), 3) := by decide +kernel
theorem dX6_makeMail_213 : decode cX6_makeMail 213 = .ok (.iload_n 3, 1) := by decide +kernel
theorem dX6_makeMail_214 : decode cX6_makeMail 214 = .ok (.bipush (-9), 2) := by decide +kernel
theorem dX6_makeMail_216 : decode cX6_makeMail 216 = .ok (.if_icmp .ne 24, 3) := by decide +kernel
theorem dX6_makeMail_219 : decode cX6_makeMail 219 = .ok (.aload_n 0, 1) := by decide +kernel
theorem dX6_makeMail_220 : decode cX6_makeMail 220 = .ok (.getfield 7, 3) := by decide +kernel
theorem dX6_makeMail_223 : decode cX6_makeMail 223 = .ok (.sipush 582, 3) := by decide +kernel
theorem dX6_makeMail_226 : decode cX6_makeMail 226 = .ok (.iaload, 1) := by decide +kernel
theorem dX6_makeMail_227 : decode cX6_makeMail 227 = .ok (.istore_n 3, 1) := by decide +kernel
theorem dX6_makeMail_228 : decode cX6_makeMail 228 = .ok (.aload_n 0, 1) := by decide +kernel
theorem dX6_makeMail_229 : decode cX6_makeMail 229 = .ok (.getfield 7, 3) := by decide +kernel
theorem dX6_makeMail_232 : decode cX6_makeMail 232 = .ok (.sipush 582, 3) := by decide +kernel
theorem dX6_makeMail_235 : decode cX6_makeMail 235 = .ok (.dup2, 1) := by decide +kernel
theorem dX6_makeMail_236 : decode cX6_makeMail 236 = .ok (.iaload, 1) := by decide +kernel
theorem dX6_makeMail_237 : decode cX6_makeMail 237 = .ok (.iconst 1, 1) := by decide +kernel
theorem dX6_makeMail_238 : decode cX6_makeMail 238 = .ok (.iadd, 1) := by decide +kernel
theorem dX6_makeMail_239 : decode cX6_makeMail 239 = .ok (.iastore, 1) := by decide +kernel
theorem dX6_makeMail_240 : decode cX6_makeMail 240 = .ok (.aload_n 0, 1) := by decide +kernel
theorem dX6_makeMail_241 : decode cX6_makeMail 241 = .ok (.getfield 7, 3) := by decide +kernel
theorem dX6_makeMail_244 : decode cX6_makeMail 244 = .ok (.sipush 581, 3) := by decide +kernel
theorem dX6_makeMail_247 : decode cX6_makeMail 247 = .ok (.iaload, 1) := by decide +kernel
theorem dX6_makeMail_248 : decode cX6_makeMail 248 = .ok (.istore 4, 2) := by decide +kernel
theorem dX6_makeMail_250 : decode cX6_makeMail 250 = .ok (.aload_n 0, 1) := by decide +kernel
theorem dX6_makeMail_251 : decode cX6_makeMail 251 = .ok (.getfield 7, 3) := by decide +kernel
theorem dX6_makeMail_254 : decode cX6_makeMail 254 = .ok (.sipush 581, 3) := by decide +kernel
theorem dX6_makeMail_257 : decode cX6_makeMail 257 = .ok (.dup2, 1) := by decide +kernel
theorem dX6_makeMail_258 : decode cX6_makeMail 258 = .ok (.iaload, 1) := by decide +kernel
theorem dX6_makeMail_259 : decode cX6_makeMail 259 = .ok (.iconst 1, 1) := by decide +kernel
theorem dX6_makeMail_260 : decode cX6_makeMail 260 = .ok (.iadd, 1) := by decide +kernel
theorem dX6_makeMail_261 : decode cX6_makeMail 261 = .ok (.iastore, 1) := by decide +kernel
theorem dX6_makeMail_262 : decode cX6_makeMail 262 = .ok (.bipush 80, 2) := by decide +kernel
theorem dX6_makeMail_264 : decode cX6_makeMail 264 = .ok (.bipush 10, 2) := by decide +kernel
theorem dX6_makeMail_266 : decode cX6_makeMail 266 = .ok (.iload 4, 2) := by decide +kernel
theorem dX6_makeMail_268 : decode cX6_makeMail 268 = .ok (.imul, 1) := by decide +kernel
theorem dX6_makeMail_269 : decode cX6_makeMail 269 = .ok (.iadd, 1) := by decide +kernel
theorem dX6_makeMail_270 : decode cX6_makeMail 270 = .ok (.istore 5, 2) := by decide +kernel
theorem dX6_makeMail_272 : decode cX6_makeMail 272 = .ok (.aload_n 0, 1) := by decide +kernel
theorem dX6_makeMail_273 : decode cX6_makeMail 273 = .ok (.getfield 7, 3) := by decide +kernel
theorem dX6_makeMail_276 : decode cX6_makeMail 276 = .ok (.iload 5, 2) := by decide +kernel
theorem dX6_makeMail_278 : decode cX6_makeMail 278 = .ok (.iconst 1, 1) := by decide +kernel
theorem dX6_makeMail_279 : decode cX6_makeMail 279 = .ok (.iastore, 1) := by decide +kernel
theorem dX6_makeMail_280 : decode cX6_makeMail 280 = .ok (.aload_n 0, 1) := by decide +kernel
theorem dX6_makeMail_281 : decode cX6_makeMail 281 = .ok (.getfield 7, 3) := by decide +kernel
theorem dX6_makeMail_284 : decode cX6_makeMail 284 = .ok (.iload 5, 2) := by decide +kernel
theorem dX6_makeMail_286 : decode cX6_makeMail 286 = .ok (.iconst 1, 1) := by decide +kernel
theorem dX6_makeMail_287 : decode cX6_makeMail 287 = .ok (.iadd, 1) := by decide +kernel
theorem dX6_makeMail_288 : decode cX6_makeMail 288 = .ok (.aload_n 0, 1) := by decide +kernel
theorem dX6_makeMail_289 : decode cX6_makeMail 289 = .ok (.iconst 3, 1) := by decide +kernel
theorem dX6_makeMail_290 : decode cX6_makeMail 290 = .ok (.invokevirtual 189, 3) := by decide +kernel
theorem dX6_makeMail_293 : decode cX6_makeMail 293 = .ok (.iastore, 1) := by decide +kernel
theorem dX6_makeMail_294 : decode cX6_makeMail 294 = .ok (.aload_n 0, 1) := by decide +kernel
theorem dX6_makeMail_295 : decode cX6_makeMail 295 = .ok (.getfield 7, 3) := by decide +kernel
theorem dX6_makeMail_298 : decode cX6_makeMail 298 = .ok (.iload 5, 2) := by decide +kernel
theorem dX6_makeMail_300 : decode cX6_makeMail 300 = .ok (.iconst 2, 1) := by decide +kernel
theorem dX6_makeMail_301 : decode cX6_makeMail 301 = .ok (.iadd, 1) := by decide +kernel
theorem dX6_makeMail_302 : decode cX6_makeMail 302 = .ok (.aload_n 0, 1) := by decide +kernel
theorem dX6_makeMail_303 : decode cX6_makeMail 303 = .ok (.iconst 4, 1) := by decide +kernel
theorem dX6_makeMail_304 : decode cX6_makeMail 304 = .ok (.invokevirtual 189, 3) := by decide +kernel
theorem dX6_makeMail_307 : decode cX6_makeMail 307 = .ok (.iastore, 1) := by decide +kernel
theorem dX6_makeMail_308 : decode cX6_makeMail 308 = .ok (.aload_n 0, 1) := by decide +kernel
theorem dX6_makeMail_309 : decode cX6_makeMail 309 = .ok (.getfield 7, 3) := by decide +kernel
theorem dX6_makeMail_312 : decode cX6_makeMail 312 = .ok (.iload 5, 2) := by decide +kernel
theorem dX6_makeMail_314 : decode cX6_makeMail 314 = .ok (.iconst 3, 1) := by decide +kernel
theorem dX6_makeMail_315 : decode cX6_makeMail 315 = .ok (.iadd, 1) := by decide +kernel
theorem dX6_makeMail_316 : decode cX6_makeMail 316 = .ok (.aload_n 0, 1) := by decide +kernel
theorem dX6_makeMail_317 : decode cX6_makeMail 317 = .ok (.iconst 5, 1) := by decide +kernel
theorem dX6_makeMail_318 : decode cX6_makeMail 318 = .ok (.invokevirtual 189, 3) := by decide +kernel
theorem dX6_makeMail_321 : decode cX6_makeMail 321 = .ok (.sipush 1000, 3) := by decide +kernel
theorem dX6_makeMail_324 : decode cX6_makeMail 324 = .ok (.if_icmp .ne 8, 3) := by decide +kernel
theorem dX6_makeMail_327 : decode cX6_makeMail 327 = .ok (.bipush (-9), 2) := by decide +kernel
theorem dX6_makeMail_329 : decode cX6_makeMail 329 = .ok (.goto 8, 3) := by decide +kernel
theorem dX6_makeMail_332 : decode cX6_makeMail 332 = .ok (.aload_n 0, 1) := by decide +kernel
theorem dX6_makeMail_333 : decode cX6_makeMail 333 = .ok (.iconst 5, 1) := by decide +kernel
theorem dX6_makeMail_334 : decode cX6_makeMail 334 = .ok (.invokevirtual 189, 3) := by decide +kernel
theorem dX6_makeMail_337 : decode cX6_makeMail 337 = .ok (.iastore, 1) := by decide +kernel
theorem dX6_makeMail_338 : decode cX6_makeMail 338 = .ok (.aload_n 0, 1) := by decide +kernel
theorem dX6_makeMail_339 : decode cX6_makeMail 339 = .ok (.getfield 7, 3) := by decide +kernel
theorem dX6_makeMail_342 : decode cX6_makeMail 342 = .ok (.iload 5, 2) := by decide +kernel
theorem dX6_makeMail_344 : decode cX6_makeMail 344 = .ok (.iconst 4, 1) := by decide +kernel
theorem dX6_makeMail_345 : decode cX6_makeMail 345 = .ok (.iadd, 1) := by decide +kernel
theorem dX6_makeMail_346 : decode cX6_makeMail 346 = .ok (.aload_n 0, 1) := by decide +kernel
theorem dX6_makeMail_347 : decode cX6_makeMail 347 = .ok (.bipush 6, 2) := by decide +kernel
theorem dX6_makeMail_349 : decode cX6_makeMail 349 = .ok (.invokevirtual 189, 3) := by decide +kernel
theorem dX6_makeMail_352 : decode cX6_makeMail 352 = .ok (.sipush 1000, 3) := by decide +kernel
theorem dX6_makeMail_355 : decode cX6_makeMail 355 = .ok (.if_icmp .ne 8, 3) := by decide +kernel
theorem dX6_makeMail_358 : decode cX6_makeMail 358 = .ok (.bipush (-9), 2) := by decide +kernel
theorem dX6_makeMail_360 : decode cX6_makeMail 360 = .ok (.goto 9, 3) := by decide +kernel
theorem dX6_makeMail_363 : decode cX6_makeMail 363 = .ok (.aload_n 0, 1) := by decide +kernel
theorem dX6_makeMail_364 : decode cX6_makeMail 364 = .ok (.bipush 6, 2) := by decide +kernel
theorem dX6_makeMail_366 : decode cX6_makeMail 366 = .ok (.invokevirtual 189, 3) := by decide +kernel
theorem dX6_makeMail_369 : decode cX6_makeMail 369 = .ok (.iastore, 1) := by decide +kernel
theorem dX6_makeMail_370 : decode cX6_makeMail 370 = .ok (.aload_n 0, 1) := by decide +kernel
theorem dX6_makeMail_371 : decode cX6_makeMail 371 = .ok (.getfield 7, 3) := by decide +kernel
theorem dX6_makeMail_374 : decode cX6_makeMail 374 = .ok (.iload 5, 2) := by decide +kernel
theorem dX6_makeMail_376 : decode cX6_makeMail 376 = .ok (.iconst 5, 1) := by decide +kernel
theorem dX6_makeMail_377 : decode cX6_makeMail 377 = .ok (.iadd, 1) := by decide +kernel
theorem dX6_makeMail_378 : decode cX6_makeMail 378 = .ok (.aload_n 0, 1) := by decide +kernel
theorem dX6_makeMail_379 : decode cX6_makeMail 379 = .ok (.bipush 7, 2) := by decide +kernel
theorem dX6_makeMail_381 : decode cX6_makeMail 381 = .ok (.invokevirtual 189, 3) := by decide +kernel
theorem dX6_makeMail_384 : decode cX6_makeMail 384 = .ok (.iastore, 1) := by decide +kernel
theorem dX6_makeMail_385 : decode cX6_makeMail 385 = .ok (.aload_n 0, 1) := by decide +kernel
theorem dX6_makeMail_386 : decode cX6_makeMail 386 = .ok (.getfield 7, 3) := by decide +kernel
theorem dX6_makeMail_389 : decode cX6_makeMail 389 = .ok (.iload 5, 2) := by decide +kernel
theorem dX6_makeMail_391 : decode cX6_makeMail 391 = .ok (.bipush 6, 2) := by decide +kernel
theorem dX6_makeMail_393 : decode cX6_makeMail 393 = .ok (.iadd, 1) := by decide +kernel
theorem dX6_makeMail_394 : decode cX6_makeMail 394 = .ok (.aload_n 0, 1) := by decide +kernel
theorem dX6_makeMail_395 : decode cX6_makeMail 395 = .ok (.bipush 8, 2) := by decide +kernel
theorem dX6_makeMail_397 : decode cX6_makeMail 397 = .ok (.invokevirtual 189, 3) := by decide +kernel
theorem dX6_makeMail_400 : decode cX6_makeMail 400 = .ok (.iastore, 1) := by decide +kernel
theorem dX6_makeMail_401 : decode cX6_makeMail 401 = .ok (.aload_n 0, 1) := by decide +kernel
theorem dX6_makeMail_402 : decode cX6_makeMail 402 = .ok (.getfield 7, 3) := by decide +kernel
theorem dX6_makeMail_405 : decode cX6_makeMail 405 = .ok (.iload 5, 2) := by decide +kernel
theorem dX6_makeMail_407 : decode cX6_makeMail 407 = .ok (.bipush 7, 2) := by decide +kernel
theorem dX6_makeMail_409 : decode cX6_makeMail 409 = .ok (.iadd, 1) := by decide +kernel
theorem dX6_makeMail_410 : decode cX6_makeMail 410 = .ok (.aload_n 0, 1) := by decide +kernel
theorem dX6_makeMail_411 : decode cX6_makeMail 411 = .ok (.bipush 9, 2) := by decide +kernel
theorem dX6_makeMail_413 : decode cX6_makeMail 413 = .ok (.invokevirtual 189, 3) := by decide +kernel
theorem dX6_makeMail_416 : decode cX6_makeMail 416 = .ok (.iastore, 1) := by decide +kernel
theorem dX6_makeMail_417 : decode cX6_makeMail 417 = .ok (.aload_n 0, 1) := by decide +kernel
theorem dX6_makeMail_418 : decode cX6_makeMail 418 = .ok (.getfield 7, 3) := by decide +kernel
theorem dX6_makeMail_421 : decode cX6_makeMail 421 = .ok (.iload 5, 2) := by decide +kernel
theorem dX6_makeMail_423 : decode cX6_makeMail 423 = .ok (.bipush 8, 2) := by decide +kernel
theorem dX6_makeMail_425 : decode cX6_makeMail 425 = .ok (.iadd, 1) := by decide +kernel
theorem dX6_makeMail_426 : decode cX6_makeMail 426 = .ok (.iload_n 3, 1) := by decide +kernel
theorem dX6_makeMail_427 : decode cX6_makeMail 427 = .ok (.iastore, 1) := by decide +kernel
theorem dX6_makeMail_428 : decode cX6_makeMail 428 = .ok (.aload_n 0, 1) := by decide +kernel
theorem dX6_makeMail_429 : decode cX6_makeMail 429 = .ok (.getfield 7, 3) := by decide +kernel
theorem dX6_makeMail_432 : decode cX6_makeMail 432 = .ok (.iload 5, 2) := by decide +kernel
theorem dX6_makeMail_434 : decode cX6_makeMail 434 = .ok (.bipush 9, 2) := by decide +kernel
theorem dX6_makeMail_436 : decode cX6_makeMail 436 = .ok (.iadd, 1) := by decide +kernel
theorem dX6_makeMail_437 : decode cX6_makeMail 437 = .ok (.iconst 1, 1) := by decide +kernel
theorem dX6_makeMail_438 : decode cX6_makeMail 438 = .ok (.iload_n 2, 1) := by decide +kernel
theorem dX6_makeMail_439 : decode cX6_makeMail 439 = .ok (.ishl, 1) := by decide +kernel
theorem dX6_makeMail_440 : decode cX6_makeMail 440 = .ok (.iastore, 1) := by decide +kernel
theorem dX6_makeMail_441 : decode cX6_makeMail 441 = .ok (.aload_n 0, 1) := by decide +kernel
theorem dX6_makeMail_442 : decode cX6_makeMail 442 = .ok (.aload_n 0, 1) := by decide +kernel
theorem dX6_makeMail_443 : decode cX6_makeMail 443 = .ok (.getfield 129, 3) := by decide +kernel
theorem dX6_makeMail_446 : decode cX6_makeMail 446 = .ok (.iconst 1, 1) := by decide +kernel
theorem dX6_makeMail_447 : decode cX6_makeMail 447 = .ok (.iload 4, 2) := by decide +kernel
theorem dX6_makeMail_449 : decode cX6_makeMail 449 = .ok (.invokevirtual 162, 3) := by decide +kernel
theorem dX6_makeMail_452 : decode cX6_makeMail 452 = .ok (.iconst 0, 1) := by decide +kernel
theorem dX6_makeMail_453 : decode cX6_makeMail 453 = .ok (.ireturn, 1) := by decide +kernel
theorem dX6_doMake_0 : decode cX6_doMake 0 = .ok (.aload_n 0, 1) := by decide +kernel
theorem dX6_doMake_1 : decode cX6_doMake 1 = .ok (.iconst 0, 1) := by decide +kernel
theorem dX6_doMake_2 : decode cX6_doMake 2 = .ok (.invokevirtual 146, 3) := by decide +kernel
theorem dX6_doMake_5 : decode cX6_doMake 5 = .ok (.istore_n 1, 1) := by decide +kernel
theorem dX6_doMake_6 : decode cX6_doMake 6 = .ok (.iload_n 1, 1) := by decide +kernel
theorem dX6_doMake_7 : decode cX6_doMake 7 = .ok (.iconst 0, 1) := by decide +kernel
theorem dX6_doMake_8 : decode cX6_doMake 8 = .ok (.iconst 1, 1) := by decide +kernel
theorem dX6_doMake_9 : decode cX6_doMake 9 = .ok (.invokestatic 99, 3) := by decide +kernel
theorem dX6_doMake_12 : decode cX6_doMake 12 = .ok (.ifCond .ne 6, 3) := by decide +kernel
theorem dX6_doMake_15 : decode cX6_doMake 15 = .ok (.bipush (-2), 2) := by decide +kernel
theorem dX6_doMake_17 : decode cX6_doMake 17 = .ok (.ireturn, 1) := by decide +kernel
theorem dX6_doMake_18 : decode cX6_doMake 18 = .ok (.iload_n 1, 1) := by decide +kernel
theorem dX6_doMake_19 : decode cX6_doMake 19 = .ok (.ifCond .ne 10, 3) := by decide +kernel
theorem dX6_doMake_22 : decode cX6_doMake 22 = .ok (.aload_n 0, 1) := by decide +kernel
theorem dX6_doMake_23 : decode cX6_doMake 23 = .ok (.invokevirtual 211, 3) := by decide +kernel
theorem dX6_doMake_26 : decode cX6_doMake 26 = .ok (.goto 7, 3) := by decide +kernel
theorem dX6_doMake_29 : decode cX6_doMake 29 = .ok (.aload_n 0, 1) := by decide +kernel
theorem dX6_doMake_30 : decode cX6_doMake 30 = .ok (.invokevirtual 215, 3) := by decide +kernel
theorem dX6_doMake_33 : decode cX6_doMake 33 = .ok (.ireturn, 1) := by decide +kernel
theorem dX6_changeBox_0 : decode cX6_changeBox 0 = .ok (.aload_n 0, 1) := by decide +kernel
theorem dX6_changeBox_1 : decode cX6_changeBox 1 = .ok (.aload_n 0, 1) := by decide +kernel
theorem dX6_changeBox_2 : decode cX6_changeBox 2 = .ok (.getfield 7, 3) := by decide +kernel
theorem dX6_changeBox_5 : decode cX6_changeBox 5 = .ok (.iload_n 1, 1) := by decide +kernel
theorem dX6_changeBox_6 : decode cX6_changeBox 6 = .ok (.invokevirtual 89, 3) := by decide +kernel
theorem dX6_changeBox_9 : decode cX6_changeBox 9 = .ok (.ifCond .ne 5, 3) := by decide +kernel
theorem dX6_changeBox_12 : decode cX6_changeBox 12 = .ok (.iconst (-1), 1) := by decide +kernel
theorem dX6_changeBox_13 : decode cX6_changeBox 13 = .ok (.ireturn, 1) := by decide +kernel
theorem dX6_changeBox_14 : decode cX6_changeBox 14 = .ok (.aload_n 0, 1) := by decide +kernel
theorem dX6_changeBox_15 : decode cX6_changeBox 15 = .ok (.aload_n 0, 1) := by decide +kernel
theorem dX6_changeBox_16 : decode cX6_changeBox 16 = .ok (.getfield 7, 3) := by decide +kernel
theorem dX6_changeBox_19 : decode cX6_changeBox 19 = .ok (.iload_n 1, 1) := by decide +kernel
theorem dX6_changeBox_20 : decode cX6_changeBox 20 = .ok (.iconst 2, 1) := by decide +kernel
theorem dX6_changeBox_21 : decode cX6_changeBox 21 = .ok (.invokevirtual 96, 3) := by decide +kernel
theorem dX6_changeBox_24 : decode cX6_changeBox 24 = .ok (.istore 4, 2) := by decide +kernel
theorem dX6_changeBox_26 : decode cX6_changeBox 26 = .ok (.aload_n 0, 1) := by decide +kernel
theorem dX6_changeBox_27 : decode cX6_changeBox 27 = .ok (.aload_n 0, 1) := by decide +kernel
theorem dX6_changeBox_28 : decode cX6_changeBox 28 = .ok (.getfield 7, 3) := by decide +kernel
theorem dX6_changeBox_31 : decode cX6_changeBox 31 = .ok (.iload_n 1, 1) := by decide +kernel
theorem dX6_changeBox_32 : decode cX6_changeBox 32 = .ok (.iconst 1, 1) := by decide +kernel
theorem dX6_changeBox_33 : decode cX6_changeBox 33 = .ok (.invokevirtual 96, 3) := by decide +kernel
theorem dX6_changeBox_36 : decode cX6_changeBox 36 = .ok (.istore 5, 2) := by decide +kernel
theorem dX6_changeBox_38 : decode cX6_changeBox 38 = .ok (.iload_n 2, 1) := by decide +kernel
theorem dX6_changeBox_39 : decode cX6_changeBox 39 = .ok (.ifCond .ne 9, 3) := by decide +kernel
theorem dX6_changeBox_42 : decode cX6_changeBox 42 = .ok (.iload_n 3, 1) := by decide +kernel
theorem dX6_changeBox_43 : decode cX6_changeBox 43 = .ok (.istore 5, 2) := by decide +kernel
theorem dX6_changeBox_45 : decode cX6_changeBox 45 = .ok (.goto 109, 3) := by decide +kernel
theorem dX6_changeBox_48 : decode cX6_changeBox 48 = .ok (.iload_n 2, 1) := by decide +kernel
theorem dX6_changeBox_49 : decode cX6_changeBox 49 = .ok (.iconst 1, 1) := by decide +kernel
theorem dX6_changeBox_50 : decode cX6_changeBox 50 = .ok (.if_icmp .ne 104, 3) := by decide +kernel
theorem dX6_changeBox_53 : decode cX6_changeBox 53 = .ok (.iload_n 3, 1) := by decide +kernel
theorem dX6_changeBox_54 : decode cX6_changeBox 54 = .ok (.istore 4, 2) := by decide +kernel
theorem dX6_changeBox_56 : decode cX6_changeBox 56 = .ok (.iload 4, 2) := by decide +kernel
theorem dX6_changeBox_58 : decode cX6_changeBox 58 = .ok (.bipush (-9), 2) := by decide +kernel
theorem dX6_changeBox_60 : decode cX6_changeBox 60 = .ok (.if_icmp .eq 18, 3) := by decide +kernel
theorem dX6_changeBox_63 : decode cX6_changeBox 63 = .ok (.aload_n 0, 1) := by decide +kernel
theorem dX6_changeBox_64 : decode cX6_changeBox 64 = .ok (.aload_n 0, 1) := by decide +kernel
theorem dX6_changeBox_65 : decode cX6_changeBox 65 = .ok (.getfield 7, 3) := by decide +kernel
theorem dX6_changeBox_68 : decode cX6_changeBox 68 = .ok (.iload 4, 2) := by decide +kernel
theorem dX6_changeBox_70 : decode cX6_changeBox 70 = .ok (.invokevirtual 89, 3) := by decide +kernel
theorem dX6_changeBox_73 : decode cX6_changeBox 73 = .ok (.ifCond .ne 5, 3) := by decide +kernel
theorem dX6_changeBox_76 : decode cX6_changeBox 76 = .ok (.iconst (-1), 1) := by decide +kernel
theorem dX6_changeBox_77 : decode cX6_changeBox 77 = .ok (.ireturn, 1) := by decide +kernel
theorem dX6_changeBox_78 : decode cX6_changeBox 78 = .ok (.iload 4, 2) := by decide +kernel
theorem dX6_changeBox_80 : decode cX6_changeBox 80 = .ok (.istore 6, 2) := by decide +kernel
theorem dX6_changeBox_82 : decode cX6_changeBox 82 = .ok (.iload 6, 2) := by decide +kernel
theorem dX6_changeBox_84 : decode cX6_changeBox 84 = .ok (.bipush (-9), 2) := by decide +kernel
theorem dX6_changeBox_86 : decode cX6_changeBox 86 = .ok (.if_icmp .eq 28, 3) := by decide +kernel
theorem dX6_changeBox_89 : decode cX6_changeBox 89 = .ok (.iload 6, 2) := by decide +kernel
theorem dX6_changeBox_91 : decode cX6_changeBox 91 = .ok (.iload_n 1, 1) := by decide +kernel
theorem dX6_changeBox_92 : decode cX6_changeBox 92 = .ok (.if_icmp .ne 6, 3) := by decide +kernel
theorem dX6_changeBox_95 : decode cX6_changeBox 95 = .ok (.bipush (-3), 2) := by decide +kernel
theorem dX6_changeBox_97 : decode cX6_changeBox 97 = .ok (.ireturn, 1) := by decide +kernel
theorem dX6_changeBox_98 : decode cX6_changeBox 98 = .ok (.aload_n 0, 1) := by decide +kernel
theorem dX6_changeBox_99 : decode cX6_changeBox 99 = .ok (.aload_n 0, 1) := by decide +kernel
theorem dX6_changeBox_100 : decode cX6_changeBox 100 = .ok (.getfield 7, 3) := by decide +kernel
theorem dX6_changeBox_103 : decode cX6_changeBox 103 = .ok (.iload 6, 2) := by decide +kernel
theorem dX6_changeBox_105 : decode cX6_changeBox 105 = .ok (.iconst 2, 1) := by decide +kernel
theorem dX6_changeBox_106 : decode cX6_changeBox 106 = .ok (.invokevirtual 96, 3) := by decide +kernel
theorem dX6_changeBox_109 : decode cX6_changeBox 109 = .ok (.istore 6, 2) := by decide +kernel
theorem dX6_changeBox_111 : decode cX6_changeBox 111 = .ok (.goto (-29), 3) := by decide +kernel
theorem dX6_changeBox_114 : decode cX6_changeBox 114 = .ok (.iconst 1, 1) := by decide +kernel
theorem dX6_changeBox_115 : decode cX6_changeBox 115 = .ok (.iload 4, 2) := by decide +kernel
theorem dX6_changeBox_117 : decode cX6_changeBox 117 = .ok (.bipush (-9), 2) := by decide +kernel
theorem dX6_changeBox_119 : decode cX6_changeBox 119 = .ok (.if_icmp .ne 7, 3) := by decide +kernel
theorem dX6_changeBox_122 : decode cX6_changeBox 122 = .ok (.iconst 0, 1) := by decide +kernel
theorem dX6_changeBox_123 : decode cX6_changeBox 123 = .ok (.goto 13, 3) := by decide +kernel
theorem dX6_changeBox_126 : decode cX6_changeBox 126 = .ok (.aload_n 0, 1) := by decide +kernel
theorem dX6_changeBox_127 : decode cX6_changeBox 127 = .ok (.aload_n 0, 1) := by decide +kernel
theorem dX6_changeBox_128 : decode cX6_changeBox 128 = .ok (.getfield 7, 3) := by decide +kernel
theorem dX6_changeBox_131 : decode cX6_changeBox 131 = .ok (.iload 4, 2) := by decide +kernel
theorem dX6_changeBox_133 : decode cX6_changeBox 133 = .ok (.invokevirtual 195, 3) := by decide +kernel
theorem dX6_changeBox_136 : decode cX6_changeBox 136 = .ok (.iadd, 1) := by decide +kernel
theorem dX6_changeBox_137 : decode cX6_changeBox 137 = .ok (.aload_n 0, 1) := by decide +kernel
theorem dX6_changeBox_138 : decode cX6_changeBox 138 = .ok (.aload_n 0, 1) := by decide +kernel
theorem dX6_changeBox_139 : decode cX6_changeBox 139 = .ok (.getfield 7, 3) := by decide +kernel
theorem dX6_changeBox_142 : decode cX6_changeBox 142 = .ok (.iload_n 1, 1) := by decide +kernel
theorem dX6_changeBox_143 : decode cX6_changeBox 143 = .ok (.invokevirtual 218, 3) := by decide +kernel
theorem dX6_changeBox_146 : decode cX6_changeBox 146 = .ok (.iadd, 1) := by decide +kernel
theorem dX6_changeBox_147 : decode cX6_changeBox 147 = .ok (.iconst 4, 1) := by decide +kernel
theorem dX6_changeBox_148 : decode cX6_changeBox 148 = .ok (.if_icmp .le 6, 3) := by decide +kernel
theorem dX6_changeBox_151 : decode cX6_changeBox 151 = .ok (.bipush (-3), 2) := by decide +kernel
theorem dX6_changeBox_153 : decode cX6_changeBox 153 = .ok (.ireturn, 1) := by decide +kernel
theorem dX6_changeBox_154 : decode cX6_changeBox 154 = .ok (.iload_n 2, 1) := by decide +kernel
theorem dX6_changeBox_155 : decode cX6_changeBox 155 = .ok (.iconst 2, 1) := by decide +kernel
theorem dX6_changeBox_156 : decode cX6_changeBox 156 = .ok (.if_icmp .ge 22, 3) := by decide +kernel
theorem dX6_changeBox_159 : decode cX6_changeBox 159 = .ok (.aload_n 0, 1) := by decide +kernel
theorem dX6_changeBox_160 : decode cX6_changeBox 160 = .ok (.aload_n 0, 1) := by decide +kernel
theorem dX6_changeBox_161 : decode cX6_changeBox 161 = .ok (.getfield 7, 3) := by decide +kernel
theorem dX6_changeBox_164 : decode cX6_changeBox 164 = .ok (.iload_n 1, 1) := by decide +kernel
theorem dX6_changeBox_165 : decode cX6_changeBox 165 = .ok (.iload 4, 2) := by decide +kernel
theorem dX6_changeBox_167 : decode cX6_changeBox 167 = .ok (.iload 5, 2) := by decide +kernel
theorem dX6_changeBox_169 : decode cX6_changeBox 169 = .ok (.invokevirtual 198, 3) := by decide +kernel
theorem dX6_changeBox_172 : decode cX6_changeBox 172 = .ok (.ifCond .eq 6, 3) := by decide +kernel
theorem dX6_changeBox_175 : decode cX6_changeBox 175 = .ok (.bipush (-3), 2) := by decide +kernel
theorem dX6_changeBox_177 : decode cX6_changeBox 177 = .ok (.ireturn, 1) := by decide +kernel
theorem dX6_changeBox_178 : decode cX6_changeBox 178 = .ok (.aload_n 0, 1) := by decide +kernel
theorem dX6_changeBox_179 : decode cX6_changeBox 179 = .ok (.getfield 7, 3) := by decide +kernel
theorem dX6_changeBox_182 : decode cX6_changeBox 182 = .ok (.iconst 4, 1) := by decide +kernel
theorem dX6_changeBox_183 : decode cX6_changeBox 183 = .ok (.iload_n 1, 1) := by decide +kernel
theorem dX6_changeBox_184 : decode cX6_changeBox 184 = .ok (.imul, 1) := by decide +kernel
theorem dX6_changeBox_185 : decode cX6_changeBox 185 = .ok (.iconst 1, 1) := by decide +kernel
theorem dX6_changeBox_186 : decode cX6_changeBox 186 = .ok (.iadd, 1) := by decide +kernel
theorem dX6_changeBox_187 : decode cX6_changeBox 187 = .ok (.iload 5, 2) := by decide +kernel
theorem dX6_changeBox_189 : decode cX6_changeBox 189 = .ok (.iastore, 1) := by decide +kernel
theorem dX6_changeBox_190 : decode cX6_changeBox 190 = .ok (.aload_n 0, 1) := by decide +kernel
theorem dX6_changeBox_191 : decode cX6_changeBox 191 = .ok (.getfield 7, 3) := by decide +kernel
theorem dX6_changeBox_194 : decode cX6_changeBox 194 = .ok (.iconst 4, 1) := by decide +kernel
theorem dX6_changeBox_195 : decode cX6_changeBox 195 = .ok (.iload_n 1, 1) := by decide +kernel
theorem dX6_changeBox_196 : decode cX6_changeBox 196 = .ok (.imul, 1) := by decide +kernel
theorem dX6_changeBox_197 : decode cX6_changeBox 197 = .ok (.iconst 2, 1) := by decide +kernel
theorem dX6_changeBox_198 : decode cX6_changeBox 198 = .ok (.iadd, 1) := by decide +kernel
theorem dX6_changeBox_199 : decode cX6_changeBox 199 = .ok (.iload 4, 2) := by decide +kernel
theorem dX6_changeBox_201 : decode cX6_changeBox 201 = .ok (.iastore, 1) := by decide +kernel
theorem dX6_changeBox_202 : decode cX6_changeBox 202 = .ok (.iload_n 2, 1) := by decide +kernel
theorem dX6_changeBox_203 : decode cX6_changeBox 203 = .ok (.iconst 2, 1) := by decide +kernel
theorem dX6_changeBox_204 : decode cX6_changeBox 204 = .ok (.if_icmp .ne 14, 3) := by decide +kernel
theorem dX6_changeBox_207 : decode cX6_changeBox 207 = .ok (.aload_n 0, 1) := by decide +kernel
theorem dX6_changeBox_208 : decode cX6_changeBox 208 = .ok (.getfield 7, 3) := by decide +kernel
theorem dX6_changeBox_211 : decode cX6_changeBox 211 = .ok (.iconst 4, 1) := by decide +kernel
theorem dX6_changeBox_212 : decode cX6_changeBox 212 = .ok (.iload_n 1, 1) := by decide +kernel
theorem dX6_changeBox_213 : decode cX6_changeBox 213 = .ok (.imul, 1) := by decide +kernel
theorem dX6_changeBox_214 : decode cX6_changeBox 214 = .ok (.iconst 3, 1) := by decide +kernel
theorem dX6_changeBox_215 : decode cX6_changeBox 215 = .ok (.iadd, 1) := by decide +kernel
theorem dX6_changeBox_216 : decode cX6_changeBox 216 = .ok (.iload_n 3, 1) := by decide +kernel
theorem dX6_changeBox_217 : decode cX6_changeBox 217 = .ok (.iastore, 1) := by decide +kernel
theorem dX6_changeBox_218 : decode cX6_changeBox 218 = .ok (.iconst 0, 1) := by decide +kernel
theorem dX6_changeBox_219 : decode cX6_changeBox 219 = .ok (.ireturn, 1) := by decide +kernel
theorem dX6_changeMail_0 : decode cX6_changeMail 0 = .ok (.aload_n 0, 1) := by decide +kernel
theorem dX6_changeMail_1 : decode cX6_changeMail 1 = .ok (.aload_n 0, 1) := by decide +kernel
theorem dX6_changeMail_2 : decode cX6_changeMail 2 = .ok (.getfield 7, 3) := by decide +kernel
theorem dX6_changeMail_5 : decode cX6_changeMail 5 = .ok (.iload_n 1, 1) := by decide +kernel
theorem dX6_changeMail_6 : decode cX6_changeMail 6 = .ok (.invokevirtual 81, 3) := by decide +kernel
theorem dX6_changeMail_9 : decode cX6_changeMail 9 = .ok (.ifCond .ne 5, 3) := by decide +kernel
theorem dX6_changeMail_12 : decode cX6_changeMail 12 = .ok (.iconst (-1), 1) := by decide +kernel
theorem dX6_changeMail_13 : decode cX6_changeMail 13 = .ok (.ireturn, 1) := by decide +kernel
theorem dX6_changeMail_14 : decode cX6_changeMail 14 = .ok (.bipush 80, 2) := by decide +kernel
theorem dX6_changeMail_16 : decode cX6_changeMail 16 = .ok (.bipush 10, 2) := by decide +kernel
theorem dX6_changeMail_18 : decode cX6_changeMail 18 = .ok (.iload_n 1, 1) := by decide +kernel
theorem dX6_changeMail_19 : decode cX6_changeMail 19 = .ok (.imul, 1) := by decide +kernel
theorem dX6_changeMail_20 : decode cX6_changeMail 20 = .ok (.iadd, 1) := by decide +kernel
theorem dX6_changeMail_21 : decode cX6_changeMail 21 = .ok (.istore 4, 2) := by decide +kernel
theorem dX6_changeMail_23 : decode cX6_changeMail 23 = .ok (.iload_n 2, 1) := by decide +kernel
theorem dX6_changeMail_24 : decode cX6_changeMail 24 = .ok (.ifCond .ne 16, 3) := by decide +kernel
theorem dX6_changeMail_27 : decode cX6_changeMail 27 = .ok (.aload_n 0, 1) := by decide +kernel
theorem dX6_changeMail_28 : decode cX6_changeMail 28 = .ok (.getfield 7, 3) := by decide +kernel
theorem dX6_changeMail_31 : decode cX6_changeMail 31 = .ok (.iload 4, 2) := by decide +kernel
theorem dX6_changeMail_33 : decode cX6_changeMail 33 = .ok (.bipush 7, 2) := by decide +kernel
theorem dX6_changeMail_35 : decode cX6_changeMail 35 = .ok (.iadd, 1) := by decide +kernel
theorem dX6_changeMail_36 : decode cX6_changeMail 36 = .ok (.iload_n 3, 1) := by decide +kernel
theorem dX6_changeMail_37 : decode cX6_changeMail 37 = .ok (.iastore, 1) := by decide +kernel
theorem dX6_changeMail_38 : decode cX6_changeMail 38 = .ok (.iconst 0, 1) := by decide +kernel
theorem dX6_changeMail_39 : decode cX6_changeMail 39 = .ok (.ireturn, 1) := by decide +kernel
theorem dX6_changeMail_40 : decode cX6_changeMail 40 = .ok (.aload_n 0, 1) := by decide +kernel
theorem dX6_changeMail_41 : decode cX6_changeMail 41 = .ok (.aload_n 0, 1) := by decide +kernel
theorem dX6_changeMail_42 : decode cX6_changeMail 42 = .ok (.getfield 7, 3) := by decide +kernel
theorem dX6_changeMail_45 : decode cX6_changeMail 45 = .ok (.iload_n 3, 1) := by decide +kernel
theorem dX6_changeMail_46 : decode cX6_changeMail 46 = .ok (.invokevirtual 89, 3) := by decide +kernel
theorem dX6_changeMail_49 : decode cX6_changeMail 49 = .ok (.ifCond .ne 5, 3) := by decide +kernel
theorem dX6_changeMail_52 : decode cX6_changeMail 52 = .ok (.iconst (-1), 1) := by decide +kernel
theorem dX6_changeMail_53 : decode cX6_changeMail 53 = .ok (.ireturn, 1) := by decide +kernel
theorem dX6_changeMail_54 : decode cX6_changeMail 54 = .ok (.iload_n 2, 1) := by decide +kernel
theorem dX6_changeMail_55 : decode cX6_changeMail 55 = .ok (.iconst 1, 1) := by decide +kernel
theorem dX6_changeMail_56 : decode cX6_changeMail 56 = .ok (.if_icmp .ne 20, 3) := by decide +kernel
theorem dX6_changeMail_59 : decode cX6_changeMail 59 = .ok (.aload_n 0, 1) := by decide +kernel
theorem dX6_changeMail_60 : decode cX6_changeMail 60 = .ok (.getfield 7, 3) := by decide +kernel
theorem dX6_changeMail_63 : decode cX6_changeMail 63 = .ok (.iload 4, 2) := by decide +kernel
theorem dX6_changeMail_65 : decode cX6_changeMail 65 = .ok (.bipush 9, 2) := by decide +kernel
theorem dX6_changeMail_67 : decode cX6_changeMail 67 = .ok (.iadd, 1) := by decide +kernel
theorem dX6_changeMail_68 : decode cX6_changeMail 68 = .ok (.iaload, 1) := by decide +kernel
theorem dX6_changeMail_69 : decode cX6_changeMail 69 = .ok (.iconst 1, 1) := by decide +kernel
theorem dX6_changeMail_70 : decode cX6_changeMail 70 = .ok (.iload_n 3, 1) := by decide +kernel
theorem dX6_changeMail_71 : decode cX6_changeMail 71 = .ok (.ishl, 1) := by decide +kernel
theorem dX6_changeMail_72 : decode cX6_changeMail 72 = .ok (.ior, 1) := by decide +kernel
theorem dX6_changeMail_73 : decode cX6_changeMail 73 = .ok (.goto 19, 3) := by decide +kernel
theorem dX6_changeMail_76 : decode cX6_changeMail 76 = .ok (.aload_n 0, 1) := by decide +kernel
theorem dX6_changeMail_77 : decode cX6_changeMail 77 = .ok (.getfield 7, 3) := by decide +kernel
theorem dX6_changeMail_80 : decode cX6_changeMail 80 = .ok (.iload 4, 2) := by decide +kernel
theorem dX6_changeMail_82 : decode cX6_changeMail 82 = .ok (.bipush 9, 2) := by decide +kernel
theorem dX6_changeMail_84 : decode cX6_changeMail 84 = .ok (.iadd, 1) := by decide +kernel
theorem dX6_changeMail_85 : decode cX6_changeMail 85 = .ok (.iaload, 1) := by decide +kernel
theorem dX6_changeMail_86 : decode cX6_changeMail 86 = .ok (.iconst 1, 1) := by decide +kernel
theorem dX6_changeMail_87 : decode cX6_changeMail 87 = .ok (.iload_n 3, 1) := by decide +kernel
theorem dX6_changeMail_88 : decode cX6_changeMail 88 = .ok (.ishl, 1) := by decide +kernel
theorem dX6_changeMail_89 : decode cX6_changeMail 89 = .ok (.iconst (-1), 1) := by decide +kernel
theorem dX6_changeMail_90 : decode cX6_changeMail 90 = .ok (.ixor, 1) := by decide +kernel
theorem dX6_changeMail_91 : decode cX6_changeMail 91 = .ok (.iand, 1) := by decide +kernel
theorem dX6_changeMail_92 : decode cX6_changeMail 92 = .ok (.istore 5, 2) := by decide +kernel
theorem dX6_changeMail_94 : decode cX6_changeMail 94 = .ok (.iload 5, 2) := by decide +kernel
theorem dX6_changeMail_96 : decode cX6_changeMail 96 = .ok (.ifCond .ne 6, 3) := by decide +kernel
theorem dX6_changeMail_99 : decode cX6_changeMail 99 = .ok (.bipush (-3), 2) := by decide +kernel
theorem dX6_changeMail_101 : decode cX6_changeMail 101 = .ok (.ireturn, 1) := by decide +kernel
theorem dX6_changeMail_102 : decode cX6_changeMail 102 = .ok (.aload_n 0, 1) := by decide +kernel
theorem dX6_changeMail_103 : decode cX6_changeMail 103 = .ok (.getfield 7, 3) := by decide +kernel
theorem dX6_changeMail_106 : decode cX6_changeMail 106 = .ok (.iload 4, 2) := by decide +kernel
theorem dX6_changeMail_108 : decode cX6_changeMail 108 = .ok (.bipush 9, 2) := by decide +kernel
theorem dX6_changeMail_110 : decode cX6_changeMail 110 = .ok (.iadd, 1) := by decide +kernel
theorem dX6_changeMail_111 : decode cX6_changeMail 111 = .ok (.iload 5, 2) := by decide +kernel
theorem dX6_changeMail_113 : decode cX6_changeMail 113 = .ok (.iastore, 1) := by decide +kernel
theorem dX6_changeMail_114 : decode cX6_changeMail 114 = .ok (.iconst 0, 1) := by decide +kernel
theorem dX6_changeMail_115 : decode cX6_changeMail 115 = .ok (.ireturn, 1) := by decide +kernel
theorem dX6_doChange_0 : decode cX6_doChange 0 = .ok (.aload_n 0, 1) := by decide +kernel
theorem dX6_doChange_1 : decode cX6_doChange 1 = .ok (.iconst 0, 1) := by decide +kernel
theorem dX6_doChange_2 : decode cX6_doChange 2 = .ok (.invokevirtual 146, 3) := by decide +kernel
theorem dX6_doChange_5 : decode cX6_doChange 5 = .ok (.istore_n 1, 1) := by decide +kernel
theorem dX6_doChange_6 : decode cX6_doChange 6 = .ok (.aload_n 0, 1) := by decide +kernel
theorem dX6_doChange_7 : decode cX6_doChange 7 = .ok (.iconst 3, 1) := by decide +kernel
theorem dX6_doChange_8 : decode cX6_doChange 8 = .ok (.invokevirtual 146, 3) := by decide +kernel
theorem dX6_doChange_11 : decode cX6_doChange 11 = .ok (.istore_n 2, 1) := by decide +kernel
theorem dX6_doChange_12 : decode cX6_doChange 12 = .ok (.aload_n 0, 1) := by decide +kernel
theorem dX6_doChange_13 : decode cX6_doChange 13 = .ok (.iconst 4, 1) := by decide +kernel
theorem dX6_doChange_14 : decode cX6_doChange 14 = .ok (.invokevirtual 146, 3) := by decide +kernel
theorem dX6_doChange_17 : decode cX6_doChange 17 = .ok (.istore_n 3, 1) := by decide +kernel
theorem dX6_doChange_18 : decode cX6_doChange 18 = .ok (.iload_n 1, 1) := by decide +kernel
theorem dX6_doChange_19 : decode cX6_doChange 19 = .ok (.iconst 0, 1) := by decide +kernel
theorem dX6_doChange_20 : decode cX6_doChange 20 = .ok (.iconst 1, 1) := by decide +kernel
theorem dX6_doChange_21 : decode cX6_doChange 21 = .ok (.invokestatic 99, 3) := by decide +kernel
theorem dX6_doChange_24 : decode cX6_doChange 24 = .ok (.ifCond .eq 28, 3) := by decide +kernel
theorem dX6_doChange_27 : decode cX6_doChange 27 = .ok (.aload_n 0, 1) := by decide +kernel
theorem dX6_doChange_28 : decode cX6_doChange 28 = .ok (.iconst 1, 1) := by decide +kernel
theorem dX6_doChange_29 : decode cX6_doChange 29 = .ok (.invokevirtual 146, 3) := by decide +kernel
theorem dX6_doChange_32 : decode cX6_doChange 32 = .ok (.aload_n 0, 1) := by decide +kernel
theorem dX6_doChange_33 : decode cX6_doChange 33 = .ok (.iconst 2, 1) := by decide +kernel
theorem dX6_doChange_34 : decode cX6_doChange 34 = .ok (.invokevirtual 146, 3) := by decide +kernel
theorem dX6_doChange_37 : decode cX6_doChange 37 = .ok (.invokestatic 149, 3) := by decide +kernel
theorem dX6_doChange_40 : decode cX6_doChange 40 = .ok (.ifCond .eq 12, 3) := by decide +kernel
theorem dX6_doChange_43 : decode cX6_doChange 43 = .ok (.iload_n 2, 1) := by decide +kernel
theorem dX6_doChange_44 : decode cX6_doChange 44 = .ok (.iconst 0, 1) := by decide +kernel
theorem dX6_doChange_45 : decode cX6_doChange 45 = .ok (.iconst 2, 1) := by decide +kernel
theorem dX6_doChange_46 : decode cX6_doChange 46 = .ok (.invokestatic 99, 3) := by decide +kernel
theorem dX6_doChange_49 : decode cX6_doChange 49 = .ok (.ifCond .ne 6, 3) := by decide +kernel
theorem dX6_doChange_52 : decode cX6_doChange 52 = .ok (.bipush (-2), 2) := by decide +kernel
theorem dX6_doChange_54 : decode cX6_doChange 54 = .ok (.ireturn, 1) := by decide +kernel
theorem dX6_doChange_55 : decode cX6_doChange 55 = .ok (.iload_n 1, 1) := by decide +kernel
theorem dX6_doChange_56 : decode cX6_doChange 56 = .ok (.ifCond .ne 23, 3) := by decide +kernel
theorem dX6_doChange_59 : decode cX6_doChange 59 = .ok (.iload_n 2, 1) := by decide +kernel
theorem dX6_doChange_60 : decode cX6_doChange 60 = .ok (.iconst 1, 1) := by decide +kernel
theorem dX6_doChange_61 : decode cX6_doChange 61 = .ok (.if_icmp .ne 14, 3) := by decide +kernel
theorem dX6_doChange_64 : decode cX6_doChange 64 = .ok (.iload_n 3, 1) := by decide +kernel
theorem dX6_doChange_65 : decode cX6_doChange 65 = .ok (.sipush 1000, 3) := by decide +kernel
theorem dX6_doChange_68 : decode cX6_doChange 68 = .ok (.if_icmp .eq 7, 3) := by decide +kernel
theorem dX6_doChange_71 : decode cX6_doChange 71 = .ok (.iconst 1, 1) := by decide +kernel
theorem dX6_doChange_72 : decode cX6_doChange 72 = .ok (.goto 16, 3) := by decide +kernel
theorem dX6_doChange_75 : decode cX6_doChange 75 = .ok (.iconst 0, 1) := by decide +kernel
theorem dX6_doChange_76 : decode cX6_doChange 76 = .ok (.goto 12, 3) := by decide +kernel
theorem dX6_doChange_79 : decode cX6_doChange 79 = .ok (.iload_n 2, 1) := by decide +kernel
theorem dX6_doChange_80 : decode cX6_doChange 80 = .ok (.ifCond .le 7, 3) := by decide +kernel
theorem dX6_doChange_83 : decode cX6_doChange 83 = .ok (.iconst 1, 1) := by decide +kernel
theorem dX6_doChange_84 : decode cX6_doChange 84 = .ok (.goto 4, 3) := by decide +kernel
theorem dX6_doChange_87 : decode cX6_doChange 87 = .ok (.iconst 0, 1) := by decide +kernel
theorem dX6_doChange_88 : decode cX6_doChange 88 = .ok (.istore 4, 2) := by decide +kernel
theorem dX6_doChange_90 : decode cX6_doChange 90 = .ok (.iload_n 1, 1) := by decide +kernel
theorem dX6_doChange_91 : decode cX6_doChange 91 = .ok (.ifCond .ne 35, 3) := by decide +kernel
theorem dX6_doChange_94 : decode cX6_doChange 94 = .ok (.iload_n 2, 1) := by decide +kernel
theorem dX6_doChange_95 : decode cX6_doChange 95 = .ok (.iconst 1, 1) := by decide +kernel
theorem dX6_doChange_96 : decode cX6_doChange 96 = .ok (.if_icmp .eq 22, 3) := by decide +kernel
theorem dX6_doChange_99 : decode cX6_doChange 99 = .ok (.iload_n 3, 1) := by decide +kernel
theorem dX6_doChange_100 : decode cX6_doChange 100 = .ok (.iconst 0, 1) := by decide +kernel
theorem dX6_doChange_101 : decode cX6_doChange 101 = .ok (.iload_n 2, 1) := by decide +kernel
theorem dX6_doChange_102 : decode cX6_doChange 102 = .ok (.ifCond .ne 8, 3) := by decide +kernel
theorem dX6_doChange_105 : decode cX6_doChange 105 = .ok (.bipush 99, 2) := by decide +kernel
theorem dX6_doChange_107 : decode cX6_doChange 107 = .ok (.goto 5, 3) := by decide +kernel
theorem dX6_doChange_110 : decode cX6_doChange 110 = .ok (.bipush 9, 2) := by decide +kernel
theorem dX6_doChange_112 : decode cX6_doChange 112 = .ok (.invokestatic 99, 3) := by decide +kernel
theorem dX6_doChange_115 : decode cX6_doChange 115 = .ok (.ifCond .eq 7, 3) := by decide +kernel
theorem dX6_doChange_118 : decode cX6_doChange 118 = .ok (.iconst 1, 1) := by decide +kernel
theorem dX6_doChange_119 : decode cX6_doChange 119 = .ok (.goto 26, 3) := by decide +kernel
theorem dX6_doChange_122 : decode cX6_doChange 122 = .ok (.iconst 0, 1) := by decide +kernel
theorem dX6_doChange_123 : decode cX6_doChange 123 = .ok (.goto 22, 3) := by decide +kernel
theorem dX6_doChange_126 : decode cX6_doChange 126 = .ok (.iload_n 2, 1) := by decide +kernel
theorem dX6_doChange_127 : decode cX6_doChange 127 = .ok (.ifCond .gt 13, 3) := by decide +kernel
theorem dX6_doChange_130 : decode cX6_doChange 130 = .ok (.iload_n 3, 1) := by decide +kernel
theorem dX6_doChange_131 : decode cX6_doChange 131 = .ok (.iconst 0, 1) := by decide +kernel
theorem dX6_doChange_132 : decode cX6_doChange 132 = .ok (.bipush 15, 2) := by decide +kernel
theorem dX6_doChange_134 : decode cX6_doChange 134 = .ok (.invokestatic 99, 3) := by decide +kernel
theorem dX6_doChange_137 : decode cX6_doChange 137 = .ok (.ifCond .eq 7, 3) := by decide +kernel
theorem dX6_doChange_140 : decode cX6_doChange 140 = .ok (.iconst 1, 1) := by decide +kernel
theorem dX6_doChange_141 : decode cX6_doChange 141 = .ok (.goto 4, 3) := by decide +kernel
theorem dX6_doChange_144 : decode cX6_doChange 144 = .ok (.iconst 0, 1) := by decide +kernel
theorem dX6_doChange_145 : decode cX6_doChange 145 = .ok (.istore 5, 2) := by decide +kernel
theorem dX6_doChange_147 : decode cX6_doChange 147 = .ok (.iload 5, 2) := by decide +kernel
theorem dX6_doChange_149 : decode cX6_doChange 149 = .ok (.ifCond .ne 6, 3) := by decide +kernel
theorem dX6_doChange_152 : decode cX6_doChange 152 = .ok (.bipush (-2), 2) := by decide +kernel
theorem dX6_doChange_154 : decode cX6_doChange 154 = .ok (.ireturn, 1) := by decide +kernel
theorem dX6_doChange_155 : decode cX6_doChange 155 = .ok (.aload_n 0, 1) := by decide +kernel
theorem dX6_doChange_156 : decode cX6_doChange 156 = .ok (.aload_n 0, 1) := by decide +kernel
theorem dX6_doChange_157 : decode cX6_doChange 157 = .ok (.iconst 1, 1) := by decide +kernel
theorem dX6_doChange_158 : decode cX6_doChange 158 = .ok (.invokevirtual 146, 3) := by decide +kernel
theorem dX6_doChange_161 : decode cX6_doChange 161 = .ok (.aload_n 0, 1) := by decide +kernel
theorem dX6_doChange_162 : decode cX6_doChange 162 = .ok (.iconst 2, 1) := by decide +kernel
theorem dX6_doChange_163 : decode cX6_doChange 163 = .ok (.invokevirtual 146, 3) := by decide +kernel
theorem dX6_doChange_166 : decode cX6_doChange 166 = .ok (.invokevirtual 152, 3) := by decide +kernel
theorem dX6_doChange_169 : decode cX6_doChange 169 = .ok (.ifCond .eq 16, 3) := by decide +kernel
theorem dX6_doChange_172 : decode cX6_doChange 172 = .ok (.iload 4, 2) := by decide +kernel
theorem dX6_doChange_174 : decode cX6_doChange 174 = .ok (.ifCond .eq 14, 3) := by decide +kernel
theorem dX6_doChange_177 : decode cX6_doChange 177 = .ok (.aload_n 0, 1) := by decide +kernel
theorem dX6_doChange_178 : decode cX6_doChange 178 = .ok (.iload_n 3, 1) := by decide +kernel
theorem dX6_doChange_179 : decode cX6_doChange 179 = .ok (.invokevirtual 136, 3) := by decide +kernel
theorem dX6_doChange_182 : decode cX6_doChange 182 = .ok (.ifCond .ne 6, 3) := by decide +kernel
theorem dX6_doChange_185 : decode cX6_doChange 185 = .ok (.bipush (-5), 2) := by decide +kernel
theorem dX6_doChange_187 : decode cX6_doChange 187 = .ok (.ireturn, 1) := by decide +kernel
theorem dX6_doChange_188 : decode cX6_doChange 188 = .ok (.aload_n 0, 1) := by decide +kernel
theorem dX6_doChange_189 : decode cX6_doChange 189 = .ok (.aload_n 0, 1) := by decide +kernel
theorem dX6_doChange_190 : decode cX6_doChange 190 = .ok (.iconst 1, 1) := by decide +kernel
theorem dX6_doChange_191 : decode cX6_doChange 191 = .ok (.invokevirtual 146, 3) := by decide +kernel
theorem dX6_doChange_194 : decode cX6_doChange 194 = .ok (.aload_n 0, 1) := by decide +kernel
theorem dX6_doChange_195 : decode cX6_doChange 195 = .ok (.iconst 2, 1) := by decide +kernel
theorem dX6_doChange_196 : decode cX6_doChange 196 = .ok (.invokevirtual 146, 3) := by decide +kernel
theorem dX6_doChange_199 : decode cX6_doChange 199 = .ok (.invokevirtual 155, 3) := by decide +kernel
theorem dX6_doChange_202 : decode cX6_doChange 202 = .ok (.iload 4, 2) := by decide +kernel
theorem dX6_doChange_204 : decode cX6_doChange 204 = .ok (.ifCond .eq 11, 3) := by decide +kernel
theorem dX6_doChange_207 : decode cX6_doChange 207 = .ok (.aload_n 0, 1) := by decide +kernel
theorem dX6_doChange_208 : decode cX6_doChange 208 = .ok (.iload_n 3, 1) := by decide +kernel
theorem dX6_doChange_209 : decode cX6_doChange 209 = .ok (.invokevirtual 139, 3) := by decide +kernel
theorem dX6_doChange_212 : decode cX6_doChange 212 = .ok (.goto 18, 3) := by decide +kernel
theorem dX6_doChange_215 : decode cX6_doChange 215 = .ok (.iload_n 1, 1) := by decide +kernel
theorem dX6_doChange_216 : decode cX6_doChange 216 = .ok (.ifCond .ne 13, 3) := by decide +kernel
theorem dX6_doChange_219 : decode cX6_doChange 219 = .ok (.iload_n 2, 1) := by decide +kernel
theorem dX6_doChange_220 : decode cX6_doChange 220 = .ok (.iconst 1, 1) := by decide +kernel
theorem dX6_doChange_221 : decode cX6_doChange 221 = .ok (.if_icmp .ne 8, 3) := by decide +kernel
theorem dX6_doChange_224 : decode cX6_doChange 224 = .ok (.bipush (-9), 2) := by decide +kernel
theorem dX6_doChange_226 : decode cX6_doChange 226 = .ok (.goto 4, 3) := by decide +kernel
theorem dX6_doChange_229 : decode cX6_doChange 229 = .ok (.iload_n 3, 1) := by decide +kernel
theorem dX6_doChange_230 : decode cX6_doChange 230 = .ok (.istore 6, 2) := by decide +kernel
theorem dX6_doChange_232 : decode cX6_doChange 232 = .ok (.iconst 0, 1) := by decide +kernel
theorem dX6_doChange_233 : decode cX6_doChange 233 = .ok (.istore 7, 2) := by decide +kernel
theorem dX6_doChange_235 : decode cX6_doChange 235 = .ok (.iload 7, 2) := by decide +kernel
theorem dX6_doChange_237 : decode cX6_doChange 237 = .ok (.aload_n 0, 1) := by decide +kernel
theorem dX6_doChange_238 : decode cX6_doChange 238 = .ok (.getfield 143, 3) := by decide +kernel
theorem dX6_doChange_241 : decode cX6_doChange 241 = .ok (.if_icmp .ge 54, 3) := by decide +kernel
theorem dX6_doChange_244 : decode cX6_doChange 244 = .ok (.iload_n 1, 1) := by decide +kernel
theorem dX6_doChange_245 : decode cX6_doChange 245 = .ok (.ifCond .ne 20, 3) := by decide +kernel
theorem dX6_doChange_248 : decode cX6_doChange 248 = .ok (.aload_n 0, 1) := by decide +kernel
theorem dX6_doChange_249 : decode cX6_doChange 249 = .ok (.aload_n 0, 1) := by decide +kernel
theorem dX6_doChange_250 : decode cX6_doChange 250 = .ok (.getfield 59, 3) := by decide +kernel
theorem dX6_doChange_253 : decode cX6_doChange 253 = .ok (.iload 7, 2) := by decide +kernel
theorem dX6_doChange_255 : decode cX6_doChange 255 = .ok (.iaload, 1) := by decide +kernel
theorem dX6_doChange_256 : decode cX6_doChange 256 = .ok (.iload_n 2, 1) := by decide +kernel
theorem dX6_doChange_257 : decode cX6_doChange 257 = .ok (.iload 6, 2) := by decide +kernel
theorem dX6_doChange_259 : decode cX6_doChange 259 = .ok (.invokevirtual 221, 3) := by decide +kernel
theorem dX6_doChange_262 : decode cX6_doChange 262 = .ok (.goto 17, 3) := by decide +kernel
theorem dX6_doChange_265 : decode cX6_doChange 265 = .ok (.aload_n 0, 1) := by decide +kernel
theorem dX6_doChange_266 : decode cX6_doChange 266 = .ok (.aload_n 0, 1) := by decide +kernel
theorem dX6_doChange_267 : decode cX6_doChange 267 = .ok (.getfield 59, 3) := by decide +kernel
theorem dX6_doChange_270 : decode cX6_doChange 270 = .ok (.iload 7, 2) := by decide +kernel
theorem dX6_doChange_272 : decode cX6_doChange 272 = .ok (.iaload, 1) := by decide +kernel
theorem dX6_doChange_273 : decode cX6_doChange 273 = .ok (.iload_n 2, 1) := by decide +kernel
theorem dX6_doChange_274 : decode cX6_doChange 274 = .ok (.iload 6, 2) := by decide +kernel
theorem dX6_doChange_276 : decode cX6_doChange 276 = .ok (.invokevirtual 224, 3) := by decide +kernel
theorem dX6_doChange_279 : decode cX6_doChange 279 = .ok (.istore 8, 2) := by decide +kernel
theorem dX6_doChange_281 : decode cX6_doChange 281 = .ok (.iload 8, 2) := by decide +kernel
theorem dX6_doChange_283 : decode cX6_doChange 283 = .ok (.ifCond .eq 6, 3) := by decide +kernel
theorem dX6_doChange_286 : decode cX6_doChange 286 = .ok (.iload 8, 2) := by decide +kernel
theorem dX6_doChange_288 : decode cX6_doChange 288 = .ok (.ireturn, 1) := by decide +kernel
theorem dX6_doChange_289 : decode cX6_doChange 289 = .ok (.iinc 7 1, 3) := by decide +kernel
theorem dX6_doChange_292 : decode cX6_doChange 292 = .ok (.goto (-57), 3) := by decide +kernel
theorem dX6_doChange_295 : decode cX6_doChange 295 = .ok (.iconst 0, 1) := by decide +kernel
theorem dX6_doChange_296 : decode cX6_doChange 296 = .ok (.istore 7, 2) := by decide +kernel
theorem dX6_doChange_298 : decode cX6_doChange 298 = .ok (.iload 7, 2) := by decide +kernel
theorem dX6_doChange_300 : decode cX6_doChange 300 = .ok (.aload_n 0, 1) := by decide +kernel
theorem dX6_doChange_301 : decode cX6_doChange 301 = .ok (.getfield 143, 3) := by decide +kernel
theorem dX6_doChange_304 : decode cX6_doChange 304 = .ok (.if_icmp .ge 59, 3) := by decide +kernel
theorem dX6_doChange_307 : decode cX6_doChange 307 = .ok (.aload_n 0, 1) := by decide +kernel
theorem dX6_doChange_308 : decode cX6_doChange 308 = .ok (.iload_n 1, 1) := by decide +kernel
theorem dX6_doChange_309 : decode cX6_doChange 309 = .ok (.aload_n 0, 1) := by decide +kernel
theorem dX6_doChange_310 : decode cX6_doChange 310 = .ok (.getfield 59, 3) := by decide +kernel
theorem dX6_doChange_313 : decode cX6_doChange 313 = .ok (.iload 7, 2) := by decide +kernel
theorem dX6_doChange_315 : decode cX6_doChange 315 = .ok (.iaload, 1) := by decide +kernel
theorem dX6_doChange_316 : decode cX6_doChange 316 = .ok (.invokevirtual 117, 3) := by decide +kernel
theorem dX6_doChange_319 : decode cX6_doChange 319 = .ok (.ifCond .eq 38, 3) := by decide +kernel
theorem dX6_doChange_322 : decode cX6_doChange 322 = .ok (.aload_n 0, 1) := by decide +kernel
theorem dX6_doChange_323 : decode cX6_doChange 323 = .ok (.aload_n 0, 1) := by decide +kernel
theorem dX6_doChange_324 : decode cX6_doChange 324 = .ok (.getfield 129, 3) := by decide +kernel
theorem dX6_doChange_327 : decode cX6_doChange 327 = .ok (.iconst 2, 1) := by decide +kernel
theorem dX6_doChange_328 : decode cX6_doChange 328 = .ok (.aload_n 0, 1) := by decide +kernel
theorem dX6_doChange_329 : decode cX6_doChange 329 = .ok (.getfield 59, 3) := by decide +kernel
theorem dX6_doChange_332 : decode cX6_doChange 332 = .ok (.iload 7, 2) := by decide +kernel
theorem dX6_doChange_334 : decode cX6_doChange 334 = .ok (.iaload, 1) := by decide +kernel
theorem dX6_doChange_335 : decode cX6_doChange 335 = .ok (.invokevirtual 159, 3) := by decide +kernel
theorem dX6_doChange_338 : decode cX6_doChange 338 = .ok (.ifCond .ne 19, 3) := by decide +kernel
theorem dX6_doChange_341 : decode cX6_doChange 341 = .ok (.aload_n 0, 1) := by decide +kernel
theorem dX6_doChange_342 : decode cX6_doChange 342 = .ok (.aload_n 0, 1) := by decide +kernel
theorem dX6_doChange_343 : decode cX6_doChange 343 = .ok (.getfield 129, 3) := by decide +kernel
theorem dX6_doChange_346 : decode cX6_doChange 346 = .ok (.iconst 2, 1) := by decide +kernel
theorem dX6_doChange_347 : decode cX6_doChange 347 = .ok (.aload_n 0, 1) := by decide +kernel
theorem dX6_doChange_348 : decode cX6_doChange 348 = .ok (.getfield 59, 3) := by decide +kernel
theorem dX6_doChange_351 : decode cX6_doChange 351 = .ok (.iload 7, 2) := by decide +kernel
theorem dX6_doChange_353 : decode cX6_doChange 353 = .ok (.iaload, 1) := by decide +kernel
theorem dX6_doChange_354 : decode cX6_doChange 354 = .ok (.invokevirtual 162, 3) := by decide +kernel
theorem dX6_doChange_357 : decode cX6_doChange 357 = .ok (.iinc 7 1, 3) := by decide +kernel
theorem dX6_doChange_360 : decode cX6_doChange 360 = .ok (.goto (-62), 3) := by decide +kernel
theorem dX6_doChange_363 : decode cX6_doChange 363 = .ok (.iconst 0, 1) := by decide +kernel
theorem dX6_doChange_364 : decode cX6_doChange 364 = .ok (.ireturn, 1) := by decide +kernel
theorem dX6_destroyOne_0 : decode cX6_destroyOne 0 = .ok (.aload_n 0, 1) := by decide +kernel
theorem dX6_destroyOne_1 : decode cX6_destroyOne 1 = .ok (.aload_n 0, 1) := by decide +kernel
theorem dX6_destroyOne_2 : decode cX6_destroyOne 2 = .ok (.getfield 7, 3) := by decide +kernel
theorem dX6_destroyOne_5 : decode cX6_destroyOne 5 = .ok (.iload_n 1, 1) := by decide +kernel
theorem dX6_destroyOne_6 : decode cX6_destroyOne 6 = .ok (.iload_n 2, 1) := by decide +kernel
theorem dX6_destroyOne_7 : decode cX6_destroyOne 7 = .ok (.invokevirtual 113, 3) := by decide +kernel
theorem dX6_destroyOne_10 : decode cX6_destroyOne 10 = .ok (.ifCond .ne 5, 3) := by decide +kernel
theorem dX6_destroyOne_13 : decode cX6_destroyOne 13 = .ok (.iconst (-1), 1) := by decide +kernel
theorem dX6_destroyOne_14 : decode cX6_destroyOne 14 = .ok (.ireturn, 1) := by decide +kernel
theorem dX6_destroyOne_15 : decode cX6_destroyOne 15 = .ok (.iload_n 1, 1) := by decide +kernel
theorem dX6_destroyOne_16 : decode cX6_destroyOne 16 = .ok (.iconst 1, 1) := by decide +kernel
theorem dX6_destroyOne_17 : decode cX6_destroyOne 17 = .ok (.if_icmp .ne 18, 3) := by decide +kernel
theorem dX6_destroyOne_20 : decode cX6_destroyOne 20 = .ok (.aload_n 0, 1) := by decide +kernel
theorem dX6_destroyOne_21 : decode cX6_destroyOne 21 = .ok (.getfield 7, 3) := by decide +kernel
theorem dX6_destroyOne_24 : decode cX6_destroyOne 24 = .ok (.bipush 80, 2) := by decide +kernel
theorem dX6_destroyOne_26 : decode cX6_destroyOne 26 = .ok (.bipush 10, 2) := by decide +kernel
theorem dX6_destroyOne_28 : decode cX6_destroyOne 28 = .ok (.iload_n 2, 1) := by decide +kernel
theorem dX6_destroyOne_29 : decode cX6_destroyOne 29 = .ok (.imul, 1) := by decide +kernel
theorem dX6_destroyOne_30 : decode cX6_destroyOne 30 = .ok (.iadd, 1) := by decide +kernel
theorem dX6_destroyOne_31 : decode cX6_destroyOne 31 = .ok (.iconst 0, 1) := by decide +kernel
theorem dX6_destroyOne_32 : decode cX6_destroyOne 32 = .ok (.iastore, 1) := by decide +kernel
theorem dX6_destroyOne_33 : decode cX6_destroyOne 33 = .ok (.iconst 0, 1) := by decide +kernel
theorem dX6_destroyOne_34 : decode cX6_destroyOne 34 = .ok (.ireturn, 1) := by decide +kernel
theorem dX6_destroyOne_35 : decode cX6_destroyOne 35 = .ok (.iconst 0, 1) := by decide +kernel
theorem dX6_destroyOne_36 : decode cX6_destroyOne 36 = .ok (.istore_n 3, 1) := by decide +kernel
theorem dX6_destroyOne_37 : decode cX6_destroyOne 37 = .ok (.iload_n 3, 1) := by decide +kernel
theorem dX6_destroyOne_38 : decode cX6_destroyOne 38 = .ok (.aload_n 0, 1) := by decide +kernel
theorem dX6_destroyOne_39 : decode cX6_destroyOne 39 = .ok (.getfield 7, 3) := by decide +kernel
theorem dX6_destroyOne_42 : decode cX6_destroyOne 42 = .ok (.sipush 580, 3) := by decide +kernel
theorem dX6_destroyOne_45 : decode cX6_destroyOne 45 = .ok (.iaload, 1) := by decide +kernel
theorem dX6_destroyOne_46 : decode cX6_destroyOne 46 = .ok (.if_icmp .ge 38, 3) := by decide +kernel
theorem dX6_destroyOne_49 : decode cX6_destroyOne 49 = .ok (.aload_n 0, 1) := by decide +kernel
theorem dX6_destroyOne_50 : decode cX6_destroyOne 50 = .ok (.aload_n 0, 1) := by decide +kernel
theorem dX6_destroyOne_51 : decode cX6_destroyOne 51 = .ok (.getfield 7, 3) := by decide +kernel
theorem dX6_destroyOne_54 : decode cX6_destroyOne 54 = .ok (.iload_n 3, 1) := by decide +kernel
theorem dX6_destroyOne_55 : decode cX6_destroyOne 55 = .ok (.invokevirtual 89, 3) := by decide +kernel
theorem dX6_destroyOne_58 : decode cX6_destroyOne 58 = .ok (.ifCond .eq 20, 3) := by decide +kernel
theorem dX6_destroyOne_61 : decode cX6_destroyOne 61 = .ok (.aload_n 0, 1) := by decide +kernel
theorem dX6_destroyOne_62 : decode cX6_destroyOne 62 = .ok (.aload_n 0, 1) := by decide +kernel
theorem dX6_destroyOne_63 : decode cX6_destroyOne 63 = .ok (.getfield 7, 3) := by decide +kernel
theorem dX6_destroyOne_66 : decode cX6_destroyOne 66 = .ok (.iload_n 3, 1) := by decide +kernel
theorem dX6_destroyOne_67 : decode cX6_destroyOne 67 = .ok (.iconst 2, 1) := by decide +kernel
theorem dX6_destroyOne_68 : decode cX6_destroyOne 68 = .ok (.invokevirtual 96, 3) := by decide +kernel
theorem dX6_destroyOne_71 : decode cX6_destroyOne 71 = .ok (.iload_n 2, 1) := by decide +kernel
theorem dX6_destroyOne_72 : decode cX6_destroyOne 72 = .ok (.if_icmp .ne 6, 3) := by decide +kernel
theorem dX6_destroyOne_75 : decode cX6_destroyOne 75 = .ok (.bipush (-3), 2) := by decide +kernel
theorem dX6_destroyOne_77 : decode cX6_destroyOne 77 = .ok (.ireturn, 1) := by decide +kernel
theorem dX6_destroyOne_78 : decode cX6_destroyOne 78 = .ok (.iinc 3 1, 3) := by decide +kernel
theorem dX6_destroyOne_81 : decode cX6_destroyOne 81 = .ok (.goto (-44), 3) := by decide +kernel
theorem dX6_destroyOne_84 : decode cX6_destroyOne 84 = .ok (.iconst 0, 1) := by decide +kernel
theorem dX6_destroyOne_85 : decode cX6_destroyOne 85 = .ok (.istore_n 3, 1) := by decide +kernel
theorem dX6_destroyOne_86 : decode cX6_destroyOne 86 = .ok (.iload_n 3, 1) := by decide +kernel
theorem dX6_destroyOne_87 : decode cX6_destroyOne 87 = .ok (.aload_n 0, 1) := by decide +kernel
theorem dX6_destroyOne_88 : decode cX6_destroyOne 88 = .ok (.getfield 7, 3) := by decide +kernel
theorem dX6_destroyOne_91 : decode cX6_destroyOne 91 = .ok (.sipush 581, 3) := by decide +kernel
theorem dX6_destroyOne_94 : decode cX6_destroyOne 94 = .ok (.iaload, 1) := by decide +kernel
theorem dX6_destroyOne_95 : decode cX6_destroyOne 95 = .ok (.if_icmp .ge 43, 3) := by decide +kernel
theorem dX6_destroyOne_98 : decode cX6_destroyOne 98 = .ok (.aload_n 0, 1) := by decide +kernel
theorem dX6_destroyOne_99 : decode cX6_destroyOne 99 = .ok (.aload_n 0, 1) := by decide +kernel
theorem dX6_destroyOne_100 : decode cX6_destroyOne 100 = .ok (.getfield 7, 3) := by decide +kernel
theorem dX6_destroyOne_103 : decode cX6_destroyOne 103 = .ok (.iload_n 3, 1) := by decide +kernel
theorem dX6_destroyOne_104 : decode cX6_destroyOne 104 = .ok (.invokevirtual 81, 3) := by decide +kernel
theorem dX6_destroyOne_107 : decode cX6_destroyOne 107 = .ok (.ifCond .eq 25, 3) := by decide +kernel
theorem dX6_destroyOne_110 : decode cX6_destroyOne 110 = .ok (.aload_n 0, 1) := by decide +kernel
theorem dX6_destroyOne_111 : decode cX6_destroyOne 111 = .ok (.aload_n 0, 1) := by decide +kernel
theorem dX6_destroyOne_112 : decode cX6_destroyOne 112 = .ok (.getfield 7, 3) := by decide +kernel
theorem dX6_destroyOne_115 : decode cX6_destroyOne 115 = .ok (.iload_n 3, 1) := by decide +kernel
theorem dX6_destroyOne_116 : decode cX6_destroyOne 116 = .ok (.bipush 9, 2) := by decide +kernel
theorem dX6_destroyOne_118 : decode cX6_destroyOne 118 = .ok (.invokevirtual 85, 3) := by decide +kernel
theorem dX6_destroyOne_121 : decode cX6_destroyOne 121 = .ok (.iload_n 2, 1) := by decide +kernel
theorem dX6_destroyOne_122 : decode cX6_destroyOne 122 = .ok (.ishr, 1) := by decide +kernel
theorem dX6_destroyOne_123 : decode cX6_destroyOne 123 = .ok (.iconst 1, 1) := by decide +kernel
theorem dX6_destroyOne_124 : decode cX6_destroyOne 124 = .ok (.iand, 1) := by decide +kernel
theorem dX6_destroyOne_125 : decode cX6_destroyOne 125 = .ok (.iconst 1, 1) := by decide +kernel
theorem dX6_destroyOne_126 : decode cX6_destroyOne 126 = .ok (.if_icmp .ne 6, 3) := by decide +kernel
theorem dX6_destroyOne_129 : decode cX6_destroyOne 129 = .ok (.bipush (-3), 2) := by decide +kernel
theorem dX6_destroyOne_131 : decode cX6_destroyOne 131 = .ok (.ireturn, 1) := by decide +kernel
theorem dX6_destroyOne_132 : decode cX6_destroyOne 132 = .ok (.iinc 3 1, 3) := by decide +kernel
theorem dX6_destroyOne_135 : decode cX6_destroyOne 135 = .ok (.goto (-49), 3) := by decide +kernel
theorem dX6_destroyOne_138 : decode cX6_destroyOne 138 = .ok (.aload_n 0, 1) := by decide +kernel
theorem dX6_destroyOne_139 : decode cX6_destroyOne 139 = .ok (.getfield 7, 3) := by decide +kernel
theorem dX6_destroyOne_142 : decode cX6_destroyOne 142 = .ok (.iconst 4, 1) := by decide +kernel
theorem dX6_destroyOne_143 : decode cX6_destroyOne 143 = .ok (.iload_n 2, 1) := by decide +kernel
theorem dX6_destroyOne_144 : decode cX6_destroyOne 144 = .ok (.imul, 1) := by decide +kernel
theorem dX6_destroyOne_145 : decode cX6_destroyOne 145 = .ok (.iconst 0, 1) := by decide +kernel
theorem dX6_destroyOne_146 : decode cX6_destroyOne 146 = .ok (.iastore, 1) := by decide +kernel
theorem dX6_destroyOne_147 : decode cX6_destroyOne 147 = .ok (.iconst 0, 1) := by decide +kernel
theorem dX6_destroyOne_148 : decode cX6_destroyOne 148 = .ok (.ireturn, 1) := by decide +kernel
theorem dX6_doDestroy_0 : decode cX6_doDestroy 0 = .ok (.aload_n 0, 1) := by decide +kernel
theorem dX6_doDestroy_1 : decode cX6_doDestroy 1 = .ok (.iconst 0, 1) := by decide +kernel
theorem dX6_doDestroy_2 : decode cX6_doDestroy 2 = .ok (.invokevirtual 146, 3) := by decide +kernel
theorem dX6_doDestroy_5 : decode cX6_doDestroy 5 = .ok (.istore_n 1, 1) := by decide +kernel
theorem dX6_doDestroy_6 : decode cX6_doDestroy 6 = .ok (.iload_n 1, 1) := by decide +kernel
theorem dX6_doDestroy_7 : decode cX6_doDestroy 7 = .ok (.iconst 0, 1) := by decide +kernel
theorem dX6_doDestroy_8 : decode cX6_doDestroy 8 = .ok (.iconst 1, 1) := by decide +kernel
theorem dX6_doDestroy_9 : decode cX6_doDestroy 9 = .ok (.invokestatic 99, 3) := by decide +kernel
theorem dX6_doDestroy_12 : decode cX6_doDestroy 12 = .ok (.ifCond .eq 19, 3) := by decide +kernel
theorem dX6_doDestroy_15 : decode cX6_doDestroy 15 = .ok (.aload_n 0, 1) := by decide +kernel
theorem dX6_doDestroy_16 : decode cX6_doDestroy 16 = .ok (.iconst 1, 1) := by decide +kernel
theorem dX6_doDestroy_17 : decode cX6_doDestroy 17 = .ok (.invokevirtual 146, 3) := by decide +kernel
theorem dX6_doDestroy_20 : decode cX6_doDestroy 20 = .ok (.aload_n 0, 1) := by decide +kernel
theorem dX6_doDestroy_21 : decode cX6_doDestroy 21 = .ok (.iconst 2, 1) := by decide +kernel
theorem dX6_doDestroy_22 : decode cX6_doDestroy 22 = .ok (.invokevirtual 146, 3) := by decide +kernel
theorem dX6_doDestroy_25 : decode cX6_doDestroy 25 = .ok (.invokestatic 149, 3) := by decide +kernel
theorem dX6_doDestroy_28 : decode cX6_doDestroy 28 = .ok (.ifCond .ne 6, 3) := by decide +kernel
theorem dX6_doDestroy_31 : decode cX6_doDestroy 31 = .ok (.bipush (-2), 2) := by decide +kernel
theorem dX6_doDestroy_33 : decode cX6_doDestroy 33 = .ok (.ireturn, 1) := by decide +kernel
theorem dX6_doDestroy_34 : decode cX6_doDestroy 34 = .ok (.aload_n 0, 1) := by decide +kernel
theorem dX6_doDestroy_35 : decode cX6_doDestroy 35 = .ok (.aload_n 0, 1) := by decide +kernel
theorem dX6_doDestroy_36 : decode cX6_doDestroy 36 = .ok (.iconst 1, 1) := by decide +kernel
theorem dX6_doDestroy_37 : decode cX6_doDestroy 37 = .ok (.invokevirtual 146, 3) := by decide +kernel
theorem dX6_doDestroy_40 : decode cX6_doDestroy 40 = .ok (.aload_n 0, 1) := by decide +kernel
theorem dX6_doDestroy_41 : decode cX6_doDestroy 41 = .ok (.iconst 2, 1) := by decide +kernel
theorem dX6_doDestroy_42 : decode cX6_doDestroy 42 = .ok (.invokevirtual 146, 3) := by decide +kernel
theorem dX6_doDestroy_45 : decode cX6_doDestroy 45 = .ok (.invokevirtual 152, 3) := by decide +kernel
theorem dX6_doDestroy_48 : decode cX6_doDestroy 48 = .ok (.ifCond .ne 6, 3) := by decide +kernel
theorem dX6_doDestroy_51 : decode cX6_doDestroy 51 = .ok (.bipush (-5), 2) := by decide +kernel
theorem dX6_doDestroy_53 : decode cX6_doDestroy 53 = .ok (.ireturn, 1) := by decide +kernel
theorem dX6_doDestroy_54 : decode cX6_doDestroy 54 = .ok (.aload_n 0, 1) := by decide +kernel
theorem dX6_doDestroy_55 : decode cX6_doDestroy 55 = .ok (.aload_n 0, 1) := by decide +kernel
theorem dX6_doDestroy_56 : decode cX6_doDestroy 56 = .ok (.iconst 1, 1) := by decide +kernel
theorem dX6_doDestroy_57 : decode cX6_doDestroy 57 = .ok (.invokevirtual 146, 3) := by decide +kernel
theorem dX6_doDestroy_60 : decode cX6_doDestroy 60 = .ok (.aload_n 0, 1) := by decide +kernel
theorem dX6_doDestroy_61 : decode cX6_doDestroy 61 = .ok (.iconst 2, 1) := by decide +kernel
theorem dX6_doDestroy_62 : decode cX6_doDestroy 62 = .ok (.invokevirtual 146, 3) := by decide +kernel
theorem dX6_doDestroy_65 : decode cX6_doDestroy 65 = .ok (.invokevirtual 155, 3) := by decide +kernel
theorem dX6_doDestroy_68 : decode cX6_doDestroy 68 = .ok (.iconst 0, 1) := by decide +kernel
theorem dX6_doDestroy_69 : decode cX6_doDestroy 69 = .ok (.istore_n 2, 1) := by decide +kernel
theorem dX6_doDestroy_70 : decode cX6_doDestroy 70 = .ok (.iload_n 2, 1) := by decide +kernel
theorem dX6_doDestroy_71 : decode cX6_doDestroy 71 = .ok (.aload_n 0, 1) := by decide +kernel
theorem dX6_doDestroy_72 : decode cX6_doDestroy 72 = .ok (.getfield 143, 3) := by decide +kernel
theorem dX6_doDestroy_75 : decode cX6_doDestroy 75 = .ok (.if_icmp .ge 27, 3) := by decide +kernel
theorem dX6_doDestroy_78 : decode cX6_doDestroy 78 = .ok (.aload_n 0, 1) := by decide +kernel
theorem dX6_doDestroy_79 : decode cX6_doDestroy 79 = .ok (.iload_n 1, 1) := by decide +kernel
theorem dX6_doDestroy_80 : decode cX6_doDestroy 80 = .ok (.aload_n 0, 1) := by decide +kernel
theorem dX6_doDestroy_81 : decode cX6_doDestroy 81 = .ok (.getfield 59, 3) := by decide +kernel
theorem dX6_doDestroy_84 : decode cX6_doDestroy 84 = .ok (.iload_n 2, 1) := by decide +kernel
theorem dX6_doDestroy_85 : decode cX6_doDestroy 85 = .ok (.iaload, 1) := by decide +kernel
theorem dX6_doDestroy_86 : decode cX6_doDestroy 86 = .ok (.invokevirtual 227, 3) := by decide +kernel
theorem dX6_doDestroy_89 : decode cX6_doDestroy 89 = .ok (.istore_n 3, 1) := by decide +kernel
theorem dX6_doDestroy_90 : decode cX6_doDestroy 90 = .ok (.iload_n 3, 1) := by decide +kernel
theorem dX6_doDestroy_91 : decode cX6_doDestroy 91 = .ok (.ifCond .eq 5, 3) := by decide +kernel
theorem dX6_doDestroy_94 : decode cX6_doDestroy 94 = .ok (.iload_n 3, 1) := by decide +kernel
theorem dX6_doDestroy_95 : decode cX6_doDestroy 95 = .ok (.ireturn, 1) := by decide +kernel
theorem dX6_doDestroy_96 : decode cX6_doDestroy 96 = .ok (.iinc 2 1, 3) := by decide +kernel
theorem dX6_doDestroy_99 : decode cX6_doDestroy 99 = .ok (.goto (-29), 3) := by decide +kernel
theorem dX6_doDestroy_102 : decode cX6_doDestroy 102 = .ok (.iconst 0, 1) := by decide +kernel
theorem dX6_doDestroy_103 : decode cX6_doDestroy 103 = .ok (.istore_n 2, 1) := by decide +kernel
theorem dX6_doDestroy_104 : decode cX6_doDestroy 104 = .ok (.iload_n 2, 1) := by decide +kernel
theorem dX6_doDestroy_105 : decode cX6_doDestroy 105 = .ok (.aload_n 0, 1) := by decide +kernel
theorem dX6_doDestroy_106 : decode cX6_doDestroy 106 = .ok (.getfield 143, 3) := by decide +kernel
theorem dX6_doDestroy_109 : decode cX6_doDestroy 109 = .ok (.if_icmp .ge 24, 3) := by decide +kernel
theorem dX6_doDestroy_112 : decode cX6_doDestroy 112 = .ok (.aload_n 0, 1) := by decide +kernel
theorem dX6_doDestroy_113 : decode cX6_doDestroy 113 = .ok (.aload_n 0, 1) := by decide +kernel
theorem dX6_doDestroy_114 : decode cX6_doDestroy 114 = .ok (.getfield 129, 3) := by decide +kernel
theorem dX6_doDestroy_117 : decode cX6_doDestroy 117 = .ok (.iconst 3, 1) := by decide +kernel
theorem dX6_doDestroy_118 : decode cX6_doDestroy 118 = .ok (.aload_n 0, 1) := by decide +kernel
theorem dX6_doDestroy_119 : decode cX6_doDestroy 119 = .ok (.getfield 59, 3) := by decide +kernel
theorem dX6_doDestroy_122 : decode cX6_doDestroy 122 = .ok (.iload_n 2, 1) := by decide +kernel
theorem dX6_doDestroy_123 : decode cX6_doDestroy 123 = .ok (.iaload, 1) := by decide +kernel
theorem dX6_doDestroy_124 : decode cX6_doDestroy 124 = .ok (.invokevirtual 162, 3) := by decide +kernel
theorem dX6_doDestroy_127 : decode cX6_doDestroy 127 = .ok (.iinc 2 1, 3) := by decide +kernel
theorem dX6_doDestroy_130 : decode cX6_doDestroy 130 = .ok (.goto (-26), 3) := by decide +kernel
theorem dX6_doDestroy_133 : decode cX6_doDestroy 133 = .ok (.iconst 0, 1) := by decide +kernel
theorem dX6_doDestroy_134 : decode cX6_doDestroy 134 = .ok (.ireturn, 1) := by decide +kernel
theorem dX6_doCall_0 : decode cX6_doCall 0 = .ok (.aload_n 0, 1) := by decide +kernel
theorem dX6_doCall_1 : decode cX6_doCall 1 = .ok (.getfield 22, 3) := by decide +kernel
theorem dX6_doCall_4 : decode cX6_doCall 4 = .ok (.aload_n 0, 1) := by decide +kernel
theorem dX6_doCall_5 : decode cX6_doCall 5 = .ok (.getfield 129, 3) := by decide +kernel
theorem dX6_doCall_8 : decode cX6_doCall 8 = .ok (.iaload, 1) := by decide +kernel
theorem dX6_doCall_9 : decode cX6_doCall 9 = .ok (.tableswitch 60 0 4 #[35, 40, 45, 50, 55], 35) := by decide +kernel
theorem dX6_doCall_44 : decode cX6_doCall 44 = .ok (.aload_n 0, 1) := by decide +kernel
theorem dX6_doCall_45 : decode cX6_doCall 45 = .ok (.invokevirtual 230, 3) := by decide +kernel
theorem dX6_doCall_48 : decode cX6_doCall 48 = .ok (.ireturn, 1) := by decide +kernel
theorem dX6_doCall_49 : decode cX6_doCall 49 = .ok (.aload_n 0, 1) := by decide +kernel
theorem dX6_doCall_50 : decode cX6_doCall 50 = .ok (.invokevirtual 233, 3) := by decide +kernel
theorem dX6_doCall_53 : decode cX6_doCall 53 = .ok (.ireturn, 1) := by decide +kernel
theorem dX6_doCall_54 : decode cX6_doCall 54 = .ok (.aload_n 0, 1) := by decide +kernel
theorem dX6_doCall_55 : decode cX6_doCall 55 = .ok (.invokevirtual 236, 3) := by decide +kernel
theorem dX6_doCall_58 : decode cX6_doCall 58 = .ok (.ireturn, 1) := by decide +kernel
theorem dX6_doCall_59 : decode cX6_doCall 59 = .ok (.aload_n 0, 1) := by decide +kernel
theorem dX6_doCall_60 : decode cX6_doCall 60 = .ok (.invokevirtual 239, 3) := by decide +kernel
theorem dX6_doCall_63 : decode cX6_doCall 63 = .ok (.ireturn, 1) := by decide +kernel
theorem dX6_doCall_64 : decode cX6_doCall 64 = .ok (.aload_n 0, 1) := by decide +kernel
theorem dX6_doCall_65 : decode cX6_doCall 65 = .ok (.invokevirtual 242, 3) := by decide +kernel
theorem dX6_doCall_68 : decode cX6_doCall 68 = .ok (.ireturn, 1) := by decide +kernel
theorem dX6_doCall_69 : decode cX6_doCall 69 = .ok (.aload_n 0, 1) := by decide +kernel
theorem dX6_doCall_70 : decode cX6_doCall 70 = .ok (.invokevirtual 245, 3) := by decide +kernel
theorem dX6_doCall_73 : decode cX6_doCall 73 = .ok (.ireturn, 1) := by decide +kernel
theorem dX6_keepEntries_0 : decode cX6_keepEntries 0 = .ok (.iconst 0, 1) := by decide +kernel
theorem dX6_keepEntries_1 : decode cX6_keepEntries 1 = .ok (.istore_n 1, 1) := by decide +kernel
theorem dX6_keepEntries_2 : decode cX6_keepEntries 2 = .ok (.iload_n 1, 1) := by decide +kernel
theorem dX6_keepEntries_3 : decode cX6_keepEntries 3 = .ok (.aload_n 0, 1) := by decide +kernel
theorem dX6_keepEntries_4 : decode cX6_keepEntries 4 = .ok (.getfield 110, 3) := by decide +kernel
theorem dX6_keepEntries_7 : decode cX6_keepEntries 7 = .ok (.if_icmp .ge 71, 3) := by decide +kernel
theorem dX6_keepEntries_10 : decode cX6_keepEntries 10 = .ok (.aload_n 0, 1) := by decide +kernel
theorem dX6_keepEntries_11 : decode cX6_keepEntries 11 = .ok (.getfield 65, 3) := by decide +kernel
theorem dX6_keepEntries_14 : decode cX6_keepEntries 14 = .ok (.iconst 4, 1) := by decide +kernel
theorem dX6_keepEntries_15 : decode cX6_keepEntries 15 = .ok (.iload_n 1, 1) := by decide +kernel
theorem dX6_keepEntries_16 : decode cX6_keepEntries 16 = .ok (.imul, 1) := by decide +kernel
theorem dX6_keepEntries_17 : decode cX6_keepEntries 17 = .ok (.aload_n 0, 1) := by decide +kernel
theorem dX6_keepEntries_18 : decode cX6_keepEntries 18 = .ok (.getfield 44, 3) := by decide +kernel
theorem dX6_keepEntries_21 : decode cX6_keepEntries 21 = .ok (.iload_n 1, 1) := by decide +kernel
theorem dX6_keepEntries_22 : decode cX6_keepEntries 22 = .ok (.iaload, 1) := by decide +kernel
theorem dX6_keepEntries_23 : decode cX6_keepEntries 23 = .ok (.iastore, 1) := by decide +kernel
theorem dX6_keepEntries_24 : decode cX6_keepEntries 24 = .ok (.aload_n 0, 1) := by decide +kernel
theorem dX6_keepEntries_25 : decode cX6_keepEntries 25 = .ok (.getfield 65, 3) := by decide +kernel
theorem dX6_keepEntries_28 : decode cX6_keepEntries 28 = .ok (.iconst 4, 1) := by decide +kernel
theorem dX6_keepEntries_29 : decode cX6_keepEntries 29 = .ok (.iload_n 1, 1) := by decide +kernel
theorem dX6_keepEntries_30 : decode cX6_keepEntries 30 = .ok (.imul, 1) := by decide +kernel
theorem dX6_keepEntries_31 : decode cX6_keepEntries 31 = .ok (.iconst 1, 1) := by decide +kernel
theorem dX6_keepEntries_32 : decode cX6_keepEntries 32 = .ok (.iadd, 1) := by decide +kernel
theorem dX6_keepEntries_33 : decode cX6_keepEntries 33 = .ok (.aload_n 0, 1) := by decide +kernel
theorem dX6_keepEntries_34 : decode cX6_keepEntries 34 = .ok (.getfield 47, 3) := by decide +kernel
theorem dX6_keepEntries_37 : decode cX6_keepEntries 37 = .ok (.iload_n 1, 1) := by decide +kernel
theorem dX6_keepEntries_38 : decode cX6_keepEntries 38 = .ok (.iaload, 1) := by decide +kernel
theorem dX6_keepEntries_39 : decode cX6_keepEntries 39 = .ok (.iastore, 1) := by decide +kernel
theorem dX6_keepEntries_40 : decode cX6_keepEntries 40 = .ok (.aload_n 0, 1) := by decide +kernel
theorem dX6_keepEntries_41 : decode cX6_keepEntries 41 = .ok (.getfield 65, 3) := by decide +kernel
theorem dX6_keepEntries_44 : decode cX6_keepEntries 44 = .ok (.iconst 4, 1) := by decide +kernel
theorem dX6_keepEntries_45 : decode cX6_keepEntries 45 = .ok (.iload_n 1, 1) := by decide +kernel
theorem dX6_keepEntries_46 : decode cX6_keepEntries 46 = .ok (.imul, 1) := by decide +kernel
theorem dX6_keepEntries_47 : decode cX6_keepEntries 47 = .ok (.iconst 2, 1) := by decide +kernel
theorem dX6_keepEntries_48 : decode cX6_keepEntries 48 = .ok (.iadd, 1) := by decide +kernel
theorem dX6_keepEntries_49 : decode cX6_keepEntries 49 = .ok (.aload_n 0, 1) := by decide +kernel
theorem dX6_keepEntries_50 : decode cX6_keepEntries 50 = .ok (.getfield 50, 3) := by decide +kernel
theorem dX6_keepEntries_53 : decode cX6_keepEntries 53 = .ok (.iload_n 1, 1) := by decide +kernel
theorem dX6_keepEntries_54 : decode cX6_keepEntries 54 = .ok (.iaload, 1) := by decide +kernel
theorem dX6_keepEntries_55 : decode cX6_keepEntries 55 = .ok (.iastore, 1) := by decide +kernel
theorem dX6_keepEntries_56 : decode cX6_keepEntries 56 = .ok (.aload_n 0, 1) := by decide +kernel
theorem dX6_keepEntries_57 : decode cX6_keepEntries 57 = .ok (.getfield 65, 3) := by decide +kernel
theorem dX6_keepEntries_60 : decode cX6_keepEntries 60 = .ok (.iconst 4, 1) := by decide +kernel
theorem dX6_keepEntries_61 : decode cX6_keepEntries 61 = .ok (.iload_n 1, 1) := by decide +kernel
theorem dX6_keepEntries_62 : decode cX6_keepEntries 62 = .ok (.imul, 1) := by decide +kernel
theorem dX6_keepEntries_63 : decode cX6_keepEntries 63 = .ok (.iconst 3, 1) := by decide +kernel
theorem dX6_keepEntries_64 : decode cX6_keepEntries 64 = .ok (.iadd, 1) := by decide +kernel
theorem dX6_keepEntries_65 : decode cX6_keepEntries 65 = .ok (.aload_n 0, 1) := by decide +kernel
theorem dX6_keepEntries_66 : decode cX6_keepEntries 66 = .ok (.getfield 53, 3) := by decide +kernel
theorem dX6_keepEntries_69 : decode cX6_keepEntries 69 = .ok (.iload_n 1, 1) := by decide +kernel
theorem dX6_keepEntries_70 : decode cX6_keepEntries 70 = .ok (.iaload, 1) := by decide +kernel
theorem dX6_keepEntries_71 : decode cX6_keepEntries 71 = .ok (.iastore, 1) := by decide +kernel
theorem dX6_keepEntries_72 : decode cX6_keepEntries 72 = .ok (.iinc 1 1, 3) := by decide +kernel
theorem dX6_keepEntries_75 : decode cX6_keepEntries 75 = .ok (.goto (-73), 3) := by decide +kernel
theorem dX6_keepEntries_78 : decode cX6_keepEntries 78 = .ok (.iconst 0, 1) := by decide +kernel
theorem dX6_keepEntries_79 : decode cX6_keepEntries 79 = .ok (.istore_n 1, 1) := by decide +kernel
theorem dX6_keepEntries_80 : decode cX6_keepEntries 80 = .ok (.iload_n 1, 1) := by decide +kernel
theorem dX6_keepEntries_81 : decode cX6_keepEntries 81 = .ok (.iconst 3, 1) := by decide +kernel
theorem dX6_keepEntries_82 : decode cX6_keepEntries 82 = .ok (.if_icmp .ge 25, 3) := by decide +kernel
theorem dX6_keepEntries_85 : decode cX6_keepEntries 85 = .ok (.aload_n 0, 1) := by decide +kernel
theorem dX6_keepEntries_86 : decode cX6_keepEntries 86 = .ok (.getfield 65, 3) := by decide +kernel
theorem dX6_keepEntries_89 : decode cX6_keepEntries 89 = .ok (.sipush 240, 3) := by decide +kernel
theorem dX6_keepEntries_92 : decode cX6_keepEntries 92 = .ok (.iload_n 1, 1) := by decide +kernel
theorem dX6_keepEntries_93 : decode cX6_keepEntries 93 = .ok (.iadd, 1) := by decide +kernel
theorem dX6_keepEntries_94 : decode cX6_keepEntries 94 = .ok (.aload_n 0, 1) := by decide +kernel
theorem dX6_keepEntries_95 : decode cX6_keepEntries 95 = .ok (.getfield 56, 3) := by decide +kernel
theorem dX6_keepEntries_98 : decode cX6_keepEntries 98 = .ok (.iload_n 1, 1) := by decide +kernel
theorem dX6_keepEntries_99 : decode cX6_keepEntries 99 = .ok (.iaload, 1) := by decide +kernel
theorem dX6_keepEntries_100 : decode cX6_keepEntries 100 = .ok (.iastore, 1) := by decide +kernel
theorem dX6_keepEntries_101 : decode cX6_keepEntries 101 = .ok (.iinc 1 1, 3) := by decide +kernel
theorem dX6_keepEntries_104 : decode cX6_keepEntries 104 = .ok (.goto (-24), 3) := by decide +kernel
theorem dX6_keepEntries_107 : decode cX6_keepEntries 107 = .ok (.aload_n 0, 1) := by decide +kernel
theorem dX6_keepEntries_108 : decode cX6_keepEntries 108 = .ok (.getfield 65, 3) := by decide +kernel
theorem dX6_keepEntries_111 : decode cX6_keepEntries 111 = .ok (.sipush 243, 3) := by decide +kernel
theorem dX6_keepEntries_114 : decode cX6_keepEntries 114 = .ok (.aload_n 0, 1) := by decide +kernel
theorem dX6_keepEntries_115 : decode cX6_keepEntries 115 = .ok (.getfield 110, 3) := by decide +kernel
theorem dX6_keepEntries_118 : decode cX6_keepEntries 118 = .ok (.iastore, 1) := by decide +kernel
theorem dX6_keepEntries_119 : decode cX6_keepEntries 119 = .ok (.return_, 1) := by decide +kernel
theorem dX6_backToEntries_0 : decode cX6_backToEntries 0 = .ok (.aload_n 0, 1) := by decide +kernel
theorem dX6_backToEntries_1 : decode cX6_backToEntries 1 = .ok (.aload_n 0, 1) := by decide +kernel
theorem dX6_backToEntries_2 : decode cX6_backToEntries 2 = .ok (.getfield 65, 3) := by decide +kernel
theorem dX6_backToEntries_5 : decode cX6_backToEntries 5 = .ok (.sipush 243, 3) := by decide +kernel
theorem dX6_backToEntries_8 : decode cX6_backToEntries 8 = .ok (.iaload, 1) := by decide +kernel
theorem dX6_backToEntries_9 : decode cX6_backToEntries 9 = .ok (.putfield 110, 3) := by decide +kernel
theorem dX6_backToEntries_12 : decode cX6_backToEntries 12 = .ok (.iconst 0, 1) := by decide +kernel
theorem dX6_backToEntries_13 : decode cX6_backToEntries 13 = .ok (.istore_n 1, 1) := by decide +kernel
theorem dX6_backToEntries_14 : decode cX6_backToEntries 14 = .ok (.iload_n 1, 1) := by decide +kernel
theorem dX6_backToEntries_15 : decode cX6_backToEntries 15 = .ok (.aload_n 0, 1) := by decide +kernel
theorem dX6_backToEntries_16 : decode cX6_backToEntries 16 = .ok (.getfield 110, 3) := by decide +kernel
theorem dX6_backToEntries_19 : decode cX6_backToEntries 19 = .ok (.if_icmp .ge 71, 3) := by decide +kernel
theorem dX6_backToEntries_22 : decode cX6_backToEntries 22 = .ok (.aload_n 0, 1) := by decide +kernel
theorem dX6_backToEntries_23 : decode cX6_backToEntries 23 = .ok (.getfield 44, 3) := by decide +kernel
theorem dX6_backToEntries_26 : decode cX6_backToEntries 26 = .ok (.iload_n 1, 1) := by decide +kernel
theorem dX6_backToEntries_27 : decode cX6_backToEntries 27 = .ok (.aload_n 0, 1) := by decide +kernel
theorem dX6_backToEntries_28 : decode cX6_backToEntries 28 = .ok (.getfield 65, 3) := by decide +kernel
theorem dX6_backToEntries_31 : decode cX6_backToEntries 31 = .ok (.iconst 4, 1) := by decide +kernel
theorem dX6_backToEntries_32 : decode cX6_backToEntries 32 = .ok (.iload_n 1, 1) := by decide +kernel
theorem dX6_backToEntries_33 : decode cX6_backToEntries 33 = .ok (.imul, 1) := by decide +kernel
theorem dX6_backToEntries_34 : decode cX6_backToEntries 34 = .ok (.iaload, 1) := by decide +kernel
theorem dX6_backToEntries_35 : decode cX6_backToEntries 35 = .ok (.iastore, 1) := by decide +kernel
theorem dX6_backToEntries_36 : decode cX6_backToEntries 36 = .ok (.aload_n 0, 1) := by decide +kernel
theorem dX6_backToEntries_37 : decode cX6_backToEntries 37 = .ok (.getfield 47, 3) := by decide +kernel
theorem dX6_backToEntries_40 : decode cX6_backToEntries 40 = .ok (.iload_n 1, 1) := by decide +kernel
theorem dX6_backToEntries_41 : decode cX6_backToEntries 41 = .ok (.aload_n 0, 1) := by decide +kernel
theorem dX6_backToEntries_42 : decode cX6_backToEntries 42 = .ok (.getfield 65, 3) := by decide +kernel
theorem dX6_backToEntries_45 : decode cX6_backToEntries 45 = .ok (.iconst 4, 1) := by decide +kernel
theorem dX6_backToEntries_46 : decode cX6_backToEntries 46 = .ok (.iload_n 1, 1) := by decide +kernel
theorem dX6_backToEntries_47 : decode cX6_backToEntries 47 = .ok (.imul, 1) := by decide +kernel
theorem dX6_backToEntries_48 : decode cX6_backToEntries 48 = .ok (.iconst 1, 1) := by decide +kernel
theorem dX6_backToEntries_49 : decode cX6_backToEntries 49 = .ok (.iadd, 1) := by decide +kernel
theorem dX6_backToEntries_50 : decode cX6_backToEntries 50 = .ok (.iaload, 1) := by decide +kernel
theorem dX6_backToEntries_51 : decode cX6_backToEntries 51 = .ok (.iastore, 1) := by decide +kernel
theorem dX6_backToEntries_52 : decode cX6_backToEntries 52 = .ok (.aload_n 0, 1) := by decide +kernel
theorem dX6_backToEntries_53 : decode cX6_backToEntries 53 = .ok (.getfield 50, 3) := by decide +kernel
theorem dX6_backToEntries_56 : decode cX6_backToEntries 56 = .ok (.iload_n 1, 1) := by decide +kernel
theorem dX6_backToEntries_57 : decode cX6_backToEntries 57 = .ok (.aload_n 0, 1) := by decide +kernel
theorem dX6_backToEntries_58 : decode cX6_backToEntries 58 = .ok (.getfield 65, 3) := by decide +kernel
theorem dX6_backToEntries_61 : decode cX6_backToEntries 61 = .ok (.iconst 4, 1) := by decide +kernel
theorem dX6_backToEntries_62 : decode cX6_backToEntries 62 = .ok (.iload_n 1, 1) := by decide +kernel
theorem dX6_backToEntries_63 : decode cX6_backToEntries 63 = .ok (.imul, 1) := by decide +kernel
theorem dX6_backToEntries_64 : decode cX6_backToEntries 64 = .ok (.iconst 2, 1) := by decide +kernel
theorem dX6_backToEntries_65 : decode cX6_backToEntries 65 = .ok (.iadd, 1) := by decide +kernel
theorem dX6_backToEntries_66 : decode cX6_backToEntries 66 = .ok (.iaload, 1) := by decide +kernel
theorem dX6_backToEntries_67 : decode cX6_backToEntries 67 = .ok (.iastore, 1) := by decide +kernel
theorem dX6_backToEntries_68 : decode cX6_backToEntries 68 = .ok (.aload_n 0, 1) := by decide +kernel
theorem dX6_backToEntries_69 : decode cX6_backToEntries 69 = .ok (.getfield 53, 3) := by decide +kernel
theorem dX6_backToEntries_72 : decode cX6_backToEntries 72 = .ok (.iload_n 1, 1) := by decide +kernel
theorem dX6_backToEntries_73 : decode cX6_backToEntries 73 = .ok (.aload_n 0, 1) := by decide +kernel
theorem dX6_backToEntries_74 : decode cX6_backToEntries 74 = .ok (.getfield 65, 3) := by decide +kernel
theorem dX6_backToEntries_77 : decode cX6_backToEntries 77 = .ok (.iconst 4, 1) := by decide +kernel
theorem dX6_backToEntries_78 : decode cX6_backToEntries 78 = .ok (.iload_n 1, 1) := by decide +kernel
theorem dX6_backToEntries_79 : decode cX6_backToEntries 79 = .ok (.imul, 1) := by decide +kernel
theorem dX6_backToEntries_80 : decode cX6_backToEntries 80 = .ok (.iconst 3, 1) := by decide +kernel
theorem dX6_backToEntries_81 : decode cX6_backToEntries 81 = .ok (.iadd, 1) := by decide +kernel
theorem dX6_backToEntries_82 : decode cX6_backToEntries 82 = .ok (.iaload, 1) := by decide +kernel
theorem dX6_backToEntries_83 : decode cX6_backToEntries 83 = .ok (.iastore, 1) := by decide +kernel
theorem dX6_backToEntries_84 : decode cX6_backToEntries 84 = .ok (.iinc 1 1, 3) := by decide +kernel
theorem dX6_backToEntries_87 : decode cX6_backToEntries 87 = .ok (.goto (-73), 3) := by decide +kernel
theorem dX6_backToEntries_90 : decode cX6_backToEntries 90 = .ok (.iconst 0, 1) := by decide +kernel
theorem dX6_backToEntries_91 : decode cX6_backToEntries 91 = .ok (.istore_n 1, 1) := by decide +kernel
theorem dX6_backToEntries_92 : decode cX6_backToEntries 92 = .ok (.iload_n 1, 1) := by decide +kernel
theorem dX6_backToEntries_93 : decode cX6_backToEntries 93 = .ok (.iconst 3, 1) := by decide +kernel
theorem dX6_backToEntries_94 : decode cX6_backToEntries 94 = .ok (.if_icmp .ge 25, 3) := by decide +kernel
theorem dX6_backToEntries_97 : decode cX6_backToEntries 97 = .ok (.aload_n 0, 1) := by decide +kernel
theorem dX6_backToEntries_98 : decode cX6_backToEntries 98 = .ok (.getfield 56, 3) := by decide +kernel
theorem dX6_backToEntries_101 : decode cX6_backToEntries 101 = .ok (.iload_n 1, 1) := by decide +kernel
theorem dX6_backToEntries_102 : decode cX6_backToEntries 102 = .ok (.aload_n 0, 1) := by decide +kernel
theorem dX6_backToEntries_103 : decode cX6_backToEntries 103 = .ok (.getfield 65, 3) := by decide +kernel
theorem dX6_backToEntries_106 : decode cX6_backToEntries 106 = .ok (.sipush 240, 3) := by decide +kernel
theorem dX6_backToEntries_109 : decode cX6_backToEntries 109 = .ok (.iload_n 1, 1) := by decide +kernel
theorem dX6_backToEntries_110 : decode cX6_backToEntries 110 = .ok (.iadd, 1) := by decide +kernel
theorem dX6_backToEntries_111 : decode cX6_backToEntries 111 = .ok (.iaload, 1) := by decide +kernel
theorem dX6_backToEntries_112 : decode cX6_backToEntries 112 = .ok (.iastore, 1) := by decide +kernel
theorem dX6_backToEntries_113 : decode cX6_backToEntries 113 = .ok (.iinc 1 1, 3) := by decide +kernel
theorem dX6_backToEntries_116 : decode cX6_backToEntries 116 = .ok (.goto (-24), 3) := by decide +kernel
theorem dX6_backToEntries_119 : decode cX6_backToEntries 119 = .ok (.return_, 1) := by decide +kernel
theorem dX6_run_0 : decode cX6_run 0 = .ok (.aload_n 0, 1) := by decide +kernel
theorem dX6_run_1 : decode cX6_run 1 = .ok (.getfield 7, 3) := by decide +kernel
theorem dX6_run_4 : decode cX6_run 4 = .ok (.aload_n 0, 1) := by decide +kernel
theorem dX6_run_5 : decode cX6_run 5 = .ok (.getfield 16, 3) := by decide +kernel
theorem dX6_run_8 : decode cX6_run 8 = .ok (.invokestatic 248, 3) := by decide +kernel
theorem dX6_run_11 : decode cX6_run 11 = .ok (.aload_n 0, 1) := by decide +kernel
theorem dX6_run_12 : decode cX6_run 12 = .ok (.invokevirtual 252, 3) := by decide +kernel
theorem dX6_run_15 : decode cX6_run 15 = .ok (.aload_n 0, 1) := by decide +kernel
theorem dX6_run_16 : decode cX6_run 16 = .ok (.getfield 103, 3) := by decide +kernel
theorem dX6_run_19 : decode cX6_run 19 = .ok (.istore_n 1, 1) := by decide +kernel
theorem dX6_run_20 : decode cX6_run 20 = .ok (.aload_n 0, 1) := by decide +kernel
theorem dX6_run_21 : decode cX6_run 21 = .ok (.getfield 31, 3) := by decide +kernel
theorem dX6_run_24 : decode cX6_run 24 = .ok (.bipush (-9), 2) := by decide +kernel
theorem dX6_run_26 : decode cX6_run 26 = .ok (.if_icmp .eq 18, 3) := by decide +kernel
theorem dX6_run_29 : decode cX6_run 29 = .ok (.aload_n 0, 1) := by decide +kernel
theorem dX6_run_30 : decode cX6_run 30 = .ok (.getfield 31, 3) := by decide +kernel
theorem dX6_run_33 : decode cX6_run 33 = .ok (.iload_n 1, 1) := by decide +kernel
theorem dX6_run_34 : decode cX6_run 34 = .ok (.if_icmp .ge 10, 3) := by decide +kernel
theorem dX6_run_37 : decode cX6_run 37 = .ok (.aload_n 0, 1) := by decide +kernel
theorem dX6_run_38 : decode cX6_run 38 = .ok (.getfield 31, 3) := by decide +kernel
theorem dX6_run_41 : decode cX6_run 41 = .ok (.goto 4, 3) := by decide +kernel
theorem dX6_run_44 : decode cX6_run 44 = .ok (.iload_n 1, 1) := by decide +kernel
theorem dX6_run_45 : decode cX6_run 45 = .ok (.istore_n 2, 1) := by decide +kernel
theorem dX6_run_46 : decode cX6_run 46 = .ok (.iconst 0, 1) := by decide +kernel
theorem dX6_run_47 : decode cX6_run 47 = .ok (.istore_n 3, 1) := by decide +kernel
theorem dX6_run_48 : decode cX6_run 48 = .ok (.aload_n 0, 1) := by decide +kernel
theorem dX6_run_49 : decode cX6_run 49 = .ok (.iconst 0, 1) := by decide +kernel
theorem dX6_run_50 : decode cX6_run 50 = .ok (.putfield 129, 3) := by decide +kernel
theorem dX6_run_53 : decode cX6_run 53 = .ok (.aload_n 0, 1) := by decide +kernel
theorem dX6_run_54 : decode cX6_run 54 = .ok (.getfield 129, 3) := by decide +kernel
theorem dX6_run_57 : decode cX6_run 57 = .ok (.iload_n 2, 1) := by decide +kernel
theorem dX6_run_58 : decode cX6_run 58 = .ok (.if_icmp .ge 89, 3) := by decide +kernel
theorem dX6_run_61 : decode cX6_run 61 = .ok (.aload_n 0, 1) := by decide +kernel
theorem dX6_run_62 : decode cX6_run 62 = .ok (.getfield 7, 3) := by decide +kernel
theorem dX6_run_65 : decode cX6_run 65 = .ok (.aload_n 0, 1) := by decide +kernel
theorem dX6_run_66 : decode cX6_run 66 = .ok (.getfield 13, 3) := by decide +kernel
theorem dX6_run_69 : decode cX6_run 69 = .ok (.invokestatic 248, 3) := by decide +kernel
theorem dX6_run_72 : decode cX6_run 72 = .ok (.aload_n 0, 1) := by decide +kernel
theorem dX6_run_73 : decode cX6_run 73 = .ok (.aload_n 0, 1) := by decide +kernel
theorem dX6_run_74 : decode cX6_run 74 = .ok (.getfield 129, 3) := by decide +kernel
theorem dX6_run_77 : decode cX6_run 77 = .ok (.invokevirtual 255, 3) := by decide +kernel
theorem dX6_run_80 : decode cX6_run 80 = .ok (.aload_n 0, 1) := by decide +kernel
theorem dX6_run_81 : decode cX6_run 81 = .ok (.getfield 35, 3) := by decide +kernel
theorem dX6_run_84 : decode cX6_run 84 = .ok (.aload_n 0, 1) := by decide +kernel
theorem dX6_run_85 : decode cX6_run 85 = .ok (.getfield 129, 3) := by decide +kernel
theorem dX6_run_88 : decode cX6_run 88 = .ok (.aload_n 0, 1) := by decide +kernel
theorem dX6_run_89 : decode cX6_run 89 = .ok (.invokevirtual 259, 3) := by decide +kernel
theorem dX6_run_92 : decode cX6_run 92 = .ok (.iastore, 1) := by decide +kernel
theorem dX6_run_93 : decode cX6_run 93 = .ok (.aload_n 0, 1) := by decide +kernel
theorem dX6_run_94 : decode cX6_run 94 = .ok (.getfield 35, 3) := by decide +kernel
theorem dX6_run_97 : decode cX6_run 97 = .ok (.aload_n 0, 1) := by decide +kernel
theorem dX6_run_98 : decode cX6_run 98 = .ok (.getfield 129, 3) := by decide +kernel
theorem dX6_run_101 : decode cX6_run 101 = .ok (.iaload, 1) := by decide +kernel
theorem dX6_run_102 : decode cX6_run 102 = .ok (.ifCond .ne 13, 3) := by decide +kernel
theorem dX6_run_105 : decode cX6_run 105 = .ok (.iinc 3 1, 3) := by decide +kernel
theorem dX6_run_108 : decode cX6_run 108 = .ok (.aload_n 0, 1) := by decide +kernel
theorem dX6_run_109 : decode cX6_run 109 = .ok (.invokevirtual 262, 3) := by decide +kernel
theorem dX6_run_112 : decode cX6_run 112 = .ok (.goto 22, 3) := by decide +kernel
theorem dX6_run_115 : decode cX6_run 115 = .ok (.aload_n 0, 1) := by decide +kernel
theorem dX6_run_116 : decode cX6_run 116 = .ok (.aload_n 0, 1) := by decide +kernel
theorem dX6_run_117 : decode cX6_run 117 = .ok (.getfield 129, 3) := by decide +kernel
theorem dX6_run_120 : decode cX6_run 120 = .ok (.invokevirtual 255, 3) := by decide +kernel
theorem dX6_run_123 : decode cX6_run 123 = .ok (.aload_n 0, 1) := by decide +kernel
theorem dX6_run_124 : decode cX6_run 124 = .ok (.getfield 13, 3) := by decide +kernel
theorem dX6_run_127 : decode cX6_run 127 = .ok (.aload_n 0, 1) := by decide +kernel
theorem dX6_run_128 : decode cX6_run 128 = .ok (.getfield 7, 3) := by decide +kernel
theorem dX6_run_131 : decode cX6_run 131 = .ok (.invokestatic 248, 3) := by decide +kernel
theorem dX6_run_134 : decode cX6_run 134 = .ok (.aload_n 0, 1) := by decide +kernel
theorem dX6_run_135 : decode cX6_run 135 = .ok (.dup, 1) := by decide +kernel
theorem dX6_run_136 : decode cX6_run 136 = .ok (.getfield 129, 3) := by decide +kernel
theorem dX6_run_139 : decode cX6_run 139 = .ok (.iconst 1, 1) := by decide +kernel
theorem dX6_run_140 : decode cX6_run 140 = .ok (.iadd, 1) := by decide +kernel
theorem dX6_run_141 : decode cX6_run 141 = .ok (.putfield 129, 3) := by decide +kernel
theorem dX6_run_144 : decode cX6_run 144 = .ok (.goto (-91), 3) := by decide +kernel
theorem dX6_run_147 : decode cX6_run 147 = .ok (.aload_n 0, 1) := by decide +kernel
theorem dX6_run_148 : decode cX6_run 148 = .ok (.iconst 0, 1) := by decide +kernel
theorem dX6_run_149 : decode cX6_run 149 = .ok (.putfield 103, 3) := by decide +kernel
theorem dX6_run_152 : decode cX6_run 152 = .ok (.aload_n 0, 1) := by decide +kernel
theorem dX6_run_153 : decode cX6_run 153 = .ok (.iload_n 1, 1) := by decide +kernel
theorem dX6_run_154 : decode cX6_run 154 = .ok (.putfield 265, 3) := by decide +kernel
theorem dX6_run_157 : decode cX6_run 157 = .ok (.aload_n 0, 1) := by decide +kernel
theorem dX6_run_158 : decode cX6_run 158 = .ok (.getfield 31, 3) := by decide +kernel
theorem dX6_run_161 : decode cX6_run 161 = .ok (.bipush (-9), 2) := by decide +kernel
theorem dX6_run_163 : decode cX6_run 163 = .ok (.if_icmp .eq 32, 3) := by decide +kernel
theorem dX6_run_166 : decode cX6_run 166 = .ok (.aload_n 0, 1) := by decide +kernel
theorem dX6_run_167 : decode cX6_run 167 = .ok (.bipush (-9), 2) := by decide +kernel
theorem dX6_run_169 : decode cX6_run 169 = .ok (.putfield 31, 3) := by decide +kernel
theorem dX6_run_172 : decode cX6_run 172 = .ok (.aload_n 0, 1) := by decide +kernel
theorem dX6_run_173 : decode cX6_run 173 = .ok (.iconst 0, 1) := by decide +kernel
theorem dX6_run_174 : decode cX6_run 174 = .ok (.putfield 265, 3) := by decide +kernel
theorem dX6_run_177 : decode cX6_run 177 = .ok (.aload_n 0, 1) := by decide +kernel
theorem dX6_run_178 : decode cX6_run 178 = .ok (.getfield 16, 3) := by decide +kernel
theorem dX6_run_181 : decode cX6_run 181 = .ok (.aload_n 0, 1) := by decide +kernel
theorem dX6_run_182 : decode cX6_run 182 = .ok (.getfield 7, 3) := by decide +kernel
theorem dX6_run_185 : decode cX6_run 185 = .ok (.invokestatic 248, 3) := by decide +kernel
theorem dX6_run_188 : decode cX6_run 188 = .ok (.aload_n 0, 1) := by decide +kernel
theorem dX6_run_189 : decode cX6_run 189 = .ok (.invokevirtual 268, 3) := by decide +kernel
theorem dX6_run_192 : decode cX6_run 192 = .ok (.bipush (-9), 2) := by decide +kernel
theorem dX6_run_194 : decode cX6_run 194 = .ok (.ireturn, 1) := by decide +kernel
theorem dX6_run_195 : decode cX6_run 195 = .ok (.iload_n 3, 1) := by decide +kernel
theorem dX6_run_196 : decode cX6_run 196 = .ok (.ireturn, 1) := by decide +kernel
theorem dX6_isCall_0 : decode cX6_isCall 0 = .ok (.iload_n 1, 1) := by decide +kernel
theorem dX6_isCall_1 : decode cX6_isCall 1 = .ok (.ifCond .lt 15, 3) := by decide +kernel
theorem dX6_isCall_4 : decode cX6_isCall 4 = .ok (.iload_n 1, 1) := by decide +kernel
theorem dX6_isCall_5 : decode cX6_isCall 5 = .ok (.aload_n 0, 1) := by decide +kernel
theorem dX6_isCall_6 : decode cX6_isCall 6 = .ok (.getfield 265, 3) := by decide +kernel
theorem dX6_isCall_9 : decode cX6_isCall 9 = .ok (.if_icmp .ge 7, 3) := by decide +kernel
theorem dX6_isCall_12 : decode cX6_isCall 12 = .ok (.iconst 1, 1) := by decide +kernel
theorem dX6_isCall_13 : decode cX6_isCall 13 = .ok (.goto 4, 3) := by decide +kernel
theorem dX6_isCall_16 : decode cX6_isCall 16 = .ok (.iconst 0, 1) := by decide +kernel
theorem dX6_isCall_17 : decode cX6_isCall 17 = .ok (.ireturn, 1) := by decide +kernel
theorem dX6_status_0 : decode cX6_status 0 = .ok (.aload_n 0, 1) := by decide +kernel
theorem dX6_status_1 : decode cX6_status 1 = .ok (.iload_n 1, 1) := by decide +kernel
theorem dX6_status_2 : decode cX6_status 2 = .ok (.invokevirtual 271, 3) := by decide +kernel
theorem dX6_status_5 : decode cX6_status 5 = .ok (.ifCond .eq 12, 3) := by decide +kernel
theorem dX6_status_8 : decode cX6_status 8 = .ok (.aload_n 0, 1) := by decide +kernel
theorem dX6_status_9 : decode cX6_status 9 = .ok (.getfield 35, 3) := by decide +kernel
theorem dX6_status_12 : decode cX6_status 12 = .ok (.iload_n 1, 1) := by decide +kernel
theorem dX6_status_13 : decode cX6_status 13 = .ok (.iaload, 1) := by decide +kernel
theorem dX6_status_14 : decode cX6_status 14 = .ok (.goto 5, 3) := by decide +kernel
theorem dX6_status_17 : decode cX6_status 17 = .ok (.bipush (-9), 2) := by decide +kernel
theorem dX6_status_19 : decode cX6_status 19 = .ok (.ireturn, 1) := by decide +kernel
theorem dX6_many_0 : decode cX6_many 0 = .ok (.aload_n 0, 1) := by decide +kernel
theorem dX6_many_1 : decode cX6_many 1 = .ok (.iload_n 1, 1) := by decide +kernel
theorem dX6_many_2 : decode cX6_many 2 = .ok (.invokevirtual 271, 3) := by decide +kernel
theorem dX6_many_5 : decode cX6_many 5 = .ok (.ifCond .eq 25, 3) := by decide +kernel
theorem dX6_many_8 : decode cX6_many 8 = .ok (.iload_n 2, 1) := by decide +kernel
theorem dX6_many_9 : decode cX6_many 9 = .ok (.iconst 0, 1) := by decide +kernel
theorem dX6_many_10 : decode cX6_many 10 = .ok (.iconst 3, 1) := by decide +kernel
theorem dX6_many_11 : decode cX6_many 11 = .ok (.invokestatic 99, 3) := by decide +kernel
theorem dX6_many_14 : decode cX6_many 14 = .ok (.ifCond .eq 16, 3) := by decide +kernel
theorem dX6_many_17 : decode cX6_many 17 = .ok (.aload_n 0, 1) := by decide +kernel
theorem dX6_many_18 : decode cX6_many 18 = .ok (.getfield 38, 3) := by decide +kernel
theorem dX6_many_21 : decode cX6_many 21 = .ok (.iconst 4, 1) := by decide +kernel
theorem dX6_many_22 : decode cX6_many 22 = .ok (.iload_n 1, 1) := by decide +kernel
theorem dX6_many_23 : decode cX6_many 23 = .ok (.imul, 1) := by decide +kernel
theorem dX6_many_24 : decode cX6_many 24 = .ok (.iload_n 2, 1) := by decide +kernel
theorem dX6_many_25 : decode cX6_many 25 = .ok (.iadd, 1) := by decide +kernel
theorem dX6_many_26 : decode cX6_many 26 = .ok (.iaload, 1) := by decide +kernel
theorem dX6_many_27 : decode cX6_many 27 = .ok (.goto 4, 3) := by decide +kernel
theorem dX6_many_30 : decode cX6_many 30 = .ok (.iconst (-1), 1) := by decide +kernel
theorem dX6_many_31 : decode cX6_many 31 = .ok (.ireturn, 1) := by decide +kernel
theorem dX6_given_0 : decode cX6_given 0 = .ok (.aload_n 0, 1) := by decide +kernel
theorem dX6_given_1 : decode cX6_given 1 = .ok (.iload_n 1, 1) := by decide +kernel
theorem dX6_given_2 : decode cX6_given 2 = .ok (.invokevirtual 271, 3) := by decide +kernel
theorem dX6_given_5 : decode cX6_given 5 = .ok (.ifCond .eq 48, 3) := by decide +kernel
theorem dX6_given_8 : decode cX6_given 8 = .ok (.iload_n 2, 1) := by decide +kernel
theorem dX6_given_9 : decode cX6_given 9 = .ok (.iconst 0, 1) := by decide +kernel
theorem dX6_given_10 : decode cX6_given 10 = .ok (.iconst 3, 1) := by decide +kernel
theorem dX6_given_11 : decode cX6_given 11 = .ok (.invokestatic 99, 3) := by decide +kernel
theorem dX6_given_14 : decode cX6_given 14 = .ok (.ifCond .eq 39, 3) := by decide +kernel
theorem dX6_given_17 : decode cX6_given 17 = .ok (.iload_n 3, 1) := by decide +kernel
theorem dX6_given_18 : decode cX6_given 18 = .ok (.ifCond .lt 35, 3) := by decide +kernel
theorem dX6_given_21 : decode cX6_given 21 = .ok (.iload_n 3, 1) := by decide +kernel
theorem dX6_given_22 : decode cX6_given 22 = .ok (.aload_n 0, 1) := by decide +kernel
theorem dX6_given_23 : decode cX6_given 23 = .ok (.getfield 38, 3) := by decide +kernel
theorem dX6_given_26 : decode cX6_given 26 = .ok (.iconst 4, 1) := by decide +kernel
theorem dX6_given_27 : decode cX6_given 27 = .ok (.iload_n 1, 1) := by decide +kernel
theorem dX6_given_28 : decode cX6_given 28 = .ok (.imul, 1) := by decide +kernel
theorem dX6_given_29 : decode cX6_given 29 = .ok (.iload_n 2, 1) := by decide +kernel
theorem dX6_given_30 : decode cX6_given 30 = .ok (.iadd, 1) := by decide +kernel
theorem dX6_given_31 : decode cX6_given 31 = .ok (.iaload, 1) := by decide +kernel
theorem dX6_given_32 : decode cX6_given 32 = .ok (.if_icmp .ge 21, 3) := by decide +kernel
theorem dX6_given_35 : decode cX6_given 35 = .ok (.aload_n 0, 1) := by decide +kernel
theorem dX6_given_36 : decode cX6_given 36 = .ok (.getfield 41, 3) := by decide +kernel
theorem dX6_given_39 : decode cX6_given 39 = .ok (.bipush 50, 2) := by decide +kernel
theorem dX6_given_41 : decode cX6_given 41 = .ok (.iconst 4, 1) := by decide +kernel
theorem dX6_given_42 : decode cX6_given 42 = .ok (.iload_n 1, 1) := by decide +kernel
theorem dX6_given_43 : decode cX6_given 43 = .ok (.imul, 1) := by decide +kernel
theorem dX6_given_44 : decode cX6_given 44 = .ok (.iload_n 2, 1) := by decide +kernel
theorem dX6_given_45 : decode cX6_given 45 = .ok (.iadd, 1) := by decide +kernel
theorem dX6_given_46 : decode cX6_given 46 = .ok (.imul, 1) := by decide +kernel
theorem dX6_given_47 : decode cX6_given 47 = .ok (.iload_n 3, 1) := by decide +kernel
theorem dX6_given_48 : decode cX6_given 48 = .ok (.iadd, 1) := by decide +kernel
theorem dX6_given_49 : decode cX6_given 49 = .ok (.iaload, 1) := by decide +kernel
theorem dX6_given_50 : decode cX6_given 50 = .ok (.goto 4, 3) := by decide +kernel
theorem dX6_given_53 : decode cX6_given 53 = .ok (.iconst (-1), 1) := by decide +kernel
theorem dX6_given_54 : decode cX6_given 54 = .ok (.ireturn, 1) := by decide +kernel
theorem dX6_state_0 : decode cX6_state 0 = .ok (.iload_n 1, 1) := by decide +kernel
theorem dX6_state_1 : decode cX6_state 1 = .ok (.iconst 0, 1) := by decide +kernel
theorem dX6_state_2 : decode cX6_state 2 = .ok (.iconst 2, 1) := by decide +kernel
theorem dX6_state_3 : decode cX6_state 3 = .ok (.invokestatic 99, 3) := by decide +kernel
theorem dX6_state_6 : decode cX6_state 6 = .ok (.ifCond .eq 16, 3) := by decide +kernel
theorem dX6_state_9 : decode cX6_state 9 = .ok (.aload_n 0, 1) := by decide +kernel
theorem dX6_state_10 : decode cX6_state 10 = .ok (.getfield 7, 3) := by decide +kernel
theorem dX6_state_13 : decode cX6_state 13 = .ok (.sipush 583, 3) := by decide +kernel
theorem dX6_state_16 : decode cX6_state 16 = .ok (.iload_n 1, 1) := by decide +kernel
theorem dX6_state_17 : decode cX6_state 17 = .ok (.iadd, 1) := by decide +kernel
theorem dX6_state_18 : decode cX6_state 18 = .ok (.iaload, 1) := by decide +kernel
theorem dX6_state_19 : decode cX6_state 19 = .ok (.goto 4, 3) := by decide +kernel
theorem dX6_state_22 : decode cX6_state 22 = .ok (.iconst (-1), 1) := by decide +kernel
theorem dX6_state_23 : decode cX6_state 23 = .ok (.ireturn, 1) := by decide +kernel
theorem dX6_thereOf_0 : decode cX6_thereOf 0 = .ok (.iconst 0, 1) := by decide +kernel
theorem dX6_thereOf_1 : decode cX6_thereOf 1 = .ok (.istore_n 2, 1) := by decide +kernel
theorem dX6_thereOf_2 : decode cX6_thereOf 2 = .ok (.iconst 0, 1) := by decide +kernel
theorem dX6_thereOf_3 : decode cX6_thereOf 3 = .ok (.istore_n 3, 1) := by decide +kernel
theorem dX6_thereOf_4 : decode cX6_thereOf 4 = .ok (.iload_n 3, 1) := by decide +kernel
theorem dX6_thereOf_5 : decode cX6_thereOf 5 = .ok (.aload_n 0, 1) := by decide +kernel
theorem dX6_thereOf_6 : decode cX6_thereOf 6 = .ok (.getfield 7, 3) := by decide +kernel
theorem dX6_thereOf_9 : decode cX6_thereOf 9 = .ok (.sipush 580, 3) := by decide +kernel
theorem dX6_thereOf_12 : decode cX6_thereOf 12 = .ok (.iload_n 1, 1) := by decide +kernel
theorem dX6_thereOf_13 : decode cX6_thereOf 13 = .ok (.iadd, 1) := by decide +kernel
theorem dX6_thereOf_14 : decode cX6_thereOf 14 = .ok (.iaload, 1) := by decide +kernel
theorem dX6_thereOf_15 : decode cX6_thereOf 15 = .ok (.if_icmp .ge 30, 3) := by decide +kernel
theorem dX6_thereOf_18 : decode cX6_thereOf 18 = .ok (.iload_n 2, 1) := by decide +kernel
theorem dX6_thereOf_19 : decode cX6_thereOf 19 = .ok (.aload_n 0, 1) := by decide +kernel
theorem dX6_thereOf_20 : decode cX6_thereOf 20 = .ok (.aload_n 0, 1) := by decide +kernel
theorem dX6_thereOf_21 : decode cX6_thereOf 21 = .ok (.getfield 7, 3) := by decide +kernel
theorem dX6_thereOf_24 : decode cX6_thereOf 24 = .ok (.iload_n 1, 1) := by decide +kernel
theorem dX6_thereOf_25 : decode cX6_thereOf 25 = .ok (.iload_n 3, 1) := by decide +kernel
theorem dX6_thereOf_26 : decode cX6_thereOf 26 = .ok (.invokevirtual 113, 3) := by decide +kernel
theorem dX6_thereOf_29 : decode cX6_thereOf 29 = .ok (.ifCond .eq 7, 3) := by decide +kernel
theorem dX6_thereOf_32 : decode cX6_thereOf 32 = .ok (.iconst 1, 1) := by decide +kernel
theorem dX6_thereOf_33 : decode cX6_thereOf 33 = .ok (.goto 4, 3) := by decide +kernel
theorem dX6_thereOf_36 : decode cX6_thereOf 36 = .ok (.iconst 0, 1) := by decide +kernel
theorem dX6_thereOf_37 : decode cX6_thereOf 37 = .ok (.iadd, 1) := by decide +kernel
theorem dX6_thereOf_38 : decode cX6_thereOf 38 = .ok (.istore_n 2, 1) := by decide +kernel
theorem dX6_thereOf_39 : decode cX6_thereOf 39 = .ok (.iinc 3 1, 3) := by decide +kernel
theorem dX6_thereOf_42 : decode cX6_thereOf 42 = .ok (.goto (-38), 3) := by decide +kernel
theorem dX6_thereOf_45 : decode cX6_thereOf 45 = .ok (.iload_n 2, 1) := by decide +kernel
theorem dX6_thereOf_46 : decode cX6_thereOf 46 = .ok (.ireturn, 1) := by decide +kernel
theorem dX6_told_0 : decode cX6_told 0 = .ok (.iload_n 1, 1) := by decide +kernel
theorem dX6_told_1 : decode cX6_told 1 = .ok (.tableswitch 107 0 12 #[67, 67, 67, 73, 78, 83, 88, 107, 107, 107, 93, 93, 93], 67) := by decide +kernel
theorem dX6_told_68 : decode cX6_told 68 = .ok (.aload_n 0, 1) := by decide +kernel
theorem dX6_told_69 : decode cX6_told 69 = .ok (.iload_n 1, 1) := by decide +kernel
theorem dX6_told_70 : decode cX6_told 70 = .ok (.invokevirtual 274, 3) := by decide +kernel
theorem dX6_told_73 : decode cX6_told 73 = .ok (.ireturn, 1) := by decide +kernel
theorem dX6_told_74 : decode cX6_told 74 = .ok (.aload_n 0, 1) := by decide +kernel
theorem dX6_told_75 : decode cX6_told 75 = .ok (.getfield 103, 3) := by decide +kernel
theorem dX6_told_78 : decode cX6_told 78 = .ok (.ireturn, 1) := by decide +kernel
theorem dX6_told_79 : decode cX6_told 79 = .ok (.aload_n 0, 1) := by decide +kernel
theorem dX6_told_80 : decode cX6_told 80 = .ok (.getfield 265, 3) := by decide +kernel
theorem dX6_told_83 : decode cX6_told 83 = .ok (.ireturn, 1) := by decide +kernel
theorem dX6_told_84 : decode cX6_told 84 = .ok (.aload_n 0, 1) := by decide +kernel
theorem dX6_told_85 : decode cX6_told 85 = .ok (.getfield 110, 3) := by decide +kernel
theorem dX6_told_88 : decode cX6_told 88 = .ok (.ireturn, 1) := by decide +kernel
theorem dX6_told_89 : decode cX6_told 89 = .ok (.aload_n 0, 1) := by decide +kernel
theorem dX6_told_90 : decode cX6_told 90 = .ok (.getfield 166, 3) := by decide +kernel
theorem dX6_told_93 : decode cX6_told 93 = .ok (.ireturn, 1) := by decide +kernel
theorem dX6_told_94 : decode cX6_told 94 = .ok (.aload_n 0, 1) := by decide +kernel
theorem dX6_told_95 : decode cX6_told 95 = .ok (.getfield 7, 3) := by decide +kernel
theorem dX6_told_98 : decode cX6_told 98 = .ok (.sipush 580, 3) := by decide +kernel
theorem dX6_told_101 : decode cX6_told 101 = .ok (.iload_n 1, 1) := by decide +kernel
theorem dX6_told_102 : decode cX6_told 102 = .ok (.iadd, 1) := by decide +kernel
theorem dX6_told_103 : decode cX6_told 103 = .ok (.bipush 10, 2) := by decide +kernel
theorem dX6_told_105 : decode cX6_told 105 = .ok (.isub, 1) := by decide +kernel
theorem dX6_told_106 : decode cX6_told 106 = .ok (.iaload, 1) := by decide +kernel
theorem dX6_told_107 : decode cX6_told 107 = .ok (.ireturn, 1) := by decide +kernel
theorem dX6_told_108 : decode cX6_told 108 = .ok (.bipush (-2), 2) := by decide +kernel
theorem dX6_told_110 : decode cX6_told 110 = .ok (.ireturn, 1) := by decide +kernel
theorem dX6_box_0 : decode cX6_box 0 = .ok (.aload_n 0, 1) := by decide +kernel
theorem dX6_box_1 : decode cX6_box 1 = .ok (.aload_n 0, 1) := by decide +kernel
theorem dX6_box_2 : decode cX6_box 2 = .ok (.getfield 7, 3) := by decide +kernel
theorem dX6_box_5 : decode cX6_box 5 = .ok (.iload_n 1, 1) := by decide +kernel
theorem dX6_box_6 : decode cX6_box 6 = .ok (.invokevirtual 89, 3) := by decide +kernel
theorem dX6_box_9 : decode cX6_box 9 = .ok (.ifCond .ne 5, 3) := by decide +kernel
theorem dX6_box_12 : decode cX6_box 12 = .ok (.iconst (-1), 1) := by decide +kernel
theorem dX6_box_13 : decode cX6_box 13 = .ok (.ireturn, 1) := by decide +kernel
theorem dX6_box_14 : decode cX6_box 14 = .ok (.iconst 0, 1) := by decide +kernel
theorem dX6_box_15 : decode cX6_box 15 = .ok (.istore_n 3, 1) := by decide +kernel
theorem dX6_box_16 : decode cX6_box 16 = .ok (.iload_n 2, 1) := by decide +kernel
theorem dX6_box_17 : decode cX6_box 17 = .ok (.tableswitch 207 0 5 #[39, 50, 61, 72, 137, 197], 39) := by decide +kernel
theorem dX6_box_56 : decode cX6_box 56 = .ok (.aload_n 0, 1) := by decide +kernel
theorem dX6_box_57 : decode cX6_box 57 = .ok (.aload_n 0, 1) := by decide +kernel
theorem dX6_box_58 : decode cX6_box 58 = .ok (.getfield 7, 3) := by decide +kernel
theorem dX6_box_61 : decode cX6_box 61 = .ok (.iload_n 1, 1) := by decide +kernel
theorem dX6_box_62 : decode cX6_box 62 = .ok (.iconst 1, 1) := by decide +kernel
theorem dX6_box_63 : decode cX6_box 63 = .ok (.invokevirtual 96, 3) := by decide +kernel
theorem dX6_box_66 : decode cX6_box 66 = .ok (.ireturn, 1) := by decide +kernel
theorem dX6_box_67 : decode cX6_box 67 = .ok (.aload_n 0, 1) := by decide +kernel
theorem dX6_box_68 : decode cX6_box 68 = .ok (.aload_n 0, 1) := by decide +kernel
theorem dX6_box_69 : decode cX6_box 69 = .ok (.getfield 7, 3) := by decide +kernel
theorem dX6_box_72 : decode cX6_box 72 = .ok (.iload_n 1, 1) := by decide +kernel
theorem dX6_box_73 : decode cX6_box 73 = .ok (.iconst 2, 1) := by decide +kernel
theorem dX6_box_74 : decode cX6_box 74 = .ok (.invokevirtual 96, 3) := by decide +kernel
theorem dX6_box_77 : decode cX6_box 77 = .ok (.ireturn, 1) := by decide +kernel
theorem dX6_box_78 : decode cX6_box 78 = .ok (.aload_n 0, 1) := by decide +kernel
theorem dX6_box_79 : decode cX6_box 79 = .ok (.aload_n 0, 1) := by decide +kernel
theorem dX6_box_80 : decode cX6_box 80 = .ok (.getfield 7, 3) := by decide +kernel
theorem dX6_box_83 : decode cX6_box 83 = .ok (.iload_n 1, 1) := by decide +kernel
theorem dX6_box_84 : decode cX6_box 84 = .ok (.iconst 3, 1) := by decide +kernel
theorem dX6_box_85 : decode cX6_box 85 = .ok (.invokevirtual 96, 3) := by decide +kernel
theorem dX6_box_88 : decode cX6_box 88 = .ok (.ireturn, 1) := by decide +kernel
theorem dX6_box_89 : decode cX6_box 89 = .ok (.iconst 0, 1) := by decide +kernel
theorem dX6_box_90 : decode cX6_box 90 = .ok (.istore 4, 2) := by decide +kernel
theorem dX6_box_92 : decode cX6_box 92 = .ok (.iload 4, 2) := by decide +kernel
theorem dX6_box_94 : decode cX6_box 94 = .ok (.aload_n 0, 1) := by decide +kernel
theorem dX6_box_95 : decode cX6_box 95 = .ok (.getfield 7, 3) := by decide +kernel
theorem dX6_box_98 : decode cX6_box 98 = .ok (.sipush 581, 3) := by decide +kernel
theorem dX6_box_101 : decode cX6_box 101 = .ok (.iaload, 1) := by decide +kernel
theorem dX6_box_102 : decode cX6_box 102 = .ok (.if_icmp .ge 50, 3) := by decide +kernel
theorem dX6_box_105 : decode cX6_box 105 = .ok (.iload_n 3, 1) := by decide +kernel
theorem dX6_box_106 : decode cX6_box 106 = .ok (.aload_n 0, 1) := by decide +kernel
theorem dX6_box_107 : decode cX6_box 107 = .ok (.aload_n 0, 1) := by decide +kernel
theorem dX6_box_108 : decode cX6_box 108 = .ok (.getfield 7, 3) := by decide +kernel
theorem dX6_box_111 : decode cX6_box 111 = .ok (.iload 4, 2) := by decide +kernel
theorem dX6_box_113 : decode cX6_box 113 = .ok (.invokevirtual 81, 3) := by decide +kernel
theorem dX6_box_116 : decode cX6_box 116 = .ok (.ifCond .eq 27, 3) := by decide +kernel
theorem dX6_box_119 : decode cX6_box 119 = .ok (.aload_n 0, 1) := by decide +kernel
theorem dX6_box_120 : decode cX6_box 120 = .ok (.aload_n 0, 1) := by decide +kernel
theorem dX6_box_121 : decode cX6_box 121 = .ok (.getfield 7, 3) := by decide +kernel
theorem dX6_box_124 : decode cX6_box 124 = .ok (.iload 4, 2) := by decide +kernel
theorem dX6_box_126 : decode cX6_box 126 = .ok (.bipush 9, 2) := by decide +kernel
theorem dX6_box_128 : decode cX6_box 128 = .ok (.invokevirtual 85, 3) := by decide +kernel
theorem dX6_box_131 : decode cX6_box 131 = .ok (.iload_n 1, 1) := by decide +kernel
theorem dX6_box_132 : decode cX6_box 132 = .ok (.ishr, 1) := by decide +kernel
theorem dX6_box_133 : decode cX6_box 133 = .ok (.iconst 1, 1) := by decide +kernel
theorem dX6_box_134 : decode cX6_box 134 = .ok (.iand, 1) := by decide +kernel
theorem dX6_box_135 : decode cX6_box 135 = .ok (.iconst 1, 1) := by decide +kernel
theorem dX6_box_136 : decode cX6_box 136 = .ok (.if_icmp .ne 7, 3) := by decide +kernel
theorem dX6_box_139 : decode cX6_box 139 = .ok (.iconst 1, 1) := by decide +kernel
theorem dX6_box_140 : decode cX6_box 140 = .ok (.goto 4, 3) := by decide +kernel
theorem dX6_box_143 : decode cX6_box 143 = .ok (.iconst 0, 1) := by decide +kernel
theorem dX6_box_144 : decode cX6_box 144 = .ok (.iadd, 1) := by decide +kernel
theorem dX6_box_145 : decode cX6_box 145 = .ok (.istore_n 3, 1) := by decide +kernel
theorem dX6_box_146 : decode cX6_box 146 = .ok (.iinc 4 1, 3) := by decide +kernel
theorem dX6_box_149 : decode cX6_box 149 = .ok (.goto (-57), 3) := by decide +kernel
theorem dX6_box_152 : decode cX6_box 152 = .ok (.iload_n 3, 1) := by decide +kernel
theorem dX6_box_153 : decode cX6_box 153 = .ok (.ireturn, 1) := by decide +kernel
theorem dX6_box_154 : decode cX6_box 154 = .ok (.iconst 0, 1) := by decide +kernel
theorem dX6_box_155 : decode cX6_box 155 = .ok (.istore 4, 2) := by decide +kernel
theorem dX6_box_157 : decode cX6_box 157 = .ok (.iload 4, 2) := by decide +kernel
theorem dX6_box_159 : decode cX6_box 159 = .ok (.aload_n 0, 1) := by decide +kernel
theorem dX6_box_160 : decode cX6_box 160 = .ok (.getfield 7, 3) := by decide +kernel
theorem dX6_box_163 : decode cX6_box 163 = .ok (.sipush 580, 3) := by decide +kernel
theorem dX6_box_166 : decode cX6_box 166 = .ok (.iaload, 1) := by decide +kernel
theorem dX6_box_167 : decode cX6_box 167 = .ok (.if_icmp .ge 45, 3) := by decide +kernel
theorem dX6_box_170 : decode cX6_box 170 = .ok (.iload_n 3, 1) := by decide +kernel
theorem dX6_box_171 : decode cX6_box 171 = .ok (.aload_n 0, 1) := by decide +kernel
theorem dX6_box_172 : decode cX6_box 172 = .ok (.aload_n 0, 1) := by decide +kernel
theorem dX6_box_173 : decode cX6_box 173 = .ok (.getfield 7, 3) := by decide +kernel
theorem dX6_box_176 : decode cX6_box 176 = .ok (.iload 4, 2) := by decide +kernel
theorem dX6_box_178 : decode cX6_box 178 = .ok (.invokevirtual 89, 3) := by decide +kernel
theorem dX6_box_181 : decode cX6_box 181 = .ok (.ifCond .eq 22, 3) := by decide +kernel
theorem dX6_box_184 : decode cX6_box 184 = .ok (.aload_n 0, 1) := by decide +kernel
theorem dX6_box_185 : decode cX6_box 185 = .ok (.aload_n 0, 1) := by decide +kernel
theorem dX6_box_186 : decode cX6_box 186 = .ok (.getfield 7, 3) := by decide +kernel
theorem dX6_box_189 : decode cX6_box 189 = .ok (.iload 4, 2) := by decide +kernel
theorem dX6_box_191 : decode cX6_box 191 = .ok (.iconst 2, 1) := by decide +kernel
theorem dX6_box_192 : decode cX6_box 192 = .ok (.invokevirtual 96, 3) := by decide +kernel
theorem dX6_box_195 : decode cX6_box 195 = .ok (.iload_n 1, 1) := by decide +kernel
theorem dX6_box_196 : decode cX6_box 196 = .ok (.if_icmp .ne 7, 3) := by decide +kernel
theorem dX6_box_199 : decode cX6_box 199 = .ok (.iconst 1, 1) := by decide +kernel
theorem dX6_box_200 : decode cX6_box 200 = .ok (.goto 4, 3) := by decide +kernel
theorem dX6_box_203 : decode cX6_box 203 = .ok (.iconst 0, 1) := by decide +kernel
theorem dX6_box_204 : decode cX6_box 204 = .ok (.iadd, 1) := by decide +kernel
theorem dX6_box_205 : decode cX6_box 205 = .ok (.istore_n 3, 1) := by decide +kernel
theorem dX6_box_206 : decode cX6_box 206 = .ok (.iinc 4 1, 3) := by decide +kernel
theorem dX6_box_209 : decode cX6_box 209 = .ok (.goto (-52), 3) := by decide +kernel
theorem dX6_box_212 : decode cX6_box 212 = .ok (.iload_n 3, 1) := by decide +kernel
theorem dX6_box_213 : decode cX6_box 213 = .ok (.ireturn, 1) := by decide +kernel
theorem dX6_box_214 : decode cX6_box 214 = .ok (.aload_n 0, 1) := by decide +kernel
theorem dX6_box_215 : decode cX6_box 215 = .ok (.aload_n 0, 1) := by decide +kernel
theorem dX6_box_216 : decode cX6_box 216 = .ok (.getfield 7, 3) := by decide +kernel
theorem dX6_box_219 : decode cX6_box 219 = .ok (.iload_n 1, 1) := by decide +kernel
theorem dX6_box_220 : decode cX6_box 220 = .ok (.invokevirtual 195, 3) := by decide +kernel
theorem dX6_box_223 : decode cX6_box 223 = .ok (.ireturn, 1) := by decide +kernel
theorem dX6_box_224 : decode cX6_box 224 = .ok (.bipush (-2), 2) := by decide +kernel
theorem dX6_box_226 : decode cX6_box 226 = .ok (.ireturn, 1) := by decide +kernel
theorem dX6_mail_0 : decode cX6_mail 0 = .ok (.aload_n 0, 1) := by decide +kernel
theorem dX6_mail_1 : decode cX6_mail 1 = .ok (.aload_n 0, 1) := by decide +kernel
theorem dX6_mail_2 : decode cX6_mail 2 = .ok (.getfield 7, 3) := by decide +kernel
theorem dX6_mail_5 : decode cX6_mail 5 = .ok (.iload_n 1, 1) := by decide +kernel
theorem dX6_mail_6 : decode cX6_mail 6 = .ok (.invokevirtual 81, 3) := by decide +kernel
theorem dX6_mail_9 : decode cX6_mail 9 = .ok (.ifCond .ne 5, 3) := by decide +kernel
theorem dX6_mail_12 : decode cX6_mail 12 = .ok (.iconst (-1), 1) := by decide +kernel
theorem dX6_mail_13 : decode cX6_mail 13 = .ok (.ireturn, 1) := by decide +kernel
theorem dX6_mail_14 : decode cX6_mail 14 = .ok (.iload_n 2, 1) := by decide +kernel
theorem dX6_mail_15 : decode cX6_mail 15 = .ok (.iconst 0, 1) := by decide +kernel
theorem dX6_mail_16 : decode cX6_mail 16 = .ok (.bipush 7, 2) := by decide +kernel
theorem dX6_mail_18 : decode cX6_mail 18 = .ok (.invokestatic 99, 3) := by decide +kernel
theorem dX6_mail_21 : decode cX6_mail 21 = .ok (.ifCond .eq 16, 3) := by decide +kernel
theorem dX6_mail_24 : decode cX6_mail 24 = .ok (.aload_n 0, 1) := by decide +kernel
theorem dX6_mail_25 : decode cX6_mail 25 = .ok (.aload_n 0, 1) := by decide +kernel
theorem dX6_mail_26 : decode cX6_mail 26 = .ok (.getfield 7, 3) := by decide +kernel
theorem dX6_mail_29 : decode cX6_mail 29 = .ok (.iload_n 1, 1) := by decide +kernel
theorem dX6_mail_30 : decode cX6_mail 30 = .ok (.iload_n 2, 1) := by decide +kernel
theorem dX6_mail_31 : decode cX6_mail 31 = .ok (.iconst 1, 1) := by decide +kernel
theorem dX6_mail_32 : decode cX6_mail 32 = .ok (.iadd, 1) := by decide +kernel
theorem dX6_mail_33 : decode cX6_mail 33 = .ok (.invokevirtual 85, 3) := by decide +kernel
theorem dX6_mail_36 : decode cX6_mail 36 = .ok (.ireturn, 1) := by decide +kernel
theorem dX6_mail_37 : decode cX6_mail 37 = .ok (.aload_n 0, 1) := by decide +kernel
theorem dX6_mail_38 : decode cX6_mail 38 = .ok (.aload_n 0, 1) := by decide +kernel
theorem dX6_mail_39 : decode cX6_mail 39 = .ok (.getfield 7, 3) := by decide +kernel
theorem dX6_mail_42 : decode cX6_mail 42 = .ok (.iload_n 1, 1) := by decide +kernel
theorem dX6_mail_43 : decode cX6_mail 43 = .ok (.bipush 9, 2) := by decide +kernel
theorem dX6_mail_45 : decode cX6_mail 45 = .ok (.invokevirtual 85, 3) := by decide +kernel
theorem dX6_mail_48 : decode cX6_mail 48 = .ok (.istore_n 3, 1) := by decide +kernel
theorem dX6_mail_49 : decode cX6_mail 49 = .ok (.iload_n 2, 1) := by decide +kernel
theorem dX6_mail_50 : decode cX6_mail 50 = .ok (.bipush 8, 2) := by decide +kernel
theorem dX6_mail_52 : decode cX6_mail 52 = .ok (.if_icmp .ne 36, 3) := by decide +kernel
theorem dX6_mail_55 : decode cX6_mail 55 = .ok (.iconst 0, 1) := by decide +kernel
theorem dX6_mail_56 : decode cX6_mail 56 = .ok (.istore 4, 2) := by decide +kernel
theorem dX6_mail_58 : decode cX6_mail 58 = .ok (.iconst 0, 1) := by decide +kernel
theorem dX6_mail_59 : decode cX6_mail 59 = .ok (.istore 5, 2) := by decide +kernel
theorem dX6_mail_61 : decode cX6_mail 61 = .ok (.iload 5, 2) := by decide +kernel
theorem dX6_mail_63 : decode cX6_mail 63 = .ok (.bipush 20, 2) := by decide +kernel
theorem dX6_mail_65 : decode cX6_mail 65 = .ok (.if_icmp .ge 20, 3) := by decide +kernel
theorem dX6_mail_68 : decode cX6_mail 68 = .ok (.iload 4, 2) := by decide +kernel
theorem dX6_mail_70 : decode cX6_mail 70 = .ok (.iload_n 3, 1) := by decide +kernel
theorem dX6_mail_71 : decode cX6_mail 71 = .ok (.iload 5, 2) := by decide +kernel
theorem dX6_mail_73 : decode cX6_mail 73 = .ok (.ishr, 1) := by decide +kernel
theorem dX6_mail_74 : decode cX6_mail 74 = .ok (.iconst 1, 1) := by decide +kernel
theorem dX6_mail_75 : decode cX6_mail 75 = .ok (.iand, 1) := by decide +kernel
theorem dX6_mail_76 : decode cX6_mail 76 = .ok (.iadd, 1) := by decide +kernel
theorem dX6_mail_77 : decode cX6_mail 77 = .ok (.istore 4, 2) := by decide +kernel
theorem dX6_mail_79 : decode cX6_mail 79 = .ok (.iinc 5 1, 3) := by decide +kernel
theorem dX6_mail_82 : decode cX6_mail 82 = .ok (.goto (-21), 3) := by decide +kernel
theorem dX6_mail_85 : decode cX6_mail 85 = .ok (.iload 4, 2) := by decide +kernel
theorem dX6_mail_87 : decode cX6_mail 87 = .ok (.ireturn, 1) := by decide +kernel
theorem dX6_mail_88 : decode cX6_mail 88 = .ok (.iload_n 2, 1) := by decide +kernel
theorem dX6_mail_89 : decode cX6_mail 89 = .ok (.bipush 20, 2) := by decide +kernel
theorem dX6_mail_91 : decode cX6_mail 91 = .ok (.if_icmp .lt 29, 3) := by decide +kernel
theorem dX6_mail_94 : decode cX6_mail 94 = .ok (.aload_n 0, 1) := by decide +kernel
theorem dX6_mail_95 : decode cX6_mail 95 = .ok (.aload_n 0, 1) := by decide +kernel
theorem dX6_mail_96 : decode cX6_mail 96 = .ok (.getfield 7, 3) := by decide +kernel
theorem dX6_mail_99 : decode cX6_mail 99 = .ok (.iload_n 2, 1) := by decide +kernel
theorem dX6_mail_100 : decode cX6_mail 100 = .ok (.bipush 20, 2) := by decide +kernel
theorem dX6_mail_102 : decode cX6_mail 102 = .ok (.isub, 1) := by decide +kernel
theorem dX6_mail_103 : decode cX6_mail 103 = .ok (.invokevirtual 89, 3) := by decide +kernel
theorem dX6_mail_106 : decode cX6_mail 106 = .ok (.ifCond .eq 14, 3) := by decide +kernel
theorem dX6_mail_109 : decode cX6_mail 109 = .ok (.iload_n 3, 1) := by decide +kernel
theorem dX6_mail_110 : decode cX6_mail 110 = .ok (.iload_n 2, 1) := by decide +kernel
theorem dX6_mail_111 : decode cX6_mail 111 = .ok (.bipush 20, 2) := by decide +kernel
theorem dX6_mail_113 : decode cX6_mail 113 = .ok (.isub, 1) := by decide +kernel
theorem dX6_mail_114 : decode cX6_mail 114 = .ok (.ishr, 1) := by decide +kernel
theorem dX6_mail_115 : decode cX6_mail 115 = .ok (.iconst 1, 1) := by decide +kernel
theorem dX6_mail_116 : decode cX6_mail 116 = .ok (.iand, 1) := by decide +kernel
theorem dX6_mail_117 : decode cX6_mail 117 = .ok (.goto 5, 3) := by decide +kernel
theorem dX6_mail_120 : decode cX6_mail 120 = .ok (.bipush (-2), 2) := by decide +kernel
theorem dX6_mail_122 : decode cX6_mail 122 = .ok (.ireturn, 1) := by decide +kernel
theorem dX6_thread_0 : decode cX6_thread 0 = .ok (.aload_n 0, 1) := by decide +kernel
theorem dX6_thread_1 : decode cX6_thread 1 = .ok (.aload_n 0, 1) := by decide +kernel
theorem dX6_thread_2 : decode cX6_thread 2 = .ok (.getfield 7, 3) := by decide +kernel
theorem dX6_thread_5 : decode cX6_thread 5 = .ok (.iconst 2, 1) := by decide +kernel
theorem dX6_thread_6 : decode cX6_thread 6 = .ok (.iload_n 1, 1) := by decide +kernel
theorem dX6_thread_7 : decode cX6_thread 7 = .ok (.invokevirtual 113, 3) := by decide +kernel
theorem dX6_thread_10 : decode cX6_thread 10 = .ok (.ifCond .ne 5, 3) := by decide +kernel
theorem dX6_thread_13 : decode cX6_thread 13 = .ok (.iconst (-1), 1) := by decide +kernel
theorem dX6_thread_14 : decode cX6_thread 14 = .ok (.ireturn, 1) := by decide +kernel
theorem dX6_thread_15 : decode cX6_thread 15 = .ok (.iload_n 2, 1) := by decide +kernel
theorem dX6_thread_16 : decode cX6_thread 16 = .ok (.iconst (-1), 1) := by decide +kernel
theorem dX6_thread_17 : decode cX6_thread 17 = .ok (.if_icmp .ne 13, 3) := by decide +kernel
theorem dX6_thread_20 : decode cX6_thread 20 = .ok (.aload_n 0, 1) := by decide +kernel
theorem dX6_thread_21 : decode cX6_thread 21 = .ok (.aload_n 0, 1) := by decide +kernel
theorem dX6_thread_22 : decode cX6_thread 22 = .ok (.getfield 7, 3) := by decide +kernel
theorem dX6_thread_25 : decode cX6_thread 25 = .ok (.iload_n 1, 1) := by decide +kernel
theorem dX6_thread_26 : decode cX6_thread 26 = .ok (.invokevirtual 92, 3) := by decide +kernel
theorem dX6_thread_29 : decode cX6_thread 29 = .ok (.ireturn, 1) := by decide +kernel
theorem dX6_thread_30 : decode cX6_thread 30 = .ok (.iload_n 2, 1) := by decide +kernel
theorem dX6_thread_31 : decode cX6_thread 31 = .ok (.istore_n 3, 1) := by decide +kernel
theorem dX6_thread_32 : decode cX6_thread 32 = .ok (.iconst 0, 1) := by decide +kernel
theorem dX6_thread_33 : decode cX6_thread 33 = .ok (.istore 4, 2) := by decide +kernel
theorem dX6_thread_35 : decode cX6_thread 35 = .ok (.iload 4, 2) := by decide +kernel
theorem dX6_thread_37 : decode cX6_thread 37 = .ok (.aload_n 0, 1) := by decide +kernel
theorem dX6_thread_38 : decode cX6_thread 38 = .ok (.getfield 7, 3) := by decide +kernel
theorem dX6_thread_41 : decode cX6_thread 41 = .ok (.sipush 581, 3) := by decide +kernel
theorem dX6_thread_44 : decode cX6_thread 44 = .ok (.iaload, 1) := by decide +kernel
theorem dX6_thread_45 : decode cX6_thread 45 = .ok (.if_icmp .ge 55, 3) := by decide +kernel
theorem dX6_thread_48 : decode cX6_thread 48 = .ok (.iload_n 3, 1) := by decide +kernel
theorem dX6_thread_49 : decode cX6_thread 49 = .ok (.ifCond .lt 51, 3) := by decide +kernel
theorem dX6_thread_52 : decode cX6_thread 52 = .ok (.aload_n 0, 1) := by decide +kernel
theorem dX6_thread_53 : decode cX6_thread 53 = .ok (.aload_n 0, 1) := by decide +kernel
theorem dX6_thread_54 : decode cX6_thread 54 = .ok (.getfield 7, 3) := by decide +kernel
theorem dX6_thread_57 : decode cX6_thread 57 = .ok (.iload 4, 2) := by decide +kernel
theorem dX6_thread_59 : decode cX6_thread 59 = .ok (.invokevirtual 81, 3) := by decide +kernel
theorem dX6_thread_62 : decode cX6_thread 62 = .ok (.ifCond .eq 32, 3) := by decide +kernel
theorem dX6_thread_65 : decode cX6_thread 65 = .ok (.aload_n 0, 1) := by decide +kernel
theorem dX6_thread_66 : decode cX6_thread 66 = .ok (.aload_n 0, 1) := by decide +kernel
theorem dX6_thread_67 : decode cX6_thread 67 = .ok (.getfield 7, 3) := by decide +kernel
theorem dX6_thread_70 : decode cX6_thread 70 = .ok (.iload 4, 2) := by decide +kernel
theorem dX6_thread_72 : decode cX6_thread 72 = .ok (.bipush 8, 2) := by decide +kernel
theorem dX6_thread_74 : decode cX6_thread 74 = .ok (.invokevirtual 85, 3) := by decide +kernel
theorem dX6_thread_77 : decode cX6_thread 77 = .ok (.iload_n 1, 1) := by decide +kernel
theorem dX6_thread_78 : decode cX6_thread 78 = .ok (.if_icmp .eq 6, 3) := by decide +kernel
theorem dX6_thread_81 : decode cX6_thread 81 = .ok (.goto 13, 3) := by decide +kernel
theorem dX6_thread_84 : decode cX6_thread 84 = .ok (.iload_n 3, 1) := by decide +kernel
theorem dX6_thread_85 : decode cX6_thread 85 = .ok (.ifCond .ne 6, 3) := by decide +kernel
theorem dX6_thread_88 : decode cX6_thread 88 = .ok (.iload 4, 2) := by decide +kernel
theorem dX6_thread_90 : decode cX6_thread 90 = .ok (.ireturn, 1) := by decide +kernel
theorem dX6_thread_91 : decode cX6_thread 91 = .ok (.iinc 3 (-1), 3) := by decide +kernel
theorem dX6_thread_94 : decode cX6_thread 94 = .ok (.iinc 4 1, 3) := by decide +kernel
theorem dX6_thread_97 : decode cX6_thread 97 = .ok (.goto (-62), 3) := by decide +kernel
theorem dX6_thread_100 : decode cX6_thread 100 = .ok (.iconst (-1), 1) := by decide +kernel
theorem dX6_thread_101 : decode cX6_thread 101 = .ok (.ireturn, 1) := by decide +kernel
theorem dX6_entry_0 : decode cX6_entry 0 = .ok (.iload_n 1, 1) := by decide +kernel
theorem dX6_entry_1 : decode cX6_entry 1 = .ok (.ifCond .lt 11, 3) := by decide +kernel
theorem dX6_entry_4 : decode cX6_entry 4 = .ok (.iload_n 1, 1) := by decide +kernel
theorem dX6_entry_5 : decode cX6_entry 5 = .ok (.aload_n 0, 1) := by decide +kernel
theorem dX6_entry_6 : decode cX6_entry 6 = .ok (.getfield 110, 3) := by decide +kernel
theorem dX6_entry_9 : decode cX6_entry 9 = .ok (.if_icmp .lt 5, 3) := by decide +kernel
theorem dX6_entry_12 : decode cX6_entry 12 = .ok (.iconst (-1), 1) := by decide +kernel
theorem dX6_entry_13 : decode cX6_entry 13 = .ok (.ireturn, 1) := by decide +kernel
theorem dX6_entry_14 : decode cX6_entry 14 = .ok (.iload_n 2, 1) := by decide +kernel
theorem dX6_entry_15 : decode cX6_entry 15 = .ok (.tableswitch 57 0 3 #[29, 36, 43, 50], 29) := by decide +kernel
theorem dX6_entry_44 : decode cX6_entry 44 = .ok (.aload_n 0, 1) := by decide +kernel
theorem dX6_entry_45 : decode cX6_entry 45 = .ok (.getfield 44, 3) := by decide +kernel
theorem dX6_entry_48 : decode cX6_entry 48 = .ok (.iload_n 1, 1) := by decide +kernel
theorem dX6_entry_49 : decode cX6_entry 49 = .ok (.iaload, 1) := by decide +kernel
theorem dX6_entry_50 : decode cX6_entry 50 = .ok (.ireturn, 1) := by decide +kernel
theorem dX6_entry_51 : decode cX6_entry 51 = .ok (.aload_n 0, 1) := by decide +kernel
theorem dX6_entry_52 : decode cX6_entry 52 = .ok (.getfield 47, 3) := by decide +kernel
theorem dX6_entry_55 : decode cX6_entry 55 = .ok (.iload_n 1, 1) := by decide +kernel
theorem dX6_entry_56 : decode cX6_entry 56 = .ok (.iaload, 1) := by decide +kernel
theorem dX6_entry_57 : decode cX6_entry 57 = .ok (.ireturn, 1) := by decide +kernel
theorem dX6_entry_58 : decode cX6_entry 58 = .ok (.aload_n 0, 1) := by decide +kernel
theorem dX6_entry_59 : decode cX6_entry 59 = .ok (.getfield 50, 3) := by decide +kernel
theorem dX6_entry_62 : decode cX6_entry 62 = .ok (.iload_n 1, 1) := by decide +kernel
theorem dX6_entry_63 : decode cX6_entry 63 = .ok (.iaload, 1) := by decide +kernel
theorem dX6_entry_64 : decode cX6_entry 64 = .ok (.ireturn, 1) := by decide +kernel
theorem dX6_entry_65 : decode cX6_entry 65 = .ok (.aload_n 0, 1) := by decide +kernel
theorem dX6_entry_66 : decode cX6_entry 66 = .ok (.getfield 53, 3) := by decide +kernel
theorem dX6_entry_69 : decode cX6_entry 69 = .ok (.iload_n 1, 1) := by decide +kernel
theorem dX6_entry_70 : decode cX6_entry 70 = .ok (.iaload, 1) := by decide +kernel
theorem dX6_entry_71 : decode cX6_entry 71 = .ok (.ireturn, 1) := by decide +kernel
theorem dX6_entry_72 : decode cX6_entry 72 = .ok (.bipush (-2), 2) := by decide +kernel
theorem dX6_entry_74 : decode cX6_entry 74 = .ok (.ireturn, 1) := by decide +kernel
theorem dX6_filter_0 : decode cX6_filter 0 = .ok (.iload_n 1, 1) := by decide +kernel
theorem dX6_filter_1 : decode cX6_filter 1 = .ok (.bipush 8, 2) := by decide +kernel
theorem dX6_filter_3 : decode cX6_filter 3 = .ok (.if_icmp .eq 9, 3) := by decide +kernel
theorem dX6_filter_6 : decode cX6_filter 6 = .ok (.iload_n 1, 1) := by decide +kernel
theorem dX6_filter_7 : decode cX6_filter 7 = .ok (.bipush 9, 2) := by decide +kernel
theorem dX6_filter_9 : decode cX6_filter 9 = .ok (.if_icmp .ne 7, 3) := by decide +kernel
theorem dX6_filter_12 : decode cX6_filter 12 = .ok (.iconst 1, 1) := by decide +kernel
theorem dX6_filter_13 : decode cX6_filter 13 = .ok (.goto 4, 3) := by decide +kernel
theorem dX6_filter_16 : decode cX6_filter 16 = .ok (.iconst 0, 1) := by decide +kernel
theorem dX6_filter_17 : decode cX6_filter 17 = .ok (.istore 4, 2) := by decide +kernel
theorem dX6_filter_19 : decode cX6_filter 19 = .ok (.iload 4, 2) := by decide +kernel
theorem dX6_filter_21 : decode cX6_filter 21 = .ok (.ifCond .ne 9, 3) := by decide +kernel
theorem dX6_filter_24 : decode cX6_filter 24 = .ok (.iload_n 1, 1) := by decide +kernel
theorem dX6_filter_25 : decode cX6_filter 25 = .ok (.bipush 10, 2) := by decide +kernel
theorem dX6_filter_27 : decode cX6_filter 27 = .ok (.if_icmp .ne 17, 3) := by decide +kernel
theorem dX6_filter_30 : decode cX6_filter 30 = .ok (.iload_n 2, 1) := by decide +kernel
theorem dX6_filter_31 : decode cX6_filter 31 = .ok (.iconst 0, 1) := by decide +kernel
theorem dX6_filter_32 : decode cX6_filter 32 = .ok (.aload_n 0, 1) := by decide +kernel
theorem dX6_filter_33 : decode cX6_filter 33 = .ok (.getfield 166, 3) := by decide +kernel
theorem dX6_filter_36 : decode cX6_filter 36 = .ok (.iconst 1, 1) := by decide +kernel
theorem dX6_filter_37 : decode cX6_filter 37 = .ok (.isub, 1) := by decide +kernel
theorem dX6_filter_38 : decode cX6_filter 38 = .ok (.invokestatic 99, 3) := by decide +kernel
theorem dX6_filter_41 : decode cX6_filter 41 = .ok (.ifCond .eq 22, 3) := by decide +kernel
theorem dX6_filter_44 : decode cX6_filter 44 = .ok (.iload 4, 2) := by decide +kernel
theorem dX6_filter_46 : decode cX6_filter 46 = .ok (.ifCond .eq 19, 3) := by decide +kernel
theorem dX6_filter_49 : decode cX6_filter 49 = .ok (.iload_n 3, 1) := by decide +kernel
theorem dX6_filter_50 : decode cX6_filter 50 = .ok (.iconst 0, 1) := by decide +kernel
theorem dX6_filter_51 : decode cX6_filter 51 = .ok (.aload_n 0, 1) := by decide +kernel
theorem dX6_filter_52 : decode cX6_filter 52 = .ok (.getfield 166, 3) := by decide +kernel
theorem dX6_filter_55 : decode cX6_filter 55 = .ok (.iconst 1, 1) := by decide +kernel
theorem dX6_filter_56 : decode cX6_filter 56 = .ok (.isub, 1) := by decide +kernel
theorem dX6_filter_57 : decode cX6_filter 57 = .ok (.invokestatic 99, 3) := by decide +kernel
theorem dX6_filter_60 : decode cX6_filter 60 = .ok (.ifCond .ne 5, 3) := by decide +kernel
theorem dX6_filter_63 : decode cX6_filter 63 = .ok (.iconst (-1), 1) := by decide +kernel
theorem dX6_filter_64 : decode cX6_filter 64 = .ok (.ireturn, 1) := by decide +kernel
theorem dX6_filter_65 : decode cX6_filter 65 = .ok (.iload_n 1, 1) := by decide +kernel
theorem dX6_filter_66 : decode cX6_filter 66 = .ok (.iconst 0, 1) := by decide +kernel
theorem dX6_filter_67 : decode cX6_filter 67 = .ok (.bipush 10, 2) := by decide +kernel
theorem dX6_filter_69 : decode cX6_filter 69 = .ok (.invokestatic 99, 3) := by decide +kernel
theorem dX6_filter_72 : decode cX6_filter 72 = .ok (.ifCond .eq 17, 3) := by decide +kernel
theorem dX6_filter_75 : decode cX6_filter 75 = .ok (.iload_n 1, 1) := by decide +kernel
theorem dX6_filter_76 : decode cX6_filter 76 = .ok (.iconst 5, 1) := by decide +kernel
theorem dX6_filter_77 : decode cX6_filter 77 = .ok (.if_icmp .ne 15, 3) := by decide +kernel
theorem dX6_filter_80 : decode cX6_filter 80 = .ok (.iload_n 2, 1) := by decide +kernel
theorem dX6_filter_81 : decode cX6_filter 81 = .ok (.iconst 0, 1) := by decide +kernel
theorem dX6_filter_82 : decode cX6_filter 82 = .ok (.iconst 3, 1) := by decide +kernel
theorem dX6_filter_83 : decode cX6_filter 83 = .ok (.invokestatic 99, 3) := by decide +kernel
theorem dX6_filter_86 : decode cX6_filter 86 = .ok (.ifCond .ne 6, 3) := by decide +kernel
theorem dX6_filter_89 : decode cX6_filter 89 = .ok (.bipush (-2), 2) := by decide +kernel
theorem dX6_filter_91 : decode cX6_filter 91 = .ok (.ireturn, 1) := by decide +kernel
theorem dX6_filter_92 : decode cX6_filter 92 = .ok (.aload_n 0, 1) := by decide +kernel
theorem dX6_filter_93 : decode cX6_filter 93 = .ok (.getfield 166, 3) := by decide +kernel
theorem dX6_filter_96 : decode cX6_filter 96 = .ok (.bipush 20, 2) := by decide +kernel
theorem dX6_filter_98 : decode cX6_filter 98 = .ok (.if_icmp .ne 6, 3) := by decide +kernel
theorem dX6_filter_101 : decode cX6_filter 101 = .ok (.bipush (-4), 2) := by decide +kernel
theorem dX6_filter_103 : decode cX6_filter 103 = .ok (.ireturn, 1) := by decide +kernel
theorem dX6_filter_104 : decode cX6_filter 104 = .ok (.aload_n 0, 1) := by decide +kernel
theorem dX6_filter_105 : decode cX6_filter 105 = .ok (.getfield 68, 3) := by decide +kernel
theorem dX6_filter_108 : decode cX6_filter 108 = .ok (.aload_n 0, 1) := by decide +kernel
theorem dX6_filter_109 : decode cX6_filter 109 = .ok (.getfield 166, 3) := by decide +kernel
theorem dX6_filter_112 : decode cX6_filter 112 = .ok (.iload_n 1, 1) := by decide +kernel
theorem dX6_filter_113 : decode cX6_filter 113 = .ok (.iastore, 1) := by decide +kernel
theorem dX6_filter_114 : decode cX6_filter 114 = .ok (.aload_n 0, 1) := by decide +kernel
theorem dX6_filter_115 : decode cX6_filter 115 = .ok (.getfield 71, 3) := by decide +kernel
theorem dX6_filter_118 : decode cX6_filter 118 = .ok (.aload_n 0, 1) := by decide +kernel
theorem dX6_filter_119 : decode cX6_filter 119 = .ok (.getfield 166, 3) := by decide +kernel
theorem dX6_filter_122 : decode cX6_filter 122 = .ok (.iload_n 2, 1) := by decide +kernel
theorem dX6_filter_123 : decode cX6_filter 123 = .ok (.iastore, 1) := by decide +kernel
theorem dX6_filter_124 : decode cX6_filter 124 = .ok (.aload_n 0, 1) := by decide +kernel
theorem dX6_filter_125 : decode cX6_filter 125 = .ok (.getfield 74, 3) := by decide +kernel
theorem dX6_filter_128 : decode cX6_filter 128 = .ok (.aload_n 0, 1) := by decide +kernel
theorem dX6_filter_129 : decode cX6_filter 129 = .ok (.getfield 166, 3) := by decide +kernel
theorem dX6_filter_132 : decode cX6_filter 132 = .ok (.iload_n 3, 1) := by decide +kernel
theorem dX6_filter_133 : decode cX6_filter 133 = .ok (.iastore, 1) := by decide +kernel
theorem dX6_filter_134 : decode cX6_filter 134 = .ok (.aload_n 0, 1) := by decide +kernel
theorem dX6_filter_135 : decode cX6_filter 135 = .ok (.dup, 1) := by decide +kernel
theorem dX6_filter_136 : decode cX6_filter 136 = .ok (.getfield 166, 3) := by decide +kernel
theorem dX6_filter_139 : decode cX6_filter 139 = .ok (.iconst 1, 1) := by decide +kernel
theorem dX6_filter_140 : decode cX6_filter 140 = .ok (.iadd, 1) := by decide +kernel
theorem dX6_filter_141 : decode cX6_filter 141 = .ok (.putfield 166, 3) := by decide +kernel
theorem dX6_filter_144 : decode cX6_filter 144 = .ok (.aload_n 0, 1) := by decide +kernel
theorem dX6_filter_145 : decode cX6_filter 145 = .ok (.getfield 166, 3) := by decide +kernel
theorem dX6_filter_148 : decode cX6_filter 148 = .ok (.iconst 1, 1) := by decide +kernel
theorem dX6_filter_149 : decode cX6_filter 149 = .ok (.isub, 1) := by decide +kernel
theorem dX6_filter_150 : decode cX6_filter 150 = .ok (.ireturn, 1) := by decide +kernel
theorem dX6_isOneFit_0 : decode cX6_isOneFit 0 = .ok (.aload_n 0, 1) := by decide +kernel
theorem dX6_isOneFit_1 : decode cX6_isOneFit 1 = .ok (.getfield 71, 3) := by decide +kernel
theorem dX6_isOneFit_4 : decode cX6_isOneFit 4 = .ok (.iload_n 2, 1) := by decide +kernel
theorem dX6_isOneFit_5 : decode cX6_isOneFit 5 = .ok (.iaload, 1) := by decide +kernel
theorem dX6_isOneFit_6 : decode cX6_isOneFit 6 = .ok (.istore_n 3, 1) := by decide +kernel
theorem dX6_isOneFit_7 : decode cX6_isOneFit 7 = .ok (.aload_n 0, 1) := by decide +kernel
theorem dX6_isOneFit_8 : decode cX6_isOneFit 8 = .ok (.getfield 68, 3) := by decide +kernel
theorem dX6_isOneFit_11 : decode cX6_isOneFit 11 = .ok (.iload_n 2, 1) := by decide +kernel
theorem dX6_isOneFit_12 : decode cX6_isOneFit 12 = .ok (.iaload, 1) := by decide +kernel
theorem dX6_isOneFit_13 : decode cX6_isOneFit 13 = .ok (.tableswitch 298 0 9 #[55, 92, 113, 134, 154, 174, 199, 219, 240, 269], 55) := by decide +kernel
theorem dX6_isOneFit_68 : decode cX6_isOneFit 68 = .ok (.aload_n 0, 1) := by decide +kernel
theorem dX6_isOneFit_69 : decode cX6_isOneFit 69 = .ok (.aload_n 0, 1) := by decide +kernel
theorem dX6_isOneFit_70 : decode cX6_isOneFit 70 = .ok (.getfield 7, 3) := by decide +kernel
theorem dX6_isOneFit_73 : decode cX6_isOneFit 73 = .ok (.iload_n 3, 1) := by decide +kernel
theorem dX6_isOneFit_74 : decode cX6_isOneFit 74 = .ok (.invokevirtual 89, 3) := by decide +kernel
theorem dX6_isOneFit_77 : decode cX6_isOneFit 77 = .ok (.ifCond .eq 26, 3) := by decide +kernel
theorem dX6_isOneFit_80 : decode cX6_isOneFit 80 = .ok (.aload_n 0, 1) := by decide +kernel
theorem dX6_isOneFit_81 : decode cX6_isOneFit 81 = .ok (.aload_n 0, 1) := by decide +kernel
theorem dX6_isOneFit_82 : decode cX6_isOneFit 82 = .ok (.getfield 7, 3) := by decide +kernel
theorem dX6_isOneFit_85 : decode cX6_isOneFit 85 = .ok (.iload_n 1, 1) := by decide +kernel
theorem dX6_isOneFit_86 : decode cX6_isOneFit 86 = .ok (.bipush 9, 2) := by decide +kernel
theorem dX6_isOneFit_88 : decode cX6_isOneFit 88 = .ok (.invokevirtual 85, 3) := by decide +kernel
theorem dX6_isOneFit_91 : decode cX6_isOneFit 91 = .ok (.iload_n 3, 1) := by decide +kernel
theorem dX6_isOneFit_92 : decode cX6_isOneFit 92 = .ok (.ishr, 1) := by decide +kernel
theorem dX6_isOneFit_93 : decode cX6_isOneFit 93 = .ok (.iconst 1, 1) := by decide +kernel
theorem dX6_isOneFit_94 : decode cX6_isOneFit 94 = .ok (.iand, 1) := by decide +kernel
theorem dX6_isOneFit_95 : decode cX6_isOneFit 95 = .ok (.iconst 1, 1) := by decide +kernel
theorem dX6_isOneFit_96 : decode cX6_isOneFit 96 = .ok (.if_icmp .ne 7, 3) := by decide +kernel
theorem dX6_isOneFit_99 : decode cX6_isOneFit 99 = .ok (.iconst 1, 1) := by decide +kernel
theorem dX6_isOneFit_100 : decode cX6_isOneFit 100 = .ok (.goto 4, 3) := by decide +kernel
theorem dX6_isOneFit_103 : decode cX6_isOneFit 103 = .ok (.iconst 0, 1) := by decide +kernel
theorem dX6_isOneFit_104 : decode cX6_isOneFit 104 = .ok (.ireturn, 1) := by decide +kernel
theorem dX6_isOneFit_105 : decode cX6_isOneFit 105 = .ok (.aload_n 0, 1) := by decide +kernel
theorem dX6_isOneFit_106 : decode cX6_isOneFit 106 = .ok (.aload_n 0, 1) := by decide +kernel
theorem dX6_isOneFit_107 : decode cX6_isOneFit 107 = .ok (.getfield 7, 3) := by decide +kernel
theorem dX6_isOneFit_110 : decode cX6_isOneFit 110 = .ok (.iload_n 1, 1) := by decide +kernel
theorem dX6_isOneFit_111 : decode cX6_isOneFit 111 = .ok (.bipush 6, 2) := by decide +kernel
theorem dX6_isOneFit_113 : decode cX6_isOneFit 113 = .ok (.invokevirtual 85, 3) := by decide +kernel
theorem dX6_isOneFit_116 : decode cX6_isOneFit 116 = .ok (.iload_n 3, 1) := by decide +kernel
theorem dX6_isOneFit_117 : decode cX6_isOneFit 117 = .ok (.if_icmp .ge 7, 3) := by decide +kernel
theorem dX6_isOneFit_120 : decode cX6_isOneFit 120 = .ok (.iconst 1, 1) := by decide +kernel
theorem dX6_isOneFit_121 : decode cX6_isOneFit 121 = .ok (.goto 4, 3) := by decide +kernel
theorem dX6_isOneFit_124 : decode cX6_isOneFit 124 = .ok (.iconst 0, 1) := by decide +kernel
theorem dX6_isOneFit_125 : decode cX6_isOneFit 125 = .ok (.ireturn, 1) := by decide +kernel
theorem dX6_isOneFit_126 : decode cX6_isOneFit 126 = .ok (.aload_n 0, 1) := by decide +kernel
theorem dX6_isOneFit_127 : decode cX6_isOneFit 127 = .ok (.aload_n 0, 1) := by decide +kernel
theorem dX6_isOneFit_128 : decode cX6_isOneFit 128 = .ok (.getfield 7, 3) := by decide +kernel
theorem dX6_isOneFit_131 : decode cX6_isOneFit 131 = .ok (.iload_n 1, 1) := by decide +kernel
theorem dX6_isOneFit_132 : decode cX6_isOneFit 132 = .ok (.bipush 6, 2) := by decide +kernel
theorem dX6_isOneFit_134 : decode cX6_isOneFit 134 = .ok (.invokevirtual 85, 3) := by decide +kernel
theorem dX6_isOneFit_137 : decode cX6_isOneFit 137 = .ok (.iload_n 3, 1) := by decide +kernel
theorem dX6_isOneFit_138 : decode cX6_isOneFit 138 = .ok (.if_icmp .lt 7, 3) := by decide +kernel
theorem dX6_isOneFit_141 : decode cX6_isOneFit 141 = .ok (.iconst 1, 1) := by decide +kernel
theorem dX6_isOneFit_142 : decode cX6_isOneFit 142 = .ok (.goto 4, 3) := by decide +kernel
theorem dX6_isOneFit_145 : decode cX6_isOneFit 145 = .ok (.iconst 0, 1) := by decide +kernel
theorem dX6_isOneFit_146 : decode cX6_isOneFit 146 = .ok (.ireturn, 1) := by decide +kernel
theorem dX6_isOneFit_147 : decode cX6_isOneFit 147 = .ok (.aload_n 0, 1) := by decide +kernel
theorem dX6_isOneFit_148 : decode cX6_isOneFit 148 = .ok (.aload_n 0, 1) := by decide +kernel
theorem dX6_isOneFit_149 : decode cX6_isOneFit 149 = .ok (.getfield 7, 3) := by decide +kernel
theorem dX6_isOneFit_152 : decode cX6_isOneFit 152 = .ok (.iload_n 1, 1) := by decide +kernel
theorem dX6_isOneFit_153 : decode cX6_isOneFit 153 = .ok (.iconst 5, 1) := by decide +kernel
theorem dX6_isOneFit_154 : decode cX6_isOneFit 154 = .ok (.invokevirtual 85, 3) := by decide +kernel
theorem dX6_isOneFit_157 : decode cX6_isOneFit 157 = .ok (.iload_n 3, 1) := by decide +kernel
theorem dX6_isOneFit_158 : decode cX6_isOneFit 158 = .ok (.if_icmp .ge 7, 3) := by decide +kernel
theorem dX6_isOneFit_161 : decode cX6_isOneFit 161 = .ok (.iconst 1, 1) := by decide +kernel
theorem dX6_isOneFit_162 : decode cX6_isOneFit 162 = .ok (.goto 4, 3) := by decide +kernel
theorem dX6_isOneFit_165 : decode cX6_isOneFit 165 = .ok (.iconst 0, 1) := by decide +kernel
theorem dX6_isOneFit_166 : decode cX6_isOneFit 166 = .ok (.ireturn, 1) := by decide +kernel
theorem dX6_isOneFit_167 : decode cX6_isOneFit 167 = .ok (.aload_n 0, 1) := by decide +kernel
theorem dX6_isOneFit_168 : decode cX6_isOneFit 168 = .ok (.aload_n 0, 1) := by decide +kernel
theorem dX6_isOneFit_169 : decode cX6_isOneFit 169 = .ok (.getfield 7, 3) := by decide +kernel
theorem dX6_isOneFit_172 : decode cX6_isOneFit 172 = .ok (.iload_n 1, 1) := by decide +kernel
theorem dX6_isOneFit_173 : decode cX6_isOneFit 173 = .ok (.iconst 5, 1) := by decide +kernel
theorem dX6_isOneFit_174 : decode cX6_isOneFit 174 = .ok (.invokevirtual 85, 3) := by decide +kernel
theorem dX6_isOneFit_177 : decode cX6_isOneFit 177 = .ok (.iload_n 3, 1) := by decide +kernel
theorem dX6_isOneFit_178 : decode cX6_isOneFit 178 = .ok (.if_icmp .lt 7, 3) := by decide +kernel
theorem dX6_isOneFit_181 : decode cX6_isOneFit 181 = .ok (.iconst 1, 1) := by decide +kernel
theorem dX6_isOneFit_182 : decode cX6_isOneFit 182 = .ok (.goto 4, 3) := by decide +kernel
theorem dX6_isOneFit_185 : decode cX6_isOneFit 185 = .ok (.iconst 0, 1) := by decide +kernel
theorem dX6_isOneFit_186 : decode cX6_isOneFit 186 = .ok (.ireturn, 1) := by decide +kernel
theorem dX6_isOneFit_187 : decode cX6_isOneFit 187 = .ok (.aload_n 0, 1) := by decide +kernel
theorem dX6_isOneFit_188 : decode cX6_isOneFit 188 = .ok (.aload_n 0, 1) := by decide +kernel
theorem dX6_isOneFit_189 : decode cX6_isOneFit 189 = .ok (.getfield 7, 3) := by decide +kernel
theorem dX6_isOneFit_192 : decode cX6_isOneFit 192 = .ok (.iload_n 1, 1) := by decide +kernel
theorem dX6_isOneFit_193 : decode cX6_isOneFit 193 = .ok (.bipush 7, 2) := by decide +kernel
theorem dX6_isOneFit_195 : decode cX6_isOneFit 195 = .ok (.invokevirtual 85, 3) := by decide +kernel
theorem dX6_isOneFit_198 : decode cX6_isOneFit 198 = .ok (.iload_n 3, 1) := by decide +kernel
theorem dX6_isOneFit_199 : decode cX6_isOneFit 199 = .ok (.ishr, 1) := by decide +kernel
theorem dX6_isOneFit_200 : decode cX6_isOneFit 200 = .ok (.iconst 1, 1) := by decide +kernel
theorem dX6_isOneFit_201 : decode cX6_isOneFit 201 = .ok (.iand, 1) := by decide +kernel
theorem dX6_isOneFit_202 : decode cX6_isOneFit 202 = .ok (.iconst 1, 1) := by decide +kernel
theorem dX6_isOneFit_203 : decode cX6_isOneFit 203 = .ok (.if_icmp .ne 7, 3) := by decide +kernel
theorem dX6_isOneFit_206 : decode cX6_isOneFit 206 = .ok (.iconst 1, 1) := by decide +kernel
theorem dX6_isOneFit_207 : decode cX6_isOneFit 207 = .ok (.goto 4, 3) := by decide +kernel
theorem dX6_isOneFit_210 : decode cX6_isOneFit 210 = .ok (.iconst 0, 1) := by decide +kernel
theorem dX6_isOneFit_211 : decode cX6_isOneFit 211 = .ok (.ireturn, 1) := by decide +kernel
theorem dX6_isOneFit_212 : decode cX6_isOneFit 212 = .ok (.aload_n 0, 1) := by decide +kernel
theorem dX6_isOneFit_213 : decode cX6_isOneFit 213 = .ok (.aload_n 0, 1) := by decide +kernel
theorem dX6_isOneFit_214 : decode cX6_isOneFit 214 = .ok (.getfield 7, 3) := by decide +kernel
theorem dX6_isOneFit_217 : decode cX6_isOneFit 217 = .ok (.iload_n 1, 1) := by decide +kernel
theorem dX6_isOneFit_218 : decode cX6_isOneFit 218 = .ok (.iconst 1, 1) := by decide +kernel
theorem dX6_isOneFit_219 : decode cX6_isOneFit 219 = .ok (.invokevirtual 85, 3) := by decide +kernel
theorem dX6_isOneFit_222 : decode cX6_isOneFit 222 = .ok (.iload_n 3, 1) := by decide +kernel
theorem dX6_isOneFit_223 : decode cX6_isOneFit 223 = .ok (.if_icmp .ne 7, 3) := by decide +kernel
theorem dX6_isOneFit_226 : decode cX6_isOneFit 226 = .ok (.iconst 1, 1) := by decide +kernel
theorem dX6_isOneFit_227 : decode cX6_isOneFit 227 = .ok (.goto 4, 3) := by decide +kernel
theorem dX6_isOneFit_230 : decode cX6_isOneFit 230 = .ok (.iconst 0, 1) := by decide +kernel
theorem dX6_isOneFit_231 : decode cX6_isOneFit 231 = .ok (.ireturn, 1) := by decide +kernel
theorem dX6_isOneFit_232 : decode cX6_isOneFit 232 = .ok (.aload_n 0, 1) := by decide +kernel
theorem dX6_isOneFit_233 : decode cX6_isOneFit 233 = .ok (.aload_n 0, 1) := by decide +kernel
theorem dX6_isOneFit_234 : decode cX6_isOneFit 234 = .ok (.getfield 7, 3) := by decide +kernel
theorem dX6_isOneFit_237 : decode cX6_isOneFit 237 = .ok (.iload_n 1, 1) := by decide +kernel
theorem dX6_isOneFit_238 : decode cX6_isOneFit 238 = .ok (.bipush 8, 2) := by decide +kernel
theorem dX6_isOneFit_240 : decode cX6_isOneFit 240 = .ok (.invokevirtual 85, 3) := by decide +kernel
theorem dX6_isOneFit_243 : decode cX6_isOneFit 243 = .ok (.iload_n 3, 1) := by decide +kernel
theorem dX6_isOneFit_244 : decode cX6_isOneFit 244 = .ok (.if_icmp .ne 7, 3) := by decide +kernel
theorem dX6_isOneFit_247 : decode cX6_isOneFit 247 = .ok (.iconst 1, 1) := by decide +kernel
theorem dX6_isOneFit_248 : decode cX6_isOneFit 248 = .ok (.goto 4, 3) := by decide +kernel
theorem dX6_isOneFit_251 : decode cX6_isOneFit 251 = .ok (.iconst 0, 1) := by decide +kernel
theorem dX6_isOneFit_252 : decode cX6_isOneFit 252 = .ok (.ireturn, 1) := by decide +kernel
theorem dX6_isOneFit_253 : decode cX6_isOneFit 253 = .ok (.aload_n 0, 1) := by decide +kernel
theorem dX6_isOneFit_254 : decode cX6_isOneFit 254 = .ok (.getfield 77, 3) := by decide +kernel
theorem dX6_isOneFit_257 : decode cX6_isOneFit 257 = .ok (.iload_n 3, 1) := by decide +kernel
theorem dX6_isOneFit_258 : decode cX6_isOneFit 258 = .ok (.baload, 1) := by decide +kernel
theorem dX6_isOneFit_259 : decode cX6_isOneFit 259 = .ok (.ifCond .eq 21, 3) := by decide +kernel
theorem dX6_isOneFit_262 : decode cX6_isOneFit 262 = .ok (.aload_n 0, 1) := by decide +kernel
theorem dX6_isOneFit_263 : decode cX6_isOneFit 263 = .ok (.getfield 77, 3) := by decide +kernel
theorem dX6_isOneFit_266 : decode cX6_isOneFit 266 = .ok (.aload_n 0, 1) := by decide +kernel
theorem dX6_isOneFit_267 : decode cX6_isOneFit 267 = .ok (.getfield 74, 3) := by decide +kernel
theorem dX6_isOneFit_270 : decode cX6_isOneFit 270 = .ok (.iload_n 2, 1) := by decide +kernel
theorem dX6_isOneFit_271 : decode cX6_isOneFit 271 = .ok (.iaload, 1) := by decide +kernel
theorem dX6_isOneFit_272 : decode cX6_isOneFit 272 = .ok (.baload, 1) := by decide +kernel
theorem dX6_isOneFit_273 : decode cX6_isOneFit 273 = .ok (.ifCond .eq 7, 3) := by decide +kernel
theorem dX6_isOneFit_276 : decode cX6_isOneFit 276 = .ok (.iconst 1, 1) := by decide +kernel
theorem dX6_isOneFit_277 : decode cX6_isOneFit 277 = .ok (.goto 4, 3) := by decide +kernel
theorem dX6_isOneFit_280 : decode cX6_isOneFit 280 = .ok (.iconst 0, 1) := by decide +kernel
theorem dX6_isOneFit_281 : decode cX6_isOneFit 281 = .ok (.ireturn, 1) := by decide +kernel
theorem dX6_isOneFit_282 : decode cX6_isOneFit 282 = .ok (.aload_n 0, 1) := by decide +kernel
theorem dX6_isOneFit_283 : decode cX6_isOneFit 283 = .ok (.getfield 77, 3) := by decide +kernel
theorem dX6_isOneFit_286 : decode cX6_isOneFit 286 = .ok (.iload_n 3, 1) := by decide +kernel
theorem dX6_isOneFit_287 : decode cX6_isOneFit 287 = .ok (.baload, 1) := by decide +kernel
theorem dX6_isOneFit_288 : decode cX6_isOneFit 288 = .ok (.ifCond .ne 17, 3) := by decide +kernel
theorem dX6_isOneFit_291 : decode cX6_isOneFit 291 = .ok (.aload_n 0, 1) := by decide +kernel
theorem dX6_isOneFit_292 : decode cX6_isOneFit 292 = .ok (.getfield 77, 3) := by decide +kernel
theorem dX6_isOneFit_295 : decode cX6_isOneFit 295 = .ok (.aload_n 0, 1) := by decide +kernel
theorem dX6_isOneFit_296 : decode cX6_isOneFit 296 = .ok (.getfield 74, 3) := by decide +kernel
theorem dX6_isOneFit_299 : decode cX6_isOneFit 299 = .ok (.iload_n 2, 1) := by decide +kernel
theorem dX6_isOneFit_300 : decode cX6_isOneFit 300 = .ok (.iaload, 1) := by decide +kernel
theorem dX6_isOneFit_301 : decode cX6_isOneFit 301 = .ok (.baload, 1) := by decide +kernel
theorem dX6_isOneFit_302 : decode cX6_isOneFit 302 = .ok (.ifCond .eq 7, 3) := by decide +kernel
theorem dX6_isOneFit_305 : decode cX6_isOneFit 305 = .ok (.iconst 1, 1) := by decide +kernel
theorem dX6_isOneFit_306 : decode cX6_isOneFit 306 = .ok (.goto 4, 3) := by decide +kernel
theorem dX6_isOneFit_309 : decode cX6_isOneFit 309 = .ok (.iconst 0, 1) := by decide +kernel
theorem dX6_isOneFit_310 : decode cX6_isOneFit 310 = .ok (.ireturn, 1) := by decide +kernel
theorem dX6_isOneFit_311 : decode cX6_isOneFit 311 = .ok (.aload_n 0, 1) := by decide +kernel
theorem dX6_isOneFit_312 : decode cX6_isOneFit 312 = .ok (.getfield 77, 3) := by decide +kernel
theorem dX6_isOneFit_315 : decode cX6_isOneFit 315 = .ok (.iload_n 3, 1) := by decide +kernel
theorem dX6_isOneFit_316 : decode cX6_isOneFit 316 = .ok (.baload, 1) := by decide +kernel
theorem dX6_isOneFit_317 : decode cX6_isOneFit 317 = .ok (.ifCond .ne 7, 3) := by decide +kernel
theorem dX6_isOneFit_320 : decode cX6_isOneFit 320 = .ok (.iconst 1, 1) := by decide +kernel
theorem dX6_isOneFit_321 : decode cX6_isOneFit 321 = .ok (.goto 4, 3) := by decide +kernel
theorem dX6_isOneFit_324 : decode cX6_isOneFit 324 = .ok (.iconst 0, 1) := by decide +kernel
theorem dX6_isOneFit_325 : decode cX6_isOneFit 325 = .ok (.ireturn, 1) := by decide +kernel
theorem dX6_isFit_0 : decode cX6_isFit 0 = .ok (.iconst 0, 1) := by decide +kernel
theorem dX6_isFit_1 : decode cX6_isFit 1 = .ok (.istore_n 3, 1) := by decide +kernel
theorem dX6_isFit_2 : decode cX6_isFit 2 = .ok (.iload_n 3, 1) := by decide +kernel
theorem dX6_isFit_3 : decode cX6_isFit 3 = .ok (.iload_n 2, 1) := by decide +kernel
theorem dX6_isFit_4 : decode cX6_isFit 4 = .ok (.if_icmp .gt 21, 3) := by decide +kernel
theorem dX6_isFit_7 : decode cX6_isFit 7 = .ok (.aload_n 0, 1) := by decide +kernel
theorem dX6_isFit_8 : decode cX6_isFit 8 = .ok (.getfield 77, 3) := by decide +kernel
theorem dX6_isFit_11 : decode cX6_isFit 11 = .ok (.iload_n 3, 1) := by decide +kernel
theorem dX6_isFit_12 : decode cX6_isFit 12 = .ok (.aload_n 0, 1) := by decide +kernel
theorem dX6_isFit_13 : decode cX6_isFit 13 = .ok (.iload_n 1, 1) := by decide +kernel
theorem dX6_isFit_14 : decode cX6_isFit 14 = .ok (.iload_n 3, 1) := by decide +kernel
theorem dX6_isFit_15 : decode cX6_isFit 15 = .ok (.invokevirtual 277, 3) := by decide +kernel
theorem dX6_isFit_18 : decode cX6_isFit 18 = .ok (.bastore, 1) := by decide +kernel
theorem dX6_isFit_19 : decode cX6_isFit 19 = .ok (.iinc 3 1, 3) := by decide +kernel
theorem dX6_isFit_22 : decode cX6_isFit 22 = .ok (.goto (-20), 3) := by decide +kernel
theorem dX6_isFit_25 : decode cX6_isFit 25 = .ok (.aload_n 0, 1) := by decide +kernel
theorem dX6_isFit_26 : decode cX6_isFit 26 = .ok (.getfield 77, 3) := by decide +kernel
theorem dX6_isFit_29 : decode cX6_isFit 29 = .ok (.iload_n 2, 1) := by decide +kernel
theorem dX6_isFit_30 : decode cX6_isFit 30 = .ok (.baload, 1) := by decide +kernel
theorem dX6_isFit_31 : decode cX6_isFit 31 = .ok (.ireturn, 1) := by decide +kernel
theorem dX6_fits_0 : decode cX6_fits 0 = .ok (.aload_n 0, 1) := by decide +kernel
theorem dX6_fits_1 : decode cX6_fits 1 = .ok (.aload_n 0, 1) := by decide +kernel
theorem dX6_fits_2 : decode cX6_fits 2 = .ok (.getfield 7, 3) := by decide +kernel
theorem dX6_fits_5 : decode cX6_fits 5 = .ok (.iload_n 1, 1) := by decide +kernel
theorem dX6_fits_6 : decode cX6_fits 6 = .ok (.invokevirtual 81, 3) := by decide +kernel
theorem dX6_fits_9 : decode cX6_fits 9 = .ok (.ifCond .eq 17, 3) := by decide +kernel
theorem dX6_fits_12 : decode cX6_fits 12 = .ok (.iload_n 2, 1) := by decide +kernel
theorem dX6_fits_13 : decode cX6_fits 13 = .ok (.iconst 0, 1) := by decide +kernel
theorem dX6_fits_14 : decode cX6_fits 14 = .ok (.aload_n 0, 1) := by decide +kernel
theorem dX6_fits_15 : decode cX6_fits 15 = .ok (.getfield 166, 3) := by decide +kernel
theorem dX6_fits_18 : decode cX6_fits 18 = .ok (.iconst 1, 1) := by decide +kernel
theorem dX6_fits_19 : decode cX6_fits 19 = .ok (.isub, 1) := by decide +kernel
theorem dX6_fits_20 : decode cX6_fits 20 = .ok (.invokestatic 99, 3) := by decide +kernel
theorem dX6_fits_23 : decode cX6_fits 23 = .ok (.ifCond .ne 5, 3) := by decide +kernel
theorem dX6_fits_26 : decode cX6_fits 26 = .ok (.iconst (-1), 1) := by decide +kernel
theorem dX6_fits_27 : decode cX6_fits 27 = .ok (.ireturn, 1) := by decide +kernel
theorem dX6_fits_28 : decode cX6_fits 28 = .ok (.aload_n 0, 1) := by decide +kernel
theorem dX6_fits_29 : decode cX6_fits 29 = .ok (.iload_n 1, 1) := by decide +kernel
theorem dX6_fits_30 : decode cX6_fits 30 = .ok (.iload_n 2, 1) := by decide +kernel
theorem dX6_fits_31 : decode cX6_fits 31 = .ok (.invokevirtual 169, 3) := by decide +kernel
theorem dX6_fits_34 : decode cX6_fits 34 = .ok (.ifCond .eq 7, 3) := by decide +kernel
theorem dX6_fits_37 : decode cX6_fits 37 = .ok (.iconst 1, 1) := by decide +kernel
theorem dX6_fits_38 : decode cX6_fits 38 = .ok (.goto 4, 3) := by decide +kernel
theorem dX6_fits_41 : decode cX6_fits 41 = .ok (.iconst 0, 1) := by decide +kernel
theorem dX6_fits_42 : decode cX6_fits 42 = .ok (.ireturn, 1) := by decide +kernel
theorem dJ6_bitCount_0f7a4_0 : decode cJ6_bitCount_0f7a4 0 = .ok (.iload_n 0, 1) := by decide +kernel
theorem dJ6_bitCount_0f7a4_1 : decode cJ6_bitCount_0f7a4 1 = .ok (.iload_n 0, 1) := by decide +kernel
theorem dJ6_bitCount_0f7a4_2 : decode cJ6_bitCount_0f7a4 2 = .ok (.iconst 1, 1) := by decide +kernel
theorem dJ6_bitCount_0f7a4_3 : decode cJ6_bitCount_0f7a4 3 = .ok (.iushr, 1) := by decide +kernel
theorem dJ6_bitCount_0f7a4_4 : decode cJ6_bitCount_0f7a4 4 = .ok (.ldc_w 265, 3) := by decide +kernel
theorem dJ6_bitCount_0f7a4_7 : decode cJ6_bitCount_0f7a4 7 = .ok (.iand, 1) := by decide +kernel
theorem dJ6_bitCount_0f7a4_8 : decode cJ6_bitCount_0f7a4 8 = .ok (.isub, 1) := by decide +kernel
theorem dJ6_bitCount_0f7a4_9 : decode cJ6_bitCount_0f7a4 9 = .ok (.istore_n 0, 1) := by decide +kernel
theorem dJ6_bitCount_0f7a4_10 : decode cJ6_bitCount_0f7a4 10 = .ok (.iload_n 0, 1) := by decide +kernel
theorem dJ6_bitCount_0f7a4_11 : decode cJ6_bitCount_0f7a4 11 = .ok (.ldc_w 266, 3) := by decide +kernel
theorem dJ6_bitCount_0f7a4_14 : decode cJ6_bitCount_0f7a4 14 = .ok (.iand, 1) := by decide +kernel
theorem dJ6_bitCount_0f7a4_15 : decode cJ6_bitCount_0f7a4 15 = .ok (.iload_n 0, 1) := by decide +kernel
theorem dJ6_bitCount_0f7a4_16 : decode cJ6_bitCount_0f7a4 16 = .ok (.iconst 2, 1) := by decide +kernel
theorem dJ6_bitCount_0f7a4_17 : decode cJ6_bitCount_0f7a4 17 = .ok (.iushr, 1) := by decide +kernel
theorem dJ6_bitCount_0f7a4_18 : decode cJ6_bitCount_0f7a4 18 = .ok (.ldc_w 266, 3) := by decide +kernel
theorem dJ6_bitCount_0f7a4_21 : decode cJ6_bitCount_0f7a4 21 = .ok (.iand, 1) := by decide +kernel
theorem dJ6_bitCount_0f7a4_22 : decode cJ6_bitCount_0f7a4 22 = .ok (.iadd, 1) := by decide +kernel
theorem dJ6_bitCount_0f7a4_23 : decode cJ6_bitCount_0f7a4 23 = .ok (.istore_n 0, 1) := by decide +kernel
theorem dJ6_bitCount_0f7a4_24 : decode cJ6_bitCount_0f7a4 24 = .ok (.iload_n 0, 1) := by decide +kernel
theorem dJ6_bitCount_0f7a4_25 : decode cJ6_bitCount_0f7a4 25 = .ok (.iload_n 0, 1) := by decide +kernel
theorem dJ6_bitCount_0f7a4_26 : decode cJ6_bitCount_0f7a4 26 = .ok (.iconst 4, 1) := by decide +kernel
theorem dJ6_bitCount_0f7a4_27 : decode cJ6_bitCount_0f7a4 27 = .ok (.iushr, 1) := by decide +kernel
theorem dJ6_bitCount_0f7a4_28 : decode cJ6_bitCount_0f7a4 28 = .ok (.iadd, 1) := by decide +kernel
theorem dJ6_bitCount_0f7a4_29 : decode cJ6_bitCount_0f7a4 29 = .ok (.ldc_w 267, 3) := by decide +kernel
theorem dJ6_bitCount_0f7a4_32 : decode cJ6_bitCount_0f7a4 32 = .ok (.iand, 1) := by decide +kernel
theorem dJ6_bitCount_0f7a4_33 : decode cJ6_bitCount_0f7a4 33 = .ok (.istore_n 0, 1) := by decide +kernel
theorem dJ6_bitCount_0f7a4_34 : decode cJ6_bitCount_0f7a4 34 = .ok (.iload_n 0, 1) := by decide +kernel
theorem dJ6_bitCount_0f7a4_35 : decode cJ6_bitCount_0f7a4 35 = .ok (.iload_n 0, 1) := by decide +kernel
theorem dJ6_bitCount_0f7a4_36 : decode cJ6_bitCount_0f7a4 36 = .ok (.bipush 8, 2) := by decide +kernel
theorem dJ6_bitCount_0f7a4_38 : decode cJ6_bitCount_0f7a4 38 = .ok (.iushr, 1) := by decide +kernel
theorem dJ6_bitCount_0f7a4_39 : decode cJ6_bitCount_0f7a4 39 = .ok (.iadd, 1) := by decide +kernel
theorem dJ6_bitCount_0f7a4_40 : decode cJ6_bitCount_0f7a4 40 = .ok (.istore_n 0, 1) := by decide +kernel
theorem dJ6_bitCount_0f7a4_41 : decode cJ6_bitCount_0f7a4 41 = .ok (.iload_n 0, 1) := by decide +kernel
theorem dJ6_bitCount_0f7a4_42 : decode cJ6_bitCount_0f7a4 42 = .ok (.iload_n 0, 1) := by decide +kernel
theorem dJ6_bitCount_0f7a4_43 : decode cJ6_bitCount_0f7a4 43 = .ok (.bipush 16, 2) := by decide +kernel
theorem dJ6_bitCount_0f7a4_45 : decode cJ6_bitCount_0f7a4 45 = .ok (.iushr, 1) := by decide +kernel
theorem dJ6_bitCount_0f7a4_46 : decode cJ6_bitCount_0f7a4 46 = .ok (.iadd, 1) := by decide +kernel
theorem dJ6_bitCount_0f7a4_47 : decode cJ6_bitCount_0f7a4 47 = .ok (.istore_n 0, 1) := by decide +kernel
theorem dJ6_bitCount_0f7a4_48 : decode cJ6_bitCount_0f7a4 48 = .ok (.iload_n 0, 1) := by decide +kernel
theorem dJ6_bitCount_0f7a4_49 : decode cJ6_bitCount_0f7a4 49 = .ok (.bipush 63, 2) := by decide +kernel
theorem dJ6_bitCount_0f7a4_51 : decode cJ6_bitCount_0f7a4 51 = .ok (.iand, 1) := by decide +kernel
theorem dJ6_bitCount_0f7a4_52 : decode cJ6_bitCount_0f7a4 52 = .ok (.ireturn, 1) := by decide +kernel
theorem dL_law_0 : decode cL_law 0 = .ok (.new 7, 3) := by decide +kernel
theorem dL_law_3 : decode cL_law 3 = .ok (.dup, 1) := by decide +kernel
theorem dL_law_4 : decode cL_law 4 = .ok (.invokespecial 9, 3) := by decide +kernel
theorem dL_law_7 : decode cL_law 7 = .ok (.astore_n 1, 1) := by decide +kernel
theorem dL_law_8 : decode cL_law 8 = .ok (.new 10, 3) := by decide +kernel
theorem dL_law_11 : decode cL_law 11 = .ok (.dup, 1) := by decide +kernel
theorem dL_law_12 : decode cL_law 12 = .ok (.invokespecial 12, 3) := by decide +kernel
theorem dL_law_15 : decode cL_law 15 = .ok (.astore_n 2, 1) := by decide +kernel
theorem dL_law_16 : decode cL_law 16 = .ok (.iconst 0, 1) := by decide +kernel
theorem dL_law_17 : decode cL_law 17 = .ok (.istore_n 3, 1) := by decide +kernel
theorem dL_law_18 : decode cL_law 18 = .ok (.iload_n 3, 1) := by decide +kernel
theorem dL_law_19 : decode cL_law 19 = .ok (.aload_n 0, 1) := by decide +kernel
theorem dL_law_20 : decode cL_law 20 = .ok (.arraylength, 1) := by decide +kernel
theorem dL_law_21 : decode cL_law 21 = .ok (.bipush 6, 2) := by decide +kernel
theorem dL_law_23 : decode cL_law 23 = .ok (.isub, 1) := by decide +kernel
theorem dL_law_24 : decode cL_law 24 = .ok (.if_icmp .gt 827, 3) := by decide +kernel
theorem dL_law_27 : decode cL_law 27 = .ok (.aload_n 0, 1) := by decide +kernel
theorem dL_law_28 : decode cL_law 28 = .ok (.iload_n 3, 1) := by decide +kernel
theorem dL_law_29 : decode cL_law 29 = .ok (.iaload, 1) := by decide +kernel
theorem dL_law_30 : decode cL_law 30 = .ok (.bipush 31, 2) := by decide +kernel
theorem dL_law_32 : decode cL_law 32 = .ok (.iand, 1) := by decide +kernel
theorem dL_law_33 : decode cL_law 33 = .ok (.tableswitch 812 0 20 #[99, 132, 175, 228, 271, 304, 367, 410, 433, 446, 459, 482, 515, 558, 581, 604, 637, 670, 703, 736, 779], 99) := by decide +kernel
theorem dL_law_132 : decode cL_law 132 = .ok (.aload_n 1, 1) := by decide +kernel
theorem dL_law_133 : decode cL_law 133 = .ok (.aload_n 0, 1) := by decide +kernel
theorem dL_law_134 : decode cL_law 134 = .ok (.iload_n 3, 1) := by decide +kernel
theorem dL_law_135 : decode cL_law 135 = .ok (.iconst 1, 1) := by decide +kernel
theorem dL_law_136 : decode cL_law 136 = .ok (.iadd, 1) := by decide +kernel
theorem dL_law_137 : decode cL_law 137 = .ok (.iaload, 1) := by decide +kernel
theorem dL_law_138 : decode cL_law 138 = .ok (.aload_n 0, 1) := by decide +kernel
theorem dL_law_139 : decode cL_law 139 = .ok (.iload_n 3, 1) := by decide +kernel
theorem dL_law_140 : decode cL_law 140 = .ok (.iconst 2, 1) := by decide +kernel
theorem dL_law_141 : decode cL_law 141 = .ok (.iadd, 1) := by decide +kernel
theorem dL_law_142 : decode cL_law 142 = .ok (.iaload, 1) := by decide +kernel
theorem dL_law_143 : decode cL_law 143 = .ok (.invokevirtual 13, 3) := by decide +kernel
theorem dL_law_146 : decode cL_law 146 = .ok (.aload_n 2, 1) := by decide +kernel
theorem dL_law_147 : decode cL_law 147 = .ok (.aload_n 0, 1) := by decide +kernel
theorem dL_law_148 : decode cL_law 148 = .ok (.iload_n 3, 1) := by decide +kernel
theorem dL_law_149 : decode cL_law 149 = .ok (.iconst 1, 1) := by decide +kernel
theorem dL_law_150 : decode cL_law 150 = .ok (.iadd, 1) := by decide +kernel
theorem dL_law_151 : decode cL_law 151 = .ok (.iaload, 1) := by decide +kernel
theorem dL_law_152 : decode cL_law 152 = .ok (.aload_n 0, 1) := by decide +kernel
theorem dL_law_153 : decode cL_law 153 = .ok (.iload_n 3, 1) := by decide +kernel
theorem dL_law_154 : decode cL_law 154 = .ok (.iconst 2, 1) := by decide +kernel
theorem dL_law_155 : decode cL_law 155 = .ok (.iadd, 1) := by decide +kernel
theorem dL_law_156 : decode cL_law 156 = .ok (.iaload, 1) := by decide +kernel
theorem dL_law_157 : decode cL_law 157 = .ok (.invokevirtual 17, 3) := by decide +kernel
theorem dL_law_160 : decode cL_law 160 = .ok (.if_icmp .eq 685, 3) := by decide +kernel
theorem dL_law_163 : decode cL_law 163 = .ok (.iconst 0, 1) := by decide +kernel
theorem dL_law_164 : decode cL_law 164 = .ok (.ireturn, 1) := by decide +kernel
theorem dL_law_165 : decode cL_law 165 = .ok (.aload_n 1, 1) := by decide +kernel
theorem dL_law_166 : decode cL_law 166 = .ok (.aload_n 0, 1) := by decide +kernel
theorem dL_law_167 : decode cL_law 167 = .ok (.iload_n 3, 1) := by decide +kernel
theorem dL_law_168 : decode cL_law 168 = .ok (.iconst 1, 1) := by decide +kernel
theorem dL_law_169 : decode cL_law 169 = .ok (.iadd, 1) := by decide +kernel
theorem dL_law_170 : decode cL_law 170 = .ok (.iaload, 1) := by decide +kernel
theorem dL_law_171 : decode cL_law 171 = .ok (.aload_n 0, 1) := by decide +kernel
theorem dL_law_172 : decode cL_law 172 = .ok (.iload_n 3, 1) := by decide +kernel
theorem dL_law_173 : decode cL_law 173 = .ok (.iconst 2, 1) := by decide +kernel
theorem dL_law_174 : decode cL_law 174 = .ok (.iadd, 1) := by decide +kernel
theorem dL_law_175 : decode cL_law 175 = .ok (.iaload, 1) := by decide +kernel
theorem dL_law_176 : decode cL_law 176 = .ok (.aload_n 0, 1) := by decide +kernel
theorem dL_law_177 : decode cL_law 177 = .ok (.iload_n 3, 1) := by decide +kernel
theorem dL_law_178 : decode cL_law 178 = .ok (.iconst 3, 1) := by decide +kernel
theorem dL_law_179 : decode cL_law 179 = .ok (.iadd, 1) := by decide +kernel
theorem dL_law_180 : decode cL_law 180 = .ok (.iaload, 1) := by decide +kernel
theorem dL_law_181 : decode cL_law 181 = .ok (.invokevirtual 18, 3) := by decide +kernel
theorem dL_law_184 : decode cL_law 184 = .ok (.aload_n 2, 1) := by decide +kernel
theorem dL_law_185 : decode cL_law 185 = .ok (.aload_n 0, 1) := by decide +kernel
theorem dL_law_186 : decode cL_law 186 = .ok (.iload_n 3, 1) := by decide +kernel
theorem dL_law_187 : decode cL_law 187 = .ok (.iconst 1, 1) := by decide +kernel
theorem dL_law_188 : decode cL_law 188 = .ok (.iadd, 1) := by decide +kernel
theorem dL_law_189 : decode cL_law 189 = .ok (.iaload, 1) := by decide +kernel
theorem dL_law_190 : decode cL_law 190 = .ok (.aload_n 0, 1) := by decide +kernel
theorem dL_law_191 : decode cL_law 191 = .ok (.iload_n 3, 1) := by decide +kernel
theorem dL_law_192 : decode cL_law 192 = .ok (.iconst 2, 1) := by decide +kernel
theorem dL_law_193 : decode cL_law 193 = .ok (.iadd, 1) := by decide +kernel
theorem dL_law_194 : decode cL_law 194 = .ok (.iaload, 1) := by decide +kernel
theorem dL_law_195 : decode cL_law 195 = .ok (.aload_n 0, 1) := by decide +kernel
theorem dL_law_196 : decode cL_law 196 = .ok (.iload_n 3, 1) := by decide +kernel
theorem dL_law_197 : decode cL_law 197 = .ok (.iconst 3, 1) := by decide +kernel
theorem dL_law_198 : decode cL_law 198 = .ok (.iadd, 1) := by decide +kernel
theorem dL_law_199 : decode cL_law 199 = .ok (.iaload, 1) := by decide +kernel
theorem dL_law_200 : decode cL_law 200 = .ok (.invokevirtual 22, 3) := by decide +kernel
theorem dL_law_203 : decode cL_law 203 = .ok (.if_icmp .eq 642, 3) := by decide +kernel
theorem dL_law_206 : decode cL_law 206 = .ok (.iconst 0, 1) := by decide +kernel
theorem dL_law_207 : decode cL_law 207 = .ok (.ireturn, 1) := by decide +kernel
theorem dL_law_208 : decode cL_law 208 = .ok (.aload_n 1, 1) := by decide +kernel
theorem dL_law_209 : decode cL_law 209 = .ok (.aload_n 0, 1) := by decide +kernel
theorem dL_law_210 : decode cL_law 210 = .ok (.iload_n 3, 1) := by decide +kernel
theorem dL_law_211 : decode cL_law 211 = .ok (.iconst 1, 1) := by decide +kernel
theorem dL_law_212 : decode cL_law 212 = .ok (.iadd, 1) := by decide +kernel
theorem dL_law_213 : decode cL_law 213 = .ok (.iaload, 1) := by decide +kernel
theorem dL_law_214 : decode cL_law 214 = .ok (.aload_n 0, 1) := by decide +kernel
theorem dL_law_215 : decode cL_law 215 = .ok (.iload_n 3, 1) := by decide +kernel
theorem dL_law_216 : decode cL_law 216 = .ok (.iconst 2, 1) := by decide +kernel
theorem dL_law_217 : decode cL_law 217 = .ok (.iadd, 1) := by decide +kernel
theorem dL_law_218 : decode cL_law 218 = .ok (.iaload, 1) := by decide +kernel
theorem dL_law_219 : decode cL_law 219 = .ok (.aload_n 0, 1) := by decide +kernel
theorem dL_law_220 : decode cL_law 220 = .ok (.iload_n 3, 1) := by decide +kernel
theorem dL_law_221 : decode cL_law 221 = .ok (.iconst 3, 1) := by decide +kernel
theorem dL_law_222 : decode cL_law 222 = .ok (.iadd, 1) := by decide +kernel
theorem dL_law_223 : decode cL_law 223 = .ok (.iaload, 1) := by decide +kernel
theorem dL_law_224 : decode cL_law 224 = .ok (.aload_n 0, 1) := by decide +kernel
theorem dL_law_225 : decode cL_law 225 = .ok (.iload_n 3, 1) := by decide +kernel
theorem dL_law_226 : decode cL_law 226 = .ok (.iconst 4, 1) := by decide +kernel
theorem dL_law_227 : decode cL_law 227 = .ok (.iadd, 1) := by decide +kernel
theorem dL_law_228 : decode cL_law 228 = .ok (.iaload, 1) := by decide +kernel
theorem dL_law_229 : decode cL_law 229 = .ok (.invokevirtual 23, 3) := by decide +kernel
theorem dL_law_232 : decode cL_law 232 = .ok (.aload_n 2, 1) := by decide +kernel
theorem dL_law_233 : decode cL_law 233 = .ok (.aload_n 0, 1) := by decide +kernel
theorem dL_law_234 : decode cL_law 234 = .ok (.iload_n 3, 1) := by decide +kernel
theorem dL_law_235 : decode cL_law 235 = .ok (.iconst 1, 1) := by decide +kernel
theorem dL_law_236 : decode cL_law 236 = .ok (.iadd, 1) := by decide +kernel
theorem dL_law_237 : decode cL_law 237 = .ok (.iaload, 1) := by decide +kernel
theorem dL_law_238 : decode cL_law 238 = .ok (.aload_n 0, 1) := by decide +kernel
theorem dL_law_239 : decode cL_law 239 = .ok (.iload_n 3, 1) := by decide +kernel
theorem dL_law_240 : decode cL_law 240 = .ok (.iconst 2, 1) := by decide +kernel
theorem dL_law_241 : decode cL_law 241 = .ok (.iadd, 1) := by decide +kernel
theorem dL_law_242 : decode cL_law 242 = .ok (.iaload, 1) := by decide +kernel
theorem dL_law_243 : decode cL_law 243 = .ok (.aload_n 0, 1) := by decide +kernel
theorem dL_law_244 : decode cL_law 244 = .ok (.iload_n 3, 1) := by decide +kernel
theorem dL_law_245 : decode cL_law 245 = .ok (.iconst 3, 1) := by decide +kernel
theorem dL_law_246 : decode cL_law 246 = .ok (.iadd, 1) := by decide +kernel
theorem dL_law_247 : decode cL_law 247 = .ok (.iaload, 1) := by decide +kernel
theorem dL_law_248 : decode cL_law 248 = .ok (.aload_n 0, 1) := by decide +kernel
theorem dL_law_249 : decode cL_law 249 = .ok (.iload_n 3, 1) := by decide +kernel
theorem dL_law_250 : decode cL_law 250 = .ok (.iconst 4, 1) := by decide +kernel
theorem dL_law_251 : decode cL_law 251 = .ok (.iadd, 1) := by decide +kernel
theorem dL_law_252 : decode cL_law 252 = .ok (.iaload, 1) := by decide +kernel
theorem dL_law_253 : decode cL_law 253 = .ok (.invokevirtual 27, 3) := by decide +kernel
theorem dL_law_256 : decode cL_law 256 = .ok (.if_icmp .eq 589, 3) := by decide +kernel
theorem dL_law_259 : decode cL_law 259 = .ok (.iconst 0, 1) := by decide +kernel
theorem dL_law_260 : decode cL_law 260 = .ok (.ireturn, 1) := by decide +kernel
theorem dL_law_261 : decode cL_law 261 = .ok (.aload_n 1, 1) := by decide +kernel
theorem dL_law_262 : decode cL_law 262 = .ok (.aload_n 0, 1) := by decide +kernel
theorem dL_law_263 : decode cL_law 263 = .ok (.iload_n 3, 1) := by decide +kernel
theorem dL_law_264 : decode cL_law 264 = .ok (.iconst 1, 1) := by decide +kernel
theorem dL_law_265 : decode cL_law 265 = .ok (.iadd, 1) := by decide +kernel
theorem dL_law_266 : decode cL_law 266 = .ok (.iaload, 1) := by decide +kernel
theorem dL_law_267 : decode cL_law 267 = .ok (.aload_n 0, 1) := by decide +kernel
theorem dL_law_268 : decode cL_law 268 = .ok (.iload_n 3, 1) := by decide +kernel
theorem dL_law_269 : decode cL_law 269 = .ok (.iconst 2, 1) := by decide +kernel
theorem dL_law_270 : decode cL_law 270 = .ok (.iadd, 1) := by decide +kernel
theorem dL_law_271 : decode cL_law 271 = .ok (.iaload, 1) := by decide +kernel
theorem dL_law_272 : decode cL_law 272 = .ok (.aload_n 0, 1) := by decide +kernel
theorem dL_law_273 : decode cL_law 273 = .ok (.iload_n 3, 1) := by decide +kernel
theorem dL_law_274 : decode cL_law 274 = .ok (.iconst 3, 1) := by decide +kernel
theorem dL_law_275 : decode cL_law 275 = .ok (.iadd, 1) := by decide +kernel
theorem dL_law_276 : decode cL_law 276 = .ok (.iaload, 1) := by decide +kernel
theorem dL_law_277 : decode cL_law 277 = .ok (.invokevirtual 28, 3) := by decide +kernel
theorem dL_law_280 : decode cL_law 280 = .ok (.aload_n 2, 1) := by decide +kernel
theorem dL_law_281 : decode cL_law 281 = .ok (.aload_n 0, 1) := by decide +kernel
theorem dL_law_282 : decode cL_law 282 = .ok (.iload_n 3, 1) := by decide +kernel
theorem dL_law_283 : decode cL_law 283 = .ok (.iconst 1, 1) := by decide +kernel
theorem dL_law_284 : decode cL_law 284 = .ok (.iadd, 1) := by decide +kernel
theorem dL_law_285 : decode cL_law 285 = .ok (.iaload, 1) := by decide +kernel
theorem dL_law_286 : decode cL_law 286 = .ok (.aload_n 0, 1) := by decide +kernel
theorem dL_law_287 : decode cL_law 287 = .ok (.iload_n 3, 1) := by decide +kernel
theorem dL_law_288 : decode cL_law 288 = .ok (.iconst 2, 1) := by decide +kernel
theorem dL_law_289 : decode cL_law 289 = .ok (.iadd, 1) := by decide +kernel
theorem dL_law_290 : decode cL_law 290 = .ok (.iaload, 1) := by decide +kernel
theorem dL_law_291 : decode cL_law 291 = .ok (.aload_n 0, 1) := by decide +kernel
theorem dL_law_292 : decode cL_law 292 = .ok (.iload_n 3, 1) := by decide +kernel
theorem dL_law_293 : decode cL_law 293 = .ok (.iconst 3, 1) := by decide +kernel
theorem dL_law_294 : decode cL_law 294 = .ok (.iadd, 1) := by decide +kernel
theorem dL_law_295 : decode cL_law 295 = .ok (.iaload, 1) := by decide +kernel
theorem dL_law_296 : decode cL_law 296 = .ok (.invokevirtual 31, 3) := by decide +kernel
theorem dL_law_299 : decode cL_law 299 = .ok (.if_icmp .eq 546, 3) := by decide +kernel
theorem dL_law_302 : decode cL_law 302 = .ok (.iconst 0, 1) := by decide +kernel
theorem dL_law_303 : decode cL_law 303 = .ok (.ireturn, 1) := by decide +kernel
theorem dL_law_304 : decode cL_law 304 = .ok (.aload_n 1, 1) := by decide +kernel
theorem dL_law_305 : decode cL_law 305 = .ok (.aload_n 0, 1) := by decide +kernel
theorem dL_law_306 : decode cL_law 306 = .ok (.iload_n 3, 1) := by decide +kernel
theorem dL_law_307 : decode cL_law 307 = .ok (.iconst 1, 1) := by decide +kernel
theorem dL_law_308 : decode cL_law 308 = .ok (.iadd, 1) := by decide +kernel
theorem dL_law_309 : decode cL_law 309 = .ok (.iaload, 1) := by decide +kernel
theorem dL_law_310 : decode cL_law 310 = .ok (.aload_n 0, 1) := by decide +kernel
theorem dL_law_311 : decode cL_law 311 = .ok (.iload_n 3, 1) := by decide +kernel
theorem dL_law_312 : decode cL_law 312 = .ok (.iconst 2, 1) := by decide +kernel
theorem dL_law_313 : decode cL_law 313 = .ok (.iadd, 1) := by decide +kernel
theorem dL_law_314 : decode cL_law 314 = .ok (.iaload, 1) := by decide +kernel
theorem dL_law_315 : decode cL_law 315 = .ok (.invokevirtual 32, 3) := by decide +kernel
theorem dL_law_318 : decode cL_law 318 = .ok (.aload_n 2, 1) := by decide +kernel
theorem dL_law_319 : decode cL_law 319 = .ok (.aload_n 0, 1) := by decide +kernel
theorem dL_law_320 : decode cL_law 320 = .ok (.iload_n 3, 1) := by decide +kernel
theorem dL_law_321 : decode cL_law 321 = .ok (.iconst 1, 1) := by decide +kernel
theorem dL_law_322 : decode cL_law 322 = .ok (.iadd, 1) := by decide +kernel
theorem dL_law_323 : decode cL_law 323 = .ok (.iaload, 1) := by decide +kernel
theorem dL_law_324 : decode cL_law 324 = .ok (.aload_n 0, 1) := by decide +kernel
theorem dL_law_325 : decode cL_law 325 = .ok (.iload_n 3, 1) := by decide +kernel
theorem dL_law_326 : decode cL_law 326 = .ok (.iconst 2, 1) := by decide +kernel
theorem dL_law_327 : decode cL_law 327 = .ok (.iadd, 1) := by decide +kernel
theorem dL_law_328 : decode cL_law 328 = .ok (.iaload, 1) := by decide +kernel
theorem dL_law_329 : decode cL_law 329 = .ok (.invokevirtual 35, 3) := by decide +kernel
theorem dL_law_332 : decode cL_law 332 = .ok (.if_icmp .eq 513, 3) := by decide +kernel
theorem dL_law_335 : decode cL_law 335 = .ok (.iconst 0, 1) := by decide +kernel
theorem dL_law_336 : decode cL_law 336 = .ok (.ireturn, 1) := by decide +kernel
theorem dL_law_337 : decode cL_law 337 = .ok (.aload_n 1, 1) := by decide +kernel
theorem dL_law_338 : decode cL_law 338 = .ok (.aload_n 0, 1) := by decide +kernel
theorem dL_law_339 : decode cL_law 339 = .ok (.iload_n 3, 1) := by decide +kernel
theorem dL_law_340 : decode cL_law 340 = .ok (.iconst 1, 1) := by decide +kernel
theorem dL_law_341 : decode cL_law 341 = .ok (.iadd, 1) := by decide +kernel
theorem dL_law_342 : decode cL_law 342 = .ok (.iaload, 1) := by decide +kernel
theorem dL_law_343 : decode cL_law 343 = .ok (.aload_n 0, 1) := by decide +kernel
theorem dL_law_344 : decode cL_law 344 = .ok (.iload_n 3, 1) := by decide +kernel
theorem dL_law_345 : decode cL_law 345 = .ok (.iconst 2, 1) := by decide +kernel
theorem dL_law_346 : decode cL_law 346 = .ok (.iadd, 1) := by decide +kernel
theorem dL_law_347 : decode cL_law 347 = .ok (.iaload, 1) := by decide +kernel
theorem dL_law_348 : decode cL_law 348 = .ok (.aload_n 0, 1) := by decide +kernel
theorem dL_law_349 : decode cL_law 349 = .ok (.iload_n 3, 1) := by decide +kernel
theorem dL_law_350 : decode cL_law 350 = .ok (.iconst 3, 1) := by decide +kernel
theorem dL_law_351 : decode cL_law 351 = .ok (.iadd, 1) := by decide +kernel
theorem dL_law_352 : decode cL_law 352 = .ok (.iaload, 1) := by decide +kernel
theorem dL_law_353 : decode cL_law 353 = .ok (.aload_n 0, 1) := by decide +kernel
theorem dL_law_354 : decode cL_law 354 = .ok (.iload_n 3, 1) := by decide +kernel
theorem dL_law_355 : decode cL_law 355 = .ok (.iconst 4, 1) := by decide +kernel
theorem dL_law_356 : decode cL_law 356 = .ok (.iadd, 1) := by decide +kernel
theorem dL_law_357 : decode cL_law 357 = .ok (.iaload, 1) := by decide +kernel
theorem dL_law_358 : decode cL_law 358 = .ok (.aload_n 0, 1) := by decide +kernel
theorem dL_law_359 : decode cL_law 359 = .ok (.iload_n 3, 1) := by decide +kernel
theorem dL_law_360 : decode cL_law 360 = .ok (.iconst 5, 1) := by decide +kernel
theorem dL_law_361 : decode cL_law 361 = .ok (.iadd, 1) := by decide +kernel
theorem dL_law_362 : decode cL_law 362 = .ok (.iaload, 1) := by decide +kernel
theorem dL_law_363 : decode cL_law 363 = .ok (.invokevirtual 36, 3) := by decide +kernel
theorem dL_law_366 : decode cL_law 366 = .ok (.aload_n 2, 1) := by decide +kernel
theorem dL_law_367 : decode cL_law 367 = .ok (.aload_n 0, 1) := by decide +kernel
theorem dL_law_368 : decode cL_law 368 = .ok (.iload_n 3, 1) := by decide +kernel
theorem dL_law_369 : decode cL_law 369 = .ok (.iconst 1, 1) := by decide +kernel
theorem dL_law_370 : decode cL_law 370 = .ok (.iadd, 1) := by decide +kernel
theorem dL_law_371 : decode cL_law 371 = .ok (.iaload, 1) := by decide +kernel
theorem dL_law_372 : decode cL_law 372 = .ok (.aload_n 0, 1) := by decide +kernel
theorem dL_law_373 : decode cL_law 373 = .ok (.iload_n 3, 1) := by decide +kernel
theorem dL_law_374 : decode cL_law 374 = .ok (.iconst 2, 1) := by decide +kernel
theorem dL_law_375 : decode cL_law 375 = .ok (.iadd, 1) := by decide +kernel
theorem dL_law_376 : decode cL_law 376 = .ok (.iaload, 1) := by decide +kernel
theorem dL_law_377 : decode cL_law 377 = .ok (.aload_n 0, 1) := by decide +kernel
theorem dL_law_378 : decode cL_law 378 = .ok (.iload_n 3, 1) := by decide +kernel
theorem dL_law_379 : decode cL_law 379 = .ok (.iconst 3, 1) := by decide +kernel
theorem dL_law_380 : decode cL_law 380 = .ok (.iadd, 1) := by decide +kernel
theorem dL_law_381 : decode cL_law 381 = .ok (.iaload, 1) := by decide +kernel
theorem dL_law_382 : decode cL_law 382 = .ok (.aload_n 0, 1) := by decide +kernel
theorem dL_law_383 : decode cL_law 383 = .ok (.iload_n 3, 1) := by decide +kernel
theorem dL_law_384 : decode cL_law 384 = .ok (.iconst 4, 1) := by decide +kernel
theorem dL_law_385 : decode cL_law 385 = .ok (.iadd, 1) := by decide +kernel
theorem dL_law_386 : decode cL_law 386 = .ok (.iaload, 1) := by decide +kernel
theorem dL_law_387 : decode cL_law 387 = .ok (.aload_n 0, 1) := by decide +kernel
theorem dL_law_388 : decode cL_law 388 = .ok (.iload_n 3, 1) := by decide +kernel
theorem dL_law_389 : decode cL_law 389 = .ok (.iconst 5, 1) := by decide +kernel
theorem dL_law_390 : decode cL_law 390 = .ok (.iadd, 1) := by decide +kernel
theorem dL_law_391 : decode cL_law 391 = .ok (.iaload, 1) := by decide +kernel
theorem dL_law_392 : decode cL_law 392 = .ok (.invokevirtual 40, 3) := by decide +kernel
theorem dL_law_395 : decode cL_law 395 = .ok (.if_icmp .eq 450, 3) := by decide +kernel
theorem dL_law_398 : decode cL_law 398 = .ok (.iconst 0, 1) := by decide +kernel
theorem dL_law_399 : decode cL_law 399 = .ok (.ireturn, 1) := by decide +kernel
theorem dL_law_400 : decode cL_law 400 = .ok (.aload_n 1, 1) := by decide +kernel
theorem dL_law_401 : decode cL_law 401 = .ok (.aload_n 0, 1) := by decide +kernel
theorem dL_law_402 : decode cL_law 402 = .ok (.iload_n 3, 1) := by decide +kernel
theorem dL_law_403 : decode cL_law 403 = .ok (.iconst 1, 1) := by decide +kernel
theorem dL_law_404 : decode cL_law 404 = .ok (.iadd, 1) := by decide +kernel
theorem dL_law_405 : decode cL_law 405 = .ok (.iaload, 1) := by decide +kernel
theorem dL_law_406 : decode cL_law 406 = .ok (.aload_n 0, 1) := by decide +kernel
theorem dL_law_407 : decode cL_law 407 = .ok (.iload_n 3, 1) := by decide +kernel
theorem dL_law_408 : decode cL_law 408 = .ok (.iconst 2, 1) := by decide +kernel
theorem dL_law_409 : decode cL_law 409 = .ok (.iadd, 1) := by decide +kernel
theorem dL_law_410 : decode cL_law 410 = .ok (.iaload, 1) := by decide +kernel
theorem dL_law_411 : decode cL_law 411 = .ok (.aload_n 0, 1) := by decide +kernel
theorem dL_law_412 : decode cL_law 412 = .ok (.iload_n 3, 1) := by decide +kernel
theorem dL_law_413 : decode cL_law 413 = .ok (.iconst 3, 1) := by decide +kernel
theorem dL_law_414 : decode cL_law 414 = .ok (.iadd, 1) := by decide +kernel
theorem dL_law_415 : decode cL_law 415 = .ok (.iaload, 1) := by decide +kernel
theorem dL_law_416 : decode cL_law 416 = .ok (.invokevirtual 41, 3) := by decide +kernel
theorem dL_law_419 : decode cL_law 419 = .ok (.aload_n 2, 1) := by decide +kernel
theorem dL_law_420 : decode cL_law 420 = .ok (.aload_n 0, 1) := by decide +kernel
theorem dL_law_421 : decode cL_law 421 = .ok (.iload_n 3, 1) := by decide +kernel
theorem dL_law_422 : decode cL_law 422 = .ok (.iconst 1, 1) := by decide +kernel
theorem dL_law_423 : decode cL_law 423 = .ok (.iadd, 1) := by decide +kernel
theorem dL_law_424 : decode cL_law 424 = .ok (.iaload, 1) := by decide +kernel
theorem dL_law_425 : decode cL_law 425 = .ok (.aload_n 0, 1) := by decide +kernel
theorem dL_law_426 : decode cL_law 426 = .ok (.iload_n 3, 1) := by decide +kernel
theorem dL_law_427 : decode cL_law 427 = .ok (.iconst 2, 1) := by decide +kernel
theorem dL_law_428 : decode cL_law 428 = .ok (.iadd, 1) := by decide +kernel
theorem dL_law_429 : decode cL_law 429 = .ok (.iaload, 1) := by decide +kernel
theorem dL_law_430 : decode cL_law 430 = .ok (.aload_n 0, 1) := by decide +kernel
theorem dL_law_431 : decode cL_law 431 = .ok (.iload_n 3, 1) := by decide +kernel
theorem dL_law_432 : decode cL_law 432 = .ok (.iconst 3, 1) := by decide +kernel
theorem dL_law_433 : decode cL_law 433 = .ok (.iadd, 1) := by decide +kernel
theorem dL_law_434 : decode cL_law 434 = .ok (.iaload, 1) := by decide +kernel
theorem dL_law_435 : decode cL_law 435 = .ok (.invokevirtual 44, 3) := by decide +kernel
theorem dL_law_438 : decode cL_law 438 = .ok (.if_icmp .eq 407, 3) := by decide +kernel
theorem dL_law_441 : decode cL_law 441 = .ok (.iconst 0, 1) := by decide +kernel
theorem dL_law_442 : decode cL_law 442 = .ok (.ireturn, 1) := by decide +kernel
theorem dL_law_443 : decode cL_law 443 = .ok (.aload_n 1, 1) := by decide +kernel
theorem dL_law_444 : decode cL_law 444 = .ok (.aload_n 0, 1) := by decide +kernel
theorem dL_law_445 : decode cL_law 445 = .ok (.iload_n 3, 1) := by decide +kernel
theorem dL_law_446 : decode cL_law 446 = .ok (.iconst 1, 1) := by decide +kernel
theorem dL_law_447 : decode cL_law 447 = .ok (.iadd, 1) := by decide +kernel
theorem dL_law_448 : decode cL_law 448 = .ok (.iaload, 1) := by decide +kernel
theorem dL_law_449 : decode cL_law 449 = .ok (.invokevirtual 45, 3) := by decide +kernel
theorem dL_law_452 : decode cL_law 452 = .ok (.aload_n 2, 1) := by decide +kernel
theorem dL_law_453 : decode cL_law 453 = .ok (.aload_n 0, 1) := by decide +kernel
theorem dL_law_454 : decode cL_law 454 = .ok (.iload_n 3, 1) := by decide +kernel
theorem dL_law_455 : decode cL_law 455 = .ok (.iconst 1, 1) := by decide +kernel
theorem dL_law_456 : decode cL_law 456 = .ok (.iadd, 1) := by decide +kernel
theorem dL_law_457 : decode cL_law 457 = .ok (.iaload, 1) := by decide +kernel
theorem dL_law_458 : decode cL_law 458 = .ok (.invokevirtual 49, 3) := by decide +kernel
theorem dL_law_461 : decode cL_law 461 = .ok (.if_icmp .eq 384, 3) := by decide +kernel
theorem dL_law_464 : decode cL_law 464 = .ok (.iconst 0, 1) := by decide +kernel
theorem dL_law_465 : decode cL_law 465 = .ok (.ireturn, 1) := by decide +kernel
theorem dL_law_466 : decode cL_law 466 = .ok (.aload_n 1, 1) := by decide +kernel
theorem dL_law_467 : decode cL_law 467 = .ok (.invokevirtual 50, 3) := by decide +kernel
theorem dL_law_470 : decode cL_law 470 = .ok (.aload_n 2, 1) := by decide +kernel
theorem dL_law_471 : decode cL_law 471 = .ok (.invokevirtual 54, 3) := by decide +kernel
theorem dL_law_474 : decode cL_law 474 = .ok (.if_icmp .eq 371, 3) := by decide +kernel
theorem dL_law_477 : decode cL_law 477 = .ok (.iconst 0, 1) := by decide +kernel
theorem dL_law_478 : decode cL_law 478 = .ok (.ireturn, 1) := by decide +kernel
theorem dL_law_479 : decode cL_law 479 = .ok (.aload_n 1, 1) := by decide +kernel
theorem dL_law_480 : decode cL_law 480 = .ok (.invokevirtual 55, 3) := by decide +kernel
theorem dL_law_483 : decode cL_law 483 = .ok (.aload_n 2, 1) := by decide +kernel
theorem dL_law_484 : decode cL_law 484 = .ok (.invokevirtual 58, 3) := by decide +kernel
theorem dL_law_487 : decode cL_law 487 = .ok (.if_icmp .eq 358, 3) := by decide +kernel
theorem dL_law_490 : decode cL_law 490 = .ok (.iconst 0, 1) := by decide +kernel
theorem dL_law_491 : decode cL_law 491 = .ok (.ireturn, 1) := by decide +kernel
theorem dL_law_492 : decode cL_law 492 = .ok (.aload_n 1, 1) := by decide +kernel
theorem dL_law_493 : decode cL_law 493 = .ok (.aload_n 0, 1) := by decide +kernel
theorem dL_law_494 : decode cL_law 494 = .ok (.iload_n 3, 1) := by decide +kernel
theorem dL_law_495 : decode cL_law 495 = .ok (.iconst 1, 1) := by decide +kernel
theorem dL_law_496 : decode cL_law 496 = .ok (.iadd, 1) := by decide +kernel
theorem dL_law_497 : decode cL_law 497 = .ok (.iaload, 1) := by decide +kernel
theorem dL_law_498 : decode cL_law 498 = .ok (.invokevirtual 59, 3) := by decide +kernel
theorem dL_law_501 : decode cL_law 501 = .ok (.aload_n 2, 1) := by decide +kernel
theorem dL_law_502 : decode cL_law 502 = .ok (.aload_n 0, 1) := by decide +kernel
theorem dL_law_503 : decode cL_law 503 = .ok (.iload_n 3, 1) := by decide +kernel
theorem dL_law_504 : decode cL_law 504 = .ok (.iconst 1, 1) := by decide +kernel
theorem dL_law_505 : decode cL_law 505 = .ok (.iadd, 1) := by decide +kernel
theorem dL_law_506 : decode cL_law 506 = .ok (.iaload, 1) := by decide +kernel
theorem dL_law_507 : decode cL_law 507 = .ok (.invokevirtual 62, 3) := by decide +kernel
theorem dL_law_510 : decode cL_law 510 = .ok (.if_icmp .eq 335, 3) := by decide +kernel
theorem dL_law_513 : decode cL_law 513 = .ok (.iconst 0, 1) := by decide +kernel
theorem dL_law_514 : decode cL_law 514 = .ok (.ireturn, 1) := by decide +kernel
theorem dL_law_515 : decode cL_law 515 = .ok (.aload_n 1, 1) := by decide +kernel
theorem dL_law_516 : decode cL_law 516 = .ok (.aload_n 0, 1) := by decide +kernel
theorem dL_law_517 : decode cL_law 517 = .ok (.iload_n 3, 1) := by decide +kernel
theorem dL_law_518 : decode cL_law 518 = .ok (.iconst 1, 1) := by decide +kernel
theorem dL_law_519 : decode cL_law 519 = .ok (.iadd, 1) := by decide +kernel
theorem dL_law_520 : decode cL_law 520 = .ok (.iaload, 1) := by decide +kernel
theorem dL_law_521 : decode cL_law 521 = .ok (.aload_n 0, 1) := by decide +kernel
theorem dL_law_522 : decode cL_law 522 = .ok (.iload_n 3, 1) := by decide +kernel
theorem dL_law_523 : decode cL_law 523 = .ok (.iconst 2, 1) := by decide +kernel
theorem dL_law_524 : decode cL_law 524 = .ok (.iadd, 1) := by decide +kernel
theorem dL_law_525 : decode cL_law 525 = .ok (.iaload, 1) := by decide +kernel
theorem dL_law_526 : decode cL_law 526 = .ok (.invokevirtual 63, 3) := by decide +kernel
theorem dL_law_529 : decode cL_law 529 = .ok (.aload_n 2, 1) := by decide +kernel
theorem dL_law_530 : decode cL_law 530 = .ok (.aload_n 0, 1) := by decide +kernel
theorem dL_law_531 : decode cL_law 531 = .ok (.iload_n 3, 1) := by decide +kernel
theorem dL_law_532 : decode cL_law 532 = .ok (.iconst 1, 1) := by decide +kernel
theorem dL_law_533 : decode cL_law 533 = .ok (.iadd, 1) := by decide +kernel
theorem dL_law_534 : decode cL_law 534 = .ok (.iaload, 1) := by decide +kernel
theorem dL_law_535 : decode cL_law 535 = .ok (.aload_n 0, 1) := by decide +kernel
theorem dL_law_536 : decode cL_law 536 = .ok (.iload_n 3, 1) := by decide +kernel
theorem dL_law_537 : decode cL_law 537 = .ok (.iconst 2, 1) := by decide +kernel
theorem dL_law_538 : decode cL_law 538 = .ok (.iadd, 1) := by decide +kernel
theorem dL_law_539 : decode cL_law 539 = .ok (.iaload, 1) := by decide +kernel
theorem dL_law_540 : decode cL_law 540 = .ok (.invokevirtual 66, 3) := by decide +kernel
theorem dL_law_543 : decode cL_law 543 = .ok (.if_icmp .eq 302, 3) := by decide +kernel
theorem dL_law_546 : decode cL_law 546 = .ok (.iconst 0, 1) := by decide +kernel
theorem dL_law_547 : decode cL_law 547 = .ok (.ireturn, 1) := by decide +kernel
theorem dL_law_548 : decode cL_law 548 = .ok (.aload_n 1, 1) := by decide +kernel
theorem dL_law_549 : decode cL_law 549 = .ok (.aload_n 0, 1) := by decide +kernel
theorem dL_law_550 : decode cL_law 550 = .ok (.iload_n 3, 1) := by decide +kernel
theorem dL_law_551 : decode cL_law 551 = .ok (.iconst 1, 1) := by decide +kernel
theorem dL_law_552 : decode cL_law 552 = .ok (.iadd, 1) := by decide +kernel
theorem dL_law_553 : decode cL_law 553 = .ok (.iaload, 1) := by decide +kernel
theorem dL_law_554 : decode cL_law 554 = .ok (.aload_n 0, 1) := by decide +kernel
theorem dL_law_555 : decode cL_law 555 = .ok (.iload_n 3, 1) := by decide +kernel
theorem dL_law_556 : decode cL_law 556 = .ok (.iconst 2, 1) := by decide +kernel
theorem dL_law_557 : decode cL_law 557 = .ok (.iadd, 1) := by decide +kernel
theorem dL_law_558 : decode cL_law 558 = .ok (.iaload, 1) := by decide +kernel
theorem dL_law_559 : decode cL_law 559 = .ok (.aload_n 0, 1) := by decide +kernel
theorem dL_law_560 : decode cL_law 560 = .ok (.iload_n 3, 1) := by decide +kernel
theorem dL_law_561 : decode cL_law 561 = .ok (.iconst 3, 1) := by decide +kernel
theorem dL_law_562 : decode cL_law 562 = .ok (.iadd, 1) := by decide +kernel
theorem dL_law_563 : decode cL_law 563 = .ok (.iaload, 1) := by decide +kernel
theorem dL_law_564 : decode cL_law 564 = .ok (.invokevirtual 67, 3) := by decide +kernel
theorem dL_law_567 : decode cL_law 567 = .ok (.aload_n 2, 1) := by decide +kernel
theorem dL_law_568 : decode cL_law 568 = .ok (.aload_n 0, 1) := by decide +kernel
theorem dL_law_569 : decode cL_law 569 = .ok (.iload_n 3, 1) := by decide +kernel
theorem dL_law_570 : decode cL_law 570 = .ok (.iconst 1, 1) := by decide +kernel
theorem dL_law_571 : decode cL_law 571 = .ok (.iadd, 1) := by decide +kernel
theorem dL_law_572 : decode cL_law 572 = .ok (.iaload, 1) := by decide +kernel
theorem dL_law_573 : decode cL_law 573 = .ok (.aload_n 0, 1) := by decide +kernel
theorem dL_law_574 : decode cL_law 574 = .ok (.iload_n 3, 1) := by decide +kernel
theorem dL_law_575 : decode cL_law 575 = .ok (.iconst 2, 1) := by decide +kernel
theorem dL_law_576 : decode cL_law 576 = .ok (.iadd, 1) := by decide +kernel
theorem dL_law_577 : decode cL_law 577 = .ok (.iaload, 1) := by decide +kernel
theorem dL_law_578 : decode cL_law 578 = .ok (.aload_n 0, 1) := by decide +kernel
theorem dL_law_579 : decode cL_law 579 = .ok (.iload_n 3, 1) := by decide +kernel
theorem dL_law_580 : decode cL_law 580 = .ok (.iconst 3, 1) := by decide +kernel
theorem dL_law_581 : decode cL_law 581 = .ok (.iadd, 1) := by decide +kernel
theorem dL_law_582 : decode cL_law 582 = .ok (.iaload, 1) := by decide +kernel
theorem dL_law_583 : decode cL_law 583 = .ok (.invokevirtual 70, 3) := by decide +kernel
theorem dL_law_586 : decode cL_law 586 = .ok (.if_icmp .eq 259, 3) := by decide +kernel
theorem dL_law_589 : decode cL_law 589 = .ok (.iconst 0, 1) := by decide +kernel
theorem dL_law_590 : decode cL_law 590 = .ok (.ireturn, 1) := by decide +kernel
theorem dL_law_591 : decode cL_law 591 = .ok (.aload_n 1, 1) := by decide +kernel
theorem dL_law_592 : decode cL_law 592 = .ok (.aload_n 0, 1) := by decide +kernel
theorem dL_law_593 : decode cL_law 593 = .ok (.iload_n 3, 1) := by decide +kernel
theorem dL_law_594 : decode cL_law 594 = .ok (.iconst 1, 1) := by decide +kernel
theorem dL_law_595 : decode cL_law 595 = .ok (.iadd, 1) := by decide +kernel
theorem dL_law_596 : decode cL_law 596 = .ok (.iaload, 1) := by decide +kernel
theorem dL_law_597 : decode cL_law 597 = .ok (.invokevirtual 71, 3) := by decide +kernel
theorem dL_law_600 : decode cL_law 600 = .ok (.aload_n 2, 1) := by decide +kernel
theorem dL_law_601 : decode cL_law 601 = .ok (.aload_n 0, 1) := by decide +kernel
theorem dL_law_602 : decode cL_law 602 = .ok (.iload_n 3, 1) := by decide +kernel
theorem dL_law_603 : decode cL_law 603 = .ok (.iconst 1, 1) := by decide +kernel
theorem dL_law_604 : decode cL_law 604 = .ok (.iadd, 1) := by decide +kernel
theorem dL_law_605 : decode cL_law 605 = .ok (.iaload, 1) := by decide +kernel
theorem dL_law_606 : decode cL_law 606 = .ok (.invokevirtual 74, 3) := by decide +kernel
theorem dL_law_609 : decode cL_law 609 = .ok (.if_icmp .eq 236, 3) := by decide +kernel
theorem dL_law_612 : decode cL_law 612 = .ok (.iconst 0, 1) := by decide +kernel
theorem dL_law_613 : decode cL_law 613 = .ok (.ireturn, 1) := by decide +kernel
theorem dL_law_614 : decode cL_law 614 = .ok (.aload_n 1, 1) := by decide +kernel
theorem dL_law_615 : decode cL_law 615 = .ok (.aload_n 0, 1) := by decide +kernel
theorem dL_law_616 : decode cL_law 616 = .ok (.iload_n 3, 1) := by decide +kernel
theorem dL_law_617 : decode cL_law 617 = .ok (.iconst 1, 1) := by decide +kernel
theorem dL_law_618 : decode cL_law 618 = .ok (.iadd, 1) := by decide +kernel
theorem dL_law_619 : decode cL_law 619 = .ok (.iaload, 1) := by decide +kernel
theorem dL_law_620 : decode cL_law 620 = .ok (.invokevirtual 75, 3) := by decide +kernel
theorem dL_law_623 : decode cL_law 623 = .ok (.aload_n 2, 1) := by decide +kernel
theorem dL_law_624 : decode cL_law 624 = .ok (.aload_n 0, 1) := by decide +kernel
theorem dL_law_625 : decode cL_law 625 = .ok (.iload_n 3, 1) := by decide +kernel
theorem dL_law_626 : decode cL_law 626 = .ok (.iconst 1, 1) := by decide +kernel
theorem dL_law_627 : decode cL_law 627 = .ok (.iadd, 1) := by decide +kernel
theorem dL_law_628 : decode cL_law 628 = .ok (.iaload, 1) := by decide +kernel
theorem dL_law_629 : decode cL_law 629 = .ok (.invokevirtual 78, 3) := by decide +kernel
theorem dL_law_632 : decode cL_law 632 = .ok (.if_icmp .eq 213, 3) := by decide +kernel
theorem dL_law_635 : decode cL_law 635 = .ok (.iconst 0, 1) := by decide +kernel
theorem dL_law_636 : decode cL_law 636 = .ok (.ireturn, 1) := by decide +kernel
theorem dL_law_637 : decode cL_law 637 = .ok (.aload_n 1, 1) := by decide +kernel
theorem dL_law_638 : decode cL_law 638 = .ok (.aload_n 0, 1) := by decide +kernel
theorem dL_law_639 : decode cL_law 639 = .ok (.iload_n 3, 1) := by decide +kernel
theorem dL_law_640 : decode cL_law 640 = .ok (.iconst 1, 1) := by decide +kernel
theorem dL_law_641 : decode cL_law 641 = .ok (.iadd, 1) := by decide +kernel
theorem dL_law_642 : decode cL_law 642 = .ok (.iaload, 1) := by decide +kernel
theorem dL_law_643 : decode cL_law 643 = .ok (.aload_n 0, 1) := by decide +kernel
theorem dL_law_644 : decode cL_law 644 = .ok (.iload_n 3, 1) := by decide +kernel
theorem dL_law_645 : decode cL_law 645 = .ok (.iconst 2, 1) := by decide +kernel
theorem dL_law_646 : decode cL_law 646 = .ok (.iadd, 1) := by decide +kernel
theorem dL_law_647 : decode cL_law 647 = .ok (.iaload, 1) := by decide +kernel
theorem dL_law_648 : decode cL_law 648 = .ok (.invokevirtual 79, 3) := by decide +kernel
theorem dL_law_651 : decode cL_law 651 = .ok (.aload_n 2, 1) := by decide +kernel
theorem dL_law_652 : decode cL_law 652 = .ok (.aload_n 0, 1) := by decide +kernel
theorem dL_law_653 : decode cL_law 653 = .ok (.iload_n 3, 1) := by decide +kernel
theorem dL_law_654 : decode cL_law 654 = .ok (.iconst 1, 1) := by decide +kernel
theorem dL_law_655 : decode cL_law 655 = .ok (.iadd, 1) := by decide +kernel
theorem dL_law_656 : decode cL_law 656 = .ok (.iaload, 1) := by decide +kernel
theorem dL_law_657 : decode cL_law 657 = .ok (.aload_n 0, 1) := by decide +kernel
theorem dL_law_658 : decode cL_law 658 = .ok (.iload_n 3, 1) := by decide +kernel
theorem dL_law_659 : decode cL_law 659 = .ok (.iconst 2, 1) := by decide +kernel
theorem dL_law_660 : decode cL_law 660 = .ok (.iadd, 1) := by decide +kernel
theorem dL_law_661 : decode cL_law 661 = .ok (.iaload, 1) := by decide +kernel
theorem dL_law_662 : decode cL_law 662 = .ok (.invokevirtual 82, 3) := by decide +kernel
theorem dL_law_665 : decode cL_law 665 = .ok (.if_icmp .eq 180, 3) := by decide +kernel
theorem dL_law_668 : decode cL_law 668 = .ok (.iconst 0, 1) := by decide +kernel
theorem dL_law_669 : decode cL_law 669 = .ok (.ireturn, 1) := by decide +kernel
theorem dL_law_670 : decode cL_law 670 = .ok (.aload_n 1, 1) := by decide +kernel
theorem dL_law_671 : decode cL_law 671 = .ok (.aload_n 0, 1) := by decide +kernel
theorem dL_law_672 : decode cL_law 672 = .ok (.iload_n 3, 1) := by decide +kernel
theorem dL_law_673 : decode cL_law 673 = .ok (.iconst 1, 1) := by decide +kernel
theorem dL_law_674 : decode cL_law 674 = .ok (.iadd, 1) := by decide +kernel
theorem dL_law_675 : decode cL_law 675 = .ok (.iaload, 1) := by decide +kernel
theorem dL_law_676 : decode cL_law 676 = .ok (.aload_n 0, 1) := by decide +kernel
theorem dL_law_677 : decode cL_law 677 = .ok (.iload_n 3, 1) := by decide +kernel
theorem dL_law_678 : decode cL_law 678 = .ok (.iconst 2, 1) := by decide +kernel
theorem dL_law_679 : decode cL_law 679 = .ok (.iadd, 1) := by decide +kernel
theorem dL_law_680 : decode cL_law 680 = .ok (.iaload, 1) := by decide +kernel
theorem dL_law_681 : decode cL_law 681 = .ok (.invokevirtual 83, 3) := by decide +kernel
theorem dL_law_684 : decode cL_law 684 = .ok (.aload_n 2, 1) := by decide +kernel
theorem dL_law_685 : decode cL_law 685 = .ok (.aload_n 0, 1) := by decide +kernel
theorem dL_law_686 : decode cL_law 686 = .ok (.iload_n 3, 1) := by decide +kernel
theorem dL_law_687 : decode cL_law 687 = .ok (.iconst 1, 1) := by decide +kernel
theorem dL_law_688 : decode cL_law 688 = .ok (.iadd, 1) := by decide +kernel
theorem dL_law_689 : decode cL_law 689 = .ok (.iaload, 1) := by decide +kernel
theorem dL_law_690 : decode cL_law 690 = .ok (.aload_n 0, 1) := by decide +kernel
theorem dL_law_691 : decode cL_law 691 = .ok (.iload_n 3, 1) := by decide +kernel
theorem dL_law_692 : decode cL_law 692 = .ok (.iconst 2, 1) := by decide +kernel
theorem dL_law_693 : decode cL_law 693 = .ok (.iadd, 1) := by decide +kernel
theorem dL_law_694 : decode cL_law 694 = .ok (.iaload, 1) := by decide +kernel
theorem dL_law_695 : decode cL_law 695 = .ok (.invokevirtual 86, 3) := by decide +kernel
theorem dL_law_698 : decode cL_law 698 = .ok (.if_icmp .eq 147, 3) := by decide +kernel
theorem dL_law_701 : decode cL_law 701 = .ok (.iconst 0, 1) := by decide +kernel
theorem dL_law_702 : decode cL_law 702 = .ok (.ireturn, 1) := by decide +kernel
theorem dL_law_703 : decode cL_law 703 = .ok (.aload_n 1, 1) := by decide +kernel
theorem dL_law_704 : decode cL_law 704 = .ok (.aload_n 0, 1) := by decide +kernel
theorem dL_law_705 : decode cL_law 705 = .ok (.iload_n 3, 1) := by decide +kernel
theorem dL_law_706 : decode cL_law 706 = .ok (.iconst 1, 1) := by decide +kernel
theorem dL_law_707 : decode cL_law 707 = .ok (.iadd, 1) := by decide +kernel
theorem dL_law_708 : decode cL_law 708 = .ok (.iaload, 1) := by decide +kernel
theorem dL_law_709 : decode cL_law 709 = .ok (.aload_n 0, 1) := by decide +kernel
theorem dL_law_710 : decode cL_law 710 = .ok (.iload_n 3, 1) := by decide +kernel
theorem dL_law_711 : decode cL_law 711 = .ok (.iconst 2, 1) := by decide +kernel
theorem dL_law_712 : decode cL_law 712 = .ok (.iadd, 1) := by decide +kernel
theorem dL_law_713 : decode cL_law 713 = .ok (.iaload, 1) := by decide +kernel
theorem dL_law_714 : decode cL_law 714 = .ok (.invokevirtual 87, 3) := by decide +kernel
theorem dL_law_717 : decode cL_law 717 = .ok (.aload_n 2, 1) := by decide +kernel
theorem dL_law_718 : decode cL_law 718 = .ok (.aload_n 0, 1) := by decide +kernel
theorem dL_law_719 : decode cL_law 719 = .ok (.iload_n 3, 1) := by decide +kernel
theorem dL_law_720 : decode cL_law 720 = .ok (.iconst 1, 1) := by decide +kernel
theorem dL_law_721 : decode cL_law 721 = .ok (.iadd, 1) := by decide +kernel
theorem dL_law_722 : decode cL_law 722 = .ok (.iaload, 1) := by decide +kernel
theorem dL_law_723 : decode cL_law 723 = .ok (.aload_n 0, 1) := by decide +kernel
theorem dL_law_724 : decode cL_law 724 = .ok (.iload_n 3, 1) := by decide +kernel
theorem dL_law_725 : decode cL_law 725 = .ok (.iconst 2, 1) := by decide +kernel
theorem dL_law_726 : decode cL_law 726 = .ok (.iadd, 1) := by decide +kernel
theorem dL_law_727 : decode cL_law 727 = .ok (.iaload, 1) := by decide +kernel
theorem dL_law_728 : decode cL_law 728 = .ok (.invokevirtual 90, 3) := by decide +kernel
theorem dL_law_731 : decode cL_law 731 = .ok (.if_icmp .eq 114, 3) := by decide +kernel
theorem dL_law_734 : decode cL_law 734 = .ok (.iconst 0, 1) := by decide +kernel
theorem dL_law_735 : decode cL_law 735 = .ok (.ireturn, 1) := by decide +kernel
theorem dL_law_736 : decode cL_law 736 = .ok (.aload_n 1, 1) := by decide +kernel
theorem dL_law_737 : decode cL_law 737 = .ok (.aload_n 0, 1) := by decide +kernel
theorem dL_law_738 : decode cL_law 738 = .ok (.iload_n 3, 1) := by decide +kernel
theorem dL_law_739 : decode cL_law 739 = .ok (.iconst 1, 1) := by decide +kernel
theorem dL_law_740 : decode cL_law 740 = .ok (.iadd, 1) := by decide +kernel
theorem dL_law_741 : decode cL_law 741 = .ok (.iaload, 1) := by decide +kernel
theorem dL_law_742 : decode cL_law 742 = .ok (.aload_n 0, 1) := by decide +kernel
theorem dL_law_743 : decode cL_law 743 = .ok (.iload_n 3, 1) := by decide +kernel
theorem dL_law_744 : decode cL_law 744 = .ok (.iconst 2, 1) := by decide +kernel
theorem dL_law_745 : decode cL_law 745 = .ok (.iadd, 1) := by decide +kernel
theorem dL_law_746 : decode cL_law 746 = .ok (.iaload, 1) := by decide +kernel
theorem dL_law_747 : decode cL_law 747 = .ok (.invokevirtual 91, 3) := by decide +kernel
theorem dL_law_750 : decode cL_law 750 = .ok (.aload_n 2, 1) := by decide +kernel
theorem dL_law_751 : decode cL_law 751 = .ok (.aload_n 0, 1) := by decide +kernel
theorem dL_law_752 : decode cL_law 752 = .ok (.iload_n 3, 1) := by decide +kernel
theorem dL_law_753 : decode cL_law 753 = .ok (.iconst 1, 1) := by decide +kernel
theorem dL_law_754 : decode cL_law 754 = .ok (.iadd, 1) := by decide +kernel
theorem dL_law_755 : decode cL_law 755 = .ok (.iaload, 1) := by decide +kernel
theorem dL_law_756 : decode cL_law 756 = .ok (.aload_n 0, 1) := by decide +kernel
theorem dL_law_757 : decode cL_law 757 = .ok (.iload_n 3, 1) := by decide +kernel
theorem dL_law_758 : decode cL_law 758 = .ok (.iconst 2, 1) := by decide +kernel
theorem dL_law_759 : decode cL_law 759 = .ok (.iadd, 1) := by decide +kernel
theorem dL_law_760 : decode cL_law 760 = .ok (.iaload, 1) := by decide +kernel
theorem dL_law_761 : decode cL_law 761 = .ok (.invokevirtual 94, 3) := by decide +kernel
theorem dL_law_764 : decode cL_law 764 = .ok (.if_icmp .eq 81, 3) := by decide +kernel
theorem dL_law_767 : decode cL_law 767 = .ok (.iconst 0, 1) := by decide +kernel
theorem dL_law_768 : decode cL_law 768 = .ok (.ireturn, 1) := by decide +kernel
theorem dL_law_769 : decode cL_law 769 = .ok (.aload_n 1, 1) := by decide +kernel
theorem dL_law_770 : decode cL_law 770 = .ok (.aload_n 0, 1) := by decide +kernel
theorem dL_law_771 : decode cL_law 771 = .ok (.iload_n 3, 1) := by decide +kernel
theorem dL_law_772 : decode cL_law 772 = .ok (.iconst 1, 1) := by decide +kernel
theorem dL_law_773 : decode cL_law 773 = .ok (.iadd, 1) := by decide +kernel
theorem dL_law_774 : decode cL_law 774 = .ok (.iaload, 1) := by decide +kernel
theorem dL_law_775 : decode cL_law 775 = .ok (.aload_n 0, 1) := by decide +kernel
theorem dL_law_776 : decode cL_law 776 = .ok (.iload_n 3, 1) := by decide +kernel
theorem dL_law_777 : decode cL_law 777 = .ok (.iconst 2, 1) := by decide +kernel
theorem dL_law_778 : decode cL_law 778 = .ok (.iadd, 1) := by decide +kernel
theorem dL_law_779 : decode cL_law 779 = .ok (.iaload, 1) := by decide +kernel
theorem dL_law_780 : decode cL_law 780 = .ok (.aload_n 0, 1) := by decide +kernel
theorem dL_law_781 : decode cL_law 781 = .ok (.iload_n 3, 1) := by decide +kernel
theorem dL_law_782 : decode cL_law 782 = .ok (.iconst 3, 1) := by decide +kernel
theorem dL_law_783 : decode cL_law 783 = .ok (.iadd, 1) := by decide +kernel
theorem dL_law_784 : decode cL_law 784 = .ok (.iaload, 1) := by decide +kernel
theorem dL_law_785 : decode cL_law 785 = .ok (.invokevirtual 95, 3) := by decide +kernel
theorem dL_law_788 : decode cL_law 788 = .ok (.aload_n 2, 1) := by decide +kernel
theorem dL_law_789 : decode cL_law 789 = .ok (.aload_n 0, 1) := by decide +kernel
theorem dL_law_790 : decode cL_law 790 = .ok (.iload_n 3, 1) := by decide +kernel
theorem dL_law_791 : decode cL_law 791 = .ok (.iconst 1, 1) := by decide +kernel
theorem dL_law_792 : decode cL_law 792 = .ok (.iadd, 1) := by decide +kernel
theorem dL_law_793 : decode cL_law 793 = .ok (.iaload, 1) := by decide +kernel
theorem dL_law_794 : decode cL_law 794 = .ok (.aload_n 0, 1) := by decide +kernel
theorem dL_law_795 : decode cL_law 795 = .ok (.iload_n 3, 1) := by decide +kernel
theorem dL_law_796 : decode cL_law 796 = .ok (.iconst 2, 1) := by decide +kernel
theorem dL_law_797 : decode cL_law 797 = .ok (.iadd, 1) := by decide +kernel
theorem dL_law_798 : decode cL_law 798 = .ok (.iaload, 1) := by decide +kernel
theorem dL_law_799 : decode cL_law 799 = .ok (.aload_n 0, 1) := by decide +kernel
theorem dL_law_800 : decode cL_law 800 = .ok (.iload_n 3, 1) := by decide +kernel
theorem dL_law_801 : decode cL_law 801 = .ok (.iconst 3, 1) := by decide +kernel
theorem dL_law_802 : decode cL_law 802 = .ok (.iadd, 1) := by decide +kernel
theorem dL_law_803 : decode cL_law 803 = .ok (.iaload, 1) := by decide +kernel
theorem dL_law_804 : decode cL_law 804 = .ok (.invokevirtual 98, 3) := by decide +kernel
theorem dL_law_807 : decode cL_law 807 = .ok (.if_icmp .eq 38, 3) := by decide +kernel
theorem dL_law_810 : decode cL_law 810 = .ok (.iconst 0, 1) := by decide +kernel
theorem dL_law_811 : decode cL_law 811 = .ok (.ireturn, 1) := by decide +kernel
theorem dL_law_812 : decode cL_law 812 = .ok (.aload_n 1, 1) := by decide +kernel
theorem dL_law_813 : decode cL_law 813 = .ok (.aload_n 0, 1) := by decide +kernel
theorem dL_law_814 : decode cL_law 814 = .ok (.iload_n 3, 1) := by decide +kernel
theorem dL_law_815 : decode cL_law 815 = .ok (.iconst 1, 1) := by decide +kernel
theorem dL_law_816 : decode cL_law 816 = .ok (.iadd, 1) := by decide +kernel
theorem dL_law_817 : decode cL_law 817 = .ok (.iaload, 1) := by decide +kernel
theorem dL_law_818 : decode cL_law 818 = .ok (.aload_n 0, 1) := by decide +kernel
theorem dL_law_819 : decode cL_law 819 = .ok (.iload_n 3, 1) := by decide +kernel
theorem dL_law_820 : decode cL_law 820 = .ok (.iconst 2, 1) := by decide +kernel
theorem dL_law_821 : decode cL_law 821 = .ok (.iadd, 1) := by decide +kernel
theorem dL_law_822 : decode cL_law 822 = .ok (.iaload, 1) := by decide +kernel
theorem dL_law_823 : decode cL_law 823 = .ok (.invokevirtual 99, 3) := by decide +kernel
theorem dL_law_826 : decode cL_law 826 = .ok (.aload_n 2, 1) := by decide +kernel
theorem dL_law_827 : decode cL_law 827 = .ok (.aload_n 0, 1) := by decide +kernel
theorem dL_law_828 : decode cL_law 828 = .ok (.iload_n 3, 1) := by decide +kernel
theorem dL_law_829 : decode cL_law 829 = .ok (.iconst 1, 1) := by decide +kernel
theorem dL_law_830 : decode cL_law 830 = .ok (.iadd, 1) := by decide +kernel
theorem dL_law_831 : decode cL_law 831 = .ok (.iaload, 1) := by decide +kernel
theorem dL_law_832 : decode cL_law 832 = .ok (.aload_n 0, 1) := by decide +kernel
theorem dL_law_833 : decode cL_law 833 = .ok (.iload_n 3, 1) := by decide +kernel
theorem dL_law_834 : decode cL_law 834 = .ok (.iconst 2, 1) := by decide +kernel
theorem dL_law_835 : decode cL_law 835 = .ok (.iadd, 1) := by decide +kernel
theorem dL_law_836 : decode cL_law 836 = .ok (.iaload, 1) := by decide +kernel
theorem dL_law_837 : decode cL_law 837 = .ok (.invokevirtual 102, 3) := by decide +kernel
theorem dL_law_840 : decode cL_law 840 = .ok (.if_icmp .eq 5, 3) := by decide +kernel
theorem dL_law_843 : decode cL_law 843 = .ok (.iconst 0, 1) := by decide +kernel
theorem dL_law_844 : decode cL_law 844 = .ok (.ireturn, 1) := by decide +kernel
theorem dL_law_845 : decode cL_law 845 = .ok (.iinc 3 6, 3) := by decide +kernel
theorem dL_law_848 : decode cL_law 848 = .ok (.goto (-830), 3) := by decide +kernel
theorem dL_law_851 : decode cL_law 851 = .ok (.iconst 1, 1) := by decide +kernel
theorem dL_law_852 : decode cL_law 852 = .ok (.ireturn, 1) := by decide +kernel
