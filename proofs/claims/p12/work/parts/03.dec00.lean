theorem d_G_init_0 : decode c_G_init 0 = .ok (.aload_n 0, 1) := by decide +kernel
theorem d_G_init_1 : decode c_G_init 1 = .ok (.invokespecial 1, 3) := by decide +kernel
theorem d_G_init_4 : decode c_G_init 4 = .ok (.aload_n 0, 1) := by decide +kernel
theorem d_G_init_5 : decode c_G_init 5 = .ok (.new 7, 3) := by decide +kernel
theorem d_G_init_8 : decode c_G_init 8 = .ok (.dup, 1) := by decide +kernel
theorem d_G_init_9 : decode c_G_init 9 = .ok (.invokespecial 9, 3) := by decide +kernel
theorem d_G_init_12 : decode c_G_init 12 = .ok (.putfield 10, 3) := by decide +kernel
theorem d_G_init_15 : decode c_G_init 15 = .ok (.aload_n 0, 1) := by decide +kernel
theorem d_G_init_16 : decode c_G_init 16 = .ok (.new 16, 3) := by decide +kernel
theorem d_G_init_19 : decode c_G_init 19 = .ok (.dup, 1) := by decide +kernel
theorem d_G_init_20 : decode c_G_init 20 = .ok (.invokespecial 18, 3) := by decide +kernel
theorem d_G_init_23 : decode c_G_init 23 = .ok (.putfield 19, 3) := by decide +kernel
theorem d_G_init_26 : decode c_G_init 26 = .ok (.aload_n 0, 1) := by decide +kernel
theorem d_G_init_27 : decode c_G_init 27 = .ok (.new 23, 3) := by decide +kernel
theorem d_G_init_30 : decode c_G_init 30 = .ok (.dup, 1) := by decide +kernel
theorem d_G_init_31 : decode c_G_init 31 = .ok (.aload_n 0, 1) := by decide +kernel
theorem d_G_init_32 : decode c_G_init 32 = .ok (.getfield 10, 3) := by decide +kernel
theorem d_G_init_35 : decode c_G_init 35 = .ok (.aload_n 0, 1) := by decide +kernel
theorem d_G_init_36 : decode c_G_init 36 = .ok (.getfield 19, 3) := by decide +kernel
theorem d_G_init_39 : decode c_G_init 39 = .ok (.invokespecial 25, 3) := by decide +kernel
theorem d_G_init_42 : decode c_G_init 42 = .ok (.putfield 28, 3) := by decide +kernel
theorem d_G_init_45 : decode c_G_init 45 = .ok (.aload_n 0, 1) := by decide +kernel
theorem d_G_init_46 : decode c_G_init 46 = .ok (.new 32, 3) := by decide +kernel
theorem d_G_init_49 : decode c_G_init 49 = .ok (.dup, 1) := by decide +kernel
theorem d_G_init_50 : decode c_G_init 50 = .ok (.aload_n 0, 1) := by decide +kernel
theorem d_G_init_51 : decode c_G_init 51 = .ok (.getfield 10, 3) := by decide +kernel
theorem d_G_init_54 : decode c_G_init 54 = .ok (.aload_n 0, 1) := by decide +kernel
theorem d_G_init_55 : decode c_G_init 55 = .ok (.getfield 19, 3) := by decide +kernel
theorem d_G_init_58 : decode c_G_init 58 = .ok (.invokespecial 34, 3) := by decide +kernel
theorem d_G_init_61 : decode c_G_init 61 = .ok (.putfield 35, 3) := by decide +kernel
theorem d_G_init_64 : decode c_G_init 64 = .ok (.aload_n 0, 1) := by decide +kernel
theorem d_G_init_65 : decode c_G_init 65 = .ok (.iconst (-1), 1) := by decide +kernel
theorem d_G_init_66 : decode c_G_init 66 = .ok (.putfield 39, 3) := by decide +kernel
theorem d_G_init_69 : decode c_G_init 69 = .ok (.return_, 1) := by decide +kernel
theorem d_G_cls_0 : decode c_G_cls 0 = .ok (.aload_n 0, 1) := by decide +kernel
theorem d_G_cls_1 : decode c_G_cls 1 = .ok (.getfield 10, 3) := by decide +kernel
theorem d_G_cls_4 : decode c_G_cls 4 = .ok (.iload_n 1, 1) := by decide +kernel
theorem d_G_cls_5 : decode c_G_cls 5 = .ok (.invokevirtual 43, 3) := by decide +kernel
theorem d_G_cls_8 : decode c_G_cls 8 = .ok (.ifCond .ne 5, 3) := by decide +kernel
theorem d_G_cls_11 : decode c_G_cls 11 = .ok (.iconst (-1), 1) := by decide +kernel
theorem d_G_cls_12 : decode c_G_cls 12 = .ok (.ireturn, 1) := by decide +kernel
theorem d_G_cls_13 : decode c_G_cls 13 = .ok (.aload_n 0, 1) := by decide +kernel
theorem d_G_cls_14 : decode c_G_cls 14 = .ok (.getfield 10, 3) := by decide +kernel
theorem d_G_cls_17 : decode c_G_cls 17 = .ok (.getfield 47, 3) := by decide +kernel
theorem d_G_cls_20 : decode c_G_cls 20 = .ok (.bipush 10, 2) := by decide +kernel
theorem d_G_cls_22 : decode c_G_cls 22 = .ok (.if_icmp .ne 6, 3) := by decide +kernel
theorem d_G_cls_25 : decode c_G_cls 25 = .ok (.bipush (-2), 2) := by decide +kernel
theorem d_G_cls_27 : decode c_G_cls 27 = .ok (.ireturn, 1) := by decide +kernel
theorem d_G_cls_28 : decode c_G_cls 28 = .ok (.aload_n 0, 1) := by decide +kernel
theorem d_G_cls_29 : decode c_G_cls 29 = .ok (.getfield 10, 3) := by decide +kernel
theorem d_G_cls_32 : decode c_G_cls 32 = .ok (.iload_n 1, 1) := by decide +kernel
theorem d_G_cls_33 : decode c_G_cls 33 = .ok (.iload_n 2, 1) := by decide +kernel
theorem d_G_cls_34 : decode c_G_cls 34 = .ok (.invokevirtual 50, 3) := by decide +kernel
theorem d_G_cls_37 : decode c_G_cls 37 = .ok (.ireturn, 1) := by decide +kernel
theorem d_G_begin_0 : decode c_G_begin 0 = .ok (.iload_n 1, 1) := by decide +kernel
theorem d_G_begin_1 : decode c_G_begin 1 = .ok (.ifCond .eq 16, 3) := by decide +kernel
theorem d_G_begin_4 : decode c_G_begin 4 = .ok (.aload_n 0, 1) := by decide +kernel
theorem d_G_begin_5 : decode c_G_begin 5 = .ok (.getfield 10, 3) := by decide +kernel
theorem d_G_begin_8 : decode c_G_begin 8 = .ok (.iload_n 1, 1) := by decide +kernel
theorem d_G_begin_9 : decode c_G_begin 9 = .ok (.invokevirtual 54, 3) := by decide +kernel
theorem d_G_begin_12 : decode c_G_begin 12 = .ok (.ifCond .ne 5, 3) := by decide +kernel
theorem d_G_begin_15 : decode c_G_begin 15 = .ok (.iconst (-1), 1) := by decide +kernel
theorem d_G_begin_16 : decode c_G_begin 16 = .ok (.ireturn, 1) := by decide +kernel
theorem d_G_begin_17 : decode c_G_begin 17 = .ok (.iload_n 2, 1) := by decide +kernel
theorem d_G_begin_18 : decode c_G_begin 18 = .ok (.ifCond .lt 19, 3) := by decide +kernel
theorem d_G_begin_21 : decode c_G_begin 21 = .ok (.iload_n 2, 1) := by decide +kernel
theorem d_G_begin_22 : decode c_G_begin 22 = .ok (.bipush 12, 2) := by decide +kernel
theorem d_G_begin_24 : decode c_G_begin 24 = .ok (.if_icmp .gt 13, 3) := by decide +kernel
theorem d_G_begin_27 : decode c_G_begin 27 = .ok (.iload_n 3, 1) := by decide +kernel
theorem d_G_begin_28 : decode c_G_begin 28 = .ok (.ifCond .lt 9, 3) := by decide +kernel
theorem d_G_begin_31 : decode c_G_begin 31 = .ok (.iload_n 3, 1) := by decide +kernel
theorem d_G_begin_32 : decode c_G_begin 32 = .ok (.bipush 12, 2) := by decide +kernel
theorem d_G_begin_34 : decode c_G_begin 34 = .ok (.if_icmp .le 5, 3) := by decide +kernel
theorem d_G_begin_37 : decode c_G_begin 37 = .ok (.iconst (-1), 1) := by decide +kernel
theorem d_G_begin_38 : decode c_G_begin 38 = .ok (.ireturn, 1) := by decide +kernel
theorem d_G_begin_39 : decode c_G_begin 39 = .ok (.aload_n 0, 1) := by decide +kernel
theorem d_G_begin_40 : decode c_G_begin 40 = .ok (.getfield 19, 3) := by decide +kernel
theorem d_G_begin_43 : decode c_G_begin 43 = .ok (.iload_n 1, 1) := by decide +kernel
theorem d_G_begin_44 : decode c_G_begin 44 = .ok (.iload_n 2, 1) := by decide +kernel
theorem d_G_begin_45 : decode c_G_begin 45 = .ok (.iload_n 3, 1) := by decide +kernel
theorem d_G_begin_46 : decode c_G_begin 46 = .ok (.invokevirtual 57, 3) := by decide +kernel
theorem d_G_begin_49 : decode c_G_begin 49 = .ok (.iconst 1, 1) := by decide +kernel
theorem d_G_begin_50 : decode c_G_begin 50 = .ok (.ireturn, 1) := by decide +kernel
theorem d_G_argument_0 : decode c_G_argument 0 = .ok (.aload_n 0, 1) := by decide +kernel
theorem d_G_argument_1 : decode c_G_argument 1 = .ok (.getfield 10, 3) := by decide +kernel
theorem d_G_argument_4 : decode c_G_argument 4 = .ok (.iload_n 1, 1) := by decide +kernel
theorem d_G_argument_5 : decode c_G_argument 5 = .ok (.invokevirtual 54, 3) := by decide +kernel
theorem d_G_argument_8 : decode c_G_argument 8 = .ok (.ifCond .ne 5, 3) := by decide +kernel
theorem d_G_argument_11 : decode c_G_argument 11 = .ok (.iconst (-1), 1) := by decide +kernel
theorem d_G_argument_12 : decode c_G_argument 12 = .ok (.ireturn, 1) := by decide +kernel
theorem d_G_argument_13 : decode c_G_argument 13 = .ok (.aload_n 0, 1) := by decide +kernel
theorem d_G_argument_14 : decode c_G_argument 14 = .ok (.getfield 19, 3) := by decide +kernel
theorem d_G_argument_17 : decode c_G_argument 17 = .ok (.getfield 61, 3) := by decide +kernel
theorem d_G_argument_20 : decode c_G_argument 20 = .ok (.bipush 6, 2) := by decide +kernel
theorem d_G_argument_22 : decode c_G_argument 22 = .ok (.if_icmp .ne 6, 3) := by decide +kernel
theorem d_G_argument_25 : decode c_G_argument 25 = .ok (.bipush (-2), 2) := by decide +kernel
theorem d_G_argument_27 : decode c_G_argument 27 = .ok (.ireturn, 1) := by decide +kernel
theorem d_G_argument_28 : decode c_G_argument 28 = .ok (.aload_n 0, 1) := by decide +kernel
theorem d_G_argument_29 : decode c_G_argument 29 = .ok (.getfield 19, 3) := by decide +kernel
theorem d_G_argument_32 : decode c_G_argument 32 = .ok (.iload_n 1, 1) := by decide +kernel
theorem d_G_argument_33 : decode c_G_argument 33 = .ok (.invokevirtual 64, 3) := by decide +kernel
theorem d_G_argument_36 : decode c_G_argument 36 = .ok (.ireturn, 1) := by decide +kernel
theorem d_G_add_0 : decode c_G_add 0 = .ok (.iload_n 1, 1) := by decide +kernel
theorem d_G_add_1 : decode c_G_add 1 = .ok (.invokestatic 68, 3) := by decide +kernel
theorem d_G_add_4 : decode c_G_add 4 = .ok (.ifCond .ne 5, 3) := by decide +kernel
theorem d_G_add_7 : decode c_G_add 7 = .ok (.iconst (-1), 1) := by decide +kernel
theorem d_G_add_8 : decode c_G_add 8 = .ok (.ireturn, 1) := by decide +kernel
theorem d_G_add_9 : decode c_G_add 9 = .ok (.aload_n 0, 1) := by decide +kernel
theorem d_G_add_10 : decode c_G_add 10 = .ok (.getfield 19, 3) := by decide +kernel
theorem d_G_add_13 : decode c_G_add 13 = .ok (.getfield 71, 3) := by decide +kernel
theorem d_G_add_16 : decode c_G_add 16 = .ok (.bipush 48, 2) := by decide +kernel
theorem d_G_add_18 : decode c_G_add 18 = .ok (.if_icmp .ne 6, 3) := by decide +kernel
theorem d_G_add_21 : decode c_G_add 21 = .ok (.bipush (-2), 2) := by decide +kernel
theorem d_G_add_23 : decode c_G_add 23 = .ok (.ireturn, 1) := by decide +kernel
theorem d_G_add_24 : decode c_G_add 24 = .ok (.aload_n 0, 1) := by decide +kernel
theorem d_G_add_25 : decode c_G_add 25 = .ok (.getfield 19, 3) := by decide +kernel
theorem d_G_add_28 : decode c_G_add 28 = .ok (.iload_n 1, 1) := by decide +kernel
theorem d_G_add_29 : decode c_G_add 29 = .ok (.iload_n 2, 1) := by decide +kernel
theorem d_G_add_30 : decode c_G_add 30 = .ok (.iload_n 3, 1) := by decide +kernel
theorem d_G_add_31 : decode c_G_add 31 = .ok (.invokevirtual 72, 3) := by decide +kernel
theorem d_G_add_34 : decode c_G_add 34 = .ok (.ireturn, 1) := by decide +kernel
theorem d_G_change_0 : decode c_G_change 0 = .ok (.aload_n 0, 1) := by decide +kernel
theorem d_G_change_1 : decode c_G_change 1 = .ok (.getfield 19, 3) := by decide +kernel
theorem d_G_change_4 : decode c_G_change 4 = .ok (.iload_n 1, 1) := by decide +kernel
theorem d_G_change_5 : decode c_G_change 5 = .ok (.invokevirtual 75, 3) := by decide +kernel
theorem d_G_change_8 : decode c_G_change 8 = .ok (.ifCond .eq 10, 3) := by decide +kernel
theorem d_G_change_11 : decode c_G_change 11 = .ok (.iload_n 2, 1) := by decide +kernel
theorem d_G_change_12 : decode c_G_change 12 = .ok (.invokestatic 68, 3) := by decide +kernel
theorem d_G_change_15 : decode c_G_change 15 = .ok (.ifCond .ne 5, 3) := by decide +kernel
theorem d_G_change_18 : decode c_G_change 18 = .ok (.iconst (-1), 1) := by decide +kernel
theorem d_G_change_19 : decode c_G_change 19 = .ok (.ireturn, 1) := by decide +kernel
theorem d_G_change_20 : decode c_G_change 20 = .ok (.aload_n 0, 1) := by decide +kernel
theorem d_G_change_21 : decode c_G_change 21 = .ok (.getfield 19, 3) := by decide +kernel
theorem d_G_change_24 : decode c_G_change 24 = .ok (.getfield 78, 3) := by decide +kernel
theorem d_G_change_27 : decode c_G_change 27 = .ok (.iload_n 1, 1) := by decide +kernel
theorem d_G_change_28 : decode c_G_change 28 = .ok (.iaload, 1) := by decide +kernel
theorem d_G_change_29 : decode c_G_change 29 = .ok (.istore 5, 2) := by decide +kernel
theorem d_G_change_31 : decode c_G_change 31 = .ok (.aload_n 0, 1) := by decide +kernel
theorem d_G_change_32 : decode c_G_change 32 = .ok (.getfield 19, 3) := by decide +kernel
theorem d_G_change_35 : decode c_G_change 35 = .ok (.iload_n 1, 1) := by decide +kernel
theorem d_G_change_36 : decode c_G_change 36 = .ok (.iload_n 2, 1) := by decide +kernel
theorem d_G_change_37 : decode c_G_change 37 = .ok (.iload_n 3, 1) := by decide +kernel
theorem d_G_change_38 : decode c_G_change 38 = .ok (.iload 4, 2) := by decide +kernel
theorem d_G_change_40 : decode c_G_change 40 = .ok (.invokevirtual 82, 3) := by decide +kernel
theorem d_G_change_43 : decode c_G_change 43 = .ok (.iload 5, 2) := by decide +kernel
theorem d_G_change_45 : decode c_G_change 45 = .ok (.ireturn, 1) := by decide +kernel
theorem d_G_handler_0 : decode c_G_handler 0 = .ok (.aload_n 0, 1) := by decide +kernel
theorem d_G_handler_1 : decode c_G_handler 1 = .ok (.getfield 19, 3) := by decide +kernel
theorem d_G_handler_4 : decode c_G_handler 4 = .ok (.getfield 86, 3) := by decide +kernel
theorem d_G_handler_7 : decode c_G_handler 7 = .ok (.iconst 3, 1) := by decide +kernel
theorem d_G_handler_8 : decode c_G_handler 8 = .ok (.if_icmp .ne 6, 3) := by decide +kernel
theorem d_G_handler_11 : decode c_G_handler 11 = .ok (.bipush (-2), 2) := by decide +kernel
theorem d_G_handler_13 : decode c_G_handler 13 = .ok (.ireturn, 1) := by decide +kernel
theorem d_G_handler_14 : decode c_G_handler 14 = .ok (.aload_n 0, 1) := by decide +kernel
theorem d_G_handler_15 : decode c_G_handler 15 = .ok (.getfield 19, 3) := by decide +kernel
theorem d_G_handler_18 : decode c_G_handler 18 = .ok (.iload_n 1, 1) := by decide +kernel
theorem d_G_handler_19 : decode c_G_handler 19 = .ok (.iload_n 2, 1) := by decide +kernel
theorem d_G_handler_20 : decode c_G_handler 20 = .ok (.iload_n 3, 1) := by decide +kernel
theorem d_G_handler_21 : decode c_G_handler 21 = .ok (.iload 4, 2) := by decide +kernel
theorem d_G_handler_23 : decode c_G_handler 23 = .ok (.invokevirtual 89, 3) := by decide +kernel
theorem d_G_handler_26 : decode c_G_handler 26 = .ok (.ireturn, 1) := by decide +kernel
theorem d_G_verify_0 : decode c_G_verify 0 = .ok (.aload_n 0, 1) := by decide +kernel
theorem d_G_verify_1 : decode c_G_verify 1 = .ok (.getfield 35, 3) := by decide +kernel
theorem d_G_verify_4 : decode c_G_verify 4 = .ok (.invokevirtual 93, 3) := by decide +kernel
theorem d_G_verify_7 : decode c_G_verify 7 = .ok (.aload_n 0, 1) := by decide +kernel
theorem d_G_verify_8 : decode c_G_verify 8 = .ok (.aload_n 0, 1) := by decide +kernel
theorem d_G_verify_9 : decode c_G_verify 9 = .ok (.getfield 28, 3) := by decide +kernel
theorem d_G_verify_12 : decode c_G_verify 12 = .ok (.invokevirtual 96, 3) := by decide +kernel
theorem d_G_verify_15 : decode c_G_verify 15 = .ok (.putfield 39, 3) := by decide +kernel
theorem d_G_verify_18 : decode c_G_verify 18 = .ok (.aload_n 0, 1) := by decide +kernel
theorem d_G_verify_19 : decode c_G_verify 19 = .ok (.getfield 39, 3) := by decide +kernel
theorem d_G_verify_22 : decode c_G_verify 22 = .ok (.iconst (-1), 1) := by decide +kernel
theorem d_G_verify_23 : decode c_G_verify 23 = .ok (.if_icmp .eq 5, 3) := by decide +kernel
theorem d_G_verify_26 : decode c_G_verify 26 = .ok (.iconst 1, 1) := by decide +kernel
theorem d_G_verify_27 : decode c_G_verify 27 = .ok (.ireturn, 1) := by decide +kernel
theorem d_G_verify_28 : decode c_G_verify 28 = .ok (.aload_n 0, 1) := by decide +kernel
theorem d_G_verify_29 : decode c_G_verify 29 = .ok (.getfield 35, 3) := by decide +kernel
theorem d_G_verify_32 : decode c_G_verify 32 = .ok (.invokevirtual 100, 3) := by decide +kernel
theorem d_G_verify_35 : decode c_G_verify 35 = .ok (.istore_n 1, 1) := by decide +kernel
theorem d_G_verify_36 : decode c_G_verify 36 = .ok (.iload_n 1, 1) := by decide +kernel
theorem d_G_verify_37 : decode c_G_verify 37 = .ok (.ifCond .eq 16, 3) := by decide +kernel
theorem d_G_verify_40 : decode c_G_verify 40 = .ok (.aload_n 0, 1) := by decide +kernel
theorem d_G_verify_41 : decode c_G_verify 41 = .ok (.aload_n 0, 1) := by decide +kernel
theorem d_G_verify_42 : decode c_G_verify 42 = .ok (.getfield 35, 3) := by decide +kernel
theorem d_G_verify_45 : decode c_G_verify 45 = .ok (.getfield 103, 3) := by decide +kernel
theorem d_G_verify_48 : decode c_G_verify 48 = .ok (.putfield 39, 3) := by decide +kernel
theorem d_G_verify_51 : decode c_G_verify 51 = .ok (.iload_n 1, 1) := by decide +kernel
theorem d_G_verify_52 : decode c_G_verify 52 = .ok (.ireturn, 1) := by decide +kernel
theorem d_G_verify_53 : decode c_G_verify 53 = .ok (.aload_n 0, 1) := by decide +kernel
theorem d_G_verify_54 : decode c_G_verify 54 = .ok (.dup, 1) := by decide +kernel
theorem d_G_verify_55 : decode c_G_verify 55 = .ok (.getfield 104, 3) := by decide +kernel
theorem d_G_verify_58 : decode c_G_verify 58 = .ok (.iconst 1, 1) := by decide +kernel
theorem d_G_verify_59 : decode c_G_verify 59 = .ok (.iadd, 1) := by decide +kernel
theorem d_G_verify_60 : decode c_G_verify 60 = .ok (.putfield 104, 3) := by decide +kernel
theorem d_G_verify_63 : decode c_G_verify 63 = .ok (.iconst 0, 1) := by decide +kernel
theorem d_G_verify_64 : decode c_G_verify 64 = .ok (.ireturn, 1) := by decide +kernel
theorem d_G_place_0 : decode c_G_place 0 = .ok (.aload_n 0, 1) := by decide +kernel
theorem d_G_place_1 : decode c_G_place 1 = .ok (.getfield 39, 3) := by decide +kernel
theorem d_G_place_4 : decode c_G_place 4 = .ok (.ireturn, 1) := by decide +kernel
theorem d_G_state_0 : decode c_G_state 0 = .ok (.iload_n 1, 1) := by decide +kernel
theorem d_G_state_1 : decode c_G_state 1 = .ok (.ifCond .lt 21, 3) := by decide +kernel
theorem d_G_state_4 : decode c_G_state 4 = .ok (.iload_n 1, 1) := by decide +kernel
theorem d_G_state_5 : decode c_G_state 5 = .ok (.bipush 48, 2) := by decide +kernel
theorem d_G_state_7 : decode c_G_state 7 = .ok (.if_icmp .ge 15, 3) := by decide +kernel
theorem d_G_state_10 : decode c_G_state 10 = .ok (.aload_n 0, 1) := by decide +kernel
theorem d_G_state_11 : decode c_G_state 11 = .ok (.getfield 35, 3) := by decide +kernel
theorem d_G_state_14 : decode c_G_state 14 = .ok (.getfield 107, 3) := by decide +kernel
theorem d_G_state_17 : decode c_G_state 17 = .ok (.iload_n 1, 1) := by decide +kernel
theorem d_G_state_18 : decode c_G_state 18 = .ok (.baload, 1) := by decide +kernel
theorem d_G_state_19 : decode c_G_state 19 = .ok (.ifCond .ne 5, 3) := by decide +kernel
theorem d_G_state_22 : decode c_G_state 22 = .ok (.iconst (-1), 1) := by decide +kernel
theorem d_G_state_23 : decode c_G_state 23 = .ok (.ireturn, 1) := by decide +kernel
theorem d_G_state_24 : decode c_G_state 24 = .ok (.aload_n 0, 1) := by decide +kernel
theorem d_G_state_25 : decode c_G_state 25 = .ok (.getfield 35, 3) := by decide +kernel
theorem d_G_state_28 : decode c_G_state 28 = .ok (.getfield 111, 3) := by decide +kernel
theorem d_G_state_31 : decode c_G_state 31 = .ok (.iload_n 1, 1) := by decide +kernel
theorem d_G_state_32 : decode c_G_state 32 = .ok (.aaload, 1) := by decide +kernel
theorem d_G_state_33 : decode c_G_state 33 = .ok (.iload_n 2, 1) := by decide +kernel
theorem d_G_state_34 : decode c_G_state 34 = .ok (.invokevirtual 115, 3) := by decide +kernel
theorem d_G_state_37 : decode c_G_state 37 = .ok (.ireturn, 1) := by decide +kernel
theorem d_G_join_0 : decode c_G_join 0 = .ok (.aload_n 0, 1) := by decide +kernel
theorem d_G_join_1 : decode c_G_join 1 = .ok (.getfield 10, 3) := by decide +kernel
theorem d_G_join_4 : decode c_G_join 4 = .ok (.iload_n 1, 1) := by decide +kernel
theorem d_G_join_5 : decode c_G_join 5 = .ok (.invokevirtual 120, 3) := by decide +kernel
theorem d_G_join_8 : decode c_G_join 8 = .ok (.ifCond .eq 14, 3) := by decide +kernel
theorem d_G_join_11 : decode c_G_join 11 = .ok (.aload_n 0, 1) := by decide +kernel
theorem d_G_join_12 : decode c_G_join 12 = .ok (.getfield 10, 3) := by decide +kernel
theorem d_G_join_15 : decode c_G_join 15 = .ok (.iload_n 2, 1) := by decide +kernel
theorem d_G_join_16 : decode c_G_join 16 = .ok (.invokevirtual 120, 3) := by decide +kernel
theorem d_G_join_19 : decode c_G_join 19 = .ok (.ifCond .ne 5, 3) := by decide +kernel
theorem d_G_join_22 : decode c_G_join 22 = .ok (.iconst (-1), 1) := by decide +kernel
theorem d_G_join_23 : decode c_G_join 23 = .ok (.ireturn, 1) := by decide +kernel
theorem d_G_join_24 : decode c_G_join 24 = .ok (.aload_n 0, 1) := by decide +kernel
theorem d_G_join_25 : decode c_G_join 25 = .ok (.getfield 10, 3) := by decide +kernel
theorem d_G_join_28 : decode c_G_join 28 = .ok (.iload_n 1, 1) := by decide +kernel
theorem d_G_join_29 : decode c_G_join 29 = .ok (.iload_n 2, 1) := by decide +kernel
theorem d_G_join_30 : decode c_G_join 30 = .ok (.invokevirtual 123, 3) := by decide +kernel
theorem d_G_join_33 : decode c_G_join 33 = .ok (.ireturn, 1) := by decide +kernel
theorem d_G_goes_0 : decode c_G_goes 0 = .ok (.aload_n 0, 1) := by decide +kernel
theorem d_G_goes_1 : decode c_G_goes 1 = .ok (.getfield 10, 3) := by decide +kernel
theorem d_G_goes_4 : decode c_G_goes 4 = .ok (.iload_n 1, 1) := by decide +kernel
theorem d_G_goes_5 : decode c_G_goes 5 = .ok (.invokevirtual 120, 3) := by decide +kernel
theorem d_G_goes_8 : decode c_G_goes 8 = .ok (.ifCond .eq 14, 3) := by decide +kernel
theorem d_G_goes_11 : decode c_G_goes 11 = .ok (.aload_n 0, 1) := by decide +kernel
theorem d_G_goes_12 : decode c_G_goes 12 = .ok (.getfield 10, 3) := by decide +kernel
theorem d_G_goes_15 : decode c_G_goes 15 = .ok (.iload_n 2, 1) := by decide +kernel
theorem d_G_goes_16 : decode c_G_goes 16 = .ok (.invokevirtual 120, 3) := by decide +kernel
theorem d_G_goes_19 : decode c_G_goes 19 = .ok (.ifCond .ne 5, 3) := by decide +kernel
theorem d_G_goes_22 : decode c_G_goes 22 = .ok (.iconst (-1), 1) := by decide +kernel
theorem d_G_goes_23 : decode c_G_goes 23 = .ok (.ireturn, 1) := by decide +kernel
theorem d_G_goes_24 : decode c_G_goes 24 = .ok (.aload_n 0, 1) := by decide +kernel
theorem d_G_goes_25 : decode c_G_goes 25 = .ok (.getfield 10, 3) := by decide +kernel
theorem d_G_goes_28 : decode c_G_goes 28 = .ok (.iload_n 1, 1) := by decide +kernel
theorem d_G_goes_29 : decode c_G_goes 29 = .ok (.iload_n 2, 1) := by decide +kernel
theorem d_G_goes_30 : decode c_G_goes 30 = .ok (.invokevirtual 127, 3) := by decide +kernel
theorem d_G_goes_33 : decode c_G_goes 33 = .ok (.ifCond .eq 7, 3) := by decide +kernel
theorem d_G_goes_36 : decode c_G_goes 36 = .ok (.iconst 1, 1) := by decide +kernel
theorem d_G_goes_37 : decode c_G_goes 37 = .ok (.goto 4, 3) := by decide +kernel
theorem d_G_goes_40 : decode c_G_goes 40 = .ok (.iconst 0, 1) := by decide +kernel
theorem d_G_goes_41 : decode c_G_goes 41 = .ok (.ireturn, 1) := by decide +kernel
theorem d_G_count_0 : decode c_G_count 0 = .ok (.iload_n 1, 1) := by decide +kernel
theorem d_G_count_1 : decode c_G_count 1 = .ok (.tableswitch 111 0 7 #[47, 55, 63, 71, 79, 87, 95, 100], 47) := by decide +kernel
theorem d_G_count_48 : decode c_G_count 48 = .ok (.aload_n 0, 1) := by decide +kernel
theorem d_G_count_49 : decode c_G_count 49 = .ok (.getfield 10, 3) := by decide +kernel
theorem d_G_count_52 : decode c_G_count 52 = .ok (.getfield 47, 3) := by decide +kernel
theorem d_G_count_55 : decode c_G_count 55 = .ok (.ireturn, 1) := by decide +kernel
theorem d_G_count_56 : decode c_G_count 56 = .ok (.aload_n 0, 1) := by decide +kernel
theorem d_G_count_57 : decode c_G_count 57 = .ok (.getfield 19, 3) := by decide +kernel
theorem d_G_count_60 : decode c_G_count 60 = .ok (.getfield 71, 3) := by decide +kernel
theorem d_G_count_63 : decode c_G_count 63 = .ok (.ireturn, 1) := by decide +kernel
theorem d_G_count_64 : decode c_G_count 64 = .ok (.aload_n 0, 1) := by decide +kernel
theorem d_G_count_65 : decode c_G_count 65 = .ok (.getfield 19, 3) := by decide +kernel
theorem d_G_count_68 : decode c_G_count 68 = .ok (.getfield 86, 3) := by decide +kernel
theorem d_G_count_71 : decode c_G_count 71 = .ok (.ireturn, 1) := by decide +kernel
theorem d_G_count_72 : decode c_G_count 72 = .ok (.aload_n 0, 1) := by decide +kernel
theorem d_G_count_73 : decode c_G_count 73 = .ok (.getfield 19, 3) := by decide +kernel
theorem d_G_count_76 : decode c_G_count 76 = .ok (.getfield 61, 3) := by decide +kernel
theorem d_G_count_79 : decode c_G_count 79 = .ok (.ireturn, 1) := by decide +kernel
theorem d_G_count_80 : decode c_G_count 80 = .ok (.aload_n 0, 1) := by decide +kernel
theorem d_G_count_81 : decode c_G_count 81 = .ok (.getfield 35, 3) := by decide +kernel
theorem d_G_count_84 : decode c_G_count 84 = .ok (.getfield 131, 3) := by decide +kernel
theorem d_G_count_87 : decode c_G_count 87 = .ok (.ireturn, 1) := by decide +kernel
theorem d_G_count_88 : decode c_G_count 88 = .ok (.aload_n 0, 1) := by decide +kernel
theorem d_G_count_89 : decode c_G_count 89 = .ok (.getfield 35, 3) := by decide +kernel
theorem d_G_count_92 : decode c_G_count 92 = .ok (.getfield 134, 3) := by decide +kernel
theorem d_G_count_95 : decode c_G_count 95 = .ok (.ireturn, 1) := by decide +kernel
theorem d_G_count_96 : decode c_G_count 96 = .ok (.aload_n 0, 1) := by decide +kernel
theorem d_G_count_97 : decode c_G_count 97 = .ok (.getfield 104, 3) := by decide +kernel
theorem d_G_count_100 : decode c_G_count 100 = .ok (.ireturn, 1) := by decide +kernel
theorem d_G_count_101 : decode c_G_count 101 = .ok (.aload_n 0, 1) := by decide +kernel
theorem d_G_count_102 : decode c_G_count 102 = .ok (.getfield 35, 3) := by decide +kernel
theorem d_G_count_105 : decode c_G_count 105 = .ok (.getfield 137, 3) := by decide +kernel
theorem d_G_count_108 : decode c_G_count 108 = .ok (.invokestatic 141, 3) := by decide +kernel
theorem d_G_count_111 : decode c_G_count 111 = .ok (.ireturn, 1) := by decide +kernel
theorem d_G_count_112 : decode c_G_count 112 = .ok (.iconst (-1), 1) := by decide +kernel
theorem d_G_count_113 : decode c_G_count 113 = .ok (.ireturn, 1) := by decide +kernel
theorem d_G_isOp_0 : decode c_G_isOp 0 = .ok (.iload_n 0, 1) := by decide +kernel
theorem d_G_isOp_1 : decode c_G_isOp 1 = .ok (.ifCond .lt 13, 3) := by decide +kernel
theorem d_G_isOp_4 : decode c_G_isOp 4 = .ok (.iload_n 0, 1) := by decide +kernel
theorem d_G_isOp_5 : decode c_G_isOp 5 = .ok (.bipush 30, 2) := by decide +kernel
theorem d_G_isOp_7 : decode c_G_isOp 7 = .ok (.if_icmp .gt 7, 3) := by decide +kernel
theorem d_G_isOp_10 : decode c_G_isOp 10 = .ok (.iconst 1, 1) := by decide +kernel
theorem d_G_isOp_11 : decode c_G_isOp 11 = .ok (.goto 4, 3) := by decide +kernel
theorem d_G_isOp_14 : decode c_G_isOp 14 = .ok (.iconst 0, 1) := by decide +kernel
theorem d_G_isOp_15 : decode c_G_isOp 15 = .ok (.ireturn, 1) := by decide +kernel
theorem d_G_isWide_0 : decode c_G_isWide 0 = .ok (.iload_n 0, 1) := by decide +kernel
theorem d_G_isWide_1 : decode c_G_isWide 1 = .ok (.iconst 3, 1) := by decide +kernel
theorem d_G_isWide_2 : decode c_G_isWide 2 = .ok (.if_icmp .eq 8, 3) := by decide +kernel
theorem d_G_isWide_5 : decode c_G_isWide 5 = .ok (.iload_n 0, 1) := by decide +kernel
theorem d_G_isWide_6 : decode c_G_isWide 6 = .ok (.iconst 4, 1) := by decide +kernel
theorem d_G_isWide_7 : decode c_G_isWide 7 = .ok (.if_icmp .ne 7, 3) := by decide +kernel
theorem d_G_isWide_10 : decode c_G_isWide 10 = .ok (.iconst 1, 1) := by decide +kernel
theorem d_G_isWide_11 : decode c_G_isWide 11 = .ok (.goto 4, 3) := by decide +kernel
theorem d_G_isWide_14 : decode c_G_isWide 14 = .ok (.iconst 0, 1) := by decide +kernel
theorem d_G_isWide_15 : decode c_G_isWide 15 = .ok (.ireturn, 1) := by decide +kernel
theorem d_G_widthOf_0 : decode c_G_widthOf 0 = .ok (.iload_n 0, 1) := by decide +kernel
theorem d_G_widthOf_1 : decode c_G_widthOf 1 = .ok (.iconst 3, 1) := by decide +kernel
theorem d_G_widthOf_2 : decode c_G_widthOf 2 = .ok (.if_icmp .eq 8, 3) := by decide +kernel
theorem d_G_widthOf_5 : decode c_G_widthOf 5 = .ok (.iload_n 0, 1) := by decide +kernel
theorem d_G_widthOf_6 : decode c_G_widthOf 6 = .ok (.iconst 4, 1) := by decide +kernel
theorem d_G_widthOf_7 : decode c_G_widthOf 7 = .ok (.if_icmp .ne 7, 3) := by decide +kernel
theorem d_G_widthOf_10 : decode c_G_widthOf 10 = .ok (.iconst 2, 1) := by decide +kernel
theorem d_G_widthOf_11 : decode c_G_widthOf 11 = .ok (.goto 4, 3) := by decide +kernel
theorem d_G_widthOf_14 : decode c_G_widthOf 14 = .ok (.iconst 1, 1) := by decide +kernel
theorem d_G_widthOf_15 : decode c_G_widthOf 15 = .ok (.ireturn, 1) := by decide +kernel
theorem d_G_isRaw_0 : decode c_G_isRaw 0 = .ok (.iload_n 0, 1) := by decide +kernel
theorem d_G_isRaw_1 : decode c_G_isRaw 1 = .ok (.sipush 1000, 3) := by decide +kernel
theorem d_G_isRaw_4 : decode c_G_isRaw 4 = .ok (.if_icmp .lt 14, 3) := by decide +kernel
theorem d_G_isRaw_7 : decode c_G_isRaw 7 = .ok (.iload_n 0, 1) := by decide +kernel
theorem d_G_isRaw_8 : decode c_G_isRaw 8 = .ok (.sipush 1048, 3) := by decide +kernel
theorem d_G_isRaw_11 : decode c_G_isRaw 11 = .ok (.if_icmp .ge 7, 3) := by decide +kernel
theorem d_G_isRaw_14 : decode c_G_isRaw 14 = .ok (.iconst 1, 1) := by decide +kernel
theorem d_G_isRaw_15 : decode c_G_isRaw 15 = .ok (.goto 4, 3) := by decide +kernel
theorem d_G_isRaw_18 : decode c_G_isRaw 18 = .ok (.iconst 0, 1) := by decide +kernel
theorem d_G_isRaw_19 : decode c_G_isRaw 19 = .ok (.ireturn, 1) := by decide +kernel
theorem d_G_isReturn_0 : decode c_G_isReturn 0 = .ok (.iload_n 0, 1) := by decide +kernel
theorem d_G_isReturn_1 : decode c_G_isReturn 1 = .ok (.sipush 2000, 3) := by decide +kernel
theorem d_G_isReturn_4 : decode c_G_isReturn 4 = .ok (.if_icmp .lt 14, 3) := by decide +kernel
theorem d_G_isReturn_7 : decode c_G_isReturn 7 = .ok (.iload_n 0, 1) := by decide +kernel
theorem d_G_isReturn_8 : decode c_G_isReturn 8 = .ok (.sipush 2048, 3) := by decide +kernel
theorem d_G_isReturn_11 : decode c_G_isReturn 11 = .ok (.if_icmp .ge 7, 3) := by decide +kernel
theorem d_G_isReturn_14 : decode c_G_isReturn 14 = .ok (.iconst 1, 1) := by decide +kernel
theorem d_G_isReturn_15 : decode c_G_isReturn 15 = .ok (.goto 4, 3) := by decide +kernel
theorem d_G_isReturn_18 : decode c_G_isReturn 18 = .ok (.iconst 0, 1) := by decide +kernel
theorem d_G_isReturn_19 : decode c_G_isReturn 19 = .ok (.ireturn, 1) := by decide +kernel
theorem d_D_init_0 : decode c_D_init 0 = .ok (.aload_n 0, 1) := by decide +kernel
theorem d_D_init_1 : decode c_D_init 1 = .ok (.invokespecial 1, 3) := by decide +kernel
theorem d_D_init_4 : decode c_D_init 4 = .ok (.aload_n 0, 1) := by decide +kernel
theorem d_D_init_5 : decode c_D_init 5 = .ok (.bipush 10, 2) := by decide +kernel
theorem d_D_init_7 : decode c_D_init 7 = .ok (.newarray .int, 2) := by decide +kernel
theorem d_D_init_9 : decode c_D_init 9 = .ok (.putfield 7, 3) := by decide +kernel
theorem d_D_init_12 : decode c_D_init 12 = .ok (.aload_n 0, 1) := by decide +kernel
theorem d_D_init_13 : decode c_D_init 13 = .ok (.bipush 10, 2) := by decide +kernel
theorem d_D_init_15 : decode c_D_init 15 = .ok (.newarray .boolean, 2) := by decide +kernel
theorem d_D_init_17 : decode c_D_init 17 = .ok (.putfield 13, 3) := by decide +kernel
theorem d_D_init_20 : decode c_D_init 20 = .ok (.aload_n 0, 1) := by decide +kernel
theorem d_D_init_21 : decode c_D_init 21 = .ok (.iconst 2, 1) := by decide +kernel
theorem d_D_init_22 : decode c_D_init 22 = .ok (.putfield 17, 3) := by decide +kernel
theorem d_D_init_25 : decode c_D_init 25 = .ok (.aload_n 0, 1) := by decide +kernel
theorem d_D_init_26 : decode c_D_init 26 = .ok (.bipush 48, 2) := by decide +kernel
theorem d_D_init_28 : decode c_D_init 28 = .ok (.newarray .int, 2) := by decide +kernel
theorem d_D_init_30 : decode c_D_init 30 = .ok (.putfield 21, 3) := by decide +kernel
theorem d_D_init_33 : decode c_D_init 33 = .ok (.aload_n 0, 1) := by decide +kernel
theorem d_D_init_34 : decode c_D_init 34 = .ok (.bipush 48, 2) := by decide +kernel
theorem d_D_init_36 : decode c_D_init 36 = .ok (.newarray .int, 2) := by decide +kernel
theorem d_D_init_38 : decode c_D_init 38 = .ok (.putfield 24, 3) := by decide +kernel
theorem d_D_init_41 : decode c_D_init 41 = .ok (.aload_n 0, 1) := by decide +kernel
theorem d_D_init_42 : decode c_D_init 42 = .ok (.bipush 48, 2) := by decide +kernel
theorem d_D_init_44 : decode c_D_init 44 = .ok (.newarray .int, 2) := by decide +kernel
theorem d_D_init_46 : decode c_D_init 46 = .ok (.putfield 27, 3) := by decide +kernel
theorem d_D_init_49 : decode c_D_init 49 = .ok (.aload_n 0, 1) := by decide +kernel
theorem d_D_init_50 : decode c_D_init 50 = .ok (.iconst 3, 1) := by decide +kernel
theorem d_D_init_51 : decode c_D_init 51 = .ok (.newarray .int, 2) := by decide +kernel
theorem d_D_init_53 : decode c_D_init 53 = .ok (.putfield 30, 3) := by decide +kernel
theorem d_D_init_56 : decode c_D_init 56 = .ok (.aload_n 0, 1) := by decide +kernel
theorem d_D_init_57 : decode c_D_init 57 = .ok (.iconst 3, 1) := by decide +kernel
theorem d_D_init_58 : decode c_D_init 58 = .ok (.newarray .int, 2) := by decide +kernel
theorem d_D_init_60 : decode c_D_init 60 = .ok (.putfield 33, 3) := by decide +kernel
theorem d_D_init_63 : decode c_D_init 63 = .ok (.aload_n 0, 1) := by decide +kernel
theorem d_D_init_64 : decode c_D_init 64 = .ok (.iconst 3, 1) := by decide +kernel
theorem d_D_init_65 : decode c_D_init 65 = .ok (.newarray .int, 2) := by decide +kernel
theorem d_D_init_67 : decode c_D_init 67 = .ok (.putfield 36, 3) := by decide +kernel
theorem d_D_init_70 : decode c_D_init 70 = .ok (.aload_n 0, 1) := by decide +kernel
theorem d_D_init_71 : decode c_D_init 71 = .ok (.iconst 3, 1) := by decide +kernel
theorem d_D_init_72 : decode c_D_init 72 = .ok (.newarray .int, 2) := by decide +kernel
theorem d_D_init_74 : decode c_D_init 74 = .ok (.putfield 39, 3) := by decide +kernel
theorem d_D_init_77 : decode c_D_init 77 = .ok (.aload_n 0, 1) := by decide +kernel
theorem d_D_init_78 : decode c_D_init 78 = .ok (.bipush 6, 2) := by decide +kernel
theorem d_D_init_80 : decode c_D_init 80 = .ok (.newarray .int, 2) := by decide +kernel
theorem d_D_init_82 : decode c_D_init 82 = .ok (.putfield 42, 3) := by decide +kernel
theorem d_D_init_85 : decode c_D_init 85 = .ok (.aload_n 0, 1) := by decide +kernel
theorem d_D_init_86 : decode c_D_init 86 = .ok (.bipush 48, 2) := by decide +kernel
theorem d_D_init_88 : decode c_D_init 88 = .ok (.newarray .boolean, 2) := by decide +kernel
theorem d_D_init_90 : decode c_D_init 90 = .ok (.putfield 45, 3) := by decide +kernel
theorem d_D_init_93 : decode c_D_init 93 = .ok (.aload_n 0, 1) := by decide +kernel
theorem d_D_init_94 : decode c_D_init 94 = .ok (.bipush 48, 2) := by decide +kernel
theorem d_D_init_96 : decode c_D_init 96 = .ok (.newarray .boolean, 2) := by decide +kernel
theorem d_D_init_98 : decode c_D_init 98 = .ok (.putfield 48, 3) := by decide +kernel
theorem d_D_init_101 : decode c_D_init 101 = .ok (.aload_n 0, 1) := by decide +kernel
theorem d_D_init_102 : decode c_D_init 102 = .ok (.sipush 576, 3) := by decide +kernel
theorem d_D_init_105 : decode c_D_init 105 = .ok (.newarray .int, 2) := by decide +kernel
theorem d_D_init_107 : decode c_D_init 107 = .ok (.putfield 51, 3) := by decide +kernel
theorem d_D_init_110 : decode c_D_init 110 = .ok (.aload_n 0, 1) := by decide +kernel
theorem d_D_init_111 : decode c_D_init 111 = .ok (.sipush 576, 3) := by decide +kernel
theorem d_D_init_114 : decode c_D_init 114 = .ok (.newarray .int, 2) := by decide +kernel
theorem d_D_init_116 : decode c_D_init 116 = .ok (.putfield 54, 3) := by decide +kernel
theorem d_D_init_119 : decode c_D_init 119 = .ok (.aload_n 0, 1) := by decide +kernel
theorem d_D_init_120 : decode c_D_init 120 = .ok (.bipush 48, 2) := by decide +kernel
theorem d_D_init_122 : decode c_D_init 122 = .ok (.newarray .int, 2) := by decide +kernel
theorem d_D_init_124 : decode c_D_init 124 = .ok (.putfield 57, 3) := by decide +kernel
theorem d_D_init_127 : decode c_D_init 127 = .ok (.aload_n 0, 1) := by decide +kernel
theorem d_D_init_128 : decode c_D_init 128 = .ok (.sipush 2304, 3) := by decide +kernel
theorem d_D_init_131 : decode c_D_init 131 = .ok (.newarray .int, 2) := by decide +kernel
theorem d_D_init_133 : decode c_D_init 133 = .ok (.putfield 60, 3) := by decide +kernel
theorem d_D_init_136 : decode c_D_init 136 = .ok (.aload_n 0, 1) := by decide +kernel
theorem d_D_init_137 : decode c_D_init 137 = .ok (.bipush 48, 2) := by decide +kernel
theorem d_D_init_139 : decode c_D_init 139 = .ok (.newarray .long, 2) := by decide +kernel
theorem d_D_init_141 : decode c_D_init 141 = .ok (.putfield 63, 3) := by decide +kernel
theorem d_D_init_144 : decode c_D_init 144 = .ok (.aload_n 0, 1) := by decide +kernel
theorem d_D_init_145 : decode c_D_init 145 = .ok (.bipush 48, 2) := by decide +kernel
theorem d_D_init_147 : decode c_D_init 147 = .ok (.newarray .long, 2) := by decide +kernel
theorem d_D_init_149 : decode c_D_init 149 = .ok (.putfield 67, 3) := by decide +kernel
theorem d_D_init_152 : decode c_D_init 152 = .ok (.aload_n 0, 1) := by decide +kernel
theorem d_D_init_153 : decode c_D_init 153 = .ok (.bipush 14, 2) := by decide +kernel
theorem d_D_init_155 : decode c_D_init 155 = .ok (.newarray .int, 2) := by decide +kernel
theorem d_D_init_157 : decode c_D_init 157 = .ok (.putfield 70, 3) := by decide +kernel
theorem d_D_init_160 : decode c_D_init 160 = .ok (.aload_n 0, 1) := by decide +kernel
theorem d_D_init_161 : decode c_D_init 161 = .ok (.bipush 20, 2) := by decide +kernel
theorem d_D_init_163 : decode c_D_init 163 = .ok (.newarray .int, 2) := by decide +kernel
theorem d_D_init_165 : decode c_D_init 165 = .ok (.putfield 73, 3) := by decide +kernel
theorem d_D_init_168 : decode c_D_init 168 = .ok (.aload_n 0, 1) := by decide +kernel
theorem d_D_init_169 : decode c_D_init 169 = .ok (.bipush 48, 2) := by decide +kernel
theorem d_D_init_171 : decode c_D_init 171 = .ok (.newarray .int, 2) := by decide +kernel
theorem d_D_init_173 : decode c_D_init 173 = .ok (.putfield 76, 3) := by decide +kernel
theorem d_D_init_176 : decode c_D_init 176 = .ok (.aload_n 0, 1) := by decide +kernel
theorem d_D_init_177 : decode c_D_init 177 = .ok (.bipush 12, 2) := by decide +kernel
theorem d_D_init_179 : decode c_D_init 179 = .ok (.newarray .int, 2) := by decide +kernel
theorem d_D_init_181 : decode c_D_init 181 = .ok (.putfield 79, 3) := by decide +kernel
theorem d_D_init_184 : decode c_D_init 184 = .ok (.aload_n 0, 1) := by decide +kernel
theorem d_D_init_185 : decode c_D_init 185 = .ok (.bipush 20, 2) := by decide +kernel
theorem d_D_init_187 : decode c_D_init 187 = .ok (.newarray .int, 2) := by decide +kernel
theorem d_D_init_189 : decode c_D_init 189 = .ok (.putfield 82, 3) := by decide +kernel
theorem d_D_init_192 : decode c_D_init 192 = .ok (.aload_n 0, 1) := by decide +kernel
theorem d_D_init_193 : decode c_D_init 193 = .ok (.bipush 48, 2) := by decide +kernel
theorem d_D_init_195 : decode c_D_init 195 = .ok (.newarray .int, 2) := by decide +kernel
theorem d_D_init_197 : decode c_D_init 197 = .ok (.putfield 85, 3) := by decide +kernel
theorem d_D_init_200 : decode c_D_init 200 = .ok (.aload_n 0, 1) := by decide +kernel
theorem d_D_init_201 : decode c_D_init 201 = .ok (.iconst (-1), 1) := by decide +kernel
theorem d_D_init_202 : decode c_D_init 202 = .ok (.putfield 88, 3) := by decide +kernel
theorem d_D_init_205 : decode c_D_init 205 = .ok (.aload_n 0, 1) := by decide +kernel
theorem d_D_init_206 : decode c_D_init 206 = .ok (.getfield 7, 3) := by decide +kernel
theorem d_D_init_209 : decode c_D_init 209 = .ok (.iconst 0, 1) := by decide +kernel
theorem d_D_init_210 : decode c_D_init 210 = .ok (.iconst (-1), 1) := by decide +kernel
theorem d_D_init_211 : decode c_D_init 211 = .ok (.iastore, 1) := by decide +kernel
theorem d_D_init_212 : decode c_D_init 212 = .ok (.return_, 1) := by decide +kernel
theorem d_D_in_0 : decode c_D_in 0 = .ok (.iload_n 0, 1) := by decide +kernel
theorem d_D_in_1 : decode c_D_in 1 = .ok (.iload_n 1, 1) := by decide +kernel
theorem d_D_in_2 : decode c_D_in 2 = .ok (.if_icmp .lt 12, 3) := by decide +kernel
theorem d_D_in_5 : decode c_D_in 5 = .ok (.iload_n 0, 1) := by decide +kernel
theorem d_D_in_6 : decode c_D_in 6 = .ok (.iload_n 2, 1) := by decide +kernel
theorem d_D_in_7 : decode c_D_in 7 = .ok (.if_icmp .gt 7, 3) := by decide +kernel
theorem d_D_in_10 : decode c_D_in 10 = .ok (.iconst 1, 1) := by decide +kernel
theorem d_D_in_11 : decode c_D_in 11 = .ok (.goto 4, 3) := by decide +kernel
theorem d_D_in_14 : decode c_D_in 14 = .ok (.iconst 0, 1) := by decide +kernel
theorem d_D_in_15 : decode c_D_in 15 = .ok (.ireturn, 1) := by decide +kernel
theorem d_D_isClass_0 : decode c_D_isClass 0 = .ok (.iload_n 1, 1) := by decide +kernel
theorem d_D_isClass_1 : decode c_D_isClass 1 = .ok (.bipush 16, 2) := by decide +kernel
theorem d_D_isClass_3 : decode c_D_isClass 3 = .ok (.bipush 16, 2) := by decide +kernel
theorem d_D_isClass_5 : decode c_D_isClass 5 = .ok (.aload_n 0, 1) := by decide +kernel
theorem d_D_isClass_6 : decode c_D_isClass 6 = .ok (.getfield 17, 3) := by decide +kernel
theorem d_D_isClass_9 : decode c_D_isClass 9 = .ok (.iadd, 1) := by decide +kernel
theorem d_D_isClass_10 : decode c_D_isClass 10 = .ok (.iconst 1, 1) := by decide +kernel
theorem d_D_isClass_11 : decode c_D_isClass 11 = .ok (.isub, 1) := by decide +kernel
theorem d_D_isClass_12 : decode c_D_isClass 12 = .ok (.invokestatic 91, 3) := by decide +kernel
theorem d_D_isClass_15 : decode c_D_isClass 15 = .ok (.ireturn, 1) := by decide +kernel
theorem d_D_isRef_0 : decode c_D_isRef 0 = .ok (.aload_n 0, 1) := by decide +kernel
theorem d_D_isRef_1 : decode c_D_isRef 1 = .ok (.iload_n 1, 1) := by decide +kernel
theorem d_D_isRef_2 : decode c_D_isRef 2 = .ok (.invokevirtual 95, 3) := by decide +kernel
theorem d_D_isRef_5 : decode c_D_isRef 5 = .ok (.ifCond .ne 35, 3) := by decide +kernel
theorem d_D_isRef_8 : decode c_D_isRef 8 = .ok (.iload_n 1, 1) := by decide +kernel
theorem d_D_isRef_9 : decode c_D_isRef 9 = .ok (.bipush 64, 2) := by decide +kernel
theorem d_D_isRef_11 : decode c_D_isRef 11 = .ok (.sipush 255, 3) := by decide +kernel
theorem d_D_isRef_14 : decode c_D_isRef 14 = .ok (.invokestatic 91, 3) := by decide +kernel
theorem d_D_isRef_17 : decode c_D_isRef 17 = .ok (.ifCond .eq 27, 3) := by decide +kernel
theorem d_D_isRef_20 : decode c_D_isRef 20 = .ok (.iload_n 1, 1) := by decide +kernel
theorem d_D_isRef_21 : decode c_D_isRef 21 = .ok (.bipush 64, 2) := by decide +kernel
theorem d_D_isRef_23 : decode c_D_isRef 23 = .ok (.irem, 1) := by decide +kernel
theorem d_D_isRef_24 : decode c_D_isRef 24 = .ok (.bipush 12, 2) := by decide +kernel
theorem d_D_isRef_26 : decode c_D_isRef 26 = .ok (.if_icmp .eq 14, 3) := by decide +kernel
theorem d_D_isRef_29 : decode c_D_isRef 29 = .ok (.aload_n 0, 1) := by decide +kernel
theorem d_D_isRef_30 : decode c_D_isRef 30 = .ok (.iload_n 1, 1) := by decide +kernel
theorem d_D_isRef_31 : decode c_D_isRef 31 = .ok (.bipush 64, 2) := by decide +kernel
theorem d_D_isRef_33 : decode c_D_isRef 33 = .ok (.irem, 1) := by decide +kernel
theorem d_D_isRef_34 : decode c_D_isRef 34 = .ok (.invokevirtual 95, 3) := by decide +kernel
theorem d_D_isRef_37 : decode c_D_isRef 37 = .ok (.ifCond .eq 7, 3) := by decide +kernel
theorem d_D_isRef_40 : decode c_D_isRef 40 = .ok (.iconst 1, 1) := by decide +kernel
theorem d_D_isRef_41 : decode c_D_isRef 41 = .ok (.goto 4, 3) := by decide +kernel
theorem d_D_isRef_44 : decode c_D_isRef 44 = .ok (.iconst 0, 1) := by decide +kernel
theorem d_D_isRef_45 : decode c_D_isRef 45 = .ok (.ireturn, 1) := by decide +kernel
theorem d_D_isWide_0 : decode c_D_isWide 0 = .ok (.iload_n 0, 1) := by decide +kernel
theorem d_D_isWide_1 : decode c_D_isWide 1 = .ok (.iconst 3, 1) := by decide +kernel
theorem d_D_isWide_2 : decode c_D_isWide 2 = .ok (.if_icmp .eq 8, 3) := by decide +kernel
theorem d_D_isWide_5 : decode c_D_isWide 5 = .ok (.iload_n 0, 1) := by decide +kernel
theorem d_D_isWide_6 : decode c_D_isWide 6 = .ok (.iconst 4, 1) := by decide +kernel
theorem d_D_isWide_7 : decode c_D_isWide 7 = .ok (.if_icmp .ne 7, 3) := by decide +kernel
theorem d_D_isWide_10 : decode c_D_isWide 10 = .ok (.iconst 1, 1) := by decide +kernel
theorem d_D_isWide_11 : decode c_D_isWide 11 = .ok (.goto 4, 3) := by decide +kernel
theorem d_D_isWide_14 : decode c_D_isWide 14 = .ok (.iconst 0, 1) := by decide +kernel
theorem d_D_isWide_15 : decode c_D_isWide 15 = .ok (.ireturn, 1) := by decide +kernel
theorem d_D_isBelow_0 : decode c_D_isBelow 0 = .ok (.iload_n 1, 1) := by decide +kernel
theorem d_D_isBelow_1 : decode c_D_isBelow 1 = .ok (.istore_n 3, 1) := by decide +kernel
theorem d_D_isBelow_2 : decode c_D_isBelow 2 = .ok (.iload_n 3, 1) := by decide +kernel
theorem d_D_isBelow_3 : decode c_D_isBelow 3 = .ok (.ifCond .lt 18, 3) := by decide +kernel
theorem d_D_isBelow_6 : decode c_D_isBelow 6 = .ok (.iload_n 3, 1) := by decide +kernel
theorem d_D_isBelow_7 : decode c_D_isBelow 7 = .ok (.iload_n 2, 1) := by decide +kernel
theorem d_D_isBelow_8 : decode c_D_isBelow 8 = .ok (.if_icmp .eq 13, 3) := by decide +kernel
theorem d_D_isBelow_11 : decode c_D_isBelow 11 = .ok (.aload_n 0, 1) := by decide +kernel
theorem d_D_isBelow_12 : decode c_D_isBelow 12 = .ok (.getfield 7, 3) := by decide +kernel
theorem d_D_isBelow_15 : decode c_D_isBelow 15 = .ok (.iload_n 3, 1) := by decide +kernel
theorem d_D_isBelow_16 : decode c_D_isBelow 16 = .ok (.iaload, 1) := by decide +kernel
theorem d_D_isBelow_17 : decode c_D_isBelow 17 = .ok (.istore_n 3, 1) := by decide +kernel
theorem d_D_isBelow_18 : decode c_D_isBelow 18 = .ok (.goto (-16), 3) := by decide +kernel
theorem d_D_isBelow_21 : decode c_D_isBelow 21 = .ok (.iload_n 3, 1) := by decide +kernel
theorem d_D_isBelow_22 : decode c_D_isBelow 22 = .ok (.iload_n 2, 1) := by decide +kernel
theorem d_D_isBelow_23 : decode c_D_isBelow 23 = .ok (.if_icmp .ne 7, 3) := by decide +kernel
theorem d_D_isBelow_26 : decode c_D_isBelow 26 = .ok (.iconst 1, 1) := by decide +kernel
theorem d_D_isBelow_27 : decode c_D_isBelow 27 = .ok (.goto 4, 3) := by decide +kernel
theorem d_D_isBelow_30 : decode c_D_isBelow 30 = .ok (.iconst 0, 1) := by decide +kernel
theorem d_D_isBelow_31 : decode c_D_isBelow 31 = .ok (.ireturn, 1) := by decide +kernel
theorem d_D_goesFor_0 : decode c_D_goesFor 0 = .ok (.iload_n 1, 1) := by decide +kernel
theorem d_D_goesFor_1 : decode c_D_goesFor 1 = .ok (.iload_n 2, 1) := by decide +kernel
theorem d_D_goesFor_2 : decode c_D_goesFor 2 = .ok (.if_icmp .ne 5, 3) := by decide +kernel
theorem d_D_goesFor_5 : decode c_D_goesFor 5 = .ok (.iconst 1, 1) := by decide +kernel
theorem d_D_goesFor_6 : decode c_D_goesFor 6 = .ok (.ireturn, 1) := by decide +kernel
theorem d_D_goesFor_7 : decode c_D_goesFor 7 = .ok (.iload_n 1, 1) := by decide +kernel
theorem d_D_goesFor_8 : decode c_D_goesFor 8 = .ok (.iconst 5, 1) := by decide +kernel
theorem d_D_goesFor_9 : decode c_D_goesFor 9 = .ok (.if_icmp .ne 9, 3) := by decide +kernel
theorem d_D_goesFor_12 : decode c_D_goesFor 12 = .ok (.aload_n 0, 1) := by decide +kernel
theorem d_D_goesFor_13 : decode c_D_goesFor 13 = .ok (.iload_n 2, 1) := by decide +kernel
theorem d_D_goesFor_14 : decode c_D_goesFor 14 = .ok (.invokevirtual 99, 3) := by decide +kernel
theorem d_D_goesFor_17 : decode c_D_goesFor 17 = .ok (.ireturn, 1) := by decide +kernel
theorem d_D_goesFor_18 : decode c_D_goesFor 18 = .ok (.iload_n 1, 1) := by decide +kernel
theorem d_D_goesFor_19 : decode c_D_goesFor 19 = .ok (.istore_n 3, 1) := by decide +kernel
theorem d_D_goesFor_20 : decode c_D_goesFor 20 = .ok (.iload_n 2, 1) := by decide +kernel
theorem d_D_goesFor_21 : decode c_D_goesFor 21 = .ok (.istore 4, 2) := by decide +kernel
theorem d_D_goesFor_23 : decode c_D_goesFor 23 = .ok (.iload_n 3, 1) := by decide +kernel
theorem d_D_goesFor_24 : decode c_D_goesFor 24 = .ok (.iload 4, 2) := by decide +kernel
theorem d_D_goesFor_26 : decode c_D_goesFor 26 = .ok (.if_icmp .eq 44, 3) := by decide +kernel
theorem d_D_goesFor_29 : decode c_D_goesFor 29 = .ok (.iload 4, 2) := by decide +kernel
theorem d_D_goesFor_31 : decode c_D_goesFor 31 = .ok (.bipush 16, 2) := by decide +kernel
theorem d_D_goesFor_33 : decode c_D_goesFor 33 = .ok (.if_icmp .eq 37, 3) := by decide +kernel
theorem d_D_goesFor_36 : decode c_D_goesFor 36 = .ok (.iload_n 3, 1) := by decide +kernel
theorem d_D_goesFor_37 : decode c_D_goesFor 37 = .ok (.bipush 64, 2) := by decide +kernel
theorem d_D_goesFor_39 : decode c_D_goesFor 39 = .ok (.sipush 255, 3) := by decide +kernel
theorem d_D_goesFor_42 : decode c_D_goesFor 42 = .ok (.invokestatic 91, 3) := by decide +kernel
theorem d_D_goesFor_45 : decode c_D_goesFor 45 = .ok (.ifCond .eq 25, 3) := by decide +kernel
theorem d_D_goesFor_48 : decode c_D_goesFor 48 = .ok (.iload 4, 2) := by decide +kernel
theorem d_D_goesFor_50 : decode c_D_goesFor 50 = .ok (.bipush 64, 2) := by decide +kernel
theorem d_D_goesFor_52 : decode c_D_goesFor 52 = .ok (.sipush 255, 3) := by decide +kernel
theorem d_D_goesFor_55 : decode c_D_goesFor 55 = .ok (.invokestatic 91, 3) := by decide +kernel
theorem d_D_goesFor_58 : decode c_D_goesFor 58 = .ok (.ifCond .eq 12, 3) := by decide +kernel
theorem d_D_goesFor_61 : decode c_D_goesFor 61 = .ok (.iinc 3 (-64), 3) := by decide +kernel
theorem d_D_goesFor_64 : decode c_D_goesFor 64 = .ok (.iinc 4 (-64), 3) := by decide +kernel
theorem d_D_goesFor_67 : decode c_D_goesFor 67 = .ok (.goto (-44), 3) := by decide +kernel
theorem d_D_goesFor_70 : decode c_D_goesFor 70 = .ok (.aload_n 0, 1) := by decide +kernel
theorem d_D_goesFor_71 : decode c_D_goesFor 71 = .ok (.iload_n 3, 1) := by decide +kernel
theorem d_D_goesFor_72 : decode c_D_goesFor 72 = .ok (.invokevirtual 99, 3) := by decide +kernel
theorem d_D_goesFor_75 : decode c_D_goesFor 75 = .ok (.ifCond .eq 12, 3) := by decide +kernel
theorem d_D_goesFor_78 : decode c_D_goesFor 78 = .ok (.aload_n 0, 1) := by decide +kernel
theorem d_D_goesFor_79 : decode c_D_goesFor 79 = .ok (.iload 4, 2) := by decide +kernel
theorem d_D_goesFor_81 : decode c_D_goesFor 81 = .ok (.invokevirtual 99, 3) := by decide +kernel
theorem d_D_goesFor_84 : decode c_D_goesFor 84 = .ok (.ifCond .ne 5, 3) := by decide +kernel
theorem d_D_goesFor_87 : decode c_D_goesFor 87 = .ok (.iconst 0, 1) := by decide +kernel
theorem d_D_goesFor_88 : decode c_D_goesFor 88 = .ok (.ireturn, 1) := by decide +kernel
theorem d_D_goesFor_89 : decode c_D_goesFor 89 = .ok (.iload_n 3, 1) := by decide +kernel
theorem d_D_goesFor_90 : decode c_D_goesFor 90 = .ok (.iload 4, 2) := by decide +kernel
theorem d_D_goesFor_92 : decode c_D_goesFor 92 = .ok (.if_icmp .eq 56, 3) := by decide +kernel
theorem d_D_goesFor_95 : decode c_D_goesFor 95 = .ok (.iload 4, 2) := by decide +kernel
theorem d_D_goesFor_97 : decode c_D_goesFor 97 = .ok (.bipush 16, 2) := by decide +kernel
theorem d_D_goesFor_99 : decode c_D_goesFor 99 = .ok (.if_icmp .eq 49, 3) := by decide +kernel
theorem d_D_goesFor_102 : decode c_D_goesFor 102 = .ok (.aload_n 0, 1) := by decide +kernel
theorem d_D_goesFor_103 : decode c_D_goesFor 103 = .ok (.iload_n 3, 1) := by decide +kernel
theorem d_D_goesFor_104 : decode c_D_goesFor 104 = .ok (.invokevirtual 95, 3) := by decide +kernel
theorem d_D_goesFor_107 : decode c_D_goesFor 107 = .ok (.ifCond .eq 45, 3) := by decide +kernel
theorem d_D_goesFor_110 : decode c_D_goesFor 110 = .ok (.aload_n 0, 1) := by decide +kernel
theorem d_D_goesFor_111 : decode c_D_goesFor 111 = .ok (.iload 4, 2) := by decide +kernel
theorem d_D_goesFor_113 : decode c_D_goesFor 113 = .ok (.invokevirtual 95, 3) := by decide +kernel
theorem d_D_goesFor_116 : decode c_D_goesFor 116 = .ok (.ifCond .eq 36, 3) := by decide +kernel
theorem d_D_goesFor_119 : decode c_D_goesFor 119 = .ok (.aload_n 0, 1) := by decide +kernel
theorem d_D_goesFor_120 : decode c_D_goesFor 120 = .ok (.getfield 13, 3) := by decide +kernel
theorem d_D_goesFor_123 : decode c_D_goesFor 123 = .ok (.iload 4, 2) := by decide +kernel
theorem d_D_goesFor_125 : decode c_D_goesFor 125 = .ok (.bipush 16, 2) := by decide +kernel
theorem d_D_goesFor_127 : decode c_D_goesFor 127 = .ok (.isub, 1) := by decide +kernel
theorem d_D_goesFor_128 : decode c_D_goesFor 128 = .ok (.baload, 1) := by decide +kernel
theorem d_D_goesFor_129 : decode c_D_goesFor 129 = .ok (.ifCond .ne 19, 3) := by decide +kernel
theorem d_D_goesFor_132 : decode c_D_goesFor 132 = .ok (.aload_n 0, 1) := by decide +kernel
theorem d_D_goesFor_133 : decode c_D_goesFor 133 = .ok (.iload_n 3, 1) := by decide +kernel
theorem d_D_goesFor_134 : decode c_D_goesFor 134 = .ok (.bipush 16, 2) := by decide +kernel
theorem d_D_goesFor_136 : decode c_D_goesFor 136 = .ok (.isub, 1) := by decide +kernel
theorem d_D_goesFor_137 : decode c_D_goesFor 137 = .ok (.iload 4, 2) := by decide +kernel
theorem d_D_goesFor_139 : decode c_D_goesFor 139 = .ok (.bipush 16, 2) := by decide +kernel
theorem d_D_goesFor_141 : decode c_D_goesFor 141 = .ok (.isub, 1) := by decide +kernel
theorem d_D_goesFor_142 : decode c_D_goesFor 142 = .ok (.invokevirtual 102, 3) := by decide +kernel
theorem d_D_goesFor_145 : decode c_D_goesFor 145 = .ok (.ifCond .eq 7, 3) := by decide +kernel
theorem d_D_goesFor_148 : decode c_D_goesFor 148 = .ok (.iconst 1, 1) := by decide +kernel
theorem d_D_goesFor_149 : decode c_D_goesFor 149 = .ok (.goto 4, 3) := by decide +kernel
theorem d_D_goesFor_152 : decode c_D_goesFor 152 = .ok (.iconst 0, 1) := by decide +kernel
theorem d_D_goesFor_153 : decode c_D_goesFor 153 = .ok (.ireturn, 1) := by decide +kernel
theorem d_D_joined_0 : decode c_D_joined 0 = .ok (.iload_n 1, 1) := by decide +kernel
theorem d_D_joined_1 : decode c_D_joined 1 = .ok (.iload_n 2, 1) := by decide +kernel
theorem d_D_joined_2 : decode c_D_joined 2 = .ok (.if_icmp .ne 5, 3) := by decide +kernel
theorem d_D_joined_5 : decode c_D_joined 5 = .ok (.iload_n 1, 1) := by decide +kernel
theorem d_D_joined_6 : decode c_D_joined 6 = .ok (.ireturn, 1) := by decide +kernel
theorem d_D_joined_7 : decode c_D_joined 7 = .ok (.iload_n 1, 1) := by decide +kernel
theorem d_D_joined_8 : decode c_D_joined 8 = .ok (.iconst 5, 1) := by decide +kernel
theorem d_D_joined_9 : decode c_D_joined 9 = .ok (.if_icmp .ne 13, 3) := by decide +kernel
theorem d_D_joined_12 : decode c_D_joined 12 = .ok (.aload_n 0, 1) := by decide +kernel
theorem d_D_joined_13 : decode c_D_joined 13 = .ok (.iload_n 2, 1) := by decide +kernel
theorem d_D_joined_14 : decode c_D_joined 14 = .ok (.invokevirtual 99, 3) := by decide +kernel
theorem d_D_joined_17 : decode c_D_joined 17 = .ok (.ifCond .eq 5, 3) := by decide +kernel
theorem d_D_joined_20 : decode c_D_joined 20 = .ok (.iload_n 2, 1) := by decide +kernel
theorem d_D_joined_21 : decode c_D_joined 21 = .ok (.ireturn, 1) := by decide +kernel
theorem d_D_joined_22 : decode c_D_joined 22 = .ok (.iload_n 2, 1) := by decide +kernel
theorem d_D_joined_23 : decode c_D_joined 23 = .ok (.iconst 5, 1) := by decide +kernel
theorem d_D_joined_24 : decode c_D_joined 24 = .ok (.if_icmp .ne 13, 3) := by decide +kernel
theorem d_D_joined_27 : decode c_D_joined 27 = .ok (.aload_n 0, 1) := by decide +kernel
theorem d_D_joined_28 : decode c_D_joined 28 = .ok (.iload_n 1, 1) := by decide +kernel
theorem d_D_joined_29 : decode c_D_joined 29 = .ok (.invokevirtual 99, 3) := by decide +kernel
theorem d_D_joined_32 : decode c_D_joined 32 = .ok (.ifCond .eq 5, 3) := by decide +kernel
theorem d_D_joined_35 : decode c_D_joined 35 = .ok (.iload_n 1, 1) := by decide +kernel
theorem d_D_joined_36 : decode c_D_joined 36 = .ok (.ireturn, 1) := by decide +kernel
theorem d_D_joined_37 : decode c_D_joined 37 = .ok (.aload_n 0, 1) := by decide +kernel
theorem d_D_joined_38 : decode c_D_joined 38 = .ok (.iload_n 1, 1) := by decide +kernel
theorem d_D_joined_39 : decode c_D_joined 39 = .ok (.invokevirtual 99, 3) := by decide +kernel
theorem d_D_joined_42 : decode c_D_joined 42 = .ok (.ifCond .eq 11, 3) := by decide +kernel
theorem d_D_joined_45 : decode c_D_joined 45 = .ok (.aload_n 0, 1) := by decide +kernel
theorem d_D_joined_46 : decode c_D_joined 46 = .ok (.iload_n 2, 1) := by decide +kernel
theorem d_D_joined_47 : decode c_D_joined 47 = .ok (.invokevirtual 99, 3) := by decide +kernel
theorem d_D_joined_50 : decode c_D_joined 50 = .ok (.ifCond .ne 5, 3) := by decide +kernel
theorem d_D_joined_53 : decode c_D_joined 53 = .ok (.iconst 0, 1) := by decide +kernel
theorem d_D_joined_54 : decode c_D_joined 54 = .ok (.ireturn, 1) := by decide +kernel
theorem d_D_joined_55 : decode c_D_joined 55 = .ok (.iload_n 1, 1) := by decide +kernel
theorem d_D_joined_56 : decode c_D_joined 56 = .ok (.bipush 64, 2) := by decide +kernel
theorem d_D_joined_58 : decode c_D_joined 58 = .ok (.idiv, 1) := by decide +kernel
theorem d_D_joined_59 : decode c_D_joined 59 = .ok (.istore_n 3, 1) := by decide +kernel
theorem d_D_joined_60 : decode c_D_joined 60 = .ok (.iload_n 2, 1) := by decide +kernel
theorem d_D_joined_61 : decode c_D_joined 61 = .ok (.bipush 64, 2) := by decide +kernel
theorem d_D_joined_63 : decode c_D_joined 63 = .ok (.idiv, 1) := by decide +kernel
theorem d_D_joined_64 : decode c_D_joined 64 = .ok (.istore 4, 2) := by decide +kernel
theorem d_D_joined_66 : decode c_D_joined 66 = .ok (.iload_n 1, 1) := by decide +kernel
theorem d_D_joined_67 : decode c_D_joined 67 = .ok (.bipush 64, 2) := by decide +kernel
theorem d_D_joined_69 : decode c_D_joined 69 = .ok (.irem, 1) := by decide +kernel
theorem d_D_joined_70 : decode c_D_joined 70 = .ok (.istore 5, 2) := by decide +kernel
theorem d_D_joined_72 : decode c_D_joined 72 = .ok (.iload_n 2, 1) := by decide +kernel
theorem d_D_joined_73 : decode c_D_joined 73 = .ok (.bipush 64, 2) := by decide +kernel
theorem d_D_joined_75 : decode c_D_joined 75 = .ok (.irem, 1) := by decide +kernel
theorem d_D_joined_76 : decode c_D_joined 76 = .ok (.istore 6, 2) := by decide +kernel
theorem d_D_joined_78 : decode c_D_joined 78 = .ok (.iload_n 3, 1) := by decide +kernel
theorem d_D_joined_79 : decode c_D_joined 79 = .ok (.iload 4, 2) := by decide +kernel
theorem d_D_joined_81 : decode c_D_joined 81 = .ok (.if_icmp .ge 7, 3) := by decide +kernel
theorem d_D_joined_84 : decode c_D_joined 84 = .ok (.iload_n 3, 1) := by decide +kernel
theorem d_D_joined_85 : decode c_D_joined 85 = .ok (.goto 5, 3) := by decide +kernel
theorem d_D_joined_88 : decode c_D_joined 88 = .ok (.iload 4, 2) := by decide +kernel
theorem d_D_joined_90 : decode c_D_joined 90 = .ok (.istore 7, 2) := by decide +kernel
theorem d_D_joined_92 : decode c_D_joined 92 = .ok (.iload_n 3, 1) := by decide +kernel
theorem d_D_joined_93 : decode c_D_joined 93 = .ok (.iload 4, 2) := by decide +kernel
theorem d_D_joined_95 : decode c_D_joined 95 = .ok (.if_icmp .ne 95, 3) := by decide +kernel
theorem d_D_joined_98 : decode c_D_joined 98 = .ok (.iload 5, 2) := by decide +kernel
theorem d_D_joined_100 : decode c_D_joined 100 = .ok (.bipush 12, 2) := by decide +kernel
theorem d_D_joined_102 : decode c_D_joined 102 = .ok (.if_icmp .eq 88, 3) := by decide +kernel
theorem d_D_joined_105 : decode c_D_joined 105 = .ok (.iload 6, 2) := by decide +kernel
theorem d_D_joined_107 : decode c_D_joined 107 = .ok (.bipush 12, 2) := by decide +kernel
theorem d_D_joined_109 : decode c_D_joined 109 = .ok (.if_icmp .eq 81, 3) := by decide +kernel
theorem d_D_joined_112 : decode c_D_joined 112 = .ok (.aload_n 0, 1) := by decide +kernel
theorem d_D_joined_113 : decode c_D_joined 113 = .ok (.getfield 13, 3) := by decide +kernel
theorem d_D_joined_116 : decode c_D_joined 116 = .ok (.iload 5, 2) := by decide +kernel
theorem d_D_joined_118 : decode c_D_joined 118 = .ok (.bipush 16, 2) := by decide +kernel
theorem d_D_joined_120 : decode c_D_joined 120 = .ok (.isub, 1) := by decide +kernel
theorem d_D_joined_121 : decode c_D_joined 121 = .ok (.baload, 1) := by decide +kernel
theorem d_D_joined_122 : decode c_D_joined 122 = .ok (.ifCond .ne 16, 3) := by decide +kernel
theorem d_D_joined_125 : decode c_D_joined 125 = .ok (.aload_n 0, 1) := by decide +kernel
theorem d_D_joined_126 : decode c_D_joined 126 = .ok (.getfield 13, 3) := by decide +kernel
theorem d_D_joined_129 : decode c_D_joined 129 = .ok (.iload 6, 2) := by decide +kernel
theorem d_D_joined_131 : decode c_D_joined 131 = .ok (.bipush 16, 2) := by decide +kernel
theorem d_D_joined_133 : decode c_D_joined 133 = .ok (.isub, 1) := by decide +kernel
theorem d_D_joined_134 : decode c_D_joined 134 = .ok (.baload, 1) := by decide +kernel
theorem d_D_joined_135 : decode c_D_joined 135 = .ok (.ifCond .eq 11, 3) := by decide +kernel
theorem d_D_joined_138 : decode c_D_joined 138 = .ok (.bipush 64, 2) := by decide +kernel
theorem d_D_joined_140 : decode c_D_joined 140 = .ok (.iload_n 3, 1) := by decide +kernel
theorem d_D_joined_141 : decode c_D_joined 141 = .ok (.imul, 1) := by decide +kernel
theorem d_D_joined_142 : decode c_D_joined 142 = .ok (.bipush 16, 2) := by decide +kernel
theorem d_D_joined_144 : decode c_D_joined 144 = .ok (.iadd, 1) := by decide +kernel
theorem d_D_joined_145 : decode c_D_joined 145 = .ok (.ireturn, 1) := by decide +kernel
theorem d_D_joined_146 : decode c_D_joined 146 = .ok (.iload 5, 2) := by decide +kernel
theorem d_D_joined_148 : decode c_D_joined 148 = .ok (.bipush 16, 2) := by decide +kernel
theorem d_D_joined_150 : decode c_D_joined 150 = .ok (.isub, 1) := by decide +kernel
theorem d_D_joined_151 : decode c_D_joined 151 = .ok (.istore 8, 2) := by decide +kernel
theorem d_D_joined_153 : decode c_D_joined 153 = .ok (.aload_n 0, 1) := by decide +kernel
theorem d_D_joined_154 : decode c_D_joined 154 = .ok (.iload 6, 2) := by decide +kernel
theorem d_D_joined_156 : decode c_D_joined 156 = .ok (.bipush 16, 2) := by decide +kernel
theorem d_D_joined_158 : decode c_D_joined 158 = .ok (.isub, 1) := by decide +kernel
theorem d_D_joined_159 : decode c_D_joined 159 = .ok (.iload 8, 2) := by decide +kernel
theorem d_D_joined_161 : decode c_D_joined 161 = .ok (.invokevirtual 102, 3) := by decide +kernel
theorem d_D_joined_164 : decode c_D_joined 164 = .ok (.ifCond .ne 15, 3) := by decide +kernel
theorem d_D_joined_167 : decode c_D_joined 167 = .ok (.aload_n 0, 1) := by decide +kernel
theorem d_D_joined_168 : decode c_D_joined 168 = .ok (.getfield 7, 3) := by decide +kernel
theorem d_D_joined_171 : decode c_D_joined 171 = .ok (.iload 8, 2) := by decide +kernel
theorem d_D_joined_173 : decode c_D_joined 173 = .ok (.iaload, 1) := by decide +kernel
theorem d_D_joined_174 : decode c_D_joined 174 = .ok (.istore 8, 2) := by decide +kernel
theorem d_D_joined_176 : decode c_D_joined 176 = .ok (.goto (-23), 3) := by decide +kernel
theorem d_D_joined_179 : decode c_D_joined 179 = .ok (.bipush 64, 2) := by decide +kernel
theorem d_D_joined_181 : decode c_D_joined 181 = .ok (.iload_n 3, 1) := by decide +kernel
theorem d_D_joined_182 : decode c_D_joined 182 = .ok (.imul, 1) := by decide +kernel
theorem d_D_joined_183 : decode c_D_joined 183 = .ok (.bipush 16, 2) := by decide +kernel
theorem d_D_joined_185 : decode c_D_joined 185 = .ok (.iadd, 1) := by decide +kernel
theorem d_D_joined_186 : decode c_D_joined 186 = .ok (.iload 8, 2) := by decide +kernel
theorem d_D_joined_188 : decode c_D_joined 188 = .ok (.iadd, 1) := by decide +kernel
theorem d_D_joined_189 : decode c_D_joined 189 = .ok (.ireturn, 1) := by decide +kernel
theorem d_D_joined_190 : decode c_D_joined 190 = .ok (.iload 5, 2) := by decide +kernel
theorem d_D_joined_192 : decode c_D_joined 192 = .ok (.bipush 12, 2) := by decide +kernel
theorem d_D_joined_194 : decode c_D_joined 194 = .ok (.if_icmp .ne 9, 3) := by decide +kernel
theorem d_D_joined_197 : decode c_D_joined 197 = .ok (.iload_n 3, 1) := by decide +kernel
theorem d_D_joined_198 : decode c_D_joined 198 = .ok (.iload 7, 2) := by decide +kernel
theorem d_D_joined_200 : decode c_D_joined 200 = .ok (.if_icmp .eq 17, 3) := by decide +kernel
theorem d_D_joined_203 : decode c_D_joined 203 = .ok (.iload 6, 2) := by decide +kernel
theorem d_D_joined_205 : decode c_D_joined 205 = .ok (.bipush 12, 2) := by decide +kernel
theorem d_D_joined_207 : decode c_D_joined 207 = .ok (.if_icmp .ne 13, 3) := by decide +kernel
theorem d_D_joined_210 : decode c_D_joined 210 = .ok (.iload 4, 2) := by decide +kernel
theorem d_D_joined_212 : decode c_D_joined 212 = .ok (.iload 7, 2) := by decide +kernel
theorem d_D_joined_214 : decode c_D_joined 214 = .ok (.if_icmp .ne 6, 3) := by decide +kernel
theorem d_D_joined_217 : decode c_D_joined 217 = .ok (.iinc 7 (-1), 3) := by decide +kernel
theorem d_D_joined_220 : decode c_D_joined 220 = .ok (.bipush 64, 2) := by decide +kernel
theorem d_D_joined_222 : decode c_D_joined 222 = .ok (.iload 7, 2) := by decide +kernel
theorem d_D_joined_224 : decode c_D_joined 224 = .ok (.imul, 1) := by decide +kernel
theorem d_D_joined_225 : decode c_D_joined 225 = .ok (.bipush 16, 2) := by decide +kernel
theorem d_D_joined_227 : decode c_D_joined 227 = .ok (.iadd, 1) := by decide +kernel
theorem d_D_joined_228 : decode c_D_joined 228 = .ok (.ireturn, 1) := by decide +kernel
theorem d_D_cls_0 : decode c_D_cls 0 = .ok (.iload_n 1, 1) := by decide +kernel
theorem d_D_cls_1 : decode c_D_cls 1 = .ok (.iconst 0, 1) := by decide +kernel
theorem d_D_cls_2 : decode c_D_cls 2 = .ok (.aload_n 0, 1) := by decide +kernel
theorem d_D_cls_3 : decode c_D_cls 3 = .ok (.getfield 17, 3) := by decide +kernel
theorem d_D_cls_6 : decode c_D_cls 6 = .ok (.iconst 1, 1) := by decide +kernel
theorem d_D_cls_7 : decode c_D_cls 7 = .ok (.isub, 1) := by decide +kernel
theorem d_D_cls_8 : decode c_D_cls 8 = .ok (.invokestatic 91, 3) := by decide +kernel
theorem d_D_cls_11 : decode c_D_cls 11 = .ok (.ifCond .ne 5, 3) := by decide +kernel
theorem d_D_cls_14 : decode c_D_cls 14 = .ok (.iconst (-1), 1) := by decide +kernel
theorem d_D_cls_15 : decode c_D_cls 15 = .ok (.ireturn, 1) := by decide +kernel
theorem d_D_cls_16 : decode c_D_cls 16 = .ok (.aload_n 0, 1) := by decide +kernel
theorem d_D_cls_17 : decode c_D_cls 17 = .ok (.getfield 17, 3) := by decide +kernel
theorem d_D_cls_20 : decode c_D_cls 20 = .ok (.bipush 10, 2) := by decide +kernel
theorem d_D_cls_22 : decode c_D_cls 22 = .ok (.if_icmp .ne 6, 3) := by decide +kernel
theorem d_D_cls_25 : decode c_D_cls 25 = .ok (.bipush (-2), 2) := by decide +kernel
theorem d_D_cls_27 : decode c_D_cls 27 = .ok (.ireturn, 1) := by decide +kernel
theorem d_D_cls_28 : decode c_D_cls 28 = .ok (.aload_n 0, 1) := by decide +kernel
theorem d_D_cls_29 : decode c_D_cls 29 = .ok (.getfield 7, 3) := by decide +kernel
theorem d_D_cls_32 : decode c_D_cls 32 = .ok (.aload_n 0, 1) := by decide +kernel
theorem d_D_cls_33 : decode c_D_cls 33 = .ok (.getfield 17, 3) := by decide +kernel
theorem d_D_cls_36 : decode c_D_cls 36 = .ok (.iload_n 1, 1) := by decide +kernel
theorem d_D_cls_37 : decode c_D_cls 37 = .ok (.iastore, 1) := by decide +kernel
theorem d_D_cls_38 : decode c_D_cls 38 = .ok (.aload_n 0, 1) := by decide +kernel
theorem d_D_cls_39 : decode c_D_cls 39 = .ok (.getfield 13, 3) := by decide +kernel
theorem d_D_cls_42 : decode c_D_cls 42 = .ok (.aload_n 0, 1) := by decide +kernel
theorem d_D_cls_43 : decode c_D_cls 43 = .ok (.getfield 17, 3) := by decide +kernel
theorem d_D_cls_46 : decode c_D_cls 46 = .ok (.iload_n 2, 1) := by decide +kernel
theorem d_D_cls_47 : decode c_D_cls 47 = .ok (.bastore, 1) := by decide +kernel
theorem d_D_cls_48 : decode c_D_cls 48 = .ok (.aload_n 0, 1) := by decide +kernel
theorem d_D_cls_49 : decode c_D_cls 49 = .ok (.dup, 1) := by decide +kernel
theorem d_D_cls_50 : decode c_D_cls 50 = .ok (.getfield 17, 3) := by decide +kernel
theorem d_D_cls_53 : decode c_D_cls 53 = .ok (.iconst 1, 1) := by decide +kernel
theorem d_D_cls_54 : decode c_D_cls 54 = .ok (.iadd, 1) := by decide +kernel
theorem d_D_cls_55 : decode c_D_cls 55 = .ok (.putfield 17, 3) := by decide +kernel
theorem d_D_cls_58 : decode c_D_cls 58 = .ok (.aload_n 0, 1) := by decide +kernel
theorem d_D_cls_59 : decode c_D_cls 59 = .ok (.getfield 17, 3) := by decide +kernel
theorem d_D_cls_62 : decode c_D_cls 62 = .ok (.iconst 1, 1) := by decide +kernel
theorem d_D_cls_63 : decode c_D_cls 63 = .ok (.isub, 1) := by decide +kernel
theorem d_D_cls_64 : decode c_D_cls 64 = .ok (.ireturn, 1) := by decide +kernel
theorem d_D_isPlain_0 : decode c_D_isPlain 0 = .ok (.iload_n 1, 1) := by decide +kernel
theorem d_D_isPlain_1 : decode c_D_isPlain 1 = .ok (.iconst 1, 1) := by decide +kernel
theorem d_D_isPlain_2 : decode c_D_isPlain 2 = .ok (.iconst 4, 1) := by decide +kernel
theorem d_D_isPlain_3 : decode c_D_isPlain 3 = .ok (.invokestatic 91, 3) := by decide +kernel
theorem d_D_isPlain_6 : decode c_D_isPlain 6 = .ok (.ifCond .ne 11, 3) := by decide +kernel
theorem d_D_isPlain_9 : decode c_D_isPlain 9 = .ok (.aload_n 0, 1) := by decide +kernel
theorem d_D_isPlain_10 : decode c_D_isPlain 10 = .ok (.iload_n 1, 1) := by decide +kernel
theorem d_D_isPlain_11 : decode c_D_isPlain 11 = .ok (.invokevirtual 99, 3) := by decide +kernel
theorem d_D_isPlain_14 : decode c_D_isPlain 14 = .ok (.ifCond .eq 7, 3) := by decide +kernel
theorem d_D_isPlain_17 : decode c_D_isPlain 17 = .ok (.iconst 1, 1) := by decide +kernel
theorem d_D_isPlain_18 : decode c_D_isPlain 18 = .ok (.goto 4, 3) := by decide +kernel
theorem d_D_isPlain_21 : decode c_D_isPlain 21 = .ok (.iconst 0, 1) := by decide +kernel
theorem d_D_isPlain_22 : decode c_D_isPlain 22 = .ok (.ireturn, 1) := by decide +kernel
theorem d_D_begin_0 : decode c_D_begin 0 = .ok (.iload_n 1, 1) := by decide +kernel
theorem d_D_begin_1 : decode c_D_begin 1 = .ok (.ifCond .eq 11, 3) := by decide +kernel
theorem d_D_begin_4 : decode c_D_begin 4 = .ok (.aload_n 0, 1) := by decide +kernel
theorem d_D_begin_5 : decode c_D_begin 5 = .ok (.iload_n 1, 1) := by decide +kernel
theorem d_D_begin_6 : decode c_D_begin 6 = .ok (.invokevirtual 106, 3) := by decide +kernel
theorem d_D_begin_9 : decode c_D_begin 9 = .ok (.ifCond .eq 23, 3) := by decide +kernel
theorem d_D_begin_12 : decode c_D_begin 12 = .ok (.iload_n 2, 1) := by decide +kernel
theorem d_D_begin_13 : decode c_D_begin 13 = .ok (.iconst 0, 1) := by decide +kernel
theorem d_D_begin_14 : decode c_D_begin 14 = .ok (.bipush 12, 2) := by decide +kernel
theorem d_D_begin_16 : decode c_D_begin 16 = .ok (.invokestatic 91, 3) := by decide +kernel
theorem d_D_begin_19 : decode c_D_begin 19 = .ok (.ifCond .eq 13, 3) := by decide +kernel
theorem d_D_begin_22 : decode c_D_begin 22 = .ok (.iload_n 3, 1) := by decide +kernel
theorem d_D_begin_23 : decode c_D_begin 23 = .ok (.iconst 0, 1) := by decide +kernel
theorem d_D_begin_24 : decode c_D_begin 24 = .ok (.bipush 12, 2) := by decide +kernel
theorem d_D_begin_26 : decode c_D_begin 26 = .ok (.invokestatic 91, 3) := by decide +kernel
theorem d_D_begin_29 : decode c_D_begin 29 = .ok (.ifCond .ne 5, 3) := by decide +kernel
theorem d_D_begin_32 : decode c_D_begin 32 = .ok (.iconst (-1), 1) := by decide +kernel
theorem d_D_begin_33 : decode c_D_begin 33 = .ok (.ireturn, 1) := by decide +kernel
theorem d_D_begin_34 : decode c_D_begin 34 = .ok (.aload_n 0, 1) := by decide +kernel
theorem d_D_begin_35 : decode c_D_begin 35 = .ok (.iload_n 1, 1) := by decide +kernel
theorem d_D_begin_36 : decode c_D_begin 36 = .ok (.putfield 109, 3) := by decide +kernel
theorem d_D_begin_39 : decode c_D_begin 39 = .ok (.aload_n 0, 1) := by decide +kernel
theorem d_D_begin_40 : decode c_D_begin 40 = .ok (.iload_n 2, 1) := by decide +kernel
theorem d_D_begin_41 : decode c_D_begin 41 = .ok (.putfield 112, 3) := by decide +kernel
theorem d_D_begin_44 : decode c_D_begin 44 = .ok (.aload_n 0, 1) := by decide +kernel
theorem d_D_begin_45 : decode c_D_begin 45 = .ok (.iload_n 3, 1) := by decide +kernel
theorem d_D_begin_46 : decode c_D_begin 46 = .ok (.putfield 115, 3) := by decide +kernel
theorem d_D_begin_49 : decode c_D_begin 49 = .ok (.aload_n 0, 1) := by decide +kernel
theorem d_D_begin_50 : decode c_D_begin 50 = .ok (.iconst 0, 1) := by decide +kernel
theorem d_D_begin_51 : decode c_D_begin 51 = .ok (.putfield 118, 3) := by decide +kernel
theorem d_D_begin_54 : decode c_D_begin 54 = .ok (.aload_n 0, 1) := by decide +kernel
theorem d_D_begin_55 : decode c_D_begin 55 = .ok (.iconst 0, 1) := by decide +kernel
theorem d_D_begin_56 : decode c_D_begin 56 = .ok (.putfield 121, 3) := by decide +kernel
theorem d_D_begin_59 : decode c_D_begin 59 = .ok (.aload_n 0, 1) := by decide +kernel
theorem d_D_begin_60 : decode c_D_begin 60 = .ok (.iconst 0, 1) := by decide +kernel
theorem d_D_begin_61 : decode c_D_begin 61 = .ok (.putfield 124, 3) := by decide +kernel
theorem d_D_begin_64 : decode c_D_begin 64 = .ok (.iconst 1, 1) := by decide +kernel
theorem d_D_begin_65 : decode c_D_begin 65 = .ok (.ireturn, 1) := by decide +kernel
theorem d_D_argument_0 : decode c_D_argument 0 = .ok (.aload_n 0, 1) := by decide +kernel
theorem d_D_argument_1 : decode c_D_argument 1 = .ok (.iload_n 1, 1) := by decide +kernel
theorem d_D_argument_2 : decode c_D_argument 2 = .ok (.invokevirtual 106, 3) := by decide +kernel
theorem d_D_argument_5 : decode c_D_argument 5 = .ok (.ifCond .ne 5, 3) := by decide +kernel
theorem d_D_argument_8 : decode c_D_argument 8 = .ok (.iconst (-1), 1) := by decide +kernel
theorem d_D_argument_9 : decode c_D_argument 9 = .ok (.ireturn, 1) := by decide +kernel
theorem d_D_argument_10 : decode c_D_argument 10 = .ok (.aload_n 0, 1) := by decide +kernel
theorem d_D_argument_11 : decode c_D_argument 11 = .ok (.getfield 124, 3) := by decide +kernel
theorem d_D_argument_14 : decode c_D_argument 14 = .ok (.bipush 6, 2) := by decide +kernel
theorem d_D_argument_16 : decode c_D_argument 16 = .ok (.if_icmp .ne 6, 3) := by decide +kernel
theorem d_D_argument_19 : decode c_D_argument 19 = .ok (.bipush (-2), 2) := by decide +kernel
theorem d_D_argument_21 : decode c_D_argument 21 = .ok (.ireturn, 1) := by decide +kernel
theorem d_D_argument_22 : decode c_D_argument 22 = .ok (.aload_n 0, 1) := by decide +kernel
theorem d_D_argument_23 : decode c_D_argument 23 = .ok (.getfield 42, 3) := by decide +kernel
theorem d_D_argument_26 : decode c_D_argument 26 = .ok (.aload_n 0, 1) := by decide +kernel
theorem d_D_argument_27 : decode c_D_argument 27 = .ok (.getfield 124, 3) := by decide +kernel
theorem d_D_argument_30 : decode c_D_argument 30 = .ok (.iload_n 1, 1) := by decide +kernel
theorem d_D_argument_31 : decode c_D_argument 31 = .ok (.iastore, 1) := by decide +kernel
theorem d_D_argument_32 : decode c_D_argument 32 = .ok (.aload_n 0, 1) := by decide +kernel
theorem d_D_argument_33 : decode c_D_argument 33 = .ok (.dup, 1) := by decide +kernel
theorem d_D_argument_34 : decode c_D_argument 34 = .ok (.getfield 124, 3) := by decide +kernel
theorem d_D_argument_37 : decode c_D_argument 37 = .ok (.iconst 1, 1) := by decide +kernel
theorem d_D_argument_38 : decode c_D_argument 38 = .ok (.iadd, 1) := by decide +kernel
theorem d_D_argument_39 : decode c_D_argument 39 = .ok (.putfield 124, 3) := by decide +kernel
theorem d_D_argument_42 : decode c_D_argument 42 = .ok (.aload_n 0, 1) := by decide +kernel
theorem d_D_argument_43 : decode c_D_argument 43 = .ok (.getfield 124, 3) := by decide +kernel
theorem d_D_argument_46 : decode c_D_argument 46 = .ok (.ireturn, 1) := by decide +kernel
theorem d_D_add_0 : decode c_D_add 0 = .ok (.iload_n 1, 1) := by decide +kernel
theorem d_D_add_1 : decode c_D_add 1 = .ok (.iconst 0, 1) := by decide +kernel
theorem d_D_add_2 : decode c_D_add 2 = .ok (.bipush 30, 2) := by decide +kernel
theorem d_D_add_4 : decode c_D_add 4 = .ok (.invokestatic 91, 3) := by decide +kernel
theorem d_D_add_7 : decode c_D_add 7 = .ok (.ifCond .ne 5, 3) := by decide +kernel
theorem d_D_add_10 : decode c_D_add 10 = .ok (.iconst (-1), 1) := by decide +kernel
theorem d_D_add_11 : decode c_D_add 11 = .ok (.ireturn, 1) := by decide +kernel
theorem d_D_add_12 : decode c_D_add 12 = .ok (.aload_n 0, 1) := by decide +kernel
theorem d_D_add_13 : decode c_D_add 13 = .ok (.getfield 118, 3) := by decide +kernel
theorem d_D_add_16 : decode c_D_add 16 = .ok (.bipush 48, 2) := by decide +kernel
theorem d_D_add_18 : decode c_D_add 18 = .ok (.if_icmp .ne 6, 3) := by decide +kernel
theorem d_D_add_21 : decode c_D_add 21 = .ok (.bipush (-2), 2) := by decide +kernel
theorem d_D_add_23 : decode c_D_add 23 = .ok (.ireturn, 1) := by decide +kernel
theorem d_D_add_24 : decode c_D_add 24 = .ok (.aload_n 0, 1) := by decide +kernel
theorem d_D_add_25 : decode c_D_add 25 = .ok (.getfield 21, 3) := by decide +kernel
theorem d_D_add_28 : decode c_D_add 28 = .ok (.aload_n 0, 1) := by decide +kernel
theorem d_D_add_29 : decode c_D_add 29 = .ok (.getfield 118, 3) := by decide +kernel
theorem d_D_add_32 : decode c_D_add 32 = .ok (.iload_n 1, 1) := by decide +kernel
theorem d_D_add_33 : decode c_D_add 33 = .ok (.iastore, 1) := by decide +kernel
theorem d_D_add_34 : decode c_D_add 34 = .ok (.aload_n 0, 1) := by decide +kernel
theorem d_D_add_35 : decode c_D_add 35 = .ok (.getfield 24, 3) := by decide +kernel
theorem d_D_add_38 : decode c_D_add 38 = .ok (.aload_n 0, 1) := by decide +kernel
theorem d_D_add_39 : decode c_D_add 39 = .ok (.getfield 118, 3) := by decide +kernel
theorem d_D_add_42 : decode c_D_add 42 = .ok (.iload_n 2, 1) := by decide +kernel
theorem d_D_add_43 : decode c_D_add 43 = .ok (.iastore, 1) := by decide +kernel
theorem d_D_add_44 : decode c_D_add 44 = .ok (.aload_n 0, 1) := by decide +kernel
theorem d_D_add_45 : decode c_D_add 45 = .ok (.getfield 27, 3) := by decide +kernel
theorem d_D_add_48 : decode c_D_add 48 = .ok (.aload_n 0, 1) := by decide +kernel
theorem d_D_add_49 : decode c_D_add 49 = .ok (.getfield 118, 3) := by decide +kernel
theorem d_D_add_52 : decode c_D_add 52 = .ok (.iload_n 3, 1) := by decide +kernel
theorem d_D_add_53 : decode c_D_add 53 = .ok (.iastore, 1) := by decide +kernel
theorem d_D_add_54 : decode c_D_add 54 = .ok (.aload_n 0, 1) := by decide +kernel
theorem d_D_add_55 : decode c_D_add 55 = .ok (.dup, 1) := by decide +kernel
theorem d_D_add_56 : decode c_D_add 56 = .ok (.getfield 118, 3) := by decide +kernel
theorem d_D_add_59 : decode c_D_add 59 = .ok (.iconst 1, 1) := by decide +kernel
theorem d_D_add_60 : decode c_D_add 60 = .ok (.iadd, 1) := by decide +kernel
theorem d_D_add_61 : decode c_D_add 61 = .ok (.putfield 118, 3) := by decide +kernel
theorem d_D_add_64 : decode c_D_add 64 = .ok (.aload_n 0, 1) := by decide +kernel
theorem d_D_add_65 : decode c_D_add 65 = .ok (.getfield 118, 3) := by decide +kernel
theorem d_D_add_68 : decode c_D_add 68 = .ok (.iconst 1, 1) := by decide +kernel
theorem d_D_add_69 : decode c_D_add 69 = .ok (.isub, 1) := by decide +kernel
theorem d_D_add_70 : decode c_D_add 70 = .ok (.ireturn, 1) := by decide +kernel
