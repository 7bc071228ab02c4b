theorem d_W_findChanged_0 : decode c_W_findChanged 0 = .ok (.iconst 0, 1) := by decide +kernel
theorem d_W_findChanged_1 : decode c_W_findChanged 1 = .ok (.istore_n 1, 1) := by decide +kernel
theorem d_W_findChanged_2 : decode c_W_findChanged 2 = .ok (.iload_n 1, 1) := by decide +kernel
theorem d_W_findChanged_3 : decode c_W_findChanged 3 = .ok (.aload_n 0, 1) := by decide +kernel
theorem d_W_findChanged_4 : decode c_W_findChanged 4 = .ok (.getfield 40, 3) := by decide +kernel
theorem d_W_findChanged_7 : decode c_W_findChanged 7 = .ok (.getfield 69, 3) := by decide +kernel
theorem d_W_findChanged_10 : decode c_W_findChanged 10 = .ok (.if_icmp .ge 20, 3) := by decide +kernel
theorem d_W_findChanged_13 : decode c_W_findChanged 13 = .ok (.aload_n 0, 1) := by decide +kernel
theorem d_W_findChanged_14 : decode c_W_findChanged 14 = .ok (.getfield 21, 3) := by decide +kernel
theorem d_W_findChanged_17 : decode c_W_findChanged 17 = .ok (.iload_n 1, 1) := by decide +kernel
theorem d_W_findChanged_18 : decode c_W_findChanged 18 = .ok (.baload, 1) := by decide +kernel
theorem d_W_findChanged_19 : decode c_W_findChanged 19 = .ok (.ifCond .eq 5, 3) := by decide +kernel
theorem d_W_findChanged_22 : decode c_W_findChanged 22 = .ok (.iload_n 1, 1) := by decide +kernel
theorem d_W_findChanged_23 : decode c_W_findChanged 23 = .ok (.ireturn, 1) := by decide +kernel
theorem d_W_findChanged_24 : decode c_W_findChanged 24 = .ok (.iinc 1 1, 3) := by decide +kernel
theorem d_W_findChanged_27 : decode c_W_findChanged 27 = .ok (.goto (-25), 3) := by decide +kernel
theorem d_W_findChanged_30 : decode c_W_findChanged 30 = .ok (.aload_n 0, 1) := by decide +kernel
theorem d_W_findChanged_31 : decode c_W_findChanged 31 = .ok (.getfield 40, 3) := by decide +kernel
theorem d_W_findChanged_34 : decode c_W_findChanged 34 = .ok (.getfield 69, 3) := by decide +kernel
theorem d_W_findChanged_37 : decode c_W_findChanged 37 = .ok (.ireturn, 1) := by decide +kernel
theorem d_W_look_0 : decode c_W_look 0 = .ok (.aload_n 0, 1) := by decide +kernel
theorem d_W_look_1 : decode c_W_look 1 = .ok (.getfield 21, 3) := by decide +kernel
theorem d_W_look_4 : decode c_W_look 4 = .ok (.iload_n 1, 1) := by decide +kernel
theorem d_W_look_5 : decode c_W_look 5 = .ok (.iconst 0, 1) := by decide +kernel
theorem d_W_look_6 : decode c_W_look 6 = .ok (.bastore, 1) := by decide +kernel
theorem d_W_look_7 : decode c_W_look 7 = .ok (.aload_n 0, 1) := by decide +kernel
theorem d_W_look_8 : decode c_W_look 8 = .ok (.iload_n 1, 1) := by decide +kernel
theorem d_W_look_9 : decode c_W_look 9 = .ok (.putfield 82, 3) := by decide +kernel
theorem d_W_look_12 : decode c_W_look 12 = .ok (.aload_n 0, 1) := by decide +kernel
theorem d_W_look_13 : decode c_W_look 13 = .ok (.iload_n 1, 1) := by decide +kernel
theorem d_W_look_14 : decode c_W_look 14 = .ok (.invokevirtual 85, 3) := by decide +kernel
theorem d_W_look_17 : decode c_W_look 17 = .ok (.istore_n 2, 1) := by decide +kernel
theorem d_W_look_18 : decode c_W_look 18 = .ok (.iload_n 2, 1) := by decide +kernel
theorem d_W_look_19 : decode c_W_look 19 = .ok (.ifCond .eq 5, 3) := by decide +kernel
theorem d_W_look_22 : decode c_W_look 22 = .ok (.iload_n 2, 1) := by decide +kernel
theorem d_W_look_23 : decode c_W_look 23 = .ok (.ireturn, 1) := by decide +kernel
theorem d_W_look_24 : decode c_W_look 24 = .ok (.aload_n 0, 1) := by decide +kernel
theorem d_W_look_25 : decode c_W_look 25 = .ok (.getfield 29, 3) := by decide +kernel
theorem d_W_look_28 : decode c_W_look 28 = .ok (.aload_n 0, 1) := by decide +kernel
theorem d_W_look_29 : decode c_W_look 29 = .ok (.getfield 11, 3) := by decide +kernel
theorem d_W_look_32 : decode c_W_look 32 = .ok (.iload_n 1, 1) := by decide +kernel
theorem d_W_look_33 : decode c_W_look 33 = .ok (.aaload, 1) := by decide +kernel
theorem d_W_look_34 : decode c_W_look 34 = .ok (.invokevirtual 88, 3) := by decide +kernel
theorem d_W_look_37 : decode c_W_look 37 = .ok (.aload_n 0, 1) := by decide +kernel
theorem d_W_look_38 : decode c_W_look 38 = .ok (.iload_n 1, 1) := by decide +kernel
theorem d_W_look_39 : decode c_W_look 39 = .ok (.invokevirtual 92, 3) := by decide +kernel
theorem d_W_look_42 : decode c_W_look 42 = .ok (.istore_n 2, 1) := by decide +kernel
theorem d_W_look_43 : decode c_W_look 43 = .ok (.iload_n 2, 1) := by decide +kernel
theorem d_W_look_44 : decode c_W_look 44 = .ok (.ifCond .eq 5, 3) := by decide +kernel
theorem d_W_look_47 : decode c_W_look 47 = .ok (.iload_n 2, 1) := by decide +kernel
theorem d_W_look_48 : decode c_W_look 48 = .ok (.ireturn, 1) := by decide +kernel
theorem d_W_look_49 : decode c_W_look 49 = .ok (.aload_n 0, 1) := by decide +kernel
theorem d_W_look_50 : decode c_W_look 50 = .ok (.getfield 40, 3) := by decide +kernel
theorem d_W_look_53 : decode c_W_look 53 = .ok (.getfield 95, 3) := by decide +kernel
theorem d_W_look_56 : decode c_W_look 56 = .ok (.iload_n 1, 1) := by decide +kernel
theorem d_W_look_57 : decode c_W_look 57 = .ok (.iaload, 1) := by decide +kernel
theorem d_W_look_58 : decode c_W_look 58 = .ok (.bipush 16, 2) := by decide +kernel
theorem d_W_look_60 : decode c_W_look 60 = .ok (.if_icmp .ne 11, 3) := by decide +kernel
theorem d_W_look_63 : decode c_W_look 63 = .ok (.aload_n 0, 1) := by decide +kernel
theorem d_W_look_64 : decode c_W_look 64 = .ok (.iload_n 1, 1) := by decide +kernel
theorem d_W_look_65 : decode c_W_look 65 = .ok (.invokevirtual 99, 3) := by decide +kernel
theorem d_W_look_68 : decode c_W_look 68 = .ok (.goto 8, 3) := by decide +kernel
theorem d_W_look_71 : decode c_W_look 71 = .ok (.aload_n 0, 1) := by decide +kernel
theorem d_W_look_72 : decode c_W_look 72 = .ok (.iload_n 1, 1) := by decide +kernel
theorem d_W_look_73 : decode c_W_look 73 = .ok (.invokevirtual 102, 3) := by decide +kernel
theorem d_W_look_76 : decode c_W_look 76 = .ok (.ireturn, 1) := by decide +kernel
theorem d_W_meetHandlers_0 : decode c_W_meetHandlers 0 = .ok (.iconst 0, 1) := by decide +kernel
theorem d_W_meetHandlers_1 : decode c_W_meetHandlers 1 = .ok (.istore_n 2, 1) := by decide +kernel
theorem d_W_meetHandlers_2 : decode c_W_meetHandlers 2 = .ok (.iload_n 2, 1) := by decide +kernel
theorem d_W_meetHandlers_3 : decode c_W_meetHandlers 3 = .ok (.aload_n 0, 1) := by decide +kernel
theorem d_W_meetHandlers_4 : decode c_W_meetHandlers 4 = .ok (.getfield 40, 3) := by decide +kernel
theorem d_W_meetHandlers_7 : decode c_W_meetHandlers 7 = .ok (.getfield 105, 3) := by decide +kernel
theorem d_W_meetHandlers_10 : decode c_W_meetHandlers 10 = .ok (.if_icmp .ge 101, 3) := by decide +kernel
theorem d_W_meetHandlers_13 : decode c_W_meetHandlers 13 = .ok (.aload_n 0, 1) := by decide +kernel
theorem d_W_meetHandlers_14 : decode c_W_meetHandlers 14 = .ok (.getfield 40, 3) := by decide +kernel
theorem d_W_meetHandlers_17 : decode c_W_meetHandlers 17 = .ok (.iload_n 2, 1) := by decide +kernel
theorem d_W_meetHandlers_18 : decode c_W_meetHandlers 18 = .ok (.iload_n 1, 1) := by decide +kernel
theorem d_W_meetHandlers_19 : decode c_W_meetHandlers 19 = .ok (.invokevirtual 108, 3) := by decide +kernel
theorem d_W_meetHandlers_22 : decode c_W_meetHandlers 22 = .ok (.ifCond .ne 6, 3) := by decide +kernel
theorem d_W_meetHandlers_25 : decode c_W_meetHandlers 25 = .ok (.goto 80, 3) := by decide +kernel
theorem d_W_meetHandlers_28 : decode c_W_meetHandlers 28 = .ok (.aload_n 0, 1) := by decide +kernel
theorem d_W_meetHandlers_29 : decode c_W_meetHandlers 29 = .ok (.getfield 11, 3) := by decide +kernel
theorem d_W_meetHandlers_32 : decode c_W_meetHandlers 32 = .ok (.iload_n 1, 1) := by decide +kernel
theorem d_W_meetHandlers_33 : decode c_W_meetHandlers 33 = .ok (.aaload, 1) := by decide +kernel
theorem d_W_meetHandlers_34 : decode c_W_meetHandlers 34 = .ok (.invokevirtual 112, 3) := by decide +kernel
theorem d_W_meetHandlers_37 : decode c_W_meetHandlers 37 = .ok (.ifCond .eq 6, 3) := by decide +kernel
theorem d_W_meetHandlers_40 : decode c_W_meetHandlers 40 = .ok (.bipush 8, 2) := by decide +kernel
theorem d_W_meetHandlers_42 : decode c_W_meetHandlers 42 = .ok (.ireturn, 1) := by decide +kernel
theorem d_W_meetHandlers_43 : decode c_W_meetHandlers 43 = .ok (.aload_n 0, 1) := by decide +kernel
theorem d_W_meetHandlers_44 : decode c_W_meetHandlers 44 = .ok (.getfield 40, 3) := by decide +kernel
theorem d_W_meetHandlers_47 : decode c_W_meetHandlers 47 = .ok (.getfield 116, 3) := by decide +kernel
theorem d_W_meetHandlers_50 : decode c_W_meetHandlers 50 = .ok (.ifCond .ne 5, 3) := by decide +kernel
theorem d_W_meetHandlers_53 : decode c_W_meetHandlers 53 = .ok (.iconst 3, 1) := by decide +kernel
theorem d_W_meetHandlers_54 : decode c_W_meetHandlers 54 = .ok (.ireturn, 1) := by decide +kernel
theorem d_W_meetHandlers_55 : decode c_W_meetHandlers 55 = .ok (.aload_n 0, 1) := by decide +kernel
theorem d_W_meetHandlers_56 : decode c_W_meetHandlers 56 = .ok (.getfield 33, 3) := by decide +kernel
theorem d_W_meetHandlers_59 : decode c_W_meetHandlers 59 = .ok (.aload_n 0, 1) := by decide +kernel
theorem d_W_meetHandlers_60 : decode c_W_meetHandlers 60 = .ok (.getfield 11, 3) := by decide +kernel
theorem d_W_meetHandlers_63 : decode c_W_meetHandlers 63 = .ok (.iload_n 1, 1) := by decide +kernel
theorem d_W_meetHandlers_64 : decode c_W_meetHandlers 64 = .ok (.aaload, 1) := by decide +kernel
theorem d_W_meetHandlers_65 : decode c_W_meetHandlers 65 = .ok (.bipush 16, 2) := by decide +kernel
theorem d_W_meetHandlers_67 : decode c_W_meetHandlers 67 = .ok (.aload_n 0, 1) := by decide +kernel
theorem d_W_meetHandlers_68 : decode c_W_meetHandlers 68 = .ok (.getfield 40, 3) := by decide +kernel
theorem d_W_meetHandlers_71 : decode c_W_meetHandlers 71 = .ok (.getfield 119, 3) := by decide +kernel
theorem d_W_meetHandlers_74 : decode c_W_meetHandlers 74 = .ok (.iload_n 2, 1) := by decide +kernel
theorem d_W_meetHandlers_75 : decode c_W_meetHandlers 75 = .ok (.iaload, 1) := by decide +kernel
theorem d_W_meetHandlers_76 : decode c_W_meetHandlers 76 = .ok (.iadd, 1) := by decide +kernel
theorem d_W_meetHandlers_77 : decode c_W_meetHandlers 77 = .ok (.invokevirtual 122, 3) := by decide +kernel
theorem d_W_meetHandlers_80 : decode c_W_meetHandlers 80 = .ok (.aload_n 0, 1) := by decide +kernel
theorem d_W_meetHandlers_81 : decode c_W_meetHandlers 81 = .ok (.iconst (-1), 1) := by decide +kernel
theorem d_W_meetHandlers_82 : decode c_W_meetHandlers 82 = .ok (.aload_n 0, 1) := by decide +kernel
theorem d_W_meetHandlers_83 : decode c_W_meetHandlers 83 = .ok (.getfield 40, 3) := by decide +kernel
theorem d_W_meetHandlers_86 : decode c_W_meetHandlers 86 = .ok (.getfield 126, 3) := by decide +kernel
theorem d_W_meetHandlers_89 : decode c_W_meetHandlers 89 = .ok (.iload_n 2, 1) := by decide +kernel
theorem d_W_meetHandlers_90 : decode c_W_meetHandlers 90 = .ok (.iaload, 1) := by decide +kernel
theorem d_W_meetHandlers_91 : decode c_W_meetHandlers 91 = .ok (.aload_n 0, 1) := by decide +kernel
theorem d_W_meetHandlers_92 : decode c_W_meetHandlers 92 = .ok (.getfield 33, 3) := by decide +kernel
theorem d_W_meetHandlers_95 : decode c_W_meetHandlers 95 = .ok (.invokevirtual 65, 3) := by decide +kernel
theorem d_W_meetHandlers_98 : decode c_W_meetHandlers 98 = .ok (.istore_n 3, 1) := by decide +kernel
theorem d_W_meetHandlers_99 : decode c_W_meetHandlers 99 = .ok (.iload_n 3, 1) := by decide +kernel
theorem d_W_meetHandlers_100 : decode c_W_meetHandlers 100 = .ok (.ifCond .eq 5, 3) := by decide +kernel
theorem d_W_meetHandlers_103 : decode c_W_meetHandlers 103 = .ok (.iload_n 3, 1) := by decide +kernel
theorem d_W_meetHandlers_104 : decode c_W_meetHandlers 104 = .ok (.ireturn, 1) := by decide +kernel
theorem d_W_meetHandlers_105 : decode c_W_meetHandlers 105 = .ok (.iinc 2 1, 3) := by decide +kernel
theorem d_W_meetHandlers_108 : decode c_W_meetHandlers 108 = .ok (.goto (-106), 3) := by decide +kernel
theorem d_W_meetHandlers_111 : decode c_W_meetHandlers 111 = .ok (.iconst 0, 1) := by decide +kernel
theorem d_W_meetHandlers_112 : decode c_W_meetHandlers 112 = .ok (.ireturn, 1) := by decide +kernel
theorem d_W_meet_0 : decode c_W_meet 0 = .ok (.iload_n 2, 1) := by decide +kernel
theorem d_W_meet_1 : decode c_W_meet 1 = .ok (.aload_n 0, 1) := by decide +kernel
theorem d_W_meet_2 : decode c_W_meet 2 = .ok (.getfield 40, 3) := by decide +kernel
theorem d_W_meet_5 : decode c_W_meet 5 = .ok (.getfield 69, 3) := by decide +kernel
theorem d_W_meet_8 : decode c_W_meet 8 = .ok (.if_icmp .lt 5, 3) := by decide +kernel
theorem d_W_meet_11 : decode c_W_meet 11 = .ok (.iconst 5, 1) := by decide +kernel
theorem d_W_meet_12 : decode c_W_meet 12 = .ok (.ireturn, 1) := by decide +kernel
theorem d_W_meet_13 : decode c_W_meet 13 = .ok (.iload_n 2, 1) := by decide +kernel
theorem d_W_meet_14 : decode c_W_meet 14 = .ok (.iload_n 1, 1) := by decide +kernel
theorem d_W_meet_15 : decode c_W_meet 15 = .ok (.if_icmp .gt 13, 3) := by decide +kernel
theorem d_W_meet_18 : decode c_W_meet 18 = .ok (.aload_n 3, 1) := by decide +kernel
theorem d_W_meet_19 : decode c_W_meet 19 = .ok (.invokevirtual 129, 3) := by decide +kernel
theorem d_W_meet_22 : decode c_W_meet 22 = .ok (.ifCond .eq 6, 3) := by decide +kernel
theorem d_W_meet_25 : decode c_W_meet 25 = .ok (.bipush 8, 2) := by decide +kernel
theorem d_W_meet_27 : decode c_W_meet 27 = .ok (.ireturn, 1) := by decide +kernel
theorem d_W_meet_28 : decode c_W_meet 28 = .ok (.aload_n 0, 1) := by decide +kernel
theorem d_W_meet_29 : decode c_W_meet 29 = .ok (.getfield 17, 3) := by decide +kernel
theorem d_W_meet_32 : decode c_W_meet 32 = .ok (.iload_n 2, 1) := by decide +kernel
theorem d_W_meet_33 : decode c_W_meet 33 = .ok (.baload, 1) := by decide +kernel
theorem d_W_meet_34 : decode c_W_meet 34 = .ok (.ifCond .ne 11, 3) := by decide +kernel
theorem d_W_meet_37 : decode c_W_meet 37 = .ok (.aload_n 0, 1) := by decide +kernel
theorem d_W_meet_38 : decode c_W_meet 38 = .ok (.iload_n 2, 1) := by decide +kernel
theorem d_W_meet_39 : decode c_W_meet 39 = .ok (.aload_n 3, 1) := by decide +kernel
theorem d_W_meet_40 : decode c_W_meet 40 = .ok (.invokevirtual 132, 3) := by decide +kernel
theorem d_W_meet_43 : decode c_W_meet 43 = .ok (.iconst 0, 1) := by decide +kernel
theorem d_W_meet_44 : decode c_W_meet 44 = .ok (.ireturn, 1) := by decide +kernel
theorem d_W_meet_45 : decode c_W_meet 45 = .ok (.aload_n 0, 1) := by decide +kernel
theorem d_W_meet_46 : decode c_W_meet 46 = .ok (.getfield 11, 3) := by decide +kernel
theorem d_W_meet_49 : decode c_W_meet 49 = .ok (.iload_n 2, 1) := by decide +kernel
theorem d_W_meet_50 : decode c_W_meet 50 = .ok (.aaload, 1) := by decide +kernel
theorem d_W_meet_51 : decode c_W_meet 51 = .ok (.getfield 136, 3) := by decide +kernel
theorem d_W_meet_54 : decode c_W_meet 54 = .ok (.aload_n 3, 1) := by decide +kernel
theorem d_W_meet_55 : decode c_W_meet 55 = .ok (.getfield 136, 3) := by decide +kernel
theorem d_W_meet_58 : decode c_W_meet 58 = .ok (.if_icmp .eq 10, 3) := by decide +kernel
theorem d_W_meet_61 : decode c_W_meet 61 = .ok (.aload_n 0, 1) := by decide +kernel
theorem d_W_meet_62 : decode c_W_meet 62 = .ok (.iload_n 2, 1) := by decide +kernel
theorem d_W_meet_63 : decode c_W_meet 63 = .ok (.putfield 82, 3) := by decide +kernel
theorem d_W_meet_66 : decode c_W_meet 66 = .ok (.iconst 4, 1) := by decide +kernel
theorem d_W_meet_67 : decode c_W_meet 67 = .ok (.ireturn, 1) := by decide +kernel
theorem d_W_meet_68 : decode c_W_meet 68 = .ok (.aload_n 0, 1) := by decide +kernel
theorem d_W_meet_69 : decode c_W_meet 69 = .ok (.getfield 11, 3) := by decide +kernel
theorem d_W_meet_72 : decode c_W_meet 72 = .ok (.iload_n 2, 1) := by decide +kernel
theorem d_W_meet_73 : decode c_W_meet 73 = .ok (.aaload, 1) := by decide +kernel
theorem d_W_meet_74 : decode c_W_meet 74 = .ok (.aload_n 3, 1) := by decide +kernel
theorem d_W_meet_75 : decode c_W_meet 75 = .ok (.aload_n 0, 1) := by decide +kernel
theorem d_W_meet_76 : decode c_W_meet 76 = .ok (.getfield 36, 3) := by decide +kernel
theorem d_W_meet_79 : decode c_W_meet 79 = .ok (.invokevirtual 139, 3) := by decide +kernel
theorem d_W_meet_82 : decode c_W_meet 82 = .ok (.ifCond .eq 10, 3) := by decide +kernel
theorem d_W_meet_85 : decode c_W_meet 85 = .ok (.aload_n 0, 1) := by decide +kernel
theorem d_W_meet_86 : decode c_W_meet 86 = .ok (.getfield 21, 3) := by decide +kernel
theorem d_W_meet_89 : decode c_W_meet 89 = .ok (.iload_n 2, 1) := by decide +kernel
theorem d_W_meet_90 : decode c_W_meet 90 = .ok (.iconst 1, 1) := by decide +kernel
theorem d_W_meet_91 : decode c_W_meet 91 = .ok (.bastore, 1) := by decide +kernel
theorem d_W_meet_92 : decode c_W_meet 92 = .ok (.iconst 0, 1) := by decide +kernel
theorem d_W_meet_93 : decode c_W_meet 93 = .ok (.ireturn, 1) := by decide +kernel
theorem d_W_reach_0 : decode c_W_reach 0 = .ok (.aload_n 0, 1) := by decide +kernel
theorem d_W_reach_1 : decode c_W_reach 1 = .ok (.getfield 11, 3) := by decide +kernel
theorem d_W_reach_4 : decode c_W_reach 4 = .ok (.iload_n 1, 1) := by decide +kernel
theorem d_W_reach_5 : decode c_W_reach 5 = .ok (.aaload, 1) := by decide +kernel
theorem d_W_reach_6 : decode c_W_reach 6 = .ok (.aload_n 2, 1) := by decide +kernel
theorem d_W_reach_7 : decode c_W_reach 7 = .ok (.invokevirtual 88, 3) := by decide +kernel
theorem d_W_reach_10 : decode c_W_reach 10 = .ok (.aload_n 0, 1) := by decide +kernel
theorem d_W_reach_11 : decode c_W_reach 11 = .ok (.getfield 17, 3) := by decide +kernel
theorem d_W_reach_14 : decode c_W_reach 14 = .ok (.iload_n 1, 1) := by decide +kernel
theorem d_W_reach_15 : decode c_W_reach 15 = .ok (.iconst 1, 1) := by decide +kernel
theorem d_W_reach_16 : decode c_W_reach 16 = .ok (.bastore, 1) := by decide +kernel
theorem d_W_reach_17 : decode c_W_reach 17 = .ok (.aload_n 0, 1) := by decide +kernel
theorem d_W_reach_18 : decode c_W_reach 18 = .ok (.getfield 21, 3) := by decide +kernel
theorem d_W_reach_21 : decode c_W_reach 21 = .ok (.iload_n 1, 1) := by decide +kernel
theorem d_W_reach_22 : decode c_W_reach 22 = .ok (.iconst 1, 1) := by decide +kernel
theorem d_W_reach_23 : decode c_W_reach 23 = .ok (.bastore, 1) := by decide +kernel
theorem d_W_reach_24 : decode c_W_reach 24 = .ok (.aload_n 0, 1) := by decide +kernel
theorem d_W_reach_25 : decode c_W_reach 25 = .ok (.dup, 1) := by decide +kernel
theorem d_W_reach_26 : decode c_W_reach 26 = .ok (.getfield 54, 3) := by decide +kernel
theorem d_W_reach_29 : decode c_W_reach 29 = .ok (.iconst 1, 1) := by decide +kernel
theorem d_W_reach_30 : decode c_W_reach 30 = .ok (.iadd, 1) := by decide +kernel
theorem d_W_reach_31 : decode c_W_reach 31 = .ok (.putfield 54, 3) := by decide +kernel
theorem d_W_reach_34 : decode c_W_reach 34 = .ok (.aload_n 0, 1) := by decide +kernel
theorem d_W_reach_35 : decode c_W_reach 35 = .ok (.getfield 40, 3) := by decide +kernel
theorem d_W_reach_38 : decode c_W_reach 38 = .ok (.getfield 95, 3) := by decide +kernel
theorem d_W_reach_41 : decode c_W_reach 41 = .ok (.iload_n 1, 1) := by decide +kernel
theorem d_W_reach_42 : decode c_W_reach 42 = .ok (.iaload, 1) := by decide +kernel
theorem d_W_reach_43 : decode c_W_reach 43 = .ok (.bipush 15, 2) := by decide +kernel
theorem d_W_reach_45 : decode c_W_reach 45 = .ok (.if_icmp .ne 23, 3) := by decide +kernel
theorem d_W_reach_48 : decode c_W_reach 48 = .ok (.aload_n 0, 1) := by decide +kernel
theorem d_W_reach_49 : decode c_W_reach 49 = .ok (.dup, 1) := by decide +kernel
theorem d_W_reach_50 : decode c_W_reach 50 = .ok (.getfield 57, 3) := by decide +kernel
theorem d_W_reach_53 : decode c_W_reach 53 = .ok (.lconst 1, 1) := by decide +kernel
theorem d_W_reach_54 : decode c_W_reach 54 = .ok (.aload_n 0, 1) := by decide +kernel
theorem d_W_reach_55 : decode c_W_reach 55 = .ok (.getfield 40, 3) := by decide +kernel
theorem d_W_reach_58 : decode c_W_reach 58 = .ok (.getfield 143, 3) := by decide +kernel
theorem d_W_reach_61 : decode c_W_reach 61 = .ok (.iload_n 1, 1) := by decide +kernel
theorem d_W_reach_62 : decode c_W_reach 62 = .ok (.iaload, 1) := by decide +kernel
theorem d_W_reach_63 : decode c_W_reach 63 = .ok (.lshl, 1) := by decide +kernel
theorem d_W_reach_64 : decode c_W_reach 64 = .ok (.lor, 1) := by decide +kernel
theorem d_W_reach_65 : decode c_W_reach 65 = .ok (.putfield 57, 3) := by decide +kernel
theorem d_W_reach_68 : decode c_W_reach 68 = .ok (.return_, 1) := by decide +kernel
theorem d_W_leave_0 : decode c_W_leave 0 = .ok (.aload_n 0, 1) := by decide +kernel
theorem d_W_leave_1 : decode c_W_leave 1 = .ok (.getfield 40, 3) := by decide +kernel
theorem d_W_leave_4 : decode c_W_leave 4 = .ok (.getfield 143, 3) := by decide +kernel
theorem d_W_leave_7 : decode c_W_leave 7 = .ok (.iload_n 1, 1) := by decide +kernel
theorem d_W_leave_8 : decode c_W_leave 8 = .ok (.iaload, 1) := by decide +kernel
theorem d_W_leave_9 : decode c_W_leave 9 = .ok (.istore_n 2, 1) := by decide +kernel
theorem d_W_leave_10 : decode c_W_leave 10 = .ok (.aload_n 0, 1) := by decide +kernel
theorem d_W_leave_11 : decode c_W_leave 11 = .ok (.getfield 40, 3) := by decide +kernel
theorem d_W_leave_14 : decode c_W_leave 14 = .ok (.getfield 95, 3) := by decide +kernel
theorem d_W_leave_17 : decode c_W_leave 17 = .ok (.iload_n 1, 1) := by decide +kernel
theorem d_W_leave_18 : decode c_W_leave 18 = .ok (.iaload, 1) := by decide +kernel
theorem d_W_leave_19 : decode c_W_leave 19 = .ok (.tableswitch 146 12 19 #[76, 76, 47, 58, 146, 108, 45, 45], 45) := by decide +kernel
theorem d_W_leave_64 : decode c_W_leave 64 = .ok (.iconst 0, 1) := by decide +kernel
theorem d_W_leave_65 : decode c_W_leave 65 = .ok (.ireturn, 1) := by decide +kernel
theorem d_W_leave_66 : decode c_W_leave 66 = .ok (.aload_n 0, 1) := by decide +kernel
theorem d_W_leave_67 : decode c_W_leave 67 = .ok (.iload_n 1, 1) := by decide +kernel
theorem d_W_leave_68 : decode c_W_leave 68 = .ok (.iload_n 2, 1) := by decide +kernel
theorem d_W_leave_69 : decode c_W_leave 69 = .ok (.aload_n 0, 1) := by decide +kernel
theorem d_W_leave_70 : decode c_W_leave 70 = .ok (.getfield 29, 3) := by decide +kernel
theorem d_W_leave_73 : decode c_W_leave 73 = .ok (.invokevirtual 65, 3) := by decide +kernel
theorem d_W_leave_76 : decode c_W_leave 76 = .ok (.ireturn, 1) := by decide +kernel
theorem d_W_leave_77 : decode c_W_leave 77 = .ok (.aload_n 0, 1) := by decide +kernel
theorem d_W_leave_78 : decode c_W_leave 78 = .ok (.iload_n 1, 1) := by decide +kernel
theorem d_W_leave_79 : decode c_W_leave 79 = .ok (.iload_n 2, 1) := by decide +kernel
theorem d_W_leave_80 : decode c_W_leave 80 = .ok (.aload_n 0, 1) := by decide +kernel
theorem d_W_leave_81 : decode c_W_leave 81 = .ok (.getfield 29, 3) := by decide +kernel
theorem d_W_leave_84 : decode c_W_leave 84 = .ok (.invokevirtual 65, 3) := by decide +kernel
theorem d_W_leave_87 : decode c_W_leave 87 = .ok (.istore_n 3, 1) := by decide +kernel
theorem d_W_leave_88 : decode c_W_leave 88 = .ok (.aload_n 0, 1) := by decide +kernel
theorem d_W_leave_89 : decode c_W_leave 89 = .ok (.iload_n 2, 1) := by decide +kernel
theorem d_W_leave_90 : decode c_W_leave 90 = .ok (.invokevirtual 146, 3) := by decide +kernel
theorem d_W_leave_93 : decode c_W_leave 93 = .ok (.iload_n 3, 1) := by decide +kernel
theorem d_W_leave_94 : decode c_W_leave 94 = .ok (.ireturn, 1) := by decide +kernel
theorem d_W_leave_95 : decode c_W_leave 95 = .ok (.aload_n 0, 1) := by decide +kernel
theorem d_W_leave_96 : decode c_W_leave 96 = .ok (.iload_n 1, 1) := by decide +kernel
theorem d_W_leave_97 : decode c_W_leave 97 = .ok (.iload_n 1, 1) := by decide +kernel
theorem d_W_leave_98 : decode c_W_leave 98 = .ok (.iconst 1, 1) := by decide +kernel
theorem d_W_leave_99 : decode c_W_leave 99 = .ok (.iadd, 1) := by decide +kernel
theorem d_W_leave_100 : decode c_W_leave 100 = .ok (.aload_n 0, 1) := by decide +kernel
theorem d_W_leave_101 : decode c_W_leave 101 = .ok (.getfield 29, 3) := by decide +kernel
theorem d_W_leave_104 : decode c_W_leave 104 = .ok (.invokevirtual 65, 3) := by decide +kernel
theorem d_W_leave_107 : decode c_W_leave 107 = .ok (.istore_n 3, 1) := by decide +kernel
theorem d_W_leave_108 : decode c_W_leave 108 = .ok (.iload_n 3, 1) := by decide +kernel
theorem d_W_leave_109 : decode c_W_leave 109 = .ok (.ifCond .ne 16, 3) := by decide +kernel
theorem d_W_leave_112 : decode c_W_leave 112 = .ok (.aload_n 0, 1) := by decide +kernel
theorem d_W_leave_113 : decode c_W_leave 113 = .ok (.iload_n 1, 1) := by decide +kernel
theorem d_W_leave_114 : decode c_W_leave 114 = .ok (.iload_n 2, 1) := by decide +kernel
theorem d_W_leave_115 : decode c_W_leave 115 = .ok (.aload_n 0, 1) := by decide +kernel
theorem d_W_leave_116 : decode c_W_leave 116 = .ok (.getfield 29, 3) := by decide +kernel
theorem d_W_leave_119 : decode c_W_leave 119 = .ok (.invokevirtual 65, 3) := by decide +kernel
theorem d_W_leave_122 : decode c_W_leave 122 = .ok (.goto 4, 3) := by decide +kernel
theorem d_W_leave_125 : decode c_W_leave 125 = .ok (.iload_n 3, 1) := by decide +kernel
theorem d_W_leave_126 : decode c_W_leave 126 = .ok (.ireturn, 1) := by decide +kernel
theorem d_W_leave_127 : decode c_W_leave 127 = .ok (.aload_n 0, 1) := by decide +kernel
theorem d_W_leave_128 : decode c_W_leave 128 = .ok (.iload_n 1, 1) := by decide +kernel
theorem d_W_leave_129 : decode c_W_leave 129 = .ok (.aload_n 0, 1) := by decide +kernel
theorem d_W_leave_130 : decode c_W_leave 130 = .ok (.getfield 40, 3) := by decide +kernel
theorem d_W_leave_133 : decode c_W_leave 133 = .ok (.getfield 150, 3) := by decide +kernel
theorem d_W_leave_136 : decode c_W_leave 136 = .ok (.iload_n 1, 1) := by decide +kernel
theorem d_W_leave_137 : decode c_W_leave 137 = .ok (.iaload, 1) := by decide +kernel
theorem d_W_leave_138 : decode c_W_leave 138 = .ok (.aload_n 0, 1) := by decide +kernel
theorem d_W_leave_139 : decode c_W_leave 139 = .ok (.getfield 29, 3) := by decide +kernel
theorem d_W_leave_142 : decode c_W_leave 142 = .ok (.invokevirtual 65, 3) := by decide +kernel
theorem d_W_leave_145 : decode c_W_leave 145 = .ok (.istore_n 3, 1) := by decide +kernel
theorem d_W_leave_146 : decode c_W_leave 146 = .ok (.iload_n 3, 1) := by decide +kernel
theorem d_W_leave_147 : decode c_W_leave 147 = .ok (.ifCond .ne 16, 3) := by decide +kernel
theorem d_W_leave_150 : decode c_W_leave 150 = .ok (.aload_n 0, 1) := by decide +kernel
theorem d_W_leave_151 : decode c_W_leave 151 = .ok (.iload_n 1, 1) := by decide +kernel
theorem d_W_leave_152 : decode c_W_leave 152 = .ok (.iload_n 2, 1) := by decide +kernel
theorem d_W_leave_153 : decode c_W_leave 153 = .ok (.aload_n 0, 1) := by decide +kernel
theorem d_W_leave_154 : decode c_W_leave 154 = .ok (.getfield 29, 3) := by decide +kernel
theorem d_W_leave_157 : decode c_W_leave 157 = .ok (.invokevirtual 65, 3) := by decide +kernel
theorem d_W_leave_160 : decode c_W_leave 160 = .ok (.goto 4, 3) := by decide +kernel
theorem d_W_leave_163 : decode c_W_leave 163 = .ok (.iload_n 3, 1) := by decide +kernel
theorem d_W_leave_164 : decode c_W_leave 164 = .ok (.ireturn, 1) := by decide +kernel
theorem d_W_leave_165 : decode c_W_leave 165 = .ok (.aload_n 0, 1) := by decide +kernel
theorem d_W_leave_166 : decode c_W_leave 166 = .ok (.iload_n 1, 1) := by decide +kernel
theorem d_W_leave_167 : decode c_W_leave 167 = .ok (.iload_n 1, 1) := by decide +kernel
theorem d_W_leave_168 : decode c_W_leave 168 = .ok (.iconst 1, 1) := by decide +kernel
theorem d_W_leave_169 : decode c_W_leave 169 = .ok (.iadd, 1) := by decide +kernel
theorem d_W_leave_170 : decode c_W_leave 170 = .ok (.aload_n 0, 1) := by decide +kernel
theorem d_W_leave_171 : decode c_W_leave 171 = .ok (.getfield 29, 3) := by decide +kernel
theorem d_W_leave_174 : decode c_W_leave 174 = .ok (.invokevirtual 65, 3) := by decide +kernel
theorem d_W_leave_177 : decode c_W_leave 177 = .ok (.ireturn, 1) := by decide +kernel
theorem d_W_wakeReturns_0 : decode c_W_wakeReturns 0 = .ok (.iconst 0, 1) := by decide +kernel
theorem d_W_wakeReturns_1 : decode c_W_wakeReturns 1 = .ok (.istore_n 2, 1) := by decide +kernel
theorem d_W_wakeReturns_2 : decode c_W_wakeReturns 2 = .ok (.iload_n 2, 1) := by decide +kernel
theorem d_W_wakeReturns_3 : decode c_W_wakeReturns 3 = .ok (.aload_n 0, 1) := by decide +kernel
theorem d_W_wakeReturns_4 : decode c_W_wakeReturns 4 = .ok (.getfield 40, 3) := by decide +kernel
theorem d_W_wakeReturns_7 : decode c_W_wakeReturns 7 = .ok (.getfield 69, 3) := by decide +kernel
theorem d_W_wakeReturns_10 : decode c_W_wakeReturns 10 = .ok (.if_icmp .ge 31, 3) := by decide +kernel
theorem d_W_wakeReturns_13 : decode c_W_wakeReturns 13 = .ok (.aload_n 0, 1) := by decide +kernel
theorem d_W_wakeReturns_14 : decode c_W_wakeReturns 14 = .ok (.getfield 24, 3) := by decide +kernel
theorem d_W_wakeReturns_17 : decode c_W_wakeReturns 17 = .ok (.iload_n 2, 1) := by decide +kernel
theorem d_W_wakeReturns_18 : decode c_W_wakeReturns 18 = .ok (.laload, 1) := by decide +kernel
theorem d_W_wakeReturns_19 : decode c_W_wakeReturns 19 = .ok (.iload_n 1, 1) := by decide +kernel
theorem d_W_wakeReturns_20 : decode c_W_wakeReturns 20 = .ok (.lshr, 1) := by decide +kernel
theorem d_W_wakeReturns_21 : decode c_W_wakeReturns 21 = .ok (.lconst 1, 1) := by decide +kernel
theorem d_W_wakeReturns_22 : decode c_W_wakeReturns 22 = .ok (.land, 1) := by decide +kernel
theorem d_W_wakeReturns_23 : decode c_W_wakeReturns 23 = .ok (.lconst 0, 1) := by decide +kernel
theorem d_W_wakeReturns_24 : decode c_W_wakeReturns 24 = .ok (.lcmp, 1) := by decide +kernel
theorem d_W_wakeReturns_25 : decode c_W_wakeReturns 25 = .ok (.ifCond .eq 10, 3) := by decide +kernel
theorem d_W_wakeReturns_28 : decode c_W_wakeReturns 28 = .ok (.aload_n 0, 1) := by decide +kernel
theorem d_W_wakeReturns_29 : decode c_W_wakeReturns 29 = .ok (.getfield 21, 3) := by decide +kernel
theorem d_W_wakeReturns_32 : decode c_W_wakeReturns 32 = .ok (.iload_n 2, 1) := by decide +kernel
theorem d_W_wakeReturns_33 : decode c_W_wakeReturns 33 = .ok (.iconst 1, 1) := by decide +kernel
theorem d_W_wakeReturns_34 : decode c_W_wakeReturns 34 = .ok (.bastore, 1) := by decide +kernel
theorem d_W_wakeReturns_35 : decode c_W_wakeReturns 35 = .ok (.iinc 2 1, 3) := by decide +kernel
theorem d_W_wakeReturns_38 : decode c_W_wakeReturns 38 = .ok (.goto (-36), 3) := by decide +kernel
theorem d_W_wakeReturns_41 : decode c_W_wakeReturns 41 = .ok (.return_, 1) := by decide +kernel
theorem d_W_comeBack_0 : decode c_W_comeBack 0 = .ok (.aload_n 0, 1) := by decide +kernel
theorem d_W_comeBack_1 : decode c_W_comeBack 1 = .ok (.getfield 29, 3) := by decide +kernel
theorem d_W_comeBack_4 : decode c_W_comeBack 4 = .ok (.getfield 153, 3) := by decide +kernel
theorem d_W_comeBack_7 : decode c_W_comeBack 7 = .ok (.aload_n 0, 1) := by decide +kernel
theorem d_W_comeBack_8 : decode c_W_comeBack 8 = .ok (.getfield 40, 3) := by decide +kernel
theorem d_W_comeBack_11 : decode c_W_comeBack 11 = .ok (.getfield 150, 3) := by decide +kernel
theorem d_W_comeBack_14 : decode c_W_comeBack 14 = .ok (.iload_n 1, 1) := by decide +kernel
theorem d_W_comeBack_15 : decode c_W_comeBack 15 = .ok (.iaload, 1) := by decide +kernel
theorem d_W_comeBack_16 : decode c_W_comeBack 16 = .ok (.iaload, 1) := by decide +kernel
theorem d_W_comeBack_17 : decode c_W_comeBack 17 = .ok (.sipush 2000, 3) := by decide +kernel
theorem d_W_comeBack_20 : decode c_W_comeBack 20 = .ok (.isub, 1) := by decide +kernel
theorem d_W_comeBack_21 : decode c_W_comeBack 21 = .ok (.istore_n 2, 1) := by decide +kernel
theorem d_W_comeBack_22 : decode c_W_comeBack 22 = .ok (.iconst 0, 1) := by decide +kernel
theorem d_W_comeBack_23 : decode c_W_comeBack 23 = .ok (.istore_n 3, 1) := by decide +kernel
theorem d_W_comeBack_24 : decode c_W_comeBack 24 = .ok (.iload_n 3, 1) := by decide +kernel
theorem d_W_comeBack_25 : decode c_W_comeBack 25 = .ok (.aload_n 0, 1) := by decide +kernel
theorem d_W_comeBack_26 : decode c_W_comeBack 26 = .ok (.getfield 40, 3) := by decide +kernel
theorem d_W_comeBack_29 : decode c_W_comeBack 29 = .ok (.getfield 69, 3) := by decide +kernel
theorem d_W_comeBack_32 : decode c_W_comeBack 32 = .ok (.if_icmp .ge 88, 3) := by decide +kernel
theorem d_W_comeBack_35 : decode c_W_comeBack 35 = .ok (.aload_n 0, 1) := by decide +kernel
theorem d_W_comeBack_36 : decode c_W_comeBack 36 = .ok (.getfield 17, 3) := by decide +kernel
theorem d_W_comeBack_39 : decode c_W_comeBack 39 = .ok (.iload_n 3, 1) := by decide +kernel
theorem d_W_comeBack_40 : decode c_W_comeBack 40 = .ok (.baload, 1) := by decide +kernel
theorem d_W_comeBack_41 : decode c_W_comeBack 41 = .ok (.ifCond .eq 73, 3) := by decide +kernel
theorem d_W_comeBack_44 : decode c_W_comeBack 44 = .ok (.aload_n 0, 1) := by decide +kernel
theorem d_W_comeBack_45 : decode c_W_comeBack 45 = .ok (.getfield 40, 3) := by decide +kernel
theorem d_W_comeBack_48 : decode c_W_comeBack 48 = .ok (.getfield 95, 3) := by decide +kernel
theorem d_W_comeBack_51 : decode c_W_comeBack 51 = .ok (.iload_n 3, 1) := by decide +kernel
theorem d_W_comeBack_52 : decode c_W_comeBack 52 = .ok (.iaload, 1) := by decide +kernel
theorem d_W_comeBack_53 : decode c_W_comeBack 53 = .ok (.bipush 15, 2) := by decide +kernel
theorem d_W_comeBack_55 : decode c_W_comeBack 55 = .ok (.if_icmp .ne 59, 3) := by decide +kernel
theorem d_W_comeBack_58 : decode c_W_comeBack 58 = .ok (.aload_n 0, 1) := by decide +kernel
theorem d_W_comeBack_59 : decode c_W_comeBack 59 = .ok (.getfield 40, 3) := by decide +kernel
theorem d_W_comeBack_62 : decode c_W_comeBack 62 = .ok (.getfield 143, 3) := by decide +kernel
theorem d_W_comeBack_65 : decode c_W_comeBack 65 = .ok (.iload_n 3, 1) := by decide +kernel
theorem d_W_comeBack_66 : decode c_W_comeBack 66 = .ok (.iaload, 1) := by decide +kernel
theorem d_W_comeBack_67 : decode c_W_comeBack 67 = .ok (.iload_n 2, 1) := by decide +kernel
theorem d_W_comeBack_68 : decode c_W_comeBack 68 = .ok (.if_icmp .eq 6, 3) := by decide +kernel
theorem d_W_comeBack_71 : decode c_W_comeBack 71 = .ok (.goto 43, 3) := by decide +kernel
theorem d_W_comeBack_74 : decode c_W_comeBack 74 = .ok (.aload_n 0, 1) := by decide +kernel
theorem d_W_comeBack_75 : decode c_W_comeBack 75 = .ok (.getfield 33, 3) := by decide +kernel
theorem d_W_comeBack_78 : decode c_W_comeBack 78 = .ok (.aload_n 0, 1) := by decide +kernel
theorem d_W_comeBack_79 : decode c_W_comeBack 79 = .ok (.getfield 29, 3) := by decide +kernel
theorem d_W_comeBack_82 : decode c_W_comeBack 82 = .ok (.aload_n 0, 1) := by decide +kernel
theorem d_W_comeBack_83 : decode c_W_comeBack 83 = .ok (.getfield 11, 3) := by decide +kernel
theorem d_W_comeBack_86 : decode c_W_comeBack 86 = .ok (.iload_n 3, 1) := by decide +kernel
theorem d_W_comeBack_87 : decode c_W_comeBack 87 = .ok (.aaload, 1) := by decide +kernel
theorem d_W_comeBack_88 : decode c_W_comeBack 88 = .ok (.iload_n 2, 1) := by decide +kernel
theorem d_W_comeBack_89 : decode c_W_comeBack 89 = .ok (.invokevirtual 156, 3) := by decide +kernel
theorem d_W_comeBack_92 : decode c_W_comeBack 92 = .ok (.aload_n 0, 1) := by decide +kernel
theorem d_W_comeBack_93 : decode c_W_comeBack 93 = .ok (.iload_n 1, 1) := by decide +kernel
theorem d_W_comeBack_94 : decode c_W_comeBack 94 = .ok (.iload_n 3, 1) := by decide +kernel
theorem d_W_comeBack_95 : decode c_W_comeBack 95 = .ok (.iconst 1, 1) := by decide +kernel
theorem d_W_comeBack_96 : decode c_W_comeBack 96 = .ok (.iadd, 1) := by decide +kernel
theorem d_W_comeBack_97 : decode c_W_comeBack 97 = .ok (.aload_n 0, 1) := by decide +kernel
theorem d_W_comeBack_98 : decode c_W_comeBack 98 = .ok (.getfield 33, 3) := by decide +kernel
theorem d_W_comeBack_101 : decode c_W_comeBack 101 = .ok (.invokevirtual 65, 3) := by decide +kernel
theorem d_W_comeBack_104 : decode c_W_comeBack 104 = .ok (.istore 4, 2) := by decide +kernel
theorem d_W_comeBack_106 : decode c_W_comeBack 106 = .ok (.iload 4, 2) := by decide +kernel
theorem d_W_comeBack_108 : decode c_W_comeBack 108 = .ok (.ifCond .eq 6, 3) := by decide +kernel
theorem d_W_comeBack_111 : decode c_W_comeBack 111 = .ok (.iload 4, 2) := by decide +kernel
theorem d_W_comeBack_113 : decode c_W_comeBack 113 = .ok (.ireturn, 1) := by decide +kernel
theorem d_W_comeBack_114 : decode c_W_comeBack 114 = .ok (.iinc 3 1, 3) := by decide +kernel
theorem d_W_comeBack_117 : decode c_W_comeBack 117 = .ok (.goto (-93), 3) := by decide +kernel
theorem d_W_comeBack_120 : decode c_W_comeBack 120 = .ok (.iconst 0, 1) := by decide +kernel
theorem d_W_comeBack_121 : decode c_W_comeBack 121 = .ok (.ireturn, 1) := by decide +kernel
theorem d_W_perform_0 : decode c_W_perform 0 = .ok (.aload_n 0, 1) := by decide +kernel
theorem d_W_perform_1 : decode c_W_perform 1 = .ok (.getfield 40, 3) := by decide +kernel
theorem d_W_perform_4 : decode c_W_perform 4 = .ok (.getfield 150, 3) := by decide +kernel
theorem d_W_perform_7 : decode c_W_perform 7 = .ok (.iload_n 1, 1) := by decide +kernel
theorem d_W_perform_8 : decode c_W_perform 8 = .ok (.iaload, 1) := by decide +kernel
theorem d_W_perform_9 : decode c_W_perform 9 = .ok (.istore_n 2, 1) := by decide +kernel
theorem d_W_perform_10 : decode c_W_perform 10 = .ok (.aload_n 0, 1) := by decide +kernel
theorem d_W_perform_11 : decode c_W_perform 11 = .ok (.getfield 40, 3) := by decide +kernel
theorem d_W_perform_14 : decode c_W_perform 14 = .ok (.getfield 143, 3) := by decide +kernel
theorem d_W_perform_17 : decode c_W_perform 17 = .ok (.iload_n 1, 1) := by decide +kernel
theorem d_W_perform_18 : decode c_W_perform 18 = .ok (.iaload, 1) := by decide +kernel
theorem d_W_perform_19 : decode c_W_perform 19 = .ok (.istore_n 3, 1) := by decide +kernel
theorem d_W_perform_20 : decode c_W_perform 20 = .ok (.aload_n 0, 1) := by decide +kernel
theorem d_W_perform_21 : decode c_W_perform 21 = .ok (.getfield 40, 3) := by decide +kernel
theorem d_W_perform_24 : decode c_W_perform 24 = .ok (.getfield 95, 3) := by decide +kernel
theorem d_W_perform_27 : decode c_W_perform 27 = .ok (.iload_n 1, 1) := by decide +kernel
theorem d_W_perform_28 : decode c_W_perform 28 = .ok (.iaload, 1) := by decide +kernel
theorem d_W_perform_29 : decode c_W_perform 29 = .ok (.istore 4, 2) := by decide +kernel
theorem d_W_perform_31 : decode c_W_perform 31 = .ok (.iload 4, 2) := by decide +kernel
theorem d_W_perform_33 : decode c_W_perform 33 = .ok (.tableswitch 218 1 30 #[167, 135, 141, 160, 160, 160, 160, 160, 167, 167, 167, 176, 176, 218, 183, 153, 176, 176, 176, 189, 195, 201, 201, 201, 201, 210, 210, 210, 210, 147], 135) := by decide +kernel
theorem d_W_perform_168 : decode c_W_perform 168 = .ok (.aload_n 0, 1) := by decide +kernel
theorem d_W_perform_169 : decode c_W_perform 169 = .ok (.iload_n 2, 1) := by decide +kernel
theorem d_W_perform_170 : decode c_W_perform 170 = .ok (.invokevirtual 159, 3) := by decide +kernel
theorem d_W_perform_173 : decode c_W_perform 173 = .ok (.ireturn, 1) := by decide +kernel
theorem d_W_perform_174 : decode c_W_perform 174 = .ok (.aload_n 0, 1) := by decide +kernel
theorem d_W_perform_175 : decode c_W_perform 175 = .ok (.iload_n 2, 1) := by decide +kernel
theorem d_W_perform_176 : decode c_W_perform 176 = .ok (.invokevirtual 162, 3) := by decide +kernel
theorem d_W_perform_179 : decode c_W_perform 179 = .ok (.ireturn, 1) := by decide +kernel
theorem d_W_perform_180 : decode c_W_perform 180 = .ok (.aload_n 0, 1) := by decide +kernel
theorem d_W_perform_181 : decode c_W_perform 181 = .ok (.iload_n 2, 1) := by decide +kernel
theorem d_W_perform_182 : decode c_W_perform 182 = .ok (.invokevirtual 165, 3) := by decide +kernel
theorem d_W_perform_185 : decode c_W_perform 185 = .ok (.ireturn, 1) := by decide +kernel
theorem d_W_perform_186 : decode c_W_perform 186 = .ok (.aload_n 0, 1) := by decide +kernel
theorem d_W_perform_187 : decode c_W_perform 187 = .ok (.iload_n 1, 1) := by decide +kernel
theorem d_W_perform_188 : decode c_W_perform 188 = .ok (.iload_n 2, 1) := by decide +kernel
theorem d_W_perform_189 : decode c_W_perform 189 = .ok (.invokevirtual 168, 3) := by decide +kernel
theorem d_W_perform_192 : decode c_W_perform 192 = .ok (.ireturn, 1) := by decide +kernel
theorem d_W_perform_193 : decode c_W_perform 193 = .ok (.aload_n 0, 1) := by decide +kernel
theorem d_W_perform_194 : decode c_W_perform 194 = .ok (.iload 4, 2) := by decide +kernel
theorem d_W_perform_196 : decode c_W_perform 196 = .ok (.invokevirtual 172, 3) := by decide +kernel
theorem d_W_perform_199 : decode c_W_perform 199 = .ok (.ireturn, 1) := by decide +kernel
theorem d_W_perform_200 : decode c_W_perform 200 = .ok (.aload_n 0, 1) := by decide +kernel
theorem d_W_perform_201 : decode c_W_perform 201 = .ok (.iload 4, 2) := by decide +kernel
theorem d_W_perform_203 : decode c_W_perform 203 = .ok (.iload_n 2, 1) := by decide +kernel
theorem d_W_perform_204 : decode c_W_perform 204 = .ok (.iload_n 3, 1) := by decide +kernel
theorem d_W_perform_205 : decode c_W_perform 205 = .ok (.invokevirtual 175, 3) := by decide +kernel
theorem d_W_perform_208 : decode c_W_perform 208 = .ok (.ireturn, 1) := by decide +kernel
theorem d_W_perform_209 : decode c_W_perform 209 = .ok (.aload_n 0, 1) := by decide +kernel
theorem d_W_perform_210 : decode c_W_perform 210 = .ok (.iload 4, 2) := by decide +kernel
theorem d_W_perform_212 : decode c_W_perform 212 = .ok (.invokevirtual 179, 3) := by decide +kernel
theorem d_W_perform_215 : decode c_W_perform 215 = .ok (.ireturn, 1) := by decide +kernel
theorem d_W_perform_216 : decode c_W_perform 216 = .ok (.aload_n 0, 1) := by decide +kernel
theorem d_W_perform_217 : decode c_W_perform 217 = .ok (.iload_n 3, 1) := by decide +kernel
theorem d_W_perform_218 : decode c_W_perform 218 = .ok (.invokevirtual 182, 3) := by decide +kernel
theorem d_W_perform_221 : decode c_W_perform 221 = .ok (.ireturn, 1) := by decide +kernel
theorem d_W_perform_222 : decode c_W_perform 222 = .ok (.aload_n 0, 1) := by decide +kernel
theorem d_W_perform_223 : decode c_W_perform 223 = .ok (.iload_n 1, 1) := by decide +kernel
theorem d_W_perform_224 : decode c_W_perform 224 = .ok (.invokevirtual 185, 3) := by decide +kernel
theorem d_W_perform_227 : decode c_W_perform 227 = .ok (.ireturn, 1) := by decide +kernel
theorem d_W_perform_228 : decode c_W_perform 228 = .ok (.aload_n 0, 1) := by decide +kernel
theorem d_W_perform_229 : decode c_W_perform 229 = .ok (.iload_n 2, 1) := by decide +kernel
theorem d_W_perform_230 : decode c_W_perform 230 = .ok (.invokevirtual 188, 3) := by decide +kernel
theorem d_W_perform_233 : decode c_W_perform 233 = .ok (.ireturn, 1) := by decide +kernel
theorem d_W_perform_234 : decode c_W_perform 234 = .ok (.aload_n 0, 1) := by decide +kernel
theorem d_W_perform_235 : decode c_W_perform 235 = .ok (.iload 4, 2) := by decide +kernel
theorem d_W_perform_237 : decode c_W_perform 237 = .ok (.iload_n 2, 1) := by decide +kernel
theorem d_W_perform_238 : decode c_W_perform 238 = .ok (.iload_n 3, 1) := by decide +kernel
theorem d_W_perform_239 : decode c_W_perform 239 = .ok (.invokevirtual 191, 3) := by decide +kernel
theorem d_W_perform_242 : decode c_W_perform 242 = .ok (.ireturn, 1) := by decide +kernel
theorem d_W_perform_243 : decode c_W_perform 243 = .ok (.aload_n 0, 1) := by decide +kernel
theorem d_W_perform_244 : decode c_W_perform 244 = .ok (.iload 4, 2) := by decide +kernel
theorem d_W_perform_246 : decode c_W_perform 246 = .ok (.iload_n 2, 1) := by decide +kernel
theorem d_W_perform_247 : decode c_W_perform 247 = .ok (.invokevirtual 194, 3) := by decide +kernel
theorem d_W_perform_250 : decode c_W_perform 250 = .ok (.ireturn, 1) := by decide +kernel
theorem d_W_perform_251 : decode c_W_perform 251 = .ok (.iconst 0, 1) := by decide +kernel
theorem d_W_perform_252 : decode c_W_perform 252 = .ok (.ireturn, 1) := by decide +kernel
theorem d_W_takeIf_0 : decode c_W_takeIf 0 = .ok (.iload_n 1, 1) := by decide +kernel
theorem d_W_takeIf_1 : decode c_W_takeIf 1 = .ok (.ifCond .ne 5, 3) := by decide +kernel
theorem d_W_takeIf_4 : decode c_W_takeIf 4 = .ok (.iconst 2, 1) := by decide +kernel
theorem d_W_takeIf_5 : decode c_W_takeIf 5 = .ok (.ireturn, 1) := by decide +kernel
theorem d_W_takeIf_6 : decode c_W_takeIf 6 = .ok (.aload_n 0, 1) := by decide +kernel
theorem d_W_takeIf_7 : decode c_W_takeIf 7 = .ok (.getfield 29, 3) := by decide +kernel
theorem d_W_takeIf_10 : decode c_W_takeIf 10 = .ok (.iload_n 2, 1) := by decide +kernel
theorem d_W_takeIf_11 : decode c_W_takeIf 11 = .ok (.invokevirtual 197, 3) := by decide +kernel
theorem d_W_takeIf_14 : decode c_W_takeIf 14 = .ok (.iconst 0, 1) := by decide +kernel
theorem d_W_takeIf_15 : decode c_W_takeIf 15 = .ok (.ireturn, 1) := by decide +kernel
theorem d_W_exchangeIf_0 : decode c_W_exchangeIf 0 = .ok (.iload_n 1, 1) := by decide +kernel
theorem d_W_exchangeIf_1 : decode c_W_exchangeIf 1 = .ok (.ifCond .ne 5, 3) := by decide +kernel
theorem d_W_exchangeIf_4 : decode c_W_exchangeIf 4 = .ok (.iconst 2, 1) := by decide +kernel
theorem d_W_exchangeIf_5 : decode c_W_exchangeIf 5 = .ok (.ireturn, 1) := by decide +kernel
theorem d_W_exchangeIf_6 : decode c_W_exchangeIf 6 = .ok (.aload_n 0, 1) := by decide +kernel
theorem d_W_exchangeIf_7 : decode c_W_exchangeIf 7 = .ok (.getfield 29, 3) := by decide +kernel
theorem d_W_exchangeIf_10 : decode c_W_exchangeIf 10 = .ok (.iload_n 2, 1) := by decide +kernel
theorem d_W_exchangeIf_11 : decode c_W_exchangeIf 11 = .ok (.invokevirtual 197, 3) := by decide +kernel
theorem d_W_exchangeIf_14 : decode c_W_exchangeIf 14 = .ok (.aload_n 0, 1) := by decide +kernel
theorem d_W_exchangeIf_15 : decode c_W_exchangeIf 15 = .ok (.getfield 29, 3) := by decide +kernel
theorem d_W_exchangeIf_18 : decode c_W_exchangeIf 18 = .ok (.iload_n 3, 1) := by decide +kernel
theorem d_W_exchangeIf_19 : decode c_W_exchangeIf 19 = .ok (.aload_n 0, 1) := by decide +kernel
theorem d_W_exchangeIf_20 : decode c_W_exchangeIf 20 = .ok (.getfield 40, 3) := by decide +kernel
theorem d_W_exchangeIf_23 : decode c_W_exchangeIf 23 = .ok (.getfield 116, 3) := by decide +kernel
theorem d_W_exchangeIf_26 : decode c_W_exchangeIf 26 = .ok (.invokevirtual 200, 3) := by decide +kernel
theorem d_W_exchangeIf_29 : decode c_W_exchangeIf 29 = .ok (.ireturn, 1) := by decide +kernel
theorem d_W_fitsLocal_0 : decode c_W_fitsLocal 0 = .ok (.iload_n 1, 1) := by decide +kernel
theorem d_W_fitsLocal_1 : decode c_W_fitsLocal 1 = .ok (.iload_n 2, 1) := by decide +kernel
theorem d_W_fitsLocal_2 : decode c_W_fitsLocal 2 = .ok (.invokestatic 203, 3) := by decide +kernel
theorem d_W_fitsLocal_5 : decode c_W_fitsLocal 5 = .ok (.iadd, 1) := by decide +kernel
theorem d_W_fitsLocal_6 : decode c_W_fitsLocal 6 = .ok (.aload_n 0, 1) := by decide +kernel
theorem d_W_fitsLocal_7 : decode c_W_fitsLocal 7 = .ok (.getfield 40, 3) := by decide +kernel
theorem d_W_fitsLocal_10 : decode c_W_fitsLocal 10 = .ok (.getfield 206, 3) := by decide +kernel
theorem d_W_fitsLocal_13 : decode c_W_fitsLocal 13 = .ok (.if_icmp .gt 7, 3) := by decide +kernel
theorem d_W_fitsLocal_16 : decode c_W_fitsLocal 16 = .ok (.iconst 1, 1) := by decide +kernel
theorem d_W_fitsLocal_17 : decode c_W_fitsLocal 17 = .ok (.goto 4, 3) := by decide +kernel
theorem d_W_fitsLocal_20 : decode c_W_fitsLocal 20 = .ok (.iconst 0, 1) := by decide +kernel
theorem d_W_fitsLocal_21 : decode c_W_fitsLocal 21 = .ok (.ireturn, 1) := by decide +kernel
theorem d_W_load_0 : decode c_W_load 0 = .ok (.aload_n 0, 1) := by decide +kernel
theorem d_W_load_1 : decode c_W_load 1 = .ok (.getfield 29, 3) := by decide +kernel
theorem d_W_load_4 : decode c_W_load 4 = .ok (.getfield 153, 3) := by decide +kernel
theorem d_W_load_7 : decode c_W_load 7 = .ok (.iload_n 1, 1) := by decide +kernel
theorem d_W_load_8 : decode c_W_load 8 = .ok (.iaload, 1) := by decide +kernel
theorem d_W_load_9 : decode c_W_load 9 = .ok (.istore_n 2, 1) := by decide +kernel
theorem d_W_load_10 : decode c_W_load 10 = .ok (.iload_n 2, 1) := by decide +kernel
theorem d_W_load_11 : decode c_W_load 11 = .ok (.ifCond .eq 19, 3) := by decide +kernel
theorem d_W_load_14 : decode c_W_load 14 = .ok (.iload_n 2, 1) := by decide +kernel
theorem d_W_load_15 : decode c_W_load 15 = .ok (.invokestatic 208, 3) := by decide +kernel
theorem d_W_load_18 : decode c_W_load 18 = .ok (.ifCond .ne 12, 3) := by decide +kernel
theorem d_W_load_21 : decode c_W_load 21 = .ok (.aload_n 0, 1) := by decide +kernel
theorem d_W_load_22 : decode c_W_load 22 = .ok (.iload_n 1, 1) := by decide +kernel
theorem d_W_load_23 : decode c_W_load 23 = .ok (.iload_n 2, 1) := by decide +kernel
theorem d_W_load_24 : decode c_W_load 24 = .ok (.invokevirtual 212, 3) := by decide +kernel
theorem d_W_load_27 : decode c_W_load 27 = .ok (.ifCond .ne 5, 3) := by decide +kernel
theorem d_W_load_30 : decode c_W_load 30 = .ok (.iconst 2, 1) := by decide +kernel
theorem d_W_load_31 : decode c_W_load 31 = .ok (.ireturn, 1) := by decide +kernel
theorem d_W_load_32 : decode c_W_load 32 = .ok (.aload_n 0, 1) := by decide +kernel
theorem d_W_load_33 : decode c_W_load 33 = .ok (.getfield 29, 3) := by decide +kernel
theorem d_W_load_36 : decode c_W_load 36 = .ok (.iload_n 1, 1) := by decide +kernel
theorem d_W_load_37 : decode c_W_load 37 = .ok (.iload_n 2, 1) := by decide +kernel
theorem d_W_load_38 : decode c_W_load 38 = .ok (.invokevirtual 215, 3) := by decide +kernel
theorem d_W_load_41 : decode c_W_load 41 = .ok (.aload_n 0, 1) := by decide +kernel
theorem d_W_load_42 : decode c_W_load 42 = .ok (.getfield 29, 3) := by decide +kernel
theorem d_W_load_45 : decode c_W_load 45 = .ok (.iload_n 2, 1) := by decide +kernel
theorem d_W_load_46 : decode c_W_load 46 = .ok (.aload_n 0, 1) := by decide +kernel
theorem d_W_load_47 : decode c_W_load 47 = .ok (.getfield 40, 3) := by decide +kernel
theorem d_W_load_50 : decode c_W_load 50 = .ok (.getfield 116, 3) := by decide +kernel
theorem d_W_load_53 : decode c_W_load 53 = .ok (.invokevirtual 200, 3) := by decide +kernel
theorem d_W_load_56 : decode c_W_load 56 = .ok (.ireturn, 1) := by decide +kernel
theorem d_W_store_0 : decode c_W_store 0 = .ok (.aload_n 0, 1) := by decide +kernel
theorem d_W_store_1 : decode c_W_store 1 = .ok (.getfield 29, 3) := by decide +kernel
theorem d_W_store_4 : decode c_W_store 4 = .ok (.iconst 0, 1) := by decide +kernel
theorem d_W_store_5 : decode c_W_store 5 = .ok (.invokevirtual 219, 3) := by decide +kernel
theorem d_W_store_8 : decode c_W_store 8 = .ok (.istore_n 2, 1) := by decide +kernel
theorem d_W_store_9 : decode c_W_store 9 = .ok (.iload_n 2, 1) := by decide +kernel
theorem d_W_store_10 : decode c_W_store 10 = .ok (.iconst (-1), 1) := by decide +kernel
theorem d_W_store_11 : decode c_W_store 11 = .ok (.if_icmp .eq 16, 3) := by decide +kernel
theorem d_W_store_14 : decode c_W_store 14 = .ok (.iload_n 2, 1) := by decide +kernel
theorem d_W_store_15 : decode c_W_store 15 = .ok (.ifCond .eq 12, 3) := by decide +kernel
theorem d_W_store_18 : decode c_W_store 18 = .ok (.aload_n 0, 1) := by decide +kernel
theorem d_W_store_19 : decode c_W_store 19 = .ok (.iload_n 1, 1) := by decide +kernel
theorem d_W_store_20 : decode c_W_store 20 = .ok (.iload_n 2, 1) := by decide +kernel
theorem d_W_store_21 : decode c_W_store 21 = .ok (.invokevirtual 212, 3) := by decide +kernel
theorem d_W_store_24 : decode c_W_store 24 = .ok (.ifCond .ne 5, 3) := by decide +kernel
theorem d_W_store_27 : decode c_W_store 27 = .ok (.iconst 2, 1) := by decide +kernel
theorem d_W_store_28 : decode c_W_store 28 = .ok (.ireturn, 1) := by decide +kernel
theorem d_W_store_29 : decode c_W_store 29 = .ok (.aload_n 0, 1) := by decide +kernel
theorem d_W_store_30 : decode c_W_store 30 = .ok (.getfield 29, 3) := by decide +kernel
theorem d_W_store_33 : decode c_W_store 33 = .ok (.iconst 1, 1) := by decide +kernel
theorem d_W_store_34 : decode c_W_store 34 = .ok (.invokevirtual 197, 3) := by decide +kernel
theorem d_W_store_37 : decode c_W_store 37 = .ok (.aload_n 0, 1) := by decide +kernel
theorem d_W_store_38 : decode c_W_store 38 = .ok (.getfield 29, 3) := by decide +kernel
theorem d_W_store_41 : decode c_W_store 41 = .ok (.iload_n 1, 1) := by decide +kernel
theorem d_W_store_42 : decode c_W_store 42 = .ok (.iload_n 2, 1) := by decide +kernel
theorem d_W_store_43 : decode c_W_store 43 = .ok (.invokevirtual 222, 3) := by decide +kernel
theorem d_W_store_46 : decode c_W_store 46 = .ok (.aload_n 0, 1) := by decide +kernel
theorem d_W_store_47 : decode c_W_store 47 = .ok (.getfield 29, 3) := by decide +kernel
theorem d_W_store_50 : decode c_W_store 50 = .ok (.iload_n 1, 1) := by decide +kernel
theorem d_W_store_51 : decode c_W_store 51 = .ok (.iload_n 2, 1) := by decide +kernel
theorem d_W_store_52 : decode c_W_store 52 = .ok (.invokevirtual 215, 3) := by decide +kernel
theorem d_W_store_55 : decode c_W_store 55 = .ok (.iconst 0, 1) := by decide +kernel
theorem d_W_store_56 : decode c_W_store 56 = .ok (.ireturn, 1) := by decide +kernel
theorem d_W_increase_0 : decode c_W_increase 0 = .ok (.aload_n 0, 1) := by decide +kernel
theorem d_W_increase_1 : decode c_W_increase 1 = .ok (.getfield 29, 3) := by decide +kernel
theorem d_W_increase_4 : decode c_W_increase 4 = .ok (.getfield 153, 3) := by decide +kernel
theorem d_W_increase_7 : decode c_W_increase 7 = .ok (.iload_n 1, 1) := by decide +kernel
theorem d_W_increase_8 : decode c_W_increase 8 = .ok (.iaload, 1) := by decide +kernel
theorem d_W_increase_9 : decode c_W_increase 9 = .ok (.iconst 1, 1) := by decide +kernel
theorem d_W_increase_10 : decode c_W_increase 10 = .ok (.if_icmp .eq 5, 3) := by decide +kernel
theorem d_W_increase_13 : decode c_W_increase 13 = .ok (.iconst 2, 1) := by decide +kernel
theorem d_W_increase_14 : decode c_W_increase 14 = .ok (.ireturn, 1) := by decide +kernel
theorem d_W_increase_15 : decode c_W_increase 15 = .ok (.aload_n 0, 1) := by decide +kernel
theorem d_W_increase_16 : decode c_W_increase 16 = .ok (.getfield 29, 3) := by decide +kernel
theorem d_W_increase_19 : decode c_W_increase 19 = .ok (.iload_n 1, 1) := by decide +kernel
theorem d_W_increase_20 : decode c_W_increase 20 = .ok (.iconst 1, 1) := by decide +kernel
theorem d_W_increase_21 : decode c_W_increase 21 = .ok (.invokevirtual 215, 3) := by decide +kernel
theorem d_W_increase_24 : decode c_W_increase 24 = .ok (.iconst 0, 1) := by decide +kernel
theorem d_W_increase_25 : decode c_W_increase 25 = .ok (.ireturn, 1) := by decide +kernel
theorem d_W_prepareReturn_0 : decode c_W_prepareReturn 0 = .ok (.aload_n 0, 1) := by decide +kernel
theorem d_W_prepareReturn_1 : decode c_W_prepareReturn 1 = .ok (.getfield 29, 3) := by decide +kernel
theorem d_W_prepareReturn_4 : decode c_W_prepareReturn 4 = .ok (.getfield 153, 3) := by decide +kernel
theorem d_W_prepareReturn_7 : decode c_W_prepareReturn 7 = .ok (.iload_n 2, 1) := by decide +kernel
theorem d_W_prepareReturn_8 : decode c_W_prepareReturn 8 = .ok (.iaload, 1) := by decide +kernel
theorem d_W_prepareReturn_9 : decode c_W_prepareReturn 9 = .ok (.istore_n 3, 1) := by decide +kernel
theorem d_W_prepareReturn_10 : decode c_W_prepareReturn 10 = .ok (.iload_n 3, 1) := by decide +kernel
theorem d_W_prepareReturn_11 : decode c_W_prepareReturn 11 = .ok (.invokestatic 208, 3) := by decide +kernel
theorem d_W_prepareReturn_14 : decode c_W_prepareReturn 14 = .ok (.ifCond .ne 5, 3) := by decide +kernel
theorem d_W_prepareReturn_17 : decode c_W_prepareReturn 17 = .ok (.iconst 2, 1) := by decide +kernel
theorem d_W_prepareReturn_18 : decode c_W_prepareReturn 18 = .ok (.ireturn, 1) := by decide +kernel
theorem d_W_prepareReturn_19 : decode c_W_prepareReturn 19 = .ok (.iload_n 3, 1) := by decide +kernel
theorem d_W_prepareReturn_20 : decode c_W_prepareReturn 20 = .ok (.sipush 2000, 3) := by decide +kernel
theorem d_W_prepareReturn_23 : decode c_W_prepareReturn 23 = .ok (.isub, 1) := by decide +kernel
theorem d_W_prepareReturn_24 : decode c_W_prepareReturn 24 = .ok (.istore 4, 2) := by decide +kernel
theorem d_W_prepareReturn_26 : decode c_W_prepareReturn 26 = .ok (.aload_n 0, 1) := by decide +kernel
theorem d_W_prepareReturn_27 : decode c_W_prepareReturn 27 = .ok (.getfield 29, 3) := by decide +kernel
theorem d_W_prepareReturn_30 : decode c_W_prepareReturn 30 = .ok (.iload 4, 2) := by decide +kernel
theorem d_W_prepareReturn_32 : decode c_W_prepareReturn 32 = .ok (.invokevirtual 224, 3) := by decide +kernel
theorem d_W_prepareReturn_35 : decode c_W_prepareReturn 35 = .ok (.ifCond .ne 6, 3) := by decide +kernel
theorem d_W_prepareReturn_38 : decode c_W_prepareReturn 38 = .ok (.bipush 7, 2) := by decide +kernel
theorem d_W_prepareReturn_40 : decode c_W_prepareReturn 40 = .ok (.ireturn, 1) := by decide +kernel
theorem d_W_prepareReturn_41 : decode c_W_prepareReturn 41 = .ok (.aload_n 0, 1) := by decide +kernel
theorem d_W_prepareReturn_42 : decode c_W_prepareReturn 42 = .ok (.getfield 29, 3) := by decide +kernel
theorem d_W_prepareReturn_45 : decode c_W_prepareReturn 45 = .ok (.iload_n 2, 1) := by decide +kernel
theorem d_W_prepareReturn_46 : decode c_W_prepareReturn 46 = .ok (.iload_n 3, 1) := by decide +kernel
theorem d_W_prepareReturn_47 : decode c_W_prepareReturn 47 = .ok (.invokevirtual 215, 3) := by decide +kernel
theorem d_W_prepareReturn_50 : decode c_W_prepareReturn 50 = .ok (.aload_n 0, 1) := by decide +kernel
theorem d_W_prepareReturn_51 : decode c_W_prepareReturn 51 = .ok (.getfield 24, 3) := by decide +kernel
theorem d_W_prepareReturn_54 : decode c_W_prepareReturn 54 = .ok (.iload_n 1, 1) := by decide +kernel
theorem d_W_prepareReturn_55 : decode c_W_prepareReturn 55 = .ok (.dup2, 1) := by decide +kernel
theorem d_W_prepareReturn_56 : decode c_W_prepareReturn 56 = .ok (.laload, 1) := by decide +kernel
theorem d_W_prepareReturn_57 : decode c_W_prepareReturn 57 = .ok (.lconst 1, 1) := by decide +kernel
theorem d_W_prepareReturn_58 : decode c_W_prepareReturn 58 = .ok (.iload 4, 2) := by decide +kernel
theorem d_W_prepareReturn_60 : decode c_W_prepareReturn 60 = .ok (.lshl, 1) := by decide +kernel
theorem d_W_prepareReturn_61 : decode c_W_prepareReturn 61 = .ok (.lor, 1) := by decide +kernel
theorem d_W_prepareReturn_62 : decode c_W_prepareReturn 62 = .ok (.lastore, 1) := by decide +kernel
theorem d_W_prepareReturn_63 : decode c_W_prepareReturn 63 = .ok (.iconst 0, 1) := by decide +kernel
theorem d_W_prepareReturn_64 : decode c_W_prepareReturn 64 = .ok (.ireturn, 1) := by decide +kernel
theorem d_W_enterSub_0 : decode c_W_enterSub 0 = .ok (.aload_n 0, 1) := by decide +kernel
theorem d_W_enterSub_1 : decode c_W_enterSub 1 = .ok (.getfield 29, 3) := by decide +kernel
theorem d_W_enterSub_4 : decode c_W_enterSub 4 = .ok (.iload_n 1, 1) := by decide +kernel
theorem d_W_enterSub_5 : decode c_W_enterSub 5 = .ok (.invokevirtual 224, 3) := by decide +kernel
theorem d_W_enterSub_8 : decode c_W_enterSub 8 = .ok (.ifCond .eq 6, 3) := by decide +kernel
theorem d_W_enterSub_11 : decode c_W_enterSub 11 = .ok (.bipush 6, 2) := by decide +kernel
theorem d_W_enterSub_13 : decode c_W_enterSub 13 = .ok (.ireturn, 1) := by decide +kernel
theorem d_W_enterSub_14 : decode c_W_enterSub 14 = .ok (.aload_n 0, 1) := by decide +kernel
theorem d_W_enterSub_15 : decode c_W_enterSub 15 = .ok (.getfield 29, 3) := by decide +kernel
theorem d_W_enterSub_18 : decode c_W_enterSub 18 = .ok (.iload_n 1, 1) := by decide +kernel
theorem d_W_enterSub_19 : decode c_W_enterSub 19 = .ok (.invokevirtual 227, 3) := by decide +kernel
theorem d_W_enterSub_22 : decode c_W_enterSub 22 = .ok (.aload_n 0, 1) := by decide +kernel
theorem d_W_enterSub_23 : decode c_W_enterSub 23 = .ok (.getfield 29, 3) := by decide +kernel
theorem d_W_enterSub_26 : decode c_W_enterSub 26 = .ok (.sipush 2000, 3) := by decide +kernel
theorem d_W_enterSub_29 : decode c_W_enterSub 29 = .ok (.iload_n 1, 1) := by decide +kernel
theorem d_W_enterSub_30 : decode c_W_enterSub 30 = .ok (.iadd, 1) := by decide +kernel
theorem d_W_enterSub_31 : decode c_W_enterSub 31 = .ok (.aload_n 0, 1) := by decide +kernel
theorem d_W_enterSub_32 : decode c_W_enterSub 32 = .ok (.getfield 40, 3) := by decide +kernel
theorem d_W_enterSub_35 : decode c_W_enterSub 35 = .ok (.getfield 116, 3) := by decide +kernel
theorem d_W_enterSub_38 : decode c_W_enterSub 38 = .ok (.invokevirtual 200, 3) := by decide +kernel
theorem d_W_enterSub_41 : decode c_W_enterSub 41 = .ok (.ireturn, 1) := by decide +kernel
theorem d_W_shuffle_0 : decode c_W_shuffle 0 = .ok (.aload_n 0, 1) := by decide +kernel
theorem d_W_shuffle_1 : decode c_W_shuffle 1 = .ok (.getfield 29, 3) := by decide +kernel
theorem d_W_shuffle_4 : decode c_W_shuffle 4 = .ok (.iconst 0, 1) := by decide +kernel
theorem d_W_shuffle_5 : decode c_W_shuffle 5 = .ok (.invokevirtual 219, 3) := by decide +kernel
theorem d_W_shuffle_8 : decode c_W_shuffle 8 = .ok (.istore_n 2, 1) := by decide +kernel
theorem d_W_shuffle_9 : decode c_W_shuffle 9 = .ok (.iload_n 1, 1) := by decide +kernel
theorem d_W_shuffle_10 : decode c_W_shuffle 10 = .ok (.bipush 8, 2) := by decide +kernel
theorem d_W_shuffle_12 : decode c_W_shuffle 12 = .ok (.if_icmp .ne 26, 3) := by decide +kernel
theorem d_W_shuffle_15 : decode c_W_shuffle 15 = .ok (.iload_n 2, 1) := by decide +kernel
theorem d_W_shuffle_16 : decode c_W_shuffle 16 = .ok (.invokestatic 230, 3) := by decide +kernel
theorem d_W_shuffle_19 : decode c_W_shuffle 19 = .ok (.ifCond .eq 19, 3) := by decide +kernel
theorem d_W_shuffle_22 : decode c_W_shuffle 22 = .ok (.aload_n 0, 1) := by decide +kernel
theorem d_W_shuffle_23 : decode c_W_shuffle 23 = .ok (.getfield 29, 3) := by decide +kernel
theorem d_W_shuffle_26 : decode c_W_shuffle 26 = .ok (.iload_n 2, 1) := by decide +kernel
theorem d_W_shuffle_27 : decode c_W_shuffle 27 = .ok (.aload_n 0, 1) := by decide +kernel
theorem d_W_shuffle_28 : decode c_W_shuffle 28 = .ok (.getfield 40, 3) := by decide +kernel
theorem d_W_shuffle_31 : decode c_W_shuffle 31 = .ok (.getfield 116, 3) := by decide +kernel
theorem d_W_shuffle_34 : decode c_W_shuffle 34 = .ok (.invokevirtual 200, 3) := by decide +kernel
theorem d_W_shuffle_37 : decode c_W_shuffle 37 = .ok (.ireturn, 1) := by decide +kernel
theorem d_W_shuffle_38 : decode c_W_shuffle 38 = .ok (.aload_n 0, 1) := by decide +kernel
theorem d_W_shuffle_39 : decode c_W_shuffle 39 = .ok (.getfield 29, 3) := by decide +kernel
theorem d_W_shuffle_42 : decode c_W_shuffle 42 = .ok (.iconst 0, 1) := by decide +kernel
theorem d_W_shuffle_43 : decode c_W_shuffle 43 = .ok (.invokevirtual 233, 3) := by decide +kernel
theorem d_W_shuffle_46 : decode c_W_shuffle 46 = .ok (.ifCond .ne 5, 3) := by decide +kernel
theorem d_W_shuffle_49 : decode c_W_shuffle 49 = .ok (.iconst 2, 1) := by decide +kernel
theorem d_W_shuffle_50 : decode c_W_shuffle 50 = .ok (.ireturn, 1) := by decide +kernel
theorem d_W_shuffle_51 : decode c_W_shuffle 51 = .ok (.iload_n 1, 1) := by decide +kernel
theorem d_W_shuffle_52 : decode c_W_shuffle 52 = .ok (.iconst 4, 1) := by decide +kernel
theorem d_W_shuffle_53 : decode c_W_shuffle 53 = .ok (.if_icmp .ne 10, 3) := by decide +kernel
theorem d_W_shuffle_56 : decode c_W_shuffle 56 = .ok (.aload_n 0, 1) := by decide +kernel
theorem d_W_shuffle_57 : decode c_W_shuffle 57 = .ok (.iconst 1, 1) := by decide +kernel
theorem d_W_shuffle_58 : decode c_W_shuffle 58 = .ok (.iconst 1, 1) := by decide +kernel
theorem d_W_shuffle_59 : decode c_W_shuffle 59 = .ok (.invokevirtual 236, 3) := by decide +kernel
theorem d_W_shuffle_62 : decode c_W_shuffle 62 = .ok (.ireturn, 1) := by decide +kernel
theorem d_W_shuffle_63 : decode c_W_shuffle 63 = .ok (.iload_n 1, 1) := by decide +kernel
theorem d_W_shuffle_64 : decode c_W_shuffle 64 = .ok (.iconst 5, 1) := by decide +kernel
theorem d_W_shuffle_65 : decode c_W_shuffle 65 = .ok (.if_icmp .ne 19, 3) := by decide +kernel
theorem d_W_shuffle_68 : decode c_W_shuffle 68 = .ok (.aload_n 0, 1) := by decide +kernel
theorem d_W_shuffle_69 : decode c_W_shuffle 69 = .ok (.getfield 29, 3) := by decide +kernel
theorem d_W_shuffle_72 : decode c_W_shuffle 72 = .ok (.iload_n 2, 1) := by decide +kernel
theorem d_W_shuffle_73 : decode c_W_shuffle 73 = .ok (.aload_n 0, 1) := by decide +kernel
theorem d_W_shuffle_74 : decode c_W_shuffle 74 = .ok (.getfield 40, 3) := by decide +kernel
theorem d_W_shuffle_77 : decode c_W_shuffle 77 = .ok (.getfield 116, 3) := by decide +kernel
theorem d_W_shuffle_80 : decode c_W_shuffle 80 = .ok (.invokevirtual 200, 3) := by decide +kernel
theorem d_W_shuffle_83 : decode c_W_shuffle 83 = .ok (.ireturn, 1) := by decide +kernel
theorem d_W_shuffle_84 : decode c_W_shuffle 84 = .ok (.aload_n 0, 1) := by decide +kernel
theorem d_W_shuffle_85 : decode c_W_shuffle 85 = .ok (.getfield 29, 3) := by decide +kernel
theorem d_W_shuffle_88 : decode c_W_shuffle 88 = .ok (.iconst 1, 1) := by decide +kernel
theorem d_W_shuffle_89 : decode c_W_shuffle 89 = .ok (.invokevirtual 233, 3) := by decide +kernel
theorem d_W_shuffle_92 : decode c_W_shuffle 92 = .ok (.ifCond .ne 5, 3) := by decide +kernel
theorem d_W_shuffle_95 : decode c_W_shuffle 95 = .ok (.iconst 2, 1) := by decide +kernel
theorem d_W_shuffle_96 : decode c_W_shuffle 96 = .ok (.ireturn, 1) := by decide +kernel
theorem d_W_shuffle_97 : decode c_W_shuffle 97 = .ok (.aload_n 0, 1) := by decide +kernel
theorem d_W_shuffle_98 : decode c_W_shuffle 98 = .ok (.getfield 29, 3) := by decide +kernel
theorem d_W_shuffle_101 : decode c_W_shuffle 101 = .ok (.iconst 1, 1) := by decide +kernel
theorem d_W_shuffle_102 : decode c_W_shuffle 102 = .ok (.invokevirtual 219, 3) := by decide +kernel
theorem d_W_shuffle_105 : decode c_W_shuffle 105 = .ok (.istore_n 3, 1) := by decide +kernel
theorem d_W_shuffle_106 : decode c_W_shuffle 106 = .ok (.iload_n 1, 1) := by decide +kernel
theorem d_W_shuffle_107 : decode c_W_shuffle 107 = .ok (.bipush 8, 2) := by decide +kernel
theorem d_W_shuffle_109 : decode c_W_shuffle 109 = .ok (.if_icmp .ne 10, 3) := by decide +kernel
theorem d_W_shuffle_112 : decode c_W_shuffle 112 = .ok (.aload_n 0, 1) := by decide +kernel
theorem d_W_shuffle_113 : decode c_W_shuffle 113 = .ok (.iload_n 3, 1) := by decide +kernel
theorem d_W_shuffle_114 : decode c_W_shuffle 114 = .ok (.iload_n 2, 1) := by decide +kernel
theorem d_W_shuffle_115 : decode c_W_shuffle 115 = .ok (.invokevirtual 240, 3) := by decide +kernel
theorem d_W_shuffle_118 : decode c_W_shuffle 118 = .ok (.ireturn, 1) := by decide +kernel
theorem d_W_shuffle_119 : decode c_W_shuffle 119 = .ok (.aload_n 0, 1) := by decide +kernel
theorem d_W_shuffle_120 : decode c_W_shuffle 120 = .ok (.getfield 29, 3) := by decide +kernel
theorem d_W_shuffle_123 : decode c_W_shuffle 123 = .ok (.iconst 2, 1) := by decide +kernel
theorem d_W_shuffle_124 : decode c_W_shuffle 124 = .ok (.invokevirtual 197, 3) := by decide +kernel
theorem d_W_shuffle_127 : decode c_W_shuffle 127 = .ok (.aload_n 0, 1) := by decide +kernel
theorem d_W_shuffle_128 : decode c_W_shuffle 128 = .ok (.iload_n 2, 1) := by decide +kernel
theorem d_W_shuffle_129 : decode c_W_shuffle 129 = .ok (.iload_n 3, 1) := by decide +kernel
theorem d_W_shuffle_130 : decode c_W_shuffle 130 = .ok (.invokevirtual 240, 3) := by decide +kernel
theorem d_W_shuffle_133 : decode c_W_shuffle 133 = .ok (.istore 4, 2) := by decide +kernel
theorem d_W_shuffle_135 : decode c_W_shuffle 135 = .ok (.iload 4, 2) := by decide +kernel
theorem d_W_shuffle_137 : decode c_W_shuffle 137 = .ok (.ifCond .ne 27, 3) := by decide +kernel
theorem d_W_shuffle_140 : decode c_W_shuffle 140 = .ok (.iload_n 1, 1) := by decide +kernel
theorem d_W_shuffle_141 : decode c_W_shuffle 141 = .ok (.bipush 6, 2) := by decide +kernel
theorem d_W_shuffle_143 : decode c_W_shuffle 143 = .ok (.if_icmp .ne 21, 3) := by decide +kernel
theorem d_W_shuffle_146 : decode c_W_shuffle 146 = .ok (.aload_n 0, 1) := by decide +kernel
theorem d_W_shuffle_147 : decode c_W_shuffle 147 = .ok (.getfield 29, 3) := by decide +kernel
theorem d_W_shuffle_150 : decode c_W_shuffle 150 = .ok (.iload_n 2, 1) := by decide +kernel
theorem d_W_shuffle_151 : decode c_W_shuffle 151 = .ok (.aload_n 0, 1) := by decide +kernel
theorem d_W_shuffle_152 : decode c_W_shuffle 152 = .ok (.getfield 40, 3) := by decide +kernel
theorem d_W_shuffle_155 : decode c_W_shuffle 155 = .ok (.getfield 116, 3) := by decide +kernel
theorem d_W_shuffle_158 : decode c_W_shuffle 158 = .ok (.invokevirtual 200, 3) := by decide +kernel
theorem d_W_shuffle_161 : decode c_W_shuffle 161 = .ok (.goto 5, 3) := by decide +kernel
theorem d_W_shuffle_164 : decode c_W_shuffle 164 = .ok (.iload 4, 2) := by decide +kernel
theorem d_W_shuffle_166 : decode c_W_shuffle 166 = .ok (.ireturn, 1) := by decide +kernel
theorem d_W_pushBoth_0 : decode c_W_pushBoth 0 = .ok (.aload_n 0, 1) := by decide +kernel
theorem d_W_pushBoth_1 : decode c_W_pushBoth 1 = .ok (.getfield 29, 3) := by decide +kernel
theorem d_W_pushBoth_4 : decode c_W_pushBoth 4 = .ok (.iload_n 1, 1) := by decide +kernel
theorem d_W_pushBoth_5 : decode c_W_pushBoth 5 = .ok (.aload_n 0, 1) := by decide +kernel
theorem d_W_pushBoth_6 : decode c_W_pushBoth 6 = .ok (.getfield 40, 3) := by decide +kernel
theorem d_W_pushBoth_9 : decode c_W_pushBoth 9 = .ok (.getfield 116, 3) := by decide +kernel
theorem d_W_pushBoth_12 : decode c_W_pushBoth 12 = .ok (.invokevirtual 200, 3) := by decide +kernel
theorem d_W_pushBoth_15 : decode c_W_pushBoth 15 = .ok (.istore_n 3, 1) := by decide +kernel
theorem d_W_pushBoth_16 : decode c_W_pushBoth 16 = .ok (.iload_n 3, 1) := by decide +kernel
theorem d_W_pushBoth_17 : decode c_W_pushBoth 17 = .ok (.ifCond .ne 21, 3) := by decide +kernel
theorem d_W_pushBoth_20 : decode c_W_pushBoth 20 = .ok (.aload_n 0, 1) := by decide +kernel
theorem d_W_pushBoth_21 : decode c_W_pushBoth 21 = .ok (.getfield 29, 3) := by decide +kernel
theorem d_W_pushBoth_24 : decode c_W_pushBoth 24 = .ok (.iload_n 2, 1) := by decide +kernel
theorem d_W_pushBoth_25 : decode c_W_pushBoth 25 = .ok (.aload_n 0, 1) := by decide +kernel
theorem d_W_pushBoth_26 : decode c_W_pushBoth 26 = .ok (.getfield 40, 3) := by decide +kernel
theorem d_W_pushBoth_29 : decode c_W_pushBoth 29 = .ok (.getfield 116, 3) := by decide +kernel
theorem d_W_pushBoth_32 : decode c_W_pushBoth 32 = .ok (.invokevirtual 200, 3) := by decide +kernel
theorem d_W_pushBoth_35 : decode c_W_pushBoth 35 = .ok (.goto 4, 3) := by decide +kernel
theorem d_W_pushBoth_38 : decode c_W_pushBoth 38 = .ok (.iload_n 3, 1) := by decide +kernel
theorem d_W_pushBoth_39 : decode c_W_pushBoth 39 = .ok (.ireturn, 1) := by decide +kernel
theorem d_W_calculate_0 : decode c_W_calculate 0 = .ok (.iload_n 1, 1) := by decide +kernel
theorem d_W_calculate_1 : decode c_W_calculate 1 = .ok (.iconst 1, 1) := by decide +kernel
theorem d_W_calculate_2 : decode c_W_calculate 2 = .ok (.if_icmp .ne 19, 3) := by decide +kernel
theorem d_W_calculate_5 : decode c_W_calculate 5 = .ok (.aload_n 0, 1) := by decide +kernel
theorem d_W_calculate_6 : decode c_W_calculate 6 = .ok (.getfield 29, 3) := by decide +kernel
theorem d_W_calculate_9 : decode c_W_calculate 9 = .ok (.iload_n 2, 1) := by decide +kernel
theorem d_W_calculate_10 : decode c_W_calculate 10 = .ok (.aload_n 0, 1) := by decide +kernel
theorem d_W_calculate_11 : decode c_W_calculate 11 = .ok (.getfield 40, 3) := by decide +kernel
theorem d_W_calculate_14 : decode c_W_calculate 14 = .ok (.getfield 116, 3) := by decide +kernel
theorem d_W_calculate_17 : decode c_W_calculate 17 = .ok (.invokevirtual 200, 3) := by decide +kernel
theorem d_W_calculate_20 : decode c_W_calculate 20 = .ok (.ireturn, 1) := by decide +kernel
theorem d_W_calculate_21 : decode c_W_calculate 21 = .ok (.aload_n 0, 1) := by decide +kernel
theorem d_W_calculate_22 : decode c_W_calculate 22 = .ok (.getfield 29, 3) := by decide +kernel
theorem d_W_calculate_25 : decode c_W_calculate 25 = .ok (.iconst 0, 1) := by decide +kernel
theorem d_W_calculate_26 : decode c_W_calculate 26 = .ok (.invokevirtual 219, 3) := by decide +kernel
theorem d_W_calculate_29 : decode c_W_calculate 29 = .ok (.iload_n 2, 1) := by decide +kernel
theorem d_W_calculate_30 : decode c_W_calculate 30 = .ok (.if_icmp .ne 7, 3) := by decide +kernel
theorem d_W_calculate_33 : decode c_W_calculate 33 = .ok (.iconst 1, 1) := by decide +kernel
theorem d_W_calculate_34 : decode c_W_calculate 34 = .ok (.goto 4, 3) := by decide +kernel
theorem d_W_calculate_37 : decode c_W_calculate 37 = .ok (.iconst 0, 1) := by decide +kernel
theorem d_W_calculate_38 : decode c_W_calculate 38 = .ok (.istore 4, 2) := by decide +kernel
theorem d_W_calculate_40 : decode c_W_calculate 40 = .ok (.iload_n 1, 1) := by decide +kernel
theorem d_W_calculate_41 : decode c_W_calculate 41 = .ok (.bipush 10, 2) := by decide +kernel
theorem d_W_calculate_43 : decode c_W_calculate 43 = .ok (.if_icmp .ne 12, 3) := by decide +kernel
theorem d_W_calculate_46 : decode c_W_calculate 46 = .ok (.aload_n 0, 1) := by decide +kernel
theorem d_W_calculate_47 : decode c_W_calculate 47 = .ok (.iload 4, 2) := by decide +kernel
theorem d_W_calculate_49 : decode c_W_calculate 49 = .ok (.iconst 1, 1) := by decide +kernel
theorem d_W_calculate_50 : decode c_W_calculate 50 = .ok (.iload_n 3, 1) := by decide +kernel
theorem d_W_calculate_51 : decode c_W_calculate 51 = .ok (.invokevirtual 243, 3) := by decide +kernel
theorem d_W_calculate_54 : decode c_W_calculate 54 = .ok (.ireturn, 1) := by decide +kernel
theorem d_W_calculate_55 : decode c_W_calculate 55 = .ok (.aload_n 0, 1) := by decide +kernel
theorem d_W_calculate_56 : decode c_W_calculate 56 = .ok (.iload 4, 2) := by decide +kernel
theorem d_W_calculate_58 : decode c_W_calculate 58 = .ok (.ifCond .eq 19, 3) := by decide +kernel
theorem d_W_calculate_61 : decode c_W_calculate 61 = .ok (.aload_n 0, 1) := by decide +kernel
theorem d_W_calculate_62 : decode c_W_calculate 62 = .ok (.getfield 29, 3) := by decide +kernel
theorem d_W_calculate_65 : decode c_W_calculate 65 = .ok (.iconst 1, 1) := by decide +kernel
theorem d_W_calculate_66 : decode c_W_calculate 66 = .ok (.invokevirtual 219, 3) := by decide +kernel
theorem d_W_calculate_69 : decode c_W_calculate 69 = .ok (.iload_n 2, 1) := by decide +kernel
theorem d_W_calculate_70 : decode c_W_calculate 70 = .ok (.if_icmp .ne 7, 3) := by decide +kernel
theorem d_W_calculate_73 : decode c_W_calculate 73 = .ok (.iconst 1, 1) := by decide +kernel
theorem d_W_calculate_74 : decode c_W_calculate 74 = .ok (.goto 4, 3) := by decide +kernel
theorem d_W_calculate_77 : decode c_W_calculate 77 = .ok (.iconst 0, 1) := by decide +kernel
theorem d_W_calculate_78 : decode c_W_calculate 78 = .ok (.iconst 2, 1) := by decide +kernel
theorem d_W_calculate_79 : decode c_W_calculate 79 = .ok (.iload_n 1, 1) := by decide +kernel
theorem d_W_calculate_80 : decode c_W_calculate 80 = .ok (.bipush 9, 2) := by decide +kernel
theorem d_W_calculate_82 : decode c_W_calculate 82 = .ok (.if_icmp .ne 7, 3) := by decide +kernel
theorem d_W_calculate_85 : decode c_W_calculate 85 = .ok (.iload_n 2, 1) := by decide +kernel
theorem d_W_calculate_86 : decode c_W_calculate 86 = .ok (.goto 4, 3) := by decide +kernel
theorem d_W_calculate_89 : decode c_W_calculate 89 = .ok (.iconst 1, 1) := by decide +kernel
theorem d_W_calculate_90 : decode c_W_calculate 90 = .ok (.invokevirtual 243, 3) := by decide +kernel
theorem d_W_calculate_93 : decode c_W_calculate 93 = .ok (.ireturn, 1) := by decide +kernel
theorem d_W_decide_0 : decode c_W_decide 0 = .ok (.aload_n 0, 1) := by decide +kernel
theorem d_W_decide_1 : decode c_W_decide 1 = .ok (.getfield 29, 3) := by decide +kernel
theorem d_W_decide_4 : decode c_W_decide 4 = .ok (.iconst 0, 1) := by decide +kernel
theorem d_W_decide_5 : decode c_W_decide 5 = .ok (.invokevirtual 219, 3) := by decide +kernel
theorem d_W_decide_8 : decode c_W_decide 8 = .ok (.istore_n 2, 1) := by decide +kernel
theorem d_W_decide_9 : decode c_W_decide 9 = .ok (.iload_n 1, 1) := by decide +kernel
theorem d_W_decide_10 : decode c_W_decide 10 = .ok (.lookupswitch 99 #[(13, 34), (18, 64), (19, 48)], 34) := by decide +kernel
theorem d_W_decide_44 : decode c_W_decide 44 = .ok (.aload_n 0, 1) := by decide +kernel
theorem d_W_decide_45 : decode c_W_decide 45 = .ok (.aload_n 0, 1) := by decide +kernel
theorem d_W_decide_46 : decode c_W_decide 46 = .ok (.getfield 36, 3) := by decide +kernel
theorem d_W_decide_49 : decode c_W_decide 49 = .ok (.iload_n 2, 1) := by decide +kernel
theorem d_W_decide_50 : decode c_W_decide 50 = .ok (.invokevirtual 247, 3) := by decide +kernel
theorem d_W_decide_53 : decode c_W_decide 53 = .ok (.iconst 1, 1) := by decide +kernel
theorem d_W_decide_54 : decode c_W_decide 54 = .ok (.invokevirtual 236, 3) := by decide +kernel
theorem d_W_decide_57 : decode c_W_decide 57 = .ok (.ireturn, 1) := by decide +kernel
theorem d_W_decide_58 : decode c_W_decide 58 = .ok (.aload_n 0, 1) := by decide +kernel
theorem d_W_decide_59 : decode c_W_decide 59 = .ok (.aload_n 0, 1) := by decide +kernel
theorem d_W_decide_60 : decode c_W_decide 60 = .ok (.getfield 36, 3) := by decide +kernel
theorem d_W_decide_63 : decode c_W_decide 63 = .ok (.iload_n 2, 1) := by decide +kernel
theorem d_W_decide_64 : decode c_W_decide 64 = .ok (.bipush 17, 2) := by decide +kernel
theorem d_W_decide_66 : decode c_W_decide 66 = .ok (.invokevirtual 252, 3) := by decide +kernel
theorem d_W_decide_69 : decode c_W_decide 69 = .ok (.iconst 1, 1) := by decide +kernel
theorem d_W_decide_70 : decode c_W_decide 70 = .ok (.invokevirtual 236, 3) := by decide +kernel
theorem d_W_decide_73 : decode c_W_decide 73 = .ok (.ireturn, 1) := by decide +kernel
theorem d_W_decide_74 : decode c_W_decide 74 = .ok (.aload_n 0, 1) := by decide +kernel
theorem d_W_decide_75 : decode c_W_decide 75 = .ok (.getfield 40, 3) := by decide +kernel
theorem d_W_decide_78 : decode c_W_decide 78 = .ok (.getfield 255, 3) := by decide +kernel
theorem d_W_decide_81 : decode c_W_decide 81 = .ok (.ifCond .ne 7, 3) := by decide +kernel
theorem d_W_decide_84 : decode c_W_decide 84 = .ok (.iconst 0, 1) := by decide +kernel
theorem d_W_decide_85 : decode c_W_decide 85 = .ok (.goto 23, 3) := by decide +kernel
theorem d_W_decide_88 : decode c_W_decide 88 = .ok (.aload_n 0, 1) := by decide +kernel
theorem d_W_decide_89 : decode c_W_decide 89 = .ok (.aload_n 0, 1) := by decide +kernel
theorem d_W_decide_90 : decode c_W_decide 90 = .ok (.getfield 36, 3) := by decide +kernel
theorem d_W_decide_93 : decode c_W_decide 93 = .ok (.iload_n 2, 1) := by decide +kernel
theorem d_W_decide_94 : decode c_W_decide 94 = .ok (.aload_n 0, 1) := by decide +kernel
theorem d_W_decide_95 : decode c_W_decide 95 = .ok (.getfield 40, 3) := by decide +kernel
theorem d_W_decide_98 : decode c_W_decide 98 = .ok (.getfield 255, 3) := by decide +kernel
theorem d_W_decide_101 : decode c_W_decide 101 = .ok (.invokevirtual 252, 3) := by decide +kernel
theorem d_W_decide_104 : decode c_W_decide 104 = .ok (.iconst 1, 1) := by decide +kernel
theorem d_W_decide_105 : decode c_W_decide 105 = .ok (.invokevirtual 236, 3) := by decide +kernel
theorem d_W_decide_108 : decode c_W_decide 108 = .ok (.ireturn, 1) := by decide +kernel
theorem d_W_decide_109 : decode c_W_decide 109 = .ok (.aload_n 0, 1) := by decide +kernel
theorem d_W_decide_110 : decode c_W_decide 110 = .ok (.iload_n 2, 1) := by decide +kernel
theorem d_W_decide_111 : decode c_W_decide 111 = .ok (.iconst 1, 1) := by decide +kernel
theorem d_W_decide_112 : decode c_W_decide 112 = .ok (.if_icmp .ne 7, 3) := by decide +kernel
theorem d_W_decide_115 : decode c_W_decide 115 = .ok (.iconst 1, 1) := by decide +kernel
theorem d_W_decide_116 : decode c_W_decide 116 = .ok (.goto 4, 3) := by decide +kernel
theorem d_W_decide_119 : decode c_W_decide 119 = .ok (.iconst 0, 1) := by decide +kernel
theorem d_W_decide_120 : decode c_W_decide 120 = .ok (.iconst 1, 1) := by decide +kernel
theorem d_W_decide_121 : decode c_W_decide 121 = .ok (.invokevirtual 236, 3) := by decide +kernel
theorem d_W_decide_124 : decode c_W_decide 124 = .ok (.ireturn, 1) := by decide +kernel
theorem d_W_create_0 : decode c_W_create 0 = .ok (.aload_n 0, 1) := by decide +kernel
theorem d_W_create_1 : decode c_W_create 1 = .ok (.getfield 29, 3) := by decide +kernel
theorem d_W_create_4 : decode c_W_create 4 = .ok (.sipush 1000, 3) := by decide +kernel
theorem d_W_create_7 : decode c_W_create 7 = .ok (.iload_n 1, 1) := by decide +kernel
theorem d_W_create_8 : decode c_W_create 8 = .ok (.iadd, 1) := by decide +kernel
theorem d_W_create_9 : decode c_W_create 9 = .ok (.invokevirtual 258, 3) := by decide +kernel
theorem d_W_create_12 : decode c_W_create 12 = .ok (.ifCond .eq 5, 3) := by decide +kernel
theorem d_W_create_15 : decode c_W_create 15 = .ok (.iconst 2, 1) := by decide +kernel
theorem d_W_create_16 : decode c_W_create 16 = .ok (.ireturn, 1) := by decide +kernel
theorem d_W_create_17 : decode c_W_create 17 = .ok (.aload_n 0, 1) := by decide +kernel
theorem d_W_create_18 : decode c_W_create 18 = .ok (.getfield 29, 3) := by decide +kernel
theorem d_W_create_21 : decode c_W_create 21 = .ok (.sipush 1000, 3) := by decide +kernel
theorem d_W_create_24 : decode c_W_create 24 = .ok (.iload_n 1, 1) := by decide +kernel
theorem d_W_create_25 : decode c_W_create 25 = .ok (.iadd, 1) := by decide +kernel
theorem d_W_create_26 : decode c_W_create 26 = .ok (.iconst 0, 1) := by decide +kernel
theorem d_W_create_27 : decode c_W_create 27 = .ok (.invokevirtual 261, 3) := by decide +kernel
theorem d_W_create_30 : decode c_W_create 30 = .ok (.aload_n 0, 1) := by decide +kernel
theorem d_W_create_31 : decode c_W_create 31 = .ok (.getfield 29, 3) := by decide +kernel
theorem d_W_create_34 : decode c_W_create 34 = .ok (.sipush 1000, 3) := by decide +kernel
theorem d_W_create_37 : decode c_W_create 37 = .ok (.iload_n 1, 1) := by decide +kernel
theorem d_W_create_38 : decode c_W_create 38 = .ok (.iadd, 1) := by decide +kernel
theorem d_W_create_39 : decode c_W_create 39 = .ok (.aload_n 0, 1) := by decide +kernel
theorem d_W_create_40 : decode c_W_create 40 = .ok (.getfield 40, 3) := by decide +kernel
theorem d_W_create_43 : decode c_W_create 43 = .ok (.getfield 116, 3) := by decide +kernel
theorem d_W_create_46 : decode c_W_create 46 = .ok (.invokevirtual 200, 3) := by decide +kernel
theorem d_W_create_49 : decode c_W_create 49 = .ok (.ireturn, 1) := by decide +kernel
