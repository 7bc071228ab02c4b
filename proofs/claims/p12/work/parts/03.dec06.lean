theorem d_R_hasRaw_0 : decode c_R_hasRaw 0 = .ok (.iconst 0, 1) := by decide +kernel
theorem d_R_hasRaw_1 : decode c_R_hasRaw 1 = .ok (.istore_n 1, 1) := by decide +kernel
theorem d_R_hasRaw_2 : decode c_R_hasRaw 2 = .ok (.iload_n 1, 1) := by decide +kernel
theorem d_R_hasRaw_3 : decode c_R_hasRaw 3 = .ok (.aload_n 0, 1) := by decide +kernel
theorem d_R_hasRaw_4 : decode c_R_hasRaw 4 = .ok (.getfield 27, 3) := by decide +kernel
theorem d_R_hasRaw_7 : decode c_R_hasRaw 7 = .ok (.if_icmp .ge 23, 3) := by decide +kernel
theorem d_R_hasRaw_10 : decode c_R_hasRaw 10 = .ok (.aload_n 0, 1) := by decide +kernel
theorem d_R_hasRaw_11 : decode c_R_hasRaw 11 = .ok (.getfield 15, 3) := by decide +kernel
theorem d_R_hasRaw_14 : decode c_R_hasRaw 14 = .ok (.iload_n 1, 1) := by decide +kernel
theorem d_R_hasRaw_15 : decode c_R_hasRaw 15 = .ok (.iaload, 1) := by decide +kernel
theorem d_R_hasRaw_16 : decode c_R_hasRaw 16 = .ok (.invokestatic 72, 3) := by decide +kernel
theorem d_R_hasRaw_19 : decode c_R_hasRaw 19 = .ok (.ifCond .eq 5, 3) := by decide +kernel
theorem d_R_hasRaw_22 : decode c_R_hasRaw 22 = .ok (.iconst 1, 1) := by decide +kernel
theorem d_R_hasRaw_23 : decode c_R_hasRaw 23 = .ok (.ireturn, 1) := by decide +kernel
theorem d_R_hasRaw_24 : decode c_R_hasRaw 24 = .ok (.iinc 1 1, 3) := by decide +kernel
theorem d_R_hasRaw_27 : decode c_R_hasRaw 27 = .ok (.goto (-25), 3) := by decide +kernel
theorem d_R_hasRaw_30 : decode c_R_hasRaw 30 = .ok (.aload_n 0, 1) := by decide +kernel
theorem d_R_hasRaw_31 : decode c_R_hasRaw 31 = .ok (.invokevirtual 75, 3) := by decide +kernel
theorem d_R_hasRaw_34 : decode c_R_hasRaw 34 = .ok (.ireturn, 1) := by decide +kernel
theorem d_R_absorb_0 : decode c_R_absorb 0 = .ok (.aload_n 0, 1) := by decide +kernel
theorem d_R_absorb_1 : decode c_R_absorb 1 = .ok (.aload_n 1, 1) := by decide +kernel
theorem d_R_absorb_2 : decode c_R_absorb 2 = .ok (.invokevirtual 79, 3) := by decide +kernel
theorem d_R_absorb_5 : decode c_R_absorb 5 = .ok (.istore_n 3, 1) := by decide +kernel
theorem d_R_absorb_6 : decode c_R_absorb 6 = .ok (.iconst 0, 1) := by decide +kernel
theorem d_R_absorb_7 : decode c_R_absorb 7 = .ok (.istore 4, 2) := by decide +kernel
theorem d_R_absorb_9 : decode c_R_absorb 9 = .ok (.iload 4, 2) := by decide +kernel
theorem d_R_absorb_11 : decode c_R_absorb 11 = .ok (.bipush 12, 2) := by decide +kernel
theorem d_R_absorb_13 : decode c_R_absorb 13 = .ok (.if_icmp .ge 52, 3) := by decide +kernel
theorem d_R_absorb_16 : decode c_R_absorb 16 = .ok (.aload_n 0, 1) := by decide +kernel
theorem d_R_absorb_17 : decode c_R_absorb 17 = .ok (.getfield 9, 3) := by decide +kernel
theorem d_R_absorb_20 : decode c_R_absorb 20 = .ok (.iload 4, 2) := by decide +kernel
theorem d_R_absorb_22 : decode c_R_absorb 22 = .ok (.iaload, 1) := by decide +kernel
theorem d_R_absorb_23 : decode c_R_absorb 23 = .ok (.istore 5, 2) := by decide +kernel
theorem d_R_absorb_25 : decode c_R_absorb 25 = .ok (.aload_n 0, 1) := by decide +kernel
theorem d_R_absorb_26 : decode c_R_absorb 26 = .ok (.getfield 9, 3) := by decide +kernel
theorem d_R_absorb_29 : decode c_R_absorb 29 = .ok (.iload 4, 2) := by decide +kernel
theorem d_R_absorb_31 : decode c_R_absorb 31 = .ok (.aload_n 2, 1) := by decide +kernel
theorem d_R_absorb_32 : decode c_R_absorb 32 = .ok (.iload 5, 2) := by decide +kernel
theorem d_R_absorb_34 : decode c_R_absorb 34 = .ok (.aload_n 1, 1) := by decide +kernel
theorem d_R_absorb_35 : decode c_R_absorb 35 = .ok (.getfield 9, 3) := by decide +kernel
theorem d_R_absorb_38 : decode c_R_absorb 38 = .ok (.iload 4, 2) := by decide +kernel
theorem d_R_absorb_40 : decode c_R_absorb 40 = .ok (.iaload, 1) := by decide +kernel
theorem d_R_absorb_41 : decode c_R_absorb 41 = .ok (.invokevirtual 83, 3) := by decide +kernel
theorem d_R_absorb_44 : decode c_R_absorb 44 = .ok (.iastore, 1) := by decide +kernel
theorem d_R_absorb_45 : decode c_R_absorb 45 = .ok (.aload_n 0, 1) := by decide +kernel
theorem d_R_absorb_46 : decode c_R_absorb 46 = .ok (.getfield 9, 3) := by decide +kernel
theorem d_R_absorb_49 : decode c_R_absorb 49 = .ok (.iload 4, 2) := by decide +kernel
theorem d_R_absorb_51 : decode c_R_absorb 51 = .ok (.iaload, 1) := by decide +kernel
theorem d_R_absorb_52 : decode c_R_absorb 52 = .ok (.iload 5, 2) := by decide +kernel
theorem d_R_absorb_54 : decode c_R_absorb 54 = .ok (.if_icmp .eq 5, 3) := by decide +kernel
theorem d_R_absorb_57 : decode c_R_absorb 57 = .ok (.iconst 1, 1) := by decide +kernel
theorem d_R_absorb_58 : decode c_R_absorb 58 = .ok (.istore_n 3, 1) := by decide +kernel
theorem d_R_absorb_59 : decode c_R_absorb 59 = .ok (.iinc 4 1, 3) := by decide +kernel
theorem d_R_absorb_62 : decode c_R_absorb 62 = .ok (.goto (-53), 3) := by decide +kernel
theorem d_R_absorb_65 : decode c_R_absorb 65 = .ok (.iconst 0, 1) := by decide +kernel
theorem d_R_absorb_66 : decode c_R_absorb 66 = .ok (.istore 4, 2) := by decide +kernel
theorem d_R_absorb_68 : decode c_R_absorb 68 = .ok (.iload 4, 2) := by decide +kernel
theorem d_R_absorb_70 : decode c_R_absorb 70 = .ok (.aload_n 0, 1) := by decide +kernel
theorem d_R_absorb_71 : decode c_R_absorb 71 = .ok (.getfield 27, 3) := by decide +kernel
theorem d_R_absorb_74 : decode c_R_absorb 74 = .ok (.if_icmp .ge 52, 3) := by decide +kernel
theorem d_R_absorb_77 : decode c_R_absorb 77 = .ok (.aload_n 0, 1) := by decide +kernel
theorem d_R_absorb_78 : decode c_R_absorb 78 = .ok (.getfield 15, 3) := by decide +kernel
theorem d_R_absorb_81 : decode c_R_absorb 81 = .ok (.iload 4, 2) := by decide +kernel
theorem d_R_absorb_83 : decode c_R_absorb 83 = .ok (.iaload, 1) := by decide +kernel
theorem d_R_absorb_84 : decode c_R_absorb 84 = .ok (.istore 5, 2) := by decide +kernel
theorem d_R_absorb_86 : decode c_R_absorb 86 = .ok (.aload_n 0, 1) := by decide +kernel
theorem d_R_absorb_87 : decode c_R_absorb 87 = .ok (.getfield 15, 3) := by decide +kernel
theorem d_R_absorb_90 : decode c_R_absorb 90 = .ok (.iload 4, 2) := by decide +kernel
theorem d_R_absorb_92 : decode c_R_absorb 92 = .ok (.aload_n 2, 1) := by decide +kernel
theorem d_R_absorb_93 : decode c_R_absorb 93 = .ok (.iload 5, 2) := by decide +kernel
theorem d_R_absorb_95 : decode c_R_absorb 95 = .ok (.aload_n 1, 1) := by decide +kernel
theorem d_R_absorb_96 : decode c_R_absorb 96 = .ok (.getfield 15, 3) := by decide +kernel
theorem d_R_absorb_99 : decode c_R_absorb 99 = .ok (.iload 4, 2) := by decide +kernel
theorem d_R_absorb_101 : decode c_R_absorb 101 = .ok (.iaload, 1) := by decide +kernel
theorem d_R_absorb_102 : decode c_R_absorb 102 = .ok (.invokevirtual 83, 3) := by decide +kernel
theorem d_R_absorb_105 : decode c_R_absorb 105 = .ok (.iastore, 1) := by decide +kernel
theorem d_R_absorb_106 : decode c_R_absorb 106 = .ok (.aload_n 0, 1) := by decide +kernel
theorem d_R_absorb_107 : decode c_R_absorb 107 = .ok (.getfield 15, 3) := by decide +kernel
theorem d_R_absorb_110 : decode c_R_absorb 110 = .ok (.iload 4, 2) := by decide +kernel
theorem d_R_absorb_112 : decode c_R_absorb 112 = .ok (.iaload, 1) := by decide +kernel
theorem d_R_absorb_113 : decode c_R_absorb 113 = .ok (.iload 5, 2) := by decide +kernel
theorem d_R_absorb_115 : decode c_R_absorb 115 = .ok (.if_icmp .eq 5, 3) := by decide +kernel
theorem d_R_absorb_118 : decode c_R_absorb 118 = .ok (.iconst 1, 1) := by decide +kernel
theorem d_R_absorb_119 : decode c_R_absorb 119 = .ok (.istore_n 3, 1) := by decide +kernel
theorem d_R_absorb_120 : decode c_R_absorb 120 = .ok (.iinc 4 1, 3) := by decide +kernel
theorem d_R_absorb_123 : decode c_R_absorb 123 = .ok (.goto (-55), 3) := by decide +kernel
theorem d_R_absorb_126 : decode c_R_absorb 126 = .ok (.iload_n 3, 1) := by decide +kernel
theorem d_R_absorb_127 : decode c_R_absorb 127 = .ok (.ireturn, 1) := by decide +kernel
theorem d_R_absorbSubs_0 : decode c_R_absorbSubs 0 = .ok (.aload_n 0, 1) := by decide +kernel
theorem d_R_absorbSubs_1 : decode c_R_absorbSubs 1 = .ok (.getfield 31, 3) := by decide +kernel
theorem d_R_absorbSubs_4 : decode c_R_absorbSubs 4 = .ok (.lstore_n 2, 1) := by decide +kernel
theorem d_R_absorbSubs_5 : decode c_R_absorbSubs 5 = .ok (.aload_n 0, 1) := by decide +kernel
theorem d_R_absorbSubs_6 : decode c_R_absorbSubs 6 = .ok (.dup, 1) := by decide +kernel
theorem d_R_absorbSubs_7 : decode c_R_absorbSubs 7 = .ok (.getfield 31, 3) := by decide +kernel
theorem d_R_absorbSubs_10 : decode c_R_absorbSubs 10 = .ok (.aload_n 1, 1) := by decide +kernel
theorem d_R_absorbSubs_11 : decode c_R_absorbSubs 11 = .ok (.getfield 31, 3) := by decide +kernel
theorem d_R_absorbSubs_14 : decode c_R_absorbSubs 14 = .ok (.land, 1) := by decide +kernel
theorem d_R_absorbSubs_15 : decode c_R_absorbSubs 15 = .ok (.putfield 31, 3) := by decide +kernel
theorem d_R_absorbSubs_18 : decode c_R_absorbSubs 18 = .ok (.aload_n 0, 1) := by decide +kernel
theorem d_R_absorbSubs_19 : decode c_R_absorbSubs 19 = .ok (.getfield 31, 3) := by decide +kernel
theorem d_R_absorbSubs_22 : decode c_R_absorbSubs 22 = .ok (.lload_n 2, 1) := by decide +kernel
theorem d_R_absorbSubs_23 : decode c_R_absorbSubs 23 = .ok (.lcmp, 1) := by decide +kernel
theorem d_R_absorbSubs_24 : decode c_R_absorbSubs 24 = .ok (.ifCond .eq 7, 3) := by decide +kernel
theorem d_R_absorbSubs_27 : decode c_R_absorbSubs 27 = .ok (.iconst 1, 1) := by decide +kernel
theorem d_R_absorbSubs_28 : decode c_R_absorbSubs 28 = .ok (.goto 4, 3) := by decide +kernel
theorem d_R_absorbSubs_31 : decode c_R_absorbSubs 31 = .ok (.iconst 0, 1) := by decide +kernel
theorem d_R_absorbSubs_32 : decode c_R_absorbSubs 32 = .ok (.istore 4, 2) := by decide +kernel
theorem d_R_absorbSubs_34 : decode c_R_absorbSubs 34 = .ok (.iconst 0, 1) := by decide +kernel
theorem d_R_absorbSubs_35 : decode c_R_absorbSubs 35 = .ok (.istore 5, 2) := by decide +kernel
theorem d_R_absorbSubs_37 : decode c_R_absorbSubs 37 = .ok (.iload 5, 2) := by decide +kernel
theorem d_R_absorbSubs_39 : decode c_R_absorbSubs 39 = .ok (.bipush 48, 2) := by decide +kernel
theorem d_R_absorbSubs_41 : decode c_R_absorbSubs 41 = .ok (.if_icmp .ge 72, 3) := by decide +kernel
theorem d_R_absorbSubs_44 : decode c_R_absorbSubs 44 = .ok (.lload_n 2, 1) := by decide +kernel
theorem d_R_absorbSubs_45 : decode c_R_absorbSubs 45 = .ok (.iload 5, 2) := by decide +kernel
theorem d_R_absorbSubs_47 : decode c_R_absorbSubs 47 = .ok (.lshr, 1) := by decide +kernel
theorem d_R_absorbSubs_48 : decode c_R_absorbSubs 48 = .ok (.lconst 0, 1) := by decide +kernel
theorem d_R_absorbSubs_49 : decode c_R_absorbSubs 49 = .ok (.lcmp, 1) := by decide +kernel
theorem d_R_absorbSubs_50 : decode c_R_absorbSubs 50 = .ok (.ifCond .eq 63, 3) := by decide +kernel
theorem d_R_absorbSubs_53 : decode c_R_absorbSubs 53 = .ok (.aload_n 0, 1) := by decide +kernel
theorem d_R_absorbSubs_54 : decode c_R_absorbSubs 54 = .ok (.iload 5, 2) := by decide +kernel
theorem d_R_absorbSubs_56 : decode c_R_absorbSubs 56 = .ok (.invokevirtual 69, 3) := by decide +kernel
theorem d_R_absorbSubs_59 : decode c_R_absorbSubs 59 = .ok (.ifCond .eq 21, 3) := by decide +kernel
theorem d_R_absorbSubs_62 : decode c_R_absorbSubs 62 = .ok (.aload_n 0, 1) := by decide +kernel
theorem d_R_absorbSubs_63 : decode c_R_absorbSubs 63 = .ok (.getfield 18, 3) := by decide +kernel
theorem d_R_absorbSubs_66 : decode c_R_absorbSubs 66 = .ok (.iload 5, 2) := by decide +kernel
theorem d_R_absorbSubs_68 : decode c_R_absorbSubs 68 = .ok (.iaload, 1) := by decide +kernel
theorem d_R_absorbSubs_69 : decode c_R_absorbSubs 69 = .ok (.aload_n 1, 1) := by decide +kernel
theorem d_R_absorbSubs_70 : decode c_R_absorbSubs 70 = .ok (.getfield 18, 3) := by decide +kernel
theorem d_R_absorbSubs_73 : decode c_R_absorbSubs 73 = .ok (.iload 5, 2) := by decide +kernel
theorem d_R_absorbSubs_75 : decode c_R_absorbSubs 75 = .ok (.iaload, 1) := by decide +kernel
theorem d_R_absorbSubs_76 : decode c_R_absorbSubs 76 = .ok (.ior, 1) := by decide +kernel
theorem d_R_absorbSubs_77 : decode c_R_absorbSubs 77 = .ok (.goto 4, 3) := by decide +kernel
theorem d_R_absorbSubs_80 : decode c_R_absorbSubs 80 = .ok (.iconst 0, 1) := by decide +kernel
theorem d_R_absorbSubs_81 : decode c_R_absorbSubs 81 = .ok (.istore 6, 2) := by decide +kernel
theorem d_R_absorbSubs_83 : decode c_R_absorbSubs 83 = .ok (.iload 6, 2) := by decide +kernel
theorem d_R_absorbSubs_85 : decode c_R_absorbSubs 85 = .ok (.aload_n 0, 1) := by decide +kernel
theorem d_R_absorbSubs_86 : decode c_R_absorbSubs 86 = .ok (.getfield 18, 3) := by decide +kernel
theorem d_R_absorbSubs_89 : decode c_R_absorbSubs 89 = .ok (.iload 5, 2) := by decide +kernel
theorem d_R_absorbSubs_91 : decode c_R_absorbSubs 91 = .ok (.iaload, 1) := by decide +kernel
theorem d_R_absorbSubs_92 : decode c_R_absorbSubs 92 = .ok (.if_icmp .eq 6, 3) := by decide +kernel
theorem d_R_absorbSubs_95 : decode c_R_absorbSubs 95 = .ok (.iconst 1, 1) := by decide +kernel
theorem d_R_absorbSubs_96 : decode c_R_absorbSubs 96 = .ok (.istore 4, 2) := by decide +kernel
theorem d_R_absorbSubs_98 : decode c_R_absorbSubs 98 = .ok (.aload_n 0, 1) := by decide +kernel
theorem d_R_absorbSubs_99 : decode c_R_absorbSubs 99 = .ok (.getfield 18, 3) := by decide +kernel
theorem d_R_absorbSubs_102 : decode c_R_absorbSubs 102 = .ok (.iload 5, 2) := by decide +kernel
theorem d_R_absorbSubs_104 : decode c_R_absorbSubs 104 = .ok (.iload 6, 2) := by decide +kernel
theorem d_R_absorbSubs_106 : decode c_R_absorbSubs 106 = .ok (.iastore, 1) := by decide +kernel
theorem d_R_absorbSubs_107 : decode c_R_absorbSubs 107 = .ok (.iinc 5 1, 3) := by decide +kernel
theorem d_R_absorbSubs_110 : decode c_R_absorbSubs 110 = .ok (.goto (-73), 3) := by decide +kernel
theorem d_R_absorbSubs_113 : decode c_R_absorbSubs 113 = .ok (.iload 4, 2) := by decide +kernel
theorem d_R_absorbSubs_115 : decode c_R_absorbSubs 115 = .ok (.ireturn, 1) := by decide +kernel
theorem d_R_read_0 : decode c_R_read 0 = .ok (.iload_n 1, 1) := by decide +kernel
theorem d_R_read_1 : decode c_R_read 1 = .ok (.ifCond .lt 16, 3) := by decide +kernel
theorem d_R_read_4 : decode c_R_read 4 = .ok (.iload_n 1, 1) := by decide +kernel
theorem d_R_read_5 : decode c_R_read 5 = .ok (.bipush 12, 2) := by decide +kernel
theorem d_R_read_7 : decode c_R_read 7 = .ok (.if_icmp .ge 10, 3) := by decide +kernel
theorem d_R_read_10 : decode c_R_read 10 = .ok (.aload_n 0, 1) := by decide +kernel
theorem d_R_read_11 : decode c_R_read 11 = .ok (.getfield 9, 3) := by decide +kernel
theorem d_R_read_14 : decode c_R_read 14 = .ok (.iload_n 1, 1) := by decide +kernel
theorem d_R_read_15 : decode c_R_read 15 = .ok (.iaload, 1) := by decide +kernel
theorem d_R_read_16 : decode c_R_read 16 = .ok (.ireturn, 1) := by decide +kernel
theorem d_R_read_17 : decode c_R_read 17 = .ok (.iload_n 1, 1) := by decide +kernel
theorem d_R_read_18 : decode c_R_read 18 = .ok (.bipush 16, 2) := by decide +kernel
theorem d_R_read_20 : decode c_R_read 20 = .ok (.if_icmp .lt 24, 3) := by decide +kernel
theorem d_R_read_23 : decode c_R_read 23 = .ok (.iload_n 1, 1) := by decide +kernel
theorem d_R_read_24 : decode c_R_read 24 = .ok (.bipush 16, 2) := by decide +kernel
theorem d_R_read_26 : decode c_R_read 26 = .ok (.aload_n 0, 1) := by decide +kernel
theorem d_R_read_27 : decode c_R_read 27 = .ok (.getfield 27, 3) := by decide +kernel
theorem d_R_read_30 : decode c_R_read 30 = .ok (.iadd, 1) := by decide +kernel
theorem d_R_read_31 : decode c_R_read 31 = .ok (.if_icmp .ge 13, 3) := by decide +kernel
theorem d_R_read_34 : decode c_R_read 34 = .ok (.aload_n 0, 1) := by decide +kernel
theorem d_R_read_35 : decode c_R_read 35 = .ok (.getfield 15, 3) := by decide +kernel
theorem d_R_read_38 : decode c_R_read 38 = .ok (.iload_n 1, 1) := by decide +kernel
theorem d_R_read_39 : decode c_R_read 39 = .ok (.bipush 16, 2) := by decide +kernel
theorem d_R_read_41 : decode c_R_read 41 = .ok (.isub, 1) := by decide +kernel
theorem d_R_read_42 : decode c_R_read 42 = .ok (.iaload, 1) := by decide +kernel
theorem d_R_read_43 : decode c_R_read 43 = .ok (.ireturn, 1) := by decide +kernel
theorem d_R_read_44 : decode c_R_read 44 = .ok (.iload_n 1, 1) := by decide +kernel
theorem d_R_read_45 : decode c_R_read 45 = .ok (.bipush 32, 2) := by decide +kernel
theorem d_R_read_47 : decode c_R_read 47 = .ok (.if_icmp .ne 8, 3) := by decide +kernel
theorem d_R_read_50 : decode c_R_read 50 = .ok (.aload_n 0, 1) := by decide +kernel
theorem d_R_read_51 : decode c_R_read 51 = .ok (.getfield 27, 3) := by decide +kernel
theorem d_R_read_54 : decode c_R_read 54 = .ok (.ireturn, 1) := by decide +kernel
theorem d_R_read_55 : decode c_R_read 55 = .ok (.iload_n 1, 1) := by decide +kernel
theorem d_R_read_56 : decode c_R_read 56 = .ok (.bipush 33, 2) := by decide +kernel
theorem d_R_read_58 : decode c_R_read 58 = .ok (.if_icmp .ne 11, 3) := by decide +kernel
theorem d_R_read_61 : decode c_R_read 61 = .ok (.aload_n 0, 1) := by decide +kernel
theorem d_R_read_62 : decode c_R_read 62 = .ok (.getfield 31, 3) := by decide +kernel
theorem d_R_read_65 : decode c_R_read 65 = .ok (.invokestatic 89, 3) := by decide +kernel
theorem d_R_read_68 : decode c_R_read 68 = .ok (.ireturn, 1) := by decide +kernel
theorem d_R_read_69 : decode c_R_read 69 = .ok (.iload_n 1, 1) := by decide +kernel
theorem d_R_read_70 : decode c_R_read 70 = .ok (.bipush 34, 2) := by decide +kernel
theorem d_R_read_72 : decode c_R_read 72 = .ok (.if_icmp .lt 18, 3) := by decide +kernel
theorem d_R_read_75 : decode c_R_read 75 = .ok (.iload_n 1, 1) := by decide +kernel
theorem d_R_read_76 : decode c_R_read 76 = .ok (.bipush 40, 2) := by decide +kernel
theorem d_R_read_78 : decode c_R_read 78 = .ok (.if_icmp .ge 12, 3) := by decide +kernel
theorem d_R_read_81 : decode c_R_read 81 = .ok (.aload_n 0, 1) := by decide +kernel
theorem d_R_read_82 : decode c_R_read 82 = .ok (.iload_n 1, 1) := by decide +kernel
theorem d_R_read_83 : decode c_R_read 83 = .ok (.bipush 34, 2) := by decide +kernel
theorem d_R_read_85 : decode c_R_read 85 = .ok (.isub, 1) := by decide +kernel
theorem d_R_read_86 : decode c_R_read 86 = .ok (.invokevirtual 95, 3) := by decide +kernel
theorem d_R_read_89 : decode c_R_read 89 = .ok (.ireturn, 1) := by decide +kernel
theorem d_R_read_90 : decode c_R_read 90 = .ok (.iload_n 1, 1) := by decide +kernel
theorem d_R_read_91 : decode c_R_read 91 = .ok (.bipush 40, 2) := by decide +kernel
theorem d_R_read_93 : decode c_R_read 93 = .ok (.if_icmp .lt 9, 3) := by decide +kernel
theorem d_R_read_96 : decode c_R_read 96 = .ok (.iload_n 1, 1) := by decide +kernel
theorem d_R_read_97 : decode c_R_read 97 = .ok (.bipush 46, 2) := by decide +kernel
theorem d_R_read_99 : decode c_R_read 99 = .ok (.if_icmp .lt 5, 3) := by decide +kernel
theorem d_R_read_102 : decode c_R_read 102 = .ok (.iconst (-1), 1) := by decide +kernel
theorem d_R_read_103 : decode c_R_read 103 = .ok (.ireturn, 1) := by decide +kernel
theorem d_R_read_104 : decode c_R_read 104 = .ok (.aload_n 0, 1) := by decide +kernel
theorem d_R_read_105 : decode c_R_read 105 = .ok (.iload_n 1, 1) := by decide +kernel
theorem d_R_read_106 : decode c_R_read 106 = .ok (.bipush 40, 2) := by decide +kernel
theorem d_R_read_108 : decode c_R_read 108 = .ok (.isub, 1) := by decide +kernel
theorem d_R_read_109 : decode c_R_read 109 = .ok (.invokevirtual 95, 3) := by decide +kernel
theorem d_R_read_112 : decode c_R_read 112 = .ok (.istore_n 2, 1) := by decide +kernel
theorem d_R_read_113 : decode c_R_read 113 = .ok (.iload_n 2, 1) := by decide +kernel
theorem d_R_read_114 : decode c_R_read 114 = .ok (.iconst (-1), 1) := by decide +kernel
theorem d_R_read_115 : decode c_R_read 115 = .ok (.if_icmp .ne 7, 3) := by decide +kernel
theorem d_R_read_118 : decode c_R_read 118 = .ok (.iconst (-1), 1) := by decide +kernel
theorem d_R_read_119 : decode c_R_read 119 = .ok (.goto 9, 3) := by decide +kernel
theorem d_R_read_122 : decode c_R_read 122 = .ok (.aload_n 0, 1) := by decide +kernel
theorem d_R_read_123 : decode c_R_read 123 = .ok (.getfield 18, 3) := by decide +kernel
theorem d_R_read_126 : decode c_R_read 126 = .ok (.iload_n 2, 1) := by decide +kernel
theorem d_R_read_127 : decode c_R_read 127 = .ok (.iaload, 1) := by decide +kernel
theorem d_R_read_128 : decode c_R_read 128 = .ok (.ireturn, 1) := by decide +kernel
theorem d_R_findSub_0 : decode c_R_findSub 0 = .ok (.iconst 0, 1) := by decide +kernel
theorem d_R_findSub_1 : decode c_R_findSub 1 = .ok (.istore_n 2, 1) := by decide +kernel
theorem d_R_findSub_2 : decode c_R_findSub 2 = .ok (.iconst 0, 1) := by decide +kernel
theorem d_R_findSub_3 : decode c_R_findSub 3 = .ok (.istore_n 3, 1) := by decide +kernel
theorem d_R_findSub_4 : decode c_R_findSub 4 = .ok (.iload_n 3, 1) := by decide +kernel
theorem d_R_findSub_5 : decode c_R_findSub 5 = .ok (.bipush 48, 2) := by decide +kernel
theorem d_R_findSub_7 : decode c_R_findSub 7 = .ok (.if_icmp .ge 30, 3) := by decide +kernel
theorem d_R_findSub_10 : decode c_R_findSub 10 = .ok (.aload_n 0, 1) := by decide +kernel
theorem d_R_findSub_11 : decode c_R_findSub 11 = .ok (.iload_n 3, 1) := by decide +kernel
theorem d_R_findSub_12 : decode c_R_findSub 12 = .ok (.invokevirtual 69, 3) := by decide +kernel
theorem d_R_findSub_15 : decode c_R_findSub 15 = .ok (.ifCond .ne 6, 3) := by decide +kernel
theorem d_R_findSub_18 : decode c_R_findSub 18 = .ok (.goto 13, 3) := by decide +kernel
theorem d_R_findSub_21 : decode c_R_findSub 21 = .ok (.iload_n 2, 1) := by decide +kernel
theorem d_R_findSub_22 : decode c_R_findSub 22 = .ok (.iload_n 1, 1) := by decide +kernel
theorem d_R_findSub_23 : decode c_R_findSub 23 = .ok (.if_icmp .ne 5, 3) := by decide +kernel
theorem d_R_findSub_26 : decode c_R_findSub 26 = .ok (.iload_n 3, 1) := by decide +kernel
theorem d_R_findSub_27 : decode c_R_findSub 27 = .ok (.ireturn, 1) := by decide +kernel
theorem d_R_findSub_28 : decode c_R_findSub 28 = .ok (.iinc 2 1, 3) := by decide +kernel
theorem d_R_findSub_31 : decode c_R_findSub 31 = .ok (.iinc 3 1, 3) := by decide +kernel
theorem d_R_findSub_34 : decode c_R_findSub 34 = .ok (.goto (-30), 3) := by decide +kernel
theorem d_R_findSub_37 : decode c_R_findSub 37 = .ok (.iconst (-1), 1) := by decide +kernel
theorem d_R_findSub_38 : decode c_R_findSub 38 = .ok (.ireturn, 1) := by decide +kernel
theorem d_M_init_0 : decode c_M_init 0 = .ok (.aload_n 0, 1) := by decide +kernel
theorem d_M_init_1 : decode c_M_init 1 = .ok (.invokespecial 3, 3) := by decide +kernel
theorem d_M_init_4 : decode c_M_init 4 = .ok (.aload_n 0, 1) := by decide +kernel
theorem d_M_init_5 : decode c_M_init 5 = .ok (.bipush 48, 2) := by decide +kernel
theorem d_M_init_7 : decode c_M_init 7 = .ok (.newarray .int, 2) := by decide +kernel
theorem d_M_init_9 : decode c_M_init 9 = .ok (.putfield 9, 3) := by decide +kernel
theorem d_M_init_12 : decode c_M_init 12 = .ok (.aload_n 0, 1) := by decide +kernel
theorem d_M_init_13 : decode c_M_init 13 = .ok (.bipush 48, 2) := by decide +kernel
theorem d_M_init_15 : decode c_M_init 15 = .ok (.newarray .int, 2) := by decide +kernel
theorem d_M_init_17 : decode c_M_init 17 = .ok (.putfield 15, 3) := by decide +kernel
theorem d_M_init_20 : decode c_M_init 20 = .ok (.aload_n 0, 1) := by decide +kernel
theorem d_M_init_21 : decode c_M_init 21 = .ok (.bipush 48, 2) := by decide +kernel
theorem d_M_init_23 : decode c_M_init 23 = .ok (.newarray .int, 2) := by decide +kernel
theorem d_M_init_25 : decode c_M_init 25 = .ok (.putfield 18, 3) := by decide +kernel
theorem d_M_init_28 : decode c_M_init 28 = .ok (.aload_n 0, 1) := by decide +kernel
theorem d_M_init_29 : decode c_M_init 29 = .ok (.iconst 3, 1) := by decide +kernel
theorem d_M_init_30 : decode c_M_init 30 = .ok (.newarray .int, 2) := by decide +kernel
theorem d_M_init_32 : decode c_M_init 32 = .ok (.putfield 21, 3) := by decide +kernel
theorem d_M_init_35 : decode c_M_init 35 = .ok (.aload_n 0, 1) := by decide +kernel
theorem d_M_init_36 : decode c_M_init 36 = .ok (.iconst 3, 1) := by decide +kernel
theorem d_M_init_37 : decode c_M_init 37 = .ok (.newarray .int, 2) := by decide +kernel
theorem d_M_init_39 : decode c_M_init 39 = .ok (.putfield 24, 3) := by decide +kernel
theorem d_M_init_42 : decode c_M_init 42 = .ok (.aload_n 0, 1) := by decide +kernel
theorem d_M_init_43 : decode c_M_init 43 = .ok (.iconst 3, 1) := by decide +kernel
theorem d_M_init_44 : decode c_M_init 44 = .ok (.newarray .int, 2) := by decide +kernel
theorem d_M_init_46 : decode c_M_init 46 = .ok (.putfield 27, 3) := by decide +kernel
theorem d_M_init_49 : decode c_M_init 49 = .ok (.aload_n 0, 1) := by decide +kernel
theorem d_M_init_50 : decode c_M_init 50 = .ok (.iconst 3, 1) := by decide +kernel
theorem d_M_init_51 : decode c_M_init 51 = .ok (.newarray .int, 2) := by decide +kernel
theorem d_M_init_53 : decode c_M_init 53 = .ok (.putfield 30, 3) := by decide +kernel
theorem d_M_init_56 : decode c_M_init 56 = .ok (.aload_n 0, 1) := by decide +kernel
theorem d_M_init_57 : decode c_M_init 57 = .ok (.bipush 6, 2) := by decide +kernel
theorem d_M_init_59 : decode c_M_init 59 = .ok (.newarray .int, 2) := by decide +kernel
theorem d_M_init_61 : decode c_M_init 61 = .ok (.putfield 33, 3) := by decide +kernel
theorem d_M_init_64 : decode c_M_init 64 = .ok (.return_, 1) := by decide +kernel
theorem d_M_restart_0 : decode c_M_restart 0 = .ok (.aload_n 0, 1) := by decide +kernel
theorem d_M_restart_1 : decode c_M_restart 1 = .ok (.iload_n 1, 1) := by decide +kernel
theorem d_M_restart_2 : decode c_M_restart 2 = .ok (.putfield 36, 3) := by decide +kernel
theorem d_M_restart_5 : decode c_M_restart 5 = .ok (.aload_n 0, 1) := by decide +kernel
theorem d_M_restart_6 : decode c_M_restart 6 = .ok (.iload_n 2, 1) := by decide +kernel
theorem d_M_restart_7 : decode c_M_restart 7 = .ok (.putfield 40, 3) := by decide +kernel
theorem d_M_restart_10 : decode c_M_restart 10 = .ok (.aload_n 0, 1) := by decide +kernel
theorem d_M_restart_11 : decode c_M_restart 11 = .ok (.iload_n 3, 1) := by decide +kernel
theorem d_M_restart_12 : decode c_M_restart 12 = .ok (.putfield 43, 3) := by decide +kernel
theorem d_M_restart_15 : decode c_M_restart 15 = .ok (.aload_n 0, 1) := by decide +kernel
theorem d_M_restart_16 : decode c_M_restart 16 = .ok (.iconst 0, 1) := by decide +kernel
theorem d_M_restart_17 : decode c_M_restart 17 = .ok (.putfield 46, 3) := by decide +kernel
theorem d_M_restart_20 : decode c_M_restart 20 = .ok (.aload_n 0, 1) := by decide +kernel
theorem d_M_restart_21 : decode c_M_restart 21 = .ok (.iconst 0, 1) := by decide +kernel
theorem d_M_restart_22 : decode c_M_restart 22 = .ok (.putfield 49, 3) := by decide +kernel
theorem d_M_restart_25 : decode c_M_restart 25 = .ok (.aload_n 0, 1) := by decide +kernel
theorem d_M_restart_26 : decode c_M_restart 26 = .ok (.iconst 0, 1) := by decide +kernel
theorem d_M_restart_27 : decode c_M_restart 27 = .ok (.putfield 52, 3) := by decide +kernel
theorem d_M_restart_30 : decode c_M_restart 30 = .ok (.return_, 1) := by decide +kernel
theorem d_M_append_0 : decode c_M_append 0 = .ok (.aload_n 0, 1) := by decide +kernel
theorem d_M_append_1 : decode c_M_append 1 = .ok (.aload_n 0, 1) := by decide +kernel
theorem d_M_append_2 : decode c_M_append 2 = .ok (.getfield 46, 3) := by decide +kernel
theorem d_M_append_5 : decode c_M_append 5 = .ok (.iload_n 1, 1) := by decide +kernel
theorem d_M_append_6 : decode c_M_append 6 = .ok (.iload_n 2, 1) := by decide +kernel
theorem d_M_append_7 : decode c_M_append 7 = .ok (.iload_n 3, 1) := by decide +kernel
theorem d_M_append_8 : decode c_M_append 8 = .ok (.invokevirtual 55, 3) := by decide +kernel
theorem d_M_append_11 : decode c_M_append 11 = .ok (.aload_n 0, 1) := by decide +kernel
theorem d_M_append_12 : decode c_M_append 12 = .ok (.dup, 1) := by decide +kernel
theorem d_M_append_13 : decode c_M_append 13 = .ok (.getfield 46, 3) := by decide +kernel
theorem d_M_append_16 : decode c_M_append 16 = .ok (.iconst 1, 1) := by decide +kernel
theorem d_M_append_17 : decode c_M_append 17 = .ok (.iadd, 1) := by decide +kernel
theorem d_M_append_18 : decode c_M_append 18 = .ok (.putfield 46, 3) := by decide +kernel
theorem d_M_append_21 : decode c_M_append 21 = .ok (.aload_n 0, 1) := by decide +kernel
theorem d_M_append_22 : decode c_M_append 22 = .ok (.getfield 46, 3) := by decide +kernel
theorem d_M_append_25 : decode c_M_append 25 = .ok (.iconst 1, 1) := by decide +kernel
theorem d_M_append_26 : decode c_M_append 26 = .ok (.isub, 1) := by decide +kernel
theorem d_M_append_27 : decode c_M_append 27 = .ok (.ireturn, 1) := by decide +kernel
theorem d_M_write_0 : decode c_M_write 0 = .ok (.aload_n 0, 1) := by decide +kernel
theorem d_M_write_1 : decode c_M_write 1 = .ok (.getfield 9, 3) := by decide +kernel
theorem d_M_write_4 : decode c_M_write 4 = .ok (.iload_n 1, 1) := by decide +kernel
theorem d_M_write_5 : decode c_M_write 5 = .ok (.iload_n 2, 1) := by decide +kernel
theorem d_M_write_6 : decode c_M_write 6 = .ok (.iastore, 1) := by decide +kernel
theorem d_M_write_7 : decode c_M_write 7 = .ok (.aload_n 0, 1) := by decide +kernel
theorem d_M_write_8 : decode c_M_write 8 = .ok (.getfield 15, 3) := by decide +kernel
theorem d_M_write_11 : decode c_M_write 11 = .ok (.iload_n 1, 1) := by decide +kernel
theorem d_M_write_12 : decode c_M_write 12 = .ok (.iload_n 3, 1) := by decide +kernel
theorem d_M_write_13 : decode c_M_write 13 = .ok (.iastore, 1) := by decide +kernel
theorem d_M_write_14 : decode c_M_write 14 = .ok (.aload_n 0, 1) := by decide +kernel
theorem d_M_write_15 : decode c_M_write 15 = .ok (.getfield 18, 3) := by decide +kernel
theorem d_M_write_18 : decode c_M_write 18 = .ok (.iload_n 1, 1) := by decide +kernel
theorem d_M_write_19 : decode c_M_write 19 = .ok (.iload 4, 2) := by decide +kernel
theorem d_M_write_21 : decode c_M_write 21 = .ok (.iastore, 1) := by decide +kernel
theorem d_M_write_22 : decode c_M_write 22 = .ok (.return_, 1) := by decide +kernel
theorem d_M_appendArgument_0 : decode c_M_appendArgument 0 = .ok (.aload_n 0, 1) := by decide +kernel
theorem d_M_appendArgument_1 : decode c_M_appendArgument 1 = .ok (.getfield 33, 3) := by decide +kernel
theorem d_M_appendArgument_4 : decode c_M_appendArgument 4 = .ok (.aload_n 0, 1) := by decide +kernel
theorem d_M_appendArgument_5 : decode c_M_appendArgument 5 = .ok (.getfield 52, 3) := by decide +kernel
theorem d_M_appendArgument_8 : decode c_M_appendArgument 8 = .ok (.iload_n 1, 1) := by decide +kernel
theorem d_M_appendArgument_9 : decode c_M_appendArgument 9 = .ok (.iastore, 1) := by decide +kernel
theorem d_M_appendArgument_10 : decode c_M_appendArgument 10 = .ok (.aload_n 0, 1) := by decide +kernel
theorem d_M_appendArgument_11 : decode c_M_appendArgument 11 = .ok (.dup, 1) := by decide +kernel
theorem d_M_appendArgument_12 : decode c_M_appendArgument 12 = .ok (.getfield 52, 3) := by decide +kernel
theorem d_M_appendArgument_15 : decode c_M_appendArgument 15 = .ok (.iconst 1, 1) := by decide +kernel
theorem d_M_appendArgument_16 : decode c_M_appendArgument 16 = .ok (.iadd, 1) := by decide +kernel
theorem d_M_appendArgument_17 : decode c_M_appendArgument 17 = .ok (.putfield 52, 3) := by decide +kernel
theorem d_M_appendArgument_20 : decode c_M_appendArgument 20 = .ok (.aload_n 0, 1) := by decide +kernel
theorem d_M_appendArgument_21 : decode c_M_appendArgument 21 = .ok (.getfield 52, 3) := by decide +kernel
theorem d_M_appendArgument_24 : decode c_M_appendArgument 24 = .ok (.ireturn, 1) := by decide +kernel
theorem d_M_appendHandler_0 : decode c_M_appendHandler 0 = .ok (.aload_n 0, 1) := by decide +kernel
theorem d_M_appendHandler_1 : decode c_M_appendHandler 1 = .ok (.getfield 21, 3) := by decide +kernel
theorem d_M_appendHandler_4 : decode c_M_appendHandler 4 = .ok (.aload_n 0, 1) := by decide +kernel
theorem d_M_appendHandler_5 : decode c_M_appendHandler 5 = .ok (.getfield 49, 3) := by decide +kernel
theorem d_M_appendHandler_8 : decode c_M_appendHandler 8 = .ok (.iload_n 1, 1) := by decide +kernel
theorem d_M_appendHandler_9 : decode c_M_appendHandler 9 = .ok (.iastore, 1) := by decide +kernel
theorem d_M_appendHandler_10 : decode c_M_appendHandler 10 = .ok (.aload_n 0, 1) := by decide +kernel
theorem d_M_appendHandler_11 : decode c_M_appendHandler 11 = .ok (.getfield 24, 3) := by decide +kernel
theorem d_M_appendHandler_14 : decode c_M_appendHandler 14 = .ok (.aload_n 0, 1) := by decide +kernel
theorem d_M_appendHandler_15 : decode c_M_appendHandler 15 = .ok (.getfield 49, 3) := by decide +kernel
theorem d_M_appendHandler_18 : decode c_M_appendHandler 18 = .ok (.iload_n 2, 1) := by decide +kernel
theorem d_M_appendHandler_19 : decode c_M_appendHandler 19 = .ok (.iastore, 1) := by decide +kernel
theorem d_M_appendHandler_20 : decode c_M_appendHandler 20 = .ok (.aload_n 0, 1) := by decide +kernel
theorem d_M_appendHandler_21 : decode c_M_appendHandler 21 = .ok (.getfield 27, 3) := by decide +kernel
theorem d_M_appendHandler_24 : decode c_M_appendHandler 24 = .ok (.aload_n 0, 1) := by decide +kernel
theorem d_M_appendHandler_25 : decode c_M_appendHandler 25 = .ok (.getfield 49, 3) := by decide +kernel
theorem d_M_appendHandler_28 : decode c_M_appendHandler 28 = .ok (.iload_n 3, 1) := by decide +kernel
theorem d_M_appendHandler_29 : decode c_M_appendHandler 29 = .ok (.iastore, 1) := by decide +kernel
theorem d_M_appendHandler_30 : decode c_M_appendHandler 30 = .ok (.aload_n 0, 1) := by decide +kernel
theorem d_M_appendHandler_31 : decode c_M_appendHandler 31 = .ok (.getfield 30, 3) := by decide +kernel
theorem d_M_appendHandler_34 : decode c_M_appendHandler 34 = .ok (.aload_n 0, 1) := by decide +kernel
theorem d_M_appendHandler_35 : decode c_M_appendHandler 35 = .ok (.getfield 49, 3) := by decide +kernel
theorem d_M_appendHandler_38 : decode c_M_appendHandler 38 = .ok (.iload 4, 2) := by decide +kernel
theorem d_M_appendHandler_40 : decode c_M_appendHandler 40 = .ok (.iastore, 1) := by decide +kernel
theorem d_M_appendHandler_41 : decode c_M_appendHandler 41 = .ok (.aload_n 0, 1) := by decide +kernel
theorem d_M_appendHandler_42 : decode c_M_appendHandler 42 = .ok (.dup, 1) := by decide +kernel
theorem d_M_appendHandler_43 : decode c_M_appendHandler 43 = .ok (.getfield 49, 3) := by decide +kernel
theorem d_M_appendHandler_46 : decode c_M_appendHandler 46 = .ok (.iconst 1, 1) := by decide +kernel
theorem d_M_appendHandler_47 : decode c_M_appendHandler 47 = .ok (.iadd, 1) := by decide +kernel
theorem d_M_appendHandler_48 : decode c_M_appendHandler 48 = .ok (.putfield 49, 3) := by decide +kernel
theorem d_M_appendHandler_51 : decode c_M_appendHandler 51 = .ok (.aload_n 0, 1) := by decide +kernel
theorem d_M_appendHandler_52 : decode c_M_appendHandler 52 = .ok (.getfield 49, 3) := by decide +kernel
theorem d_M_appendHandler_55 : decode c_M_appendHandler 55 = .ok (.ireturn, 1) := by decide +kernel
theorem d_M_hasInstruction_0 : decode c_M_hasInstruction 0 = .ok (.iload_n 1, 1) := by decide +kernel
theorem d_M_hasInstruction_1 : decode c_M_hasInstruction 1 = .ok (.ifCond .lt 15, 3) := by decide +kernel
theorem d_M_hasInstruction_4 : decode c_M_hasInstruction 4 = .ok (.iload_n 1, 1) := by decide +kernel
theorem d_M_hasInstruction_5 : decode c_M_hasInstruction 5 = .ok (.aload_n 0, 1) := by decide +kernel
theorem d_M_hasInstruction_6 : decode c_M_hasInstruction 6 = .ok (.getfield 46, 3) := by decide +kernel
theorem d_M_hasInstruction_9 : decode c_M_hasInstruction 9 = .ok (.if_icmp .ge 7, 3) := by decide +kernel
theorem d_M_hasInstruction_12 : decode c_M_hasInstruction 12 = .ok (.iconst 1, 1) := by decide +kernel
theorem d_M_hasInstruction_13 : decode c_M_hasInstruction 13 = .ok (.goto 4, 3) := by decide +kernel
theorem d_M_hasInstruction_16 : decode c_M_hasInstruction 16 = .ok (.iconst 0, 1) := by decide +kernel
theorem d_M_hasInstruction_17 : decode c_M_hasInstruction 17 = .ok (.ireturn, 1) := by decide +kernel
theorem d_M_hasLocal_0 : decode c_M_hasLocal 0 = .ok (.iload_n 1, 1) := by decide +kernel
theorem d_M_hasLocal_1 : decode c_M_hasLocal 1 = .ok (.ifCond .lt 15, 3) := by decide +kernel
theorem d_M_hasLocal_4 : decode c_M_hasLocal 4 = .ok (.iload_n 1, 1) := by decide +kernel
theorem d_M_hasLocal_5 : decode c_M_hasLocal 5 = .ok (.aload_n 0, 1) := by decide +kernel
theorem d_M_hasLocal_6 : decode c_M_hasLocal 6 = .ok (.getfield 40, 3) := by decide +kernel
theorem d_M_hasLocal_9 : decode c_M_hasLocal 9 = .ok (.if_icmp .ge 7, 3) := by decide +kernel
theorem d_M_hasLocal_12 : decode c_M_hasLocal 12 = .ok (.iconst 1, 1) := by decide +kernel
theorem d_M_hasLocal_13 : decode c_M_hasLocal 13 = .ok (.goto 4, 3) := by decide +kernel
theorem d_M_hasLocal_16 : decode c_M_hasLocal 16 = .ok (.iconst 0, 1) := by decide +kernel
theorem d_M_hasLocal_17 : decode c_M_hasLocal 17 = .ok (.ireturn, 1) := by decide +kernel
theorem d_M_covers_0 : decode c_M_covers 0 = .ok (.aload_n 0, 1) := by decide +kernel
theorem d_M_covers_1 : decode c_M_covers 1 = .ok (.getfield 21, 3) := by decide +kernel
theorem d_M_covers_4 : decode c_M_covers 4 = .ok (.iload_n 1, 1) := by decide +kernel
theorem d_M_covers_5 : decode c_M_covers 5 = .ok (.iaload, 1) := by decide +kernel
theorem d_M_covers_6 : decode c_M_covers 6 = .ok (.iload_n 2, 1) := by decide +kernel
theorem d_M_covers_7 : decode c_M_covers 7 = .ok (.if_icmp .gt 17, 3) := by decide +kernel
theorem d_M_covers_10 : decode c_M_covers 10 = .ok (.iload_n 2, 1) := by decide +kernel
theorem d_M_covers_11 : decode c_M_covers 11 = .ok (.aload_n 0, 1) := by decide +kernel
theorem d_M_covers_12 : decode c_M_covers 12 = .ok (.getfield 24, 3) := by decide +kernel
theorem d_M_covers_15 : decode c_M_covers 15 = .ok (.iload_n 1, 1) := by decide +kernel
theorem d_M_covers_16 : decode c_M_covers 16 = .ok (.iaload, 1) := by decide +kernel
theorem d_M_covers_17 : decode c_M_covers 17 = .ok (.if_icmp .ge 7, 3) := by decide +kernel
theorem d_M_covers_20 : decode c_M_covers 20 = .ok (.iconst 1, 1) := by decide +kernel
theorem d_M_covers_21 : decode c_M_covers 21 = .ok (.goto 4, 3) := by decide +kernel
theorem d_M_covers_24 : decode c_M_covers 24 = .ok (.iconst 0, 1) := by decide +kernel
theorem d_M_covers_25 : decode c_M_covers 25 = .ok (.ireturn, 1) := by decide +kernel
theorem d_T_init_0 : decode c_T_init 0 = .ok (.aload_n 0, 1) := by decide +kernel
theorem d_T_init_1 : decode c_T_init 1 = .ok (.invokespecial 3, 3) := by decide +kernel
theorem d_T_init_4 : decode c_T_init 4 = .ok (.aload_n 0, 1) := by decide +kernel
theorem d_T_init_5 : decode c_T_init 5 = .ok (.bipush 10, 2) := by decide +kernel
theorem d_T_init_7 : decode c_T_init 7 = .ok (.newarray .int, 2) := by decide +kernel
theorem d_T_init_9 : decode c_T_init 9 = .ok (.putfield 9, 3) := by decide +kernel
theorem d_T_init_12 : decode c_T_init 12 = .ok (.aload_n 0, 1) := by decide +kernel
theorem d_T_init_13 : decode c_T_init 13 = .ok (.bipush 10, 2) := by decide +kernel
theorem d_T_init_15 : decode c_T_init 15 = .ok (.newarray .boolean, 2) := by decide +kernel
theorem d_T_init_17 : decode c_T_init 17 = .ok (.putfield 15, 3) := by decide +kernel
theorem d_T_init_20 : decode c_T_init 20 = .ok (.aload_n 0, 1) := by decide +kernel
theorem d_T_init_21 : decode c_T_init 21 = .ok (.getfield 9, 3) := by decide +kernel
theorem d_T_init_24 : decode c_T_init 24 = .ok (.iconst 0, 1) := by decide +kernel
theorem d_T_init_25 : decode c_T_init 25 = .ok (.iconst 1, 1) := by decide +kernel
theorem d_T_init_26 : decode c_T_init 26 = .ok (.iastore, 1) := by decide +kernel
theorem d_T_init_27 : decode c_T_init 27 = .ok (.aload_n 0, 1) := by decide +kernel
theorem d_T_init_28 : decode c_T_init 28 = .ok (.getfield 9, 3) := by decide +kernel
theorem d_T_init_31 : decode c_T_init 31 = .ok (.iconst 1, 1) := by decide +kernel
theorem d_T_init_32 : decode c_T_init 32 = .ok (.iconst 3, 1) := by decide +kernel
theorem d_T_init_33 : decode c_T_init 33 = .ok (.iastore, 1) := by decide +kernel
theorem d_T_init_34 : decode c_T_init 34 = .ok (.aload_n 0, 1) := by decide +kernel
theorem d_T_init_35 : decode c_T_init 35 = .ok (.iconst 2, 1) := by decide +kernel
theorem d_T_init_36 : decode c_T_init 36 = .ok (.putfield 19, 3) := by decide +kernel
theorem d_T_init_39 : decode c_T_init 39 = .ok (.return_, 1) := by decide +kernel
theorem d_T_append_0 : decode c_T_append 0 = .ok (.aload_n 0, 1) := by decide +kernel
theorem d_T_append_1 : decode c_T_append 1 = .ok (.getfield 9, 3) := by decide +kernel
theorem d_T_append_4 : decode c_T_append 4 = .ok (.aload_n 0, 1) := by decide +kernel
theorem d_T_append_5 : decode c_T_append 5 = .ok (.getfield 19, 3) := by decide +kernel
theorem d_T_append_8 : decode c_T_append 8 = .ok (.aload_n 0, 1) := by decide +kernel
theorem d_T_append_9 : decode c_T_append 9 = .ok (.getfield 9, 3) := by decide +kernel
theorem d_T_append_12 : decode c_T_append 12 = .ok (.iload_n 1, 1) := by decide +kernel
theorem d_T_append_13 : decode c_T_append 13 = .ok (.iaload, 1) := by decide +kernel
theorem d_T_append_14 : decode c_T_append 14 = .ok (.iconst 1, 1) := by decide +kernel
theorem d_T_append_15 : decode c_T_append 15 = .ok (.aload_n 0, 1) := by decide +kernel
theorem d_T_append_16 : decode c_T_append 16 = .ok (.getfield 19, 3) := by decide +kernel
theorem d_T_append_19 : decode c_T_append 19 = .ok (.ishl, 1) := by decide +kernel
theorem d_T_append_20 : decode c_T_append 20 = .ok (.ior, 1) := by decide +kernel
theorem d_T_append_21 : decode c_T_append 21 = .ok (.iastore, 1) := by decide +kernel
theorem d_T_append_22 : decode c_T_append 22 = .ok (.aload_n 0, 1) := by decide +kernel
theorem d_T_append_23 : decode c_T_append 23 = .ok (.getfield 15, 3) := by decide +kernel
theorem d_T_append_26 : decode c_T_append 26 = .ok (.aload_n 0, 1) := by decide +kernel
theorem d_T_append_27 : decode c_T_append 27 = .ok (.getfield 19, 3) := by decide +kernel
theorem d_T_append_30 : decode c_T_append 30 = .ok (.iload_n 2, 1) := by decide +kernel
theorem d_T_append_31 : decode c_T_append 31 = .ok (.bastore, 1) := by decide +kernel
theorem d_T_append_32 : decode c_T_append 32 = .ok (.aload_n 0, 1) := by decide +kernel
theorem d_T_append_33 : decode c_T_append 33 = .ok (.dup, 1) := by decide +kernel
theorem d_T_append_34 : decode c_T_append 34 = .ok (.getfield 19, 3) := by decide +kernel
theorem d_T_append_37 : decode c_T_append 37 = .ok (.iconst 1, 1) := by decide +kernel
theorem d_T_append_38 : decode c_T_append 38 = .ok (.iadd, 1) := by decide +kernel
theorem d_T_append_39 : decode c_T_append 39 = .ok (.putfield 19, 3) := by decide +kernel
theorem d_T_append_42 : decode c_T_append 42 = .ok (.aload_n 0, 1) := by decide +kernel
theorem d_T_append_43 : decode c_T_append 43 = .ok (.getfield 19, 3) := by decide +kernel
theorem d_T_append_46 : decode c_T_append 46 = .ok (.iconst 1, 1) := by decide +kernel
theorem d_T_append_47 : decode c_T_append 47 = .ok (.isub, 1) := by decide +kernel
theorem d_T_append_48 : decode c_T_append 48 = .ok (.ireturn, 1) := by decide +kernel
theorem d_T_hasClass_0 : decode c_T_hasClass 0 = .ok (.iload_n 1, 1) := by decide +kernel
theorem d_T_hasClass_1 : decode c_T_hasClass 1 = .ok (.ifCond .lt 15, 3) := by decide +kernel
theorem d_T_hasClass_4 : decode c_T_hasClass 4 = .ok (.iload_n 1, 1) := by decide +kernel
theorem d_T_hasClass_5 : decode c_T_hasClass 5 = .ok (.aload_n 0, 1) := by decide +kernel
theorem d_T_hasClass_6 : decode c_T_hasClass 6 = .ok (.getfield 19, 3) := by decide +kernel
theorem d_T_hasClass_9 : decode c_T_hasClass 9 = .ok (.if_icmp .ge 7, 3) := by decide +kernel
theorem d_T_hasClass_12 : decode c_T_hasClass 12 = .ok (.iconst 1, 1) := by decide +kernel
theorem d_T_hasClass_13 : decode c_T_hasClass 13 = .ok (.goto 4, 3) := by decide +kernel
theorem d_T_hasClass_16 : decode c_T_hasClass 16 = .ok (.iconst 0, 1) := by decide +kernel
theorem d_T_hasClass_17 : decode c_T_hasClass 17 = .ok (.ireturn, 1) := by decide +kernel
theorem d_T_isBelow_0 : decode c_T_isBelow 0 = .ok (.aload_n 0, 1) := by decide +kernel
theorem d_T_isBelow_1 : decode c_T_isBelow 1 = .ok (.getfield 9, 3) := by decide +kernel
theorem d_T_isBelow_4 : decode c_T_isBelow 4 = .ok (.iload_n 1, 1) := by decide +kernel
theorem d_T_isBelow_5 : decode c_T_isBelow 5 = .ok (.iaload, 1) := by decide +kernel
theorem d_T_isBelow_6 : decode c_T_isBelow 6 = .ok (.iload_n 2, 1) := by decide +kernel
theorem d_T_isBelow_7 : decode c_T_isBelow 7 = .ok (.ishr, 1) := by decide +kernel
theorem d_T_isBelow_8 : decode c_T_isBelow 8 = .ok (.iconst 1, 1) := by decide +kernel
theorem d_T_isBelow_9 : decode c_T_isBelow 9 = .ok (.iand, 1) := by decide +kernel
theorem d_T_isBelow_10 : decode c_T_isBelow 10 = .ok (.ifCond .eq 7, 3) := by decide +kernel
theorem d_T_isBelow_13 : decode c_T_isBelow 13 = .ok (.iconst 1, 1) := by decide +kernel
theorem d_T_isBelow_14 : decode c_T_isBelow 14 = .ok (.goto 4, 3) := by decide +kernel
theorem d_T_isBelow_17 : decode c_T_isBelow 17 = .ok (.iconst 0, 1) := by decide +kernel
theorem d_T_isBelow_18 : decode c_T_isBelow 18 = .ok (.ireturn, 1) := by decide +kernel
theorem d_T_isRef_0 : decode c_T_isRef 0 = .ok (.iload_n 1, 1) := by decide +kernel
theorem d_T_isRef_1 : decode c_T_isRef 1 = .ok (.bipush 6, 2) := by decide +kernel
theorem d_T_isRef_3 : decode c_T_isRef 3 = .ok (.ishr, 1) := by decide +kernel
theorem d_T_isRef_4 : decode c_T_isRef 4 = .ok (.istore_n 2, 1) := by decide +kernel
theorem d_T_isRef_5 : decode c_T_isRef 5 = .ok (.iload_n 2, 1) := by decide +kernel
theorem d_T_isRef_6 : decode c_T_isRef 6 = .ok (.ifCond .lt 8, 3) := by decide +kernel
theorem d_T_isRef_9 : decode c_T_isRef 9 = .ok (.iload_n 2, 1) := by decide +kernel
theorem d_T_isRef_10 : decode c_T_isRef 10 = .ok (.iconst 3, 1) := by decide +kernel
theorem d_T_isRef_11 : decode c_T_isRef 11 = .ok (.if_icmp .le 5, 3) := by decide +kernel
theorem d_T_isRef_14 : decode c_T_isRef 14 = .ok (.iconst 0, 1) := by decide +kernel
theorem d_T_isRef_15 : decode c_T_isRef 15 = .ok (.ireturn, 1) := by decide +kernel
theorem d_T_isRef_16 : decode c_T_isRef 16 = .ok (.iload_n 1, 1) := by decide +kernel
theorem d_T_isRef_17 : decode c_T_isRef 17 = .ok (.bipush 63, 2) := by decide +kernel
theorem d_T_isRef_19 : decode c_T_isRef 19 = .ok (.iand, 1) := by decide +kernel
theorem d_T_isRef_20 : decode c_T_isRef 20 = .ok (.istore_n 3, 1) := by decide +kernel
theorem d_T_isRef_21 : decode c_T_isRef 21 = .ok (.iload_n 3, 1) := by decide +kernel
theorem d_T_isRef_22 : decode c_T_isRef 22 = .ok (.bipush 12, 2) := by decide +kernel
theorem d_T_isRef_24 : decode c_T_isRef 24 = .ok (.if_icmp .ne 13, 3) := by decide +kernel
theorem d_T_isRef_27 : decode c_T_isRef 27 = .ok (.iload_n 2, 1) := by decide +kernel
theorem d_T_isRef_28 : decode c_T_isRef 28 = .ok (.ifCond .le 7, 3) := by decide +kernel
theorem d_T_isRef_31 : decode c_T_isRef 31 = .ok (.iconst 1, 1) := by decide +kernel
theorem d_T_isRef_32 : decode c_T_isRef 32 = .ok (.goto 4, 3) := by decide +kernel
theorem d_T_isRef_35 : decode c_T_isRef 35 = .ok (.iconst 0, 1) := by decide +kernel
theorem d_T_isRef_36 : decode c_T_isRef 36 = .ok (.ireturn, 1) := by decide +kernel
theorem d_T_isRef_37 : decode c_T_isRef 37 = .ok (.iload_n 3, 1) := by decide +kernel
theorem d_T_isRef_38 : decode c_T_isRef 38 = .ok (.bipush 16, 2) := by decide +kernel
theorem d_T_isRef_40 : decode c_T_isRef 40 = .ok (.if_icmp .lt 18, 3) := by decide +kernel
theorem d_T_isRef_43 : decode c_T_isRef 43 = .ok (.iload_n 3, 1) := by decide +kernel
theorem d_T_isRef_44 : decode c_T_isRef 44 = .ok (.bipush 16, 2) := by decide +kernel
theorem d_T_isRef_46 : decode c_T_isRef 46 = .ok (.aload_n 0, 1) := by decide +kernel
theorem d_T_isRef_47 : decode c_T_isRef 47 = .ok (.getfield 19, 3) := by decide +kernel
theorem d_T_isRef_50 : decode c_T_isRef 50 = .ok (.iadd, 1) := by decide +kernel
theorem d_T_isRef_51 : decode c_T_isRef 51 = .ok (.if_icmp .ge 7, 3) := by decide +kernel
theorem d_T_isRef_54 : decode c_T_isRef 54 = .ok (.iconst 1, 1) := by decide +kernel
theorem d_T_isRef_55 : decode c_T_isRef 55 = .ok (.goto 4, 3) := by decide +kernel
theorem d_T_isRef_58 : decode c_T_isRef 58 = .ok (.iconst 0, 1) := by decide +kernel
theorem d_T_isRef_59 : decode c_T_isRef 59 = .ok (.ireturn, 1) := by decide +kernel
theorem d_T_isRow_0 : decode c_T_isRow 0 = .ok (.iload_n 1, 1) := by decide +kernel
theorem d_T_isRow_1 : decode c_T_isRow 1 = .ok (.bipush 64, 2) := by decide +kernel
theorem d_T_isRow_3 : decode c_T_isRow 3 = .ok (.if_icmp .lt 15, 3) := by decide +kernel
theorem d_T_isRow_6 : decode c_T_isRow 6 = .ok (.aload_n 0, 1) := by decide +kernel
theorem d_T_isRow_7 : decode c_T_isRow 7 = .ok (.iload_n 1, 1) := by decide +kernel
theorem d_T_isRow_8 : decode c_T_isRow 8 = .ok (.invokevirtual 23, 3) := by decide +kernel
theorem d_T_isRow_11 : decode c_T_isRow 11 = .ok (.ifCond .eq 7, 3) := by decide +kernel
theorem d_T_isRow_14 : decode c_T_isRow 14 = .ok (.iconst 1, 1) := by decide +kernel
theorem d_T_isRow_15 : decode c_T_isRow 15 = .ok (.goto 4, 3) := by decide +kernel
theorem d_T_isRow_18 : decode c_T_isRow 18 = .ok (.iconst 0, 1) := by decide +kernel
theorem d_T_isRow_19 : decode c_T_isRow 19 = .ok (.ireturn, 1) := by decide +kernel
theorem d_T_isRefOrNull_0 : decode c_T_isRefOrNull 0 = .ok (.iload_n 1, 1) := by decide +kernel
theorem d_T_isRefOrNull_1 : decode c_T_isRefOrNull 1 = .ok (.iconst 5, 1) := by decide +kernel
theorem d_T_isRefOrNull_2 : decode c_T_isRefOrNull 2 = .ok (.if_icmp .eq 11, 3) := by decide +kernel
theorem d_T_isRefOrNull_5 : decode c_T_isRefOrNull 5 = .ok (.aload_n 0, 1) := by decide +kernel
theorem d_T_isRefOrNull_6 : decode c_T_isRefOrNull 6 = .ok (.iload_n 1, 1) := by decide +kernel
theorem d_T_isRefOrNull_7 : decode c_T_isRefOrNull 7 = .ok (.invokevirtual 23, 3) := by decide +kernel
theorem d_T_isRefOrNull_10 : decode c_T_isRefOrNull 10 = .ok (.ifCond .eq 7, 3) := by decide +kernel
theorem d_T_isRefOrNull_13 : decode c_T_isRefOrNull 13 = .ok (.iconst 1, 1) := by decide +kernel
theorem d_T_isRefOrNull_14 : decode c_T_isRefOrNull 14 = .ok (.goto 4, 3) := by decide +kernel
theorem d_T_isRefOrNull_17 : decode c_T_isRefOrNull 17 = .ok (.iconst 0, 1) := by decide +kernel
theorem d_T_isRefOrNull_18 : decode c_T_isRefOrNull 18 = .ok (.ireturn, 1) := by decide +kernel
theorem d_T_isValue_0 : decode c_T_isValue 0 = .ok (.iload_n 1, 1) := by decide +kernel
theorem d_T_isValue_1 : decode c_T_isValue 1 = .ok (.iconst 1, 1) := by decide +kernel
theorem d_T_isValue_2 : decode c_T_isValue 2 = .ok (.if_icmp .lt 8, 3) := by decide +kernel
theorem d_T_isValue_5 : decode c_T_isValue 5 = .ok (.iload_n 1, 1) := by decide +kernel
theorem d_T_isValue_6 : decode c_T_isValue 6 = .ok (.iconst 4, 1) := by decide +kernel
theorem d_T_isValue_7 : decode c_T_isValue 7 = .ok (.if_icmp .le 11, 3) := by decide +kernel
theorem d_T_isValue_10 : decode c_T_isValue 10 = .ok (.aload_n 0, 1) := by decide +kernel
theorem d_T_isValue_11 : decode c_T_isValue 11 = .ok (.iload_n 1, 1) := by decide +kernel
theorem d_T_isValue_12 : decode c_T_isValue 12 = .ok (.invokevirtual 23, 3) := by decide +kernel
theorem d_T_isValue_15 : decode c_T_isValue 15 = .ok (.ifCond .eq 7, 3) := by decide +kernel
theorem d_T_isValue_18 : decode c_T_isValue 18 = .ok (.iconst 1, 1) := by decide +kernel
theorem d_T_isValue_19 : decode c_T_isValue 19 = .ok (.goto 4, 3) := by decide +kernel
theorem d_T_isValue_22 : decode c_T_isValue 22 = .ok (.iconst 0, 1) := by decide +kernel
theorem d_T_isValue_23 : decode c_T_isValue 23 = .ok (.ireturn, 1) := by decide +kernel
theorem d_T_isPlain_0 : decode c_T_isPlain 0 = .ok (.iload_n 1, 1) := by decide +kernel
theorem d_T_isPlain_1 : decode c_T_isPlain 1 = .ok (.ifCond .lt 8, 3) := by decide +kernel
theorem d_T_isPlain_4 : decode c_T_isPlain 4 = .ok (.iload_n 1, 1) := by decide +kernel
theorem d_T_isPlain_5 : decode c_T_isPlain 5 = .ok (.iconst 5, 1) := by decide +kernel
theorem d_T_isPlain_6 : decode c_T_isPlain 6 = .ok (.if_icmp .le 11, 3) := by decide +kernel
theorem d_T_isPlain_9 : decode c_T_isPlain 9 = .ok (.aload_n 0, 1) := by decide +kernel
theorem d_T_isPlain_10 : decode c_T_isPlain 10 = .ok (.iload_n 1, 1) := by decide +kernel
theorem d_T_isPlain_11 : decode c_T_isPlain 11 = .ok (.invokevirtual 23, 3) := by decide +kernel
theorem d_T_isPlain_14 : decode c_T_isPlain 14 = .ok (.ifCond .eq 7, 3) := by decide +kernel
theorem d_T_isPlain_17 : decode c_T_isPlain 17 = .ok (.iconst 1, 1) := by decide +kernel
theorem d_T_isPlain_18 : decode c_T_isPlain 18 = .ok (.goto 4, 3) := by decide +kernel
theorem d_T_isPlain_21 : decode c_T_isPlain 21 = .ok (.iconst 0, 1) := by decide +kernel
theorem d_T_isPlain_22 : decode c_T_isPlain 22 = .ok (.ireturn, 1) := by decide +kernel
theorem d_T_goesFor_0 : decode c_T_goesFor 0 = .ok (.iload_n 1, 1) := by decide +kernel
theorem d_T_goesFor_1 : decode c_T_goesFor 1 = .ok (.iload_n 2, 1) := by decide +kernel
theorem d_T_goesFor_2 : decode c_T_goesFor 2 = .ok (.if_icmp .ne 5, 3) := by decide +kernel
theorem d_T_goesFor_5 : decode c_T_goesFor 5 = .ok (.iconst 1, 1) := by decide +kernel
theorem d_T_goesFor_6 : decode c_T_goesFor 6 = .ok (.ireturn, 1) := by decide +kernel
theorem d_T_goesFor_7 : decode c_T_goesFor 7 = .ok (.aload_n 0, 1) := by decide +kernel
theorem d_T_goesFor_8 : decode c_T_goesFor 8 = .ok (.iload_n 1, 1) := by decide +kernel
theorem d_T_goesFor_9 : decode c_T_goesFor 9 = .ok (.invokevirtual 27, 3) := by decide +kernel
theorem d_T_goesFor_12 : decode c_T_goesFor 12 = .ok (.ifCond .eq 11, 3) := by decide +kernel
theorem d_T_goesFor_15 : decode c_T_goesFor 15 = .ok (.aload_n 0, 1) := by decide +kernel
theorem d_T_goesFor_16 : decode c_T_goesFor 16 = .ok (.iload_n 2, 1) := by decide +kernel
theorem d_T_goesFor_17 : decode c_T_goesFor 17 = .ok (.invokevirtual 23, 3) := by decide +kernel
theorem d_T_goesFor_20 : decode c_T_goesFor 20 = .ok (.ifCond .ne 5, 3) := by decide +kernel
theorem d_T_goesFor_23 : decode c_T_goesFor 23 = .ok (.iconst 0, 1) := by decide +kernel
theorem d_T_goesFor_24 : decode c_T_goesFor 24 = .ok (.ireturn, 1) := by decide +kernel
theorem d_T_goesFor_25 : decode c_T_goesFor 25 = .ok (.iload_n 1, 1) := by decide +kernel
theorem d_T_goesFor_26 : decode c_T_goesFor 26 = .ok (.iconst 5, 1) := by decide +kernel
theorem d_T_goesFor_27 : decode c_T_goesFor 27 = .ok (.if_icmp .ne 5, 3) := by decide +kernel
theorem d_T_goesFor_30 : decode c_T_goesFor 30 = .ok (.iconst 1, 1) := by decide +kernel
theorem d_T_goesFor_31 : decode c_T_goesFor 31 = .ok (.ireturn, 1) := by decide +kernel
theorem d_T_goesFor_32 : decode c_T_goesFor 32 = .ok (.iload_n 1, 1) := by decide +kernel
theorem d_T_goesFor_33 : decode c_T_goesFor 33 = .ok (.istore_n 3, 1) := by decide +kernel
theorem d_T_goesFor_34 : decode c_T_goesFor 34 = .ok (.iload_n 2, 1) := by decide +kernel
theorem d_T_goesFor_35 : decode c_T_goesFor 35 = .ok (.istore 4, 2) := by decide +kernel
theorem d_T_goesFor_37 : decode c_T_goesFor 37 = .ok (.iconst 0, 1) := by decide +kernel
theorem d_T_goesFor_38 : decode c_T_goesFor 38 = .ok (.istore 5, 2) := by decide +kernel
theorem d_T_goesFor_40 : decode c_T_goesFor 40 = .ok (.iload 5, 2) := by decide +kernel
theorem d_T_goesFor_42 : decode c_T_goesFor 42 = .ok (.iconst 3, 1) := by decide +kernel
theorem d_T_goesFor_43 : decode c_T_goesFor 43 = .ok (.if_icmp .ge 28, 3) := by decide +kernel
theorem d_T_goesFor_46 : decode c_T_goesFor 46 = .ok (.iload_n 3, 1) := by decide +kernel
theorem d_T_goesFor_47 : decode c_T_goesFor 47 = .ok (.bipush 64, 2) := by decide +kernel
theorem d_T_goesFor_49 : decode c_T_goesFor 49 = .ok (.if_icmp .lt 22, 3) := by decide +kernel
theorem d_T_goesFor_52 : decode c_T_goesFor 52 = .ok (.iload 4, 2) := by decide +kernel
theorem d_T_goesFor_54 : decode c_T_goesFor 54 = .ok (.bipush 64, 2) := by decide +kernel
theorem d_T_goesFor_56 : decode c_T_goesFor 56 = .ok (.if_icmp .lt 15, 3) := by decide +kernel
theorem d_T_goesFor_59 : decode c_T_goesFor 59 = .ok (.iinc 3 (-64), 3) := by decide +kernel
theorem d_T_goesFor_62 : decode c_T_goesFor 62 = .ok (.iinc 4 (-64), 3) := by decide +kernel
theorem d_T_goesFor_65 : decode c_T_goesFor 65 = .ok (.iinc 5 1, 3) := by decide +kernel
theorem d_T_goesFor_68 : decode c_T_goesFor 68 = .ok (.goto (-28), 3) := by decide +kernel
theorem d_T_goesFor_71 : decode c_T_goesFor 71 = .ok (.iload_n 3, 1) := by decide +kernel
theorem d_T_goesFor_72 : decode c_T_goesFor 72 = .ok (.bipush 12, 2) := by decide +kernel
theorem d_T_goesFor_74 : decode c_T_goesFor 74 = .ok (.if_icmp .eq 10, 3) := by decide +kernel
theorem d_T_goesFor_77 : decode c_T_goesFor 77 = .ok (.iload 4, 2) := by decide +kernel
theorem d_T_goesFor_79 : decode c_T_goesFor 79 = .ok (.bipush 12, 2) := by decide +kernel
theorem d_T_goesFor_81 : decode c_T_goesFor 81 = .ok (.if_icmp .ne 5, 3) := by decide +kernel
theorem d_T_goesFor_84 : decode c_T_goesFor 84 = .ok (.iconst 0, 1) := by decide +kernel
theorem d_T_goesFor_85 : decode c_T_goesFor 85 = .ok (.ireturn, 1) := by decide +kernel
theorem d_T_goesFor_86 : decode c_T_goesFor 86 = .ok (.iload 4, 2) := by decide +kernel
theorem d_T_goesFor_88 : decode c_T_goesFor 88 = .ok (.bipush 16, 2) := by decide +kernel
theorem d_T_goesFor_90 : decode c_T_goesFor 90 = .ok (.if_icmp .ne 5, 3) := by decide +kernel
theorem d_T_goesFor_93 : decode c_T_goesFor 93 = .ok (.iconst 1, 1) := by decide +kernel
theorem d_T_goesFor_94 : decode c_T_goesFor 94 = .ok (.ireturn, 1) := by decide +kernel
theorem d_T_goesFor_95 : decode c_T_goesFor 95 = .ok (.iload_n 3, 1) := by decide +kernel
theorem d_T_goesFor_96 : decode c_T_goesFor 96 = .ok (.bipush 64, 2) := by decide +kernel
theorem d_T_goesFor_98 : decode c_T_goesFor 98 = .ok (.if_icmp .ge 10, 3) := by decide +kernel
theorem d_T_goesFor_101 : decode c_T_goesFor 101 = .ok (.iload 4, 2) := by decide +kernel
theorem d_T_goesFor_103 : decode c_T_goesFor 103 = .ok (.bipush 64, 2) := by decide +kernel
theorem d_T_goesFor_105 : decode c_T_goesFor 105 = .ok (.if_icmp .lt 5, 3) := by decide +kernel
theorem d_T_goesFor_108 : decode c_T_goesFor 108 = .ok (.iconst 0, 1) := by decide +kernel
theorem d_T_goesFor_109 : decode c_T_goesFor 109 = .ok (.ireturn, 1) := by decide +kernel
theorem d_T_goesFor_110 : decode c_T_goesFor 110 = .ok (.aload_n 0, 1) := by decide +kernel
theorem d_T_goesFor_111 : decode c_T_goesFor 111 = .ok (.getfield 15, 3) := by decide +kernel
theorem d_T_goesFor_114 : decode c_T_goesFor 114 = .ok (.iload 4, 2) := by decide +kernel
theorem d_T_goesFor_116 : decode c_T_goesFor 116 = .ok (.bipush 16, 2) := by decide +kernel
theorem d_T_goesFor_118 : decode c_T_goesFor 118 = .ok (.isub, 1) := by decide +kernel
theorem d_T_goesFor_119 : decode c_T_goesFor 119 = .ok (.baload, 1) := by decide +kernel
theorem d_T_goesFor_120 : decode c_T_goesFor 120 = .ok (.ifCond .ne 19, 3) := by decide +kernel
theorem d_T_goesFor_123 : decode c_T_goesFor 123 = .ok (.aload_n 0, 1) := by decide +kernel
theorem d_T_goesFor_124 : decode c_T_goesFor 124 = .ok (.iload_n 3, 1) := by decide +kernel
theorem d_T_goesFor_125 : decode c_T_goesFor 125 = .ok (.bipush 16, 2) := by decide +kernel
theorem d_T_goesFor_127 : decode c_T_goesFor 127 = .ok (.isub, 1) := by decide +kernel
theorem d_T_goesFor_128 : decode c_T_goesFor 128 = .ok (.iload 4, 2) := by decide +kernel
theorem d_T_goesFor_130 : decode c_T_goesFor 130 = .ok (.bipush 16, 2) := by decide +kernel
theorem d_T_goesFor_132 : decode c_T_goesFor 132 = .ok (.isub, 1) := by decide +kernel
theorem d_T_goesFor_133 : decode c_T_goesFor 133 = .ok (.invokevirtual 30, 3) := by decide +kernel
theorem d_T_goesFor_136 : decode c_T_goesFor 136 = .ok (.ifCond .eq 7, 3) := by decide +kernel
theorem d_T_goesFor_139 : decode c_T_goesFor 139 = .ok (.iconst 1, 1) := by decide +kernel
theorem d_T_goesFor_140 : decode c_T_goesFor 140 = .ok (.goto 4, 3) := by decide +kernel
theorem d_T_goesFor_143 : decode c_T_goesFor 143 = .ok (.iconst 0, 1) := by decide +kernel
theorem d_T_goesFor_144 : decode c_T_goesFor 144 = .ok (.ireturn, 1) := by decide +kernel
theorem d_T_joined_0 : decode c_T_joined 0 = .ok (.iload_n 1, 1) := by decide +kernel
theorem d_T_joined_1 : decode c_T_joined 1 = .ok (.iload_n 2, 1) := by decide +kernel
theorem d_T_joined_2 : decode c_T_joined 2 = .ok (.if_icmp .ne 5, 3) := by decide +kernel
theorem d_T_joined_5 : decode c_T_joined 5 = .ok (.iload_n 1, 1) := by decide +kernel
theorem d_T_joined_6 : decode c_T_joined 6 = .ok (.ireturn, 1) := by decide +kernel
theorem d_T_joined_7 : decode c_T_joined 7 = .ok (.aload_n 0, 1) := by decide +kernel
theorem d_T_joined_8 : decode c_T_joined 8 = .ok (.iload_n 1, 1) := by decide +kernel
theorem d_T_joined_9 : decode c_T_joined 9 = .ok (.invokevirtual 23, 3) := by decide +kernel
theorem d_T_joined_12 : decode c_T_joined 12 = .ok (.istore_n 3, 1) := by decide +kernel
theorem d_T_joined_13 : decode c_T_joined 13 = .ok (.aload_n 0, 1) := by decide +kernel
theorem d_T_joined_14 : decode c_T_joined 14 = .ok (.iload_n 2, 1) := by decide +kernel
theorem d_T_joined_15 : decode c_T_joined 15 = .ok (.invokevirtual 23, 3) := by decide +kernel
theorem d_T_joined_18 : decode c_T_joined 18 = .ok (.istore 4, 2) := by decide +kernel
theorem d_T_joined_20 : decode c_T_joined 20 = .ok (.iload_n 3, 1) := by decide +kernel
theorem d_T_joined_21 : decode c_T_joined 21 = .ok (.ifCond .eq 10, 3) := by decide +kernel
theorem d_T_joined_24 : decode c_T_joined 24 = .ok (.iload_n 2, 1) := by decide +kernel
theorem d_T_joined_25 : decode c_T_joined 25 = .ok (.iconst 5, 1) := by decide +kernel
theorem d_T_joined_26 : decode c_T_joined 26 = .ok (.if_icmp .ne 5, 3) := by decide +kernel
theorem d_T_joined_29 : decode c_T_joined 29 = .ok (.iload_n 1, 1) := by decide +kernel
theorem d_T_joined_30 : decode c_T_joined 30 = .ok (.ireturn, 1) := by decide +kernel
theorem d_T_joined_31 : decode c_T_joined 31 = .ok (.iload 4, 2) := by decide +kernel
theorem d_T_joined_33 : decode c_T_joined 33 = .ok (.ifCond .eq 10, 3) := by decide +kernel
theorem d_T_joined_36 : decode c_T_joined 36 = .ok (.iload_n 1, 1) := by decide +kernel
theorem d_T_joined_37 : decode c_T_joined 37 = .ok (.iconst 5, 1) := by decide +kernel
theorem d_T_joined_38 : decode c_T_joined 38 = .ok (.if_icmp .ne 5, 3) := by decide +kernel
theorem d_T_joined_41 : decode c_T_joined 41 = .ok (.iload_n 2, 1) := by decide +kernel
theorem d_T_joined_42 : decode c_T_joined 42 = .ok (.ireturn, 1) := by decide +kernel
theorem d_T_joined_43 : decode c_T_joined 43 = .ok (.iload_n 3, 1) := by decide +kernel
theorem d_T_joined_44 : decode c_T_joined 44 = .ok (.ifCond .eq 8, 3) := by decide +kernel
theorem d_T_joined_47 : decode c_T_joined 47 = .ok (.iload 4, 2) := by decide +kernel
theorem d_T_joined_49 : decode c_T_joined 49 = .ok (.ifCond .ne 5, 3) := by decide +kernel
theorem d_T_joined_52 : decode c_T_joined 52 = .ok (.iconst 0, 1) := by decide +kernel
theorem d_T_joined_53 : decode c_T_joined 53 = .ok (.ireturn, 1) := by decide +kernel
theorem d_T_joined_54 : decode c_T_joined 54 = .ok (.iload_n 1, 1) := by decide +kernel
theorem d_T_joined_55 : decode c_T_joined 55 = .ok (.bipush 6, 2) := by decide +kernel
theorem d_T_joined_57 : decode c_T_joined 57 = .ok (.ishr, 1) := by decide +kernel
theorem d_T_joined_58 : decode c_T_joined 58 = .ok (.istore 5, 2) := by decide +kernel
theorem d_T_joined_60 : decode c_T_joined 60 = .ok (.iload_n 2, 1) := by decide +kernel
theorem d_T_joined_61 : decode c_T_joined 61 = .ok (.bipush 6, 2) := by decide +kernel
theorem d_T_joined_63 : decode c_T_joined 63 = .ok (.ishr, 1) := by decide +kernel
theorem d_T_joined_64 : decode c_T_joined 64 = .ok (.istore 6, 2) := by decide +kernel
theorem d_T_joined_66 : decode c_T_joined 66 = .ok (.iload 5, 2) := by decide +kernel
theorem d_T_joined_68 : decode c_T_joined 68 = .ok (.iload 6, 2) := by decide +kernel
theorem d_T_joined_70 : decode c_T_joined 70 = .ok (.if_icmp .ge 8, 3) := by decide +kernel
theorem d_T_joined_73 : decode c_T_joined 73 = .ok (.iload 5, 2) := by decide +kernel
theorem d_T_joined_75 : decode c_T_joined 75 = .ok (.goto 5, 3) := by decide +kernel
theorem d_T_joined_78 : decode c_T_joined 78 = .ok (.iload 6, 2) := by decide +kernel
theorem d_T_joined_80 : decode c_T_joined 80 = .ok (.istore 7, 2) := by decide +kernel
theorem d_T_joined_82 : decode c_T_joined 82 = .ok (.iload_n 1, 1) := by decide +kernel
theorem d_T_joined_83 : decode c_T_joined 83 = .ok (.bipush 64, 2) := by decide +kernel
theorem d_T_joined_85 : decode c_T_joined 85 = .ok (.iload 7, 2) := by decide +kernel
theorem d_T_joined_87 : decode c_T_joined 87 = .ok (.imul, 1) := by decide +kernel
theorem d_T_joined_88 : decode c_T_joined 88 = .ok (.isub, 1) := by decide +kernel
theorem d_T_joined_89 : decode c_T_joined 89 = .ok (.bipush 12, 2) := by decide +kernel
theorem d_T_joined_91 : decode c_T_joined 91 = .ok (.if_icmp .eq 15, 3) := by decide +kernel
theorem d_T_joined_94 : decode c_T_joined 94 = .ok (.iload_n 2, 1) := by decide +kernel
theorem d_T_joined_95 : decode c_T_joined 95 = .ok (.bipush 64, 2) := by decide +kernel
theorem d_T_joined_97 : decode c_T_joined 97 = .ok (.iload 7, 2) := by decide +kernel
theorem d_T_joined_99 : decode c_T_joined 99 = .ok (.imul, 1) := by decide +kernel
theorem d_T_joined_100 : decode c_T_joined 100 = .ok (.isub, 1) := by decide +kernel
theorem d_T_joined_101 : decode c_T_joined 101 = .ok (.bipush 12, 2) := by decide +kernel
theorem d_T_joined_103 : decode c_T_joined 103 = .ok (.if_icmp .ne 14, 3) := by decide +kernel
theorem d_T_joined_106 : decode c_T_joined 106 = .ok (.bipush 64, 2) := by decide +kernel
theorem d_T_joined_108 : decode c_T_joined 108 = .ok (.iload 7, 2) := by decide +kernel
theorem d_T_joined_110 : decode c_T_joined 110 = .ok (.iconst 1, 1) := by decide +kernel
theorem d_T_joined_111 : decode c_T_joined 111 = .ok (.isub, 1) := by decide +kernel
theorem d_T_joined_112 : decode c_T_joined 112 = .ok (.imul, 1) := by decide +kernel
theorem d_T_joined_113 : decode c_T_joined 113 = .ok (.bipush 16, 2) := by decide +kernel
theorem d_T_joined_115 : decode c_T_joined 115 = .ok (.iadd, 1) := by decide +kernel
theorem d_T_joined_116 : decode c_T_joined 116 = .ok (.ireturn, 1) := by decide +kernel
theorem d_T_joined_117 : decode c_T_joined 117 = .ok (.iload 5, 2) := by decide +kernel
theorem d_T_joined_119 : decode c_T_joined 119 = .ok (.iload 6, 2) := by decide +kernel
theorem d_T_joined_121 : decode c_T_joined 121 = .ok (.if_icmp .eq 12, 3) := by decide +kernel
theorem d_T_joined_124 : decode c_T_joined 124 = .ok (.bipush 64, 2) := by decide +kernel
theorem d_T_joined_126 : decode c_T_joined 126 = .ok (.iload 7, 2) := by decide +kernel
theorem d_T_joined_128 : decode c_T_joined 128 = .ok (.imul, 1) := by decide +kernel
theorem d_T_joined_129 : decode c_T_joined 129 = .ok (.bipush 16, 2) := by decide +kernel
theorem d_T_joined_131 : decode c_T_joined 131 = .ok (.iadd, 1) := by decide +kernel
theorem d_T_joined_132 : decode c_T_joined 132 = .ok (.ireturn, 1) := by decide +kernel
theorem d_T_joined_133 : decode c_T_joined 133 = .ok (.bipush 64, 2) := by decide +kernel
theorem d_T_joined_135 : decode c_T_joined 135 = .ok (.iload 7, 2) := by decide +kernel
theorem d_T_joined_137 : decode c_T_joined 137 = .ok (.imul, 1) := by decide +kernel
theorem d_T_joined_138 : decode c_T_joined 138 = .ok (.aload_n 0, 1) := by decide +kernel
theorem d_T_joined_139 : decode c_T_joined 139 = .ok (.iload_n 1, 1) := by decide +kernel
theorem d_T_joined_140 : decode c_T_joined 140 = .ok (.bipush 64, 2) := by decide +kernel
theorem d_T_joined_142 : decode c_T_joined 142 = .ok (.iload 7, 2) := by decide +kernel
theorem d_T_joined_144 : decode c_T_joined 144 = .ok (.imul, 1) := by decide +kernel
theorem d_T_joined_145 : decode c_T_joined 145 = .ok (.isub, 1) := by decide +kernel
theorem d_T_joined_146 : decode c_T_joined 146 = .ok (.iload_n 2, 1) := by decide +kernel
theorem d_T_joined_147 : decode c_T_joined 147 = .ok (.bipush 64, 2) := by decide +kernel
theorem d_T_joined_149 : decode c_T_joined 149 = .ok (.iload 7, 2) := by decide +kernel
theorem d_T_joined_151 : decode c_T_joined 151 = .ok (.imul, 1) := by decide +kernel
theorem d_T_joined_152 : decode c_T_joined 152 = .ok (.isub, 1) := by decide +kernel
theorem d_T_joined_153 : decode c_T_joined 153 = .ok (.invokevirtual 34, 3) := by decide +kernel
theorem d_T_joined_156 : decode c_T_joined 156 = .ok (.iadd, 1) := by decide +kernel
theorem d_T_joined_157 : decode c_T_joined 157 = .ok (.ireturn, 1) := by decide +kernel
theorem d_T_joinedClasses_0 : decode c_T_joinedClasses 0 = .ok (.aload_n 0, 1) := by decide +kernel
theorem d_T_joinedClasses_1 : decode c_T_joinedClasses 1 = .ok (.getfield 15, 3) := by decide +kernel
theorem d_T_joinedClasses_4 : decode c_T_joinedClasses 4 = .ok (.iload_n 1, 1) := by decide +kernel
theorem d_T_joinedClasses_5 : decode c_T_joinedClasses 5 = .ok (.bipush 16, 2) := by decide +kernel
theorem d_T_joinedClasses_7 : decode c_T_joinedClasses 7 = .ok (.isub, 1) := by decide +kernel
theorem d_T_joinedClasses_8 : decode c_T_joinedClasses 8 = .ok (.baload, 1) := by decide +kernel
theorem d_T_joinedClasses_9 : decode c_T_joinedClasses 9 = .ok (.ifCond .ne 15, 3) := by decide +kernel
theorem d_T_joinedClasses_12 : decode c_T_joinedClasses 12 = .ok (.aload_n 0, 1) := by decide +kernel
theorem d_T_joinedClasses_13 : decode c_T_joinedClasses 13 = .ok (.getfield 15, 3) := by decide +kernel
theorem d_T_joinedClasses_16 : decode c_T_joinedClasses 16 = .ok (.iload_n 2, 1) := by decide +kernel
theorem d_T_joinedClasses_17 : decode c_T_joinedClasses 17 = .ok (.bipush 16, 2) := by decide +kernel
theorem d_T_joinedClasses_19 : decode c_T_joinedClasses 19 = .ok (.isub, 1) := by decide +kernel
theorem d_T_joinedClasses_20 : decode c_T_joinedClasses 20 = .ok (.baload, 1) := by decide +kernel
theorem d_T_joinedClasses_21 : decode c_T_joinedClasses 21 = .ok (.ifCond .eq 6, 3) := by decide +kernel
theorem d_T_joinedClasses_24 : decode c_T_joinedClasses 24 = .ok (.bipush 16, 2) := by decide +kernel
theorem d_T_joinedClasses_26 : decode c_T_joinedClasses 26 = .ok (.ireturn, 1) := by decide +kernel
theorem d_T_joinedClasses_27 : decode c_T_joinedClasses 27 = .ok (.aload_n 0, 1) := by decide +kernel
theorem d_T_joinedClasses_28 : decode c_T_joinedClasses 28 = .ok (.getfield 9, 3) := by decide +kernel
theorem d_T_joinedClasses_31 : decode c_T_joinedClasses 31 = .ok (.iload_n 1, 1) := by decide +kernel
theorem d_T_joinedClasses_32 : decode c_T_joinedClasses 32 = .ok (.bipush 16, 2) := by decide +kernel
theorem d_T_joinedClasses_34 : decode c_T_joinedClasses 34 = .ok (.isub, 1) := by decide +kernel
theorem d_T_joinedClasses_35 : decode c_T_joinedClasses 35 = .ok (.iaload, 1) := by decide +kernel
theorem d_T_joinedClasses_36 : decode c_T_joinedClasses 36 = .ok (.aload_n 0, 1) := by decide +kernel
theorem d_T_joinedClasses_37 : decode c_T_joinedClasses 37 = .ok (.getfield 9, 3) := by decide +kernel
theorem d_T_joinedClasses_40 : decode c_T_joinedClasses 40 = .ok (.iload_n 2, 1) := by decide +kernel
theorem d_T_joinedClasses_41 : decode c_T_joinedClasses 41 = .ok (.bipush 16, 2) := by decide +kernel
theorem d_T_joinedClasses_43 : decode c_T_joinedClasses 43 = .ok (.isub, 1) := by decide +kernel
theorem d_T_joinedClasses_44 : decode c_T_joinedClasses 44 = .ok (.iaload, 1) := by decide +kernel
theorem d_T_joinedClasses_45 : decode c_T_joinedClasses 45 = .ok (.iand, 1) := by decide +kernel
theorem d_T_joinedClasses_46 : decode c_T_joinedClasses 46 = .ok (.istore_n 3, 1) := by decide +kernel
theorem d_T_joinedClasses_47 : decode c_T_joinedClasses 47 = .ok (.iload_n 1, 1) := by decide +kernel
theorem d_T_joinedClasses_48 : decode c_T_joinedClasses 48 = .ok (.bipush 16, 2) := by decide +kernel
theorem d_T_joinedClasses_50 : decode c_T_joinedClasses 50 = .ok (.isub, 1) := by decide +kernel
theorem d_T_joinedClasses_51 : decode c_T_joinedClasses 51 = .ok (.istore 4, 2) := by decide +kernel
theorem d_T_joinedClasses_53 : decode c_T_joinedClasses 53 = .ok (.iload 4, 2) := by decide +kernel
theorem d_T_joinedClasses_55 : decode c_T_joinedClasses 55 = .ok (.ifCond .le 24, 3) := by decide +kernel
theorem d_T_joinedClasses_58 : decode c_T_joinedClasses 58 = .ok (.iload_n 3, 1) := by decide +kernel
theorem d_T_joinedClasses_59 : decode c_T_joinedClasses 59 = .ok (.iload 4, 2) := by decide +kernel
theorem d_T_joinedClasses_61 : decode c_T_joinedClasses 61 = .ok (.ishr, 1) := by decide +kernel
theorem d_T_joinedClasses_62 : decode c_T_joinedClasses 62 = .ok (.iconst 1, 1) := by decide +kernel
theorem d_T_joinedClasses_63 : decode c_T_joinedClasses 63 = .ok (.iand, 1) := by decide +kernel
theorem d_T_joinedClasses_64 : decode c_T_joinedClasses 64 = .ok (.ifCond .eq 9, 3) := by decide +kernel
theorem d_T_joinedClasses_67 : decode c_T_joinedClasses 67 = .ok (.bipush 16, 2) := by decide +kernel
theorem d_T_joinedClasses_69 : decode c_T_joinedClasses 69 = .ok (.iload 4, 2) := by decide +kernel
theorem d_T_joinedClasses_71 : decode c_T_joinedClasses 71 = .ok (.iadd, 1) := by decide +kernel
theorem d_T_joinedClasses_72 : decode c_T_joinedClasses 72 = .ok (.ireturn, 1) := by decide +kernel
theorem d_T_joinedClasses_73 : decode c_T_joinedClasses 73 = .ok (.iinc 4 (-1), 3) := by decide +kernel
theorem d_T_joinedClasses_76 : decode c_T_joinedClasses 76 = .ok (.goto (-23), 3) := by decide +kernel
theorem d_T_joinedClasses_79 : decode c_T_joinedClasses 79 = .ok (.bipush 16, 2) := by decide +kernel
theorem d_T_joinedClasses_81 : decode c_T_joinedClasses 81 = .ok (.ireturn, 1) := by decide +kernel
theorem d_JL_bitCount_0 : decode c_JL_bitCount 0 = .ok (.lload_n 0, 1) := by decide +kernel
theorem d_JL_bitCount_1 : decode c_JL_bitCount 1 = .ok (.lload_n 0, 1) := by decide +kernel
theorem d_JL_bitCount_2 : decode c_JL_bitCount 2 = .ok (.iconst 1, 1) := by decide +kernel
theorem d_JL_bitCount_3 : decode c_JL_bitCount 3 = .ok (.lushr, 1) := by decide +kernel
theorem d_JL_bitCount_4 : decode c_JL_bitCount 4 = .ok (.ldc2_w 314, 3) := by decide +kernel
theorem d_JL_bitCount_7 : decode c_JL_bitCount 7 = .ok (.land, 1) := by decide +kernel
theorem d_JL_bitCount_8 : decode c_JL_bitCount 8 = .ok (.lsub, 1) := by decide +kernel
theorem d_JL_bitCount_9 : decode c_JL_bitCount 9 = .ok (.lstore_n 0, 1) := by decide +kernel
theorem d_JL_bitCount_10 : decode c_JL_bitCount 10 = .ok (.lload_n 0, 1) := by decide +kernel
theorem d_JL_bitCount_11 : decode c_JL_bitCount 11 = .ok (.ldc2_w 316, 3) := by decide +kernel
theorem d_JL_bitCount_14 : decode c_JL_bitCount 14 = .ok (.land, 1) := by decide +kernel
theorem d_JL_bitCount_15 : decode c_JL_bitCount 15 = .ok (.lload_n 0, 1) := by decide +kernel
theorem d_JL_bitCount_16 : decode c_JL_bitCount 16 = .ok (.iconst 2, 1) := by decide +kernel
theorem d_JL_bitCount_17 : decode c_JL_bitCount 17 = .ok (.lushr, 1) := by decide +kernel
theorem d_JL_bitCount_18 : decode c_JL_bitCount 18 = .ok (.ldc2_w 316, 3) := by decide +kernel
theorem d_JL_bitCount_21 : decode c_JL_bitCount 21 = .ok (.land, 1) := by decide +kernel
theorem d_JL_bitCount_22 : decode c_JL_bitCount 22 = .ok (.ladd, 1) := by decide +kernel
theorem d_JL_bitCount_23 : decode c_JL_bitCount 23 = .ok (.lstore_n 0, 1) := by decide +kernel
theorem d_JL_bitCount_24 : decode c_JL_bitCount 24 = .ok (.lload_n 0, 1) := by decide +kernel
theorem d_JL_bitCount_25 : decode c_JL_bitCount 25 = .ok (.lload_n 0, 1) := by decide +kernel
theorem d_JL_bitCount_26 : decode c_JL_bitCount 26 = .ok (.iconst 4, 1) := by decide +kernel
theorem d_JL_bitCount_27 : decode c_JL_bitCount 27 = .ok (.lushr, 1) := by decide +kernel
theorem d_JL_bitCount_28 : decode c_JL_bitCount 28 = .ok (.ladd, 1) := by decide +kernel
theorem d_JL_bitCount_29 : decode c_JL_bitCount 29 = .ok (.ldc2_w 318, 3) := by decide +kernel
theorem d_JL_bitCount_32 : decode c_JL_bitCount 32 = .ok (.land, 1) := by decide +kernel
theorem d_JL_bitCount_33 : decode c_JL_bitCount 33 = .ok (.lstore_n 0, 1) := by decide +kernel
theorem d_JL_bitCount_34 : decode c_JL_bitCount 34 = .ok (.lload_n 0, 1) := by decide +kernel
theorem d_JL_bitCount_35 : decode c_JL_bitCount 35 = .ok (.lload_n 0, 1) := by decide +kernel
theorem d_JL_bitCount_36 : decode c_JL_bitCount 36 = .ok (.bipush 8, 2) := by decide +kernel
theorem d_JL_bitCount_38 : decode c_JL_bitCount 38 = .ok (.lushr, 1) := by decide +kernel
theorem d_JL_bitCount_39 : decode c_JL_bitCount 39 = .ok (.ladd, 1) := by decide +kernel
theorem d_JL_bitCount_40 : decode c_JL_bitCount 40 = .ok (.lstore_n 0, 1) := by decide +kernel
theorem d_JL_bitCount_41 : decode c_JL_bitCount 41 = .ok (.lload_n 0, 1) := by decide +kernel
theorem d_JL_bitCount_42 : decode c_JL_bitCount 42 = .ok (.lload_n 0, 1) := by decide +kernel
theorem d_JL_bitCount_43 : decode c_JL_bitCount 43 = .ok (.bipush 16, 2) := by decide +kernel
theorem d_JL_bitCount_45 : decode c_JL_bitCount 45 = .ok (.lushr, 1) := by decide +kernel
theorem d_JL_bitCount_46 : decode c_JL_bitCount 46 = .ok (.ladd, 1) := by decide +kernel
theorem d_JL_bitCount_47 : decode c_JL_bitCount 47 = .ok (.lstore_n 0, 1) := by decide +kernel
theorem d_JL_bitCount_48 : decode c_JL_bitCount 48 = .ok (.lload_n 0, 1) := by decide +kernel
theorem d_JL_bitCount_49 : decode c_JL_bitCount 49 = .ok (.lload_n 0, 1) := by decide +kernel
theorem d_JL_bitCount_50 : decode c_JL_bitCount 50 = .ok (.bipush 32, 2) := by decide +kernel
theorem d_JL_bitCount_52 : decode c_JL_bitCount 52 = .ok (.lushr, 1) := by decide +kernel
theorem d_JL_bitCount_53 : decode c_JL_bitCount 53 = .ok (.ladd, 1) := by decide +kernel
theorem d_JL_bitCount_54 : decode c_JL_bitCount 54 = .ok (.lstore_n 0, 1) := by decide +kernel
theorem d_JL_bitCount_55 : decode c_JL_bitCount 55 = .ok (.lload_n 0, 1) := by decide +kernel
theorem d_JL_bitCount_56 : decode c_JL_bitCount 56 = .ok (.l2i, 1) := by decide +kernel
theorem d_JL_bitCount_57 : decode c_JL_bitCount 57 = .ok (.bipush 127, 2) := by decide +kernel
theorem d_JL_bitCount_59 : decode c_JL_bitCount 59 = .ok (.iand, 1) := by decide +kernel
theorem d_JL_bitCount_60 : decode c_JL_bitCount 60 = .ok (.ireturn, 1) := by decide +kernel
theorem d_JA_fillI_0 : decode c_JA_fillI 0 = .ok (.iconst 0, 1) := by decide +kernel
theorem d_JA_fillI_1 : decode c_JA_fillI 1 = .ok (.istore_n 2, 1) := by decide +kernel
theorem d_JA_fillI_2 : decode c_JA_fillI 2 = .ok (.aload_n 0, 1) := by decide +kernel
theorem d_JA_fillI_3 : decode c_JA_fillI 3 = .ok (.arraylength, 1) := by decide +kernel
theorem d_JA_fillI_4 : decode c_JA_fillI 4 = .ok (.istore_n 3, 1) := by decide +kernel
theorem d_JA_fillI_5 : decode c_JA_fillI 5 = .ok (.iload_n 2, 1) := by decide +kernel
theorem d_JA_fillI_6 : decode c_JA_fillI 6 = .ok (.iload_n 3, 1) := by decide +kernel
theorem d_JA_fillI_7 : decode c_JA_fillI 7 = .ok (.if_icmp .ge 13, 3) := by decide +kernel
theorem d_JA_fillI_10 : decode c_JA_fillI 10 = .ok (.aload_n 0, 1) := by decide +kernel
theorem d_JA_fillI_11 : decode c_JA_fillI 11 = .ok (.iload_n 2, 1) := by decide +kernel
theorem d_JA_fillI_12 : decode c_JA_fillI 12 = .ok (.iload_n 1, 1) := by decide +kernel
theorem d_JA_fillI_13 : decode c_JA_fillI 13 = .ok (.iastore, 1) := by decide +kernel
theorem d_JA_fillI_14 : decode c_JA_fillI 14 = .ok (.iinc 2 1, 3) := by decide +kernel
theorem d_JA_fillI_17 : decode c_JA_fillI 17 = .ok (.goto (-12), 3) := by decide +kernel
theorem d_JA_fillI_20 : decode c_JA_fillI 20 = .ok (.return_, 1) := by decide +kernel
theorem d_JA_fillJ_0 : decode c_JA_fillJ 0 = .ok (.iconst 0, 1) := by decide +kernel
theorem d_JA_fillJ_1 : decode c_JA_fillJ 1 = .ok (.istore_n 3, 1) := by decide +kernel
theorem d_JA_fillJ_2 : decode c_JA_fillJ 2 = .ok (.aload_n 0, 1) := by decide +kernel
theorem d_JA_fillJ_3 : decode c_JA_fillJ 3 = .ok (.arraylength, 1) := by decide +kernel
theorem d_JA_fillJ_4 : decode c_JA_fillJ 4 = .ok (.istore 4, 2) := by decide +kernel
theorem d_JA_fillJ_6 : decode c_JA_fillJ 6 = .ok (.iload_n 3, 1) := by decide +kernel
theorem d_JA_fillJ_7 : decode c_JA_fillJ 7 = .ok (.iload 4, 2) := by decide +kernel
theorem d_JA_fillJ_9 : decode c_JA_fillJ 9 = .ok (.if_icmp .ge 13, 3) := by decide +kernel
theorem d_JA_fillJ_12 : decode c_JA_fillJ 12 = .ok (.aload_n 0, 1) := by decide +kernel
theorem d_JA_fillJ_13 : decode c_JA_fillJ 13 = .ok (.iload_n 3, 1) := by decide +kernel
theorem d_JA_fillJ_14 : decode c_JA_fillJ 14 = .ok (.lload_n 1, 1) := by decide +kernel
theorem d_JA_fillJ_15 : decode c_JA_fillJ 15 = .ok (.lastore, 1) := by decide +kernel
theorem d_JA_fillJ_16 : decode c_JA_fillJ 16 = .ok (.iinc 3 1, 3) := by decide +kernel
theorem d_JA_fillJ_19 : decode c_JA_fillJ 19 = .ok (.goto (-13), 3) := by decide +kernel
theorem d_JA_fillJ_22 : decode c_JA_fillJ 22 = .ok (.return_, 1) := by decide +kernel
