theorem d_W_build_0 : decode c_W_build 0 = .ok (.aload_n 0, 1) := by decide +kernel
theorem d_W_build_1 : decode c_W_build 1 = .ok (.getfield 29, 3) := by decide +kernel
theorem d_W_build_4 : decode c_W_build 4 = .ok (.iconst 0, 1) := by decide +kernel
theorem d_W_build_5 : decode c_W_build 5 = .ok (.invokevirtual 219, 3) := by decide +kernel
theorem d_W_build_8 : decode c_W_build 8 = .ok (.istore_n 2, 1) := by decide +kernel
theorem d_W_build_9 : decode c_W_build 9 = .ok (.iload_n 2, 1) := by decide +kernel
theorem d_W_build_10 : decode c_W_build 10 = .ok (.invokestatic 264, 3) := by decide +kernel
theorem d_W_build_13 : decode c_W_build 13 = .ok (.ifCond .eq 20, 3) := by decide +kernel
theorem d_W_build_16 : decode c_W_build 16 = .ok (.aload_n 0, 1) := by decide +kernel
theorem d_W_build_17 : decode c_W_build 17 = .ok (.getfield 40, 3) := by decide +kernel
theorem d_W_build_20 : decode c_W_build 20 = .ok (.getfield 150, 3) := by decide +kernel
theorem d_W_build_23 : decode c_W_build 23 = .ok (.iload_n 2, 1) := by decide +kernel
theorem d_W_build_24 : decode c_W_build 24 = .ok (.sipush 1000, 3) := by decide +kernel
theorem d_W_build_27 : decode c_W_build 27 = .ok (.isub, 1) := by decide +kernel
theorem d_W_build_28 : decode c_W_build 28 = .ok (.iaload, 1) := by decide +kernel
theorem d_W_build_29 : decode c_W_build 29 = .ok (.iload_n 1, 1) := by decide +kernel
theorem d_W_build_30 : decode c_W_build 30 = .ok (.if_icmp .eq 5, 3) := by decide +kernel
theorem d_W_build_33 : decode c_W_build 33 = .ok (.iconst 2, 1) := by decide +kernel
theorem d_W_build_34 : decode c_W_build 34 = .ok (.ireturn, 1) := by decide +kernel
theorem d_W_build_35 : decode c_W_build 35 = .ok (.aload_n 0, 1) := by decide +kernel
theorem d_W_build_36 : decode c_W_build 36 = .ok (.getfield 29, 3) := by decide +kernel
theorem d_W_build_39 : decode c_W_build 39 = .ok (.iconst 1, 1) := by decide +kernel
theorem d_W_build_40 : decode c_W_build 40 = .ok (.invokevirtual 197, 3) := by decide +kernel
theorem d_W_build_43 : decode c_W_build 43 = .ok (.aload_n 0, 1) := by decide +kernel
theorem d_W_build_44 : decode c_W_build 44 = .ok (.getfield 29, 3) := by decide +kernel
theorem d_W_build_47 : decode c_W_build 47 = .ok (.iload_n 2, 1) := by decide +kernel
theorem d_W_build_48 : decode c_W_build 48 = .ok (.bipush 16, 2) := by decide +kernel
theorem d_W_build_50 : decode c_W_build 50 = .ok (.iload_n 1, 1) := by decide +kernel
theorem d_W_build_51 : decode c_W_build 51 = .ok (.iadd, 1) := by decide +kernel
theorem d_W_build_52 : decode c_W_build 52 = .ok (.invokevirtual 261, 3) := by decide +kernel
theorem d_W_build_55 : decode c_W_build 55 = .ok (.iconst 0, 1) := by decide +kernel
theorem d_W_build_56 : decode c_W_build 56 = .ok (.ireturn, 1) := by decide +kernel
theorem d_W_useObject_0 : decode c_W_useObject 0 = .ok (.aload_n 0, 1) := by decide +kernel
theorem d_W_useObject_1 : decode c_W_useObject 1 = .ok (.getfield 29, 3) := by decide +kernel
theorem d_W_useObject_4 : decode c_W_useObject 4 = .ok (.iconst 0, 1) := by decide +kernel
theorem d_W_useObject_5 : decode c_W_useObject 5 = .ok (.invokevirtual 219, 3) := by decide +kernel
theorem d_W_useObject_8 : decode c_W_useObject 8 = .ok (.istore 4, 2) := by decide +kernel
theorem d_W_useObject_10 : decode c_W_useObject 10 = .ok (.iload_n 1, 1) := by decide +kernel
theorem d_W_useObject_11 : decode c_W_useObject 11 = .ok (.tableswitch 108 22 24 #[25, 45, 91], 25) := by decide +kernel
theorem d_W_useObject_36 : decode c_W_useObject 36 = .ok (.aload_n 0, 1) := by decide +kernel
theorem d_W_useObject_37 : decode c_W_useObject 37 = .ok (.aload_n 0, 1) := by decide +kernel
theorem d_W_useObject_38 : decode c_W_useObject 38 = .ok (.getfield 36, 3) := by decide +kernel
theorem d_W_useObject_41 : decode c_W_useObject 41 = .ok (.iload 4, 2) := by decide +kernel
theorem d_W_useObject_43 : decode c_W_useObject 43 = .ok (.bipush 16, 2) := by decide +kernel
theorem d_W_useObject_45 : decode c_W_useObject 45 = .ok (.iload_n 2, 1) := by decide +kernel
theorem d_W_useObject_46 : decode c_W_useObject 46 = .ok (.iadd, 1) := by decide +kernel
theorem d_W_useObject_47 : decode c_W_useObject 47 = .ok (.invokevirtual 252, 3) := by decide +kernel
theorem d_W_useObject_50 : decode c_W_useObject 50 = .ok (.iconst 1, 1) := by decide +kernel
theorem d_W_useObject_51 : decode c_W_useObject 51 = .ok (.iload_n 3, 1) := by decide +kernel
theorem d_W_useObject_52 : decode c_W_useObject 52 = .ok (.invokevirtual 243, 3) := by decide +kernel
theorem d_W_useObject_55 : decode c_W_useObject 55 = .ok (.ireturn, 1) := by decide +kernel
theorem d_W_useObject_56 : decode c_W_useObject 56 = .ok (.aload_n 0, 1) := by decide +kernel
theorem d_W_useObject_57 : decode c_W_useObject 57 = .ok (.aload_n 0, 1) := by decide +kernel
theorem d_W_useObject_58 : decode c_W_useObject 58 = .ok (.getfield 36, 3) := by decide +kernel
theorem d_W_useObject_61 : decode c_W_useObject 61 = .ok (.iload 4, 2) := by decide +kernel
theorem d_W_useObject_63 : decode c_W_useObject 63 = .ok (.iload_n 3, 1) := by decide +kernel
theorem d_W_useObject_64 : decode c_W_useObject 64 = .ok (.invokevirtual 252, 3) := by decide +kernel
theorem d_W_useObject_67 : decode c_W_useObject 67 = .ok (.ifCond .eq 29, 3) := by decide +kernel
theorem d_W_useObject_70 : decode c_W_useObject 70 = .ok (.aload_n 0, 1) := by decide +kernel
theorem d_W_useObject_71 : decode c_W_useObject 71 = .ok (.getfield 36, 3) := by decide +kernel
theorem d_W_useObject_74 : decode c_W_useObject 74 = .ok (.aload_n 0, 1) := by decide +kernel
theorem d_W_useObject_75 : decode c_W_useObject 75 = .ok (.getfield 29, 3) := by decide +kernel
theorem d_W_useObject_78 : decode c_W_useObject 78 = .ok (.iconst 1, 1) := by decide +kernel
theorem d_W_useObject_79 : decode c_W_useObject 79 = .ok (.invokevirtual 219, 3) := by decide +kernel
theorem d_W_useObject_82 : decode c_W_useObject 82 = .ok (.bipush 16, 2) := by decide +kernel
theorem d_W_useObject_84 : decode c_W_useObject 84 = .ok (.iload_n 2, 1) := by decide +kernel
theorem d_W_useObject_85 : decode c_W_useObject 85 = .ok (.iadd, 1) := by decide +kernel
theorem d_W_useObject_86 : decode c_W_useObject 86 = .ok (.invokevirtual 252, 3) := by decide +kernel
theorem d_W_useObject_89 : decode c_W_useObject 89 = .ok (.ifCond .eq 7, 3) := by decide +kernel
theorem d_W_useObject_92 : decode c_W_useObject 92 = .ok (.iconst 1, 1) := by decide +kernel
theorem d_W_useObject_93 : decode c_W_useObject 93 = .ok (.goto 4, 3) := by decide +kernel
theorem d_W_useObject_96 : decode c_W_useObject 96 = .ok (.iconst 0, 1) := by decide +kernel
theorem d_W_useObject_97 : decode c_W_useObject 97 = .ok (.iconst 2, 1) := by decide +kernel
theorem d_W_useObject_98 : decode c_W_useObject 98 = .ok (.invokevirtual 236, 3) := by decide +kernel
theorem d_W_useObject_101 : decode c_W_useObject 101 = .ok (.ireturn, 1) := by decide +kernel
theorem d_W_useObject_102 : decode c_W_useObject 102 = .ok (.aload_n 0, 1) := by decide +kernel
theorem d_W_useObject_103 : decode c_W_useObject 103 = .ok (.aload_n 0, 1) := by decide +kernel
theorem d_W_useObject_104 : decode c_W_useObject 104 = .ok (.getfield 36, 3) := by decide +kernel
theorem d_W_useObject_107 : decode c_W_useObject 107 = .ok (.iload 4, 2) := by decide +kernel
theorem d_W_useObject_109 : decode c_W_useObject 109 = .ok (.iload_n 2, 1) := by decide +kernel
theorem d_W_useObject_110 : decode c_W_useObject 110 = .ok (.invokevirtual 252, 3) := by decide +kernel
theorem d_W_useObject_113 : decode c_W_useObject 113 = .ok (.iconst 1, 1) := by decide +kernel
theorem d_W_useObject_114 : decode c_W_useObject 114 = .ok (.iload_n 3, 1) := by decide +kernel
theorem d_W_useObject_115 : decode c_W_useObject 115 = .ok (.invokevirtual 243, 3) := by decide +kernel
theorem d_W_useObject_118 : decode c_W_useObject 118 = .ok (.ireturn, 1) := by decide +kernel
theorem d_W_useObject_119 : decode c_W_useObject 119 = .ok (.aload_n 0, 1) := by decide +kernel
theorem d_W_useObject_120 : decode c_W_useObject 120 = .ok (.aload_n 0, 1) := by decide +kernel
theorem d_W_useObject_121 : decode c_W_useObject 121 = .ok (.getfield 36, 3) := by decide +kernel
theorem d_W_useObject_124 : decode c_W_useObject 124 = .ok (.iload 4, 2) := by decide +kernel
theorem d_W_useObject_126 : decode c_W_useObject 126 = .ok (.invokevirtual 247, 3) := by decide +kernel
theorem d_W_useObject_129 : decode c_W_useObject 129 = .ok (.iconst 1, 1) := by decide +kernel
theorem d_W_useObject_130 : decode c_W_useObject 130 = .ok (.iload_n 2, 1) := by decide +kernel
theorem d_W_useObject_131 : decode c_W_useObject 131 = .ok (.invokevirtual 243, 3) := by decide +kernel
theorem d_W_useObject_134 : decode c_W_useObject 134 = .ok (.ireturn, 1) := by decide +kernel
theorem d_W_useRow_0 : decode c_W_useRow 0 = .ok (.aload_n 0, 1) := by decide +kernel
theorem d_W_useRow_1 : decode c_W_useRow 1 = .ok (.getfield 29, 3) := by decide +kernel
theorem d_W_useRow_4 : decode c_W_useRow 4 = .ok (.iconst 0, 1) := by decide +kernel
theorem d_W_useRow_5 : decode c_W_useRow 5 = .ok (.invokevirtual 219, 3) := by decide +kernel
theorem d_W_useRow_8 : decode c_W_useRow 8 = .ok (.istore_n 3, 1) := by decide +kernel
theorem d_W_useRow_9 : decode c_W_useRow 9 = .ok (.iload_n 1, 1) := by decide +kernel
theorem d_W_useRow_10 : decode c_W_useRow 10 = .ok (.tableswitch 134 26 28 #[26, 46, 81], 26) := by decide +kernel
theorem d_W_useRow_36 : decode c_W_useRow 36 = .ok (.aload_n 0, 1) := by decide +kernel
theorem d_W_useRow_37 : decode c_W_useRow 37 = .ok (.iload_n 3, 1) := by decide +kernel
theorem d_W_useRow_38 : decode c_W_useRow 38 = .ok (.iconst 1, 1) := by decide +kernel
theorem d_W_useRow_39 : decode c_W_useRow 39 = .ok (.if_icmp .ne 7, 3) := by decide +kernel
theorem d_W_useRow_42 : decode c_W_useRow 42 = .ok (.iconst 1, 1) := by decide +kernel
theorem d_W_useRow_43 : decode c_W_useRow 43 = .ok (.goto 4, 3) := by decide +kernel
theorem d_W_useRow_46 : decode c_W_useRow 46 = .ok (.iconst 0, 1) := by decide +kernel
theorem d_W_useRow_47 : decode c_W_useRow 47 = .ok (.iconst 1, 1) := by decide +kernel
theorem d_W_useRow_48 : decode c_W_useRow 48 = .ok (.iload_n 2, 1) := by decide +kernel
theorem d_W_useRow_49 : decode c_W_useRow 49 = .ok (.bipush 64, 2) := by decide +kernel
theorem d_W_useRow_51 : decode c_W_useRow 51 = .ok (.iadd, 1) := by decide +kernel
theorem d_W_useRow_52 : decode c_W_useRow 52 = .ok (.invokevirtual 243, 3) := by decide +kernel
theorem d_W_useRow_55 : decode c_W_useRow 55 = .ok (.ireturn, 1) := by decide +kernel
theorem d_W_useRow_56 : decode c_W_useRow 56 = .ok (.aload_n 0, 1) := by decide +kernel
theorem d_W_useRow_57 : decode c_W_useRow 57 = .ok (.iload_n 3, 1) := by decide +kernel
theorem d_W_useRow_58 : decode c_W_useRow 58 = .ok (.iconst 1, 1) := by decide +kernel
theorem d_W_useRow_59 : decode c_W_useRow 59 = .ok (.if_icmp .ne 22, 3) := by decide +kernel
theorem d_W_useRow_62 : decode c_W_useRow 62 = .ok (.aload_n 0, 1) := by decide +kernel
theorem d_W_useRow_63 : decode c_W_useRow 63 = .ok (.getfield 29, 3) := by decide +kernel
theorem d_W_useRow_66 : decode c_W_useRow 66 = .ok (.iconst 1, 1) := by decide +kernel
theorem d_W_useRow_67 : decode c_W_useRow 67 = .ok (.invokevirtual 219, 3) := by decide +kernel
theorem d_W_useRow_70 : decode c_W_useRow 70 = .ok (.iload_n 2, 1) := by decide +kernel
theorem d_W_useRow_71 : decode c_W_useRow 71 = .ok (.invokestatic 267, 3) := by decide +kernel
theorem d_W_useRow_74 : decode c_W_useRow 74 = .ok (.ifCond .eq 7, 3) := by decide +kernel
theorem d_W_useRow_77 : decode c_W_useRow 77 = .ok (.iconst 1, 1) := by decide +kernel
theorem d_W_useRow_78 : decode c_W_useRow 78 = .ok (.goto 4, 3) := by decide +kernel
theorem d_W_useRow_81 : decode c_W_useRow 81 = .ok (.iconst 0, 1) := by decide +kernel
theorem d_W_useRow_82 : decode c_W_useRow 82 = .ok (.iconst 2, 1) := by decide +kernel
theorem d_W_useRow_83 : decode c_W_useRow 83 = .ok (.iload_n 2, 1) := by decide +kernel
theorem d_W_useRow_84 : decode c_W_useRow 84 = .ok (.invokestatic 270, 3) := by decide +kernel
theorem d_W_useRow_87 : decode c_W_useRow 87 = .ok (.invokevirtual 243, 3) := by decide +kernel
theorem d_W_useRow_90 : decode c_W_useRow 90 = .ok (.ireturn, 1) := by decide +kernel
theorem d_W_useRow_91 : decode c_W_useRow 91 = .ok (.aload_n 0, 1) := by decide +kernel
theorem d_W_useRow_92 : decode c_W_useRow 92 = .ok (.aload_n 0, 1) := by decide +kernel
theorem d_W_useRow_93 : decode c_W_useRow 93 = .ok (.getfield 36, 3) := by decide +kernel
theorem d_W_useRow_96 : decode c_W_useRow 96 = .ok (.iload_n 3, 1) := by decide +kernel
theorem d_W_useRow_97 : decode c_W_useRow 97 = .ok (.iload_n 2, 1) := by decide +kernel
theorem d_W_useRow_98 : decode c_W_useRow 98 = .ok (.invokestatic 270, 3) := by decide +kernel
theorem d_W_useRow_101 : decode c_W_useRow 101 = .ok (.invokevirtual 252, 3) := by decide +kernel
theorem d_W_useRow_104 : decode c_W_useRow 104 = .ok (.ifCond .eq 34, 3) := by decide +kernel
theorem d_W_useRow_107 : decode c_W_useRow 107 = .ok (.aload_n 0, 1) := by decide +kernel
theorem d_W_useRow_108 : decode c_W_useRow 108 = .ok (.getfield 29, 3) := by decide +kernel
theorem d_W_useRow_111 : decode c_W_useRow 111 = .ok (.iconst 1, 1) := by decide +kernel
theorem d_W_useRow_112 : decode c_W_useRow 112 = .ok (.invokevirtual 219, 3) := by decide +kernel
theorem d_W_useRow_115 : decode c_W_useRow 115 = .ok (.iconst 1, 1) := by decide +kernel
theorem d_W_useRow_116 : decode c_W_useRow 116 = .ok (.if_icmp .ne 22, 3) := by decide +kernel
theorem d_W_useRow_119 : decode c_W_useRow 119 = .ok (.aload_n 0, 1) := by decide +kernel
theorem d_W_useRow_120 : decode c_W_useRow 120 = .ok (.getfield 29, 3) := by decide +kernel
theorem d_W_useRow_123 : decode c_W_useRow 123 = .ok (.iconst 2, 1) := by decide +kernel
theorem d_W_useRow_124 : decode c_W_useRow 124 = .ok (.invokevirtual 219, 3) := by decide +kernel
theorem d_W_useRow_127 : decode c_W_useRow 127 = .ok (.iload_n 2, 1) := by decide +kernel
theorem d_W_useRow_128 : decode c_W_useRow 128 = .ok (.invokestatic 267, 3) := by decide +kernel
theorem d_W_useRow_131 : decode c_W_useRow 131 = .ok (.ifCond .eq 7, 3) := by decide +kernel
theorem d_W_useRow_134 : decode c_W_useRow 134 = .ok (.iconst 1, 1) := by decide +kernel
theorem d_W_useRow_135 : decode c_W_useRow 135 = .ok (.goto 4, 3) := by decide +kernel
theorem d_W_useRow_138 : decode c_W_useRow 138 = .ok (.iconst 0, 1) := by decide +kernel
theorem d_W_useRow_139 : decode c_W_useRow 139 = .ok (.iconst 3, 1) := by decide +kernel
theorem d_W_useRow_140 : decode c_W_useRow 140 = .ok (.invokevirtual 236, 3) := by decide +kernel
theorem d_W_useRow_143 : decode c_W_useRow 143 = .ok (.ireturn, 1) := by decide +kernel
theorem d_W_useRow_144 : decode c_W_useRow 144 = .ok (.aload_n 0, 1) := by decide +kernel
theorem d_W_useRow_145 : decode c_W_useRow 145 = .ok (.iload_n 3, 1) := by decide +kernel
theorem d_W_useRow_146 : decode c_W_useRow 146 = .ok (.iconst 5, 1) := by decide +kernel
theorem d_W_useRow_147 : decode c_W_useRow 147 = .ok (.if_icmp .eq 14, 3) := by decide +kernel
theorem d_W_useRow_150 : decode c_W_useRow 150 = .ok (.aload_n 0, 1) := by decide +kernel
theorem d_W_useRow_151 : decode c_W_useRow 151 = .ok (.getfield 36, 3) := by decide +kernel
theorem d_W_useRow_154 : decode c_W_useRow 154 = .ok (.iload_n 3, 1) := by decide +kernel
theorem d_W_useRow_155 : decode c_W_useRow 155 = .ok (.invokevirtual 273, 3) := by decide +kernel
theorem d_W_useRow_158 : decode c_W_useRow 158 = .ok (.ifCond .eq 7, 3) := by decide +kernel
theorem d_W_useRow_161 : decode c_W_useRow 161 = .ok (.iconst 1, 1) := by decide +kernel
theorem d_W_useRow_162 : decode c_W_useRow 162 = .ok (.goto 4, 3) := by decide +kernel
theorem d_W_useRow_165 : decode c_W_useRow 165 = .ok (.iconst 0, 1) := by decide +kernel
theorem d_W_useRow_166 : decode c_W_useRow 166 = .ok (.iconst 1, 1) := by decide +kernel
theorem d_W_useRow_167 : decode c_W_useRow 167 = .ok (.iconst 1, 1) := by decide +kernel
theorem d_W_useRow_168 : decode c_W_useRow 168 = .ok (.invokevirtual 243, 3) := by decide +kernel
theorem d_W_useRow_171 : decode c_W_useRow 171 = .ok (.ireturn, 1) := by decide +kernel
theorem d_W_isRowOf_0 : decode c_W_isRowOf 0 = .ok (.iload_n 0, 1) := by decide +kernel
theorem d_W_isRowOf_1 : decode c_W_isRowOf 1 = .ok (.iconst 5, 1) := by decide +kernel
theorem d_W_isRowOf_2 : decode c_W_isRowOf 2 = .ok (.if_icmp .eq 8, 3) := by decide +kernel
theorem d_W_isRowOf_5 : decode c_W_isRowOf 5 = .ok (.iload_n 0, 1) := by decide +kernel
theorem d_W_isRowOf_6 : decode c_W_isRowOf 6 = .ok (.iload_n 1, 1) := by decide +kernel
theorem d_W_isRowOf_7 : decode c_W_isRowOf 7 = .ok (.if_icmp .ne 7, 3) := by decide +kernel
theorem d_W_isRowOf_10 : decode c_W_isRowOf 10 = .ok (.iconst 1, 1) := by decide +kernel
theorem d_W_isRowOf_11 : decode c_W_isRowOf 11 = .ok (.goto 4, 3) := by decide +kernel
theorem d_W_isRowOf_14 : decode c_W_isRowOf 14 = .ok (.iconst 0, 1) := by decide +kernel
theorem d_W_isRowOf_15 : decode c_W_isRowOf 15 = .ok (.ireturn, 1) := by decide +kernel
theorem d_W_elementOf_0 : decode c_W_elementOf 0 = .ok (.iload_n 0, 1) := by decide +kernel
theorem d_W_elementOf_1 : decode c_W_elementOf 1 = .ok (.bipush 76, 2) := by decide +kernel
theorem d_W_elementOf_3 : decode c_W_elementOf 3 = .ok (.if_icmp .ne 7, 3) := by decide +kernel
theorem d_W_elementOf_6 : decode c_W_elementOf 6 = .ok (.iconst 1, 1) := by decide +kernel
theorem d_W_elementOf_7 : decode c_W_elementOf 7 = .ok (.goto 7, 3) := by decide +kernel
theorem d_W_elementOf_10 : decode c_W_elementOf 10 = .ok (.iload_n 0, 1) := by decide +kernel
theorem d_W_elementOf_11 : decode c_W_elementOf 11 = .ok (.bipush 64, 2) := by decide +kernel
theorem d_W_elementOf_13 : decode c_W_elementOf 13 = .ok (.isub, 1) := by decide +kernel
theorem d_W_elementOf_14 : decode c_W_elementOf 14 = .ok (.ireturn, 1) := by decide +kernel
theorem d_O_init_0 : decode c_O_init 0 = .ok (.aload_n 0, 1) := by decide +kernel
theorem d_O_init_1 : decode c_O_init 1 = .ok (.invokespecial 3, 3) := by decide +kernel
theorem d_O_init_4 : decode c_O_init 4 = .ok (.aload_n 0, 1) := by decide +kernel
theorem d_O_init_5 : decode c_O_init 5 = .ok (.aload_n 1, 1) := by decide +kernel
theorem d_O_init_6 : decode c_O_init 6 = .ok (.putfield 9, 3) := by decide +kernel
theorem d_O_init_9 : decode c_O_init 9 = .ok (.aload_n 0, 1) := by decide +kernel
theorem d_O_init_10 : decode c_O_init 10 = .ok (.aload_n 2, 1) := by decide +kernel
theorem d_O_init_11 : decode c_O_init 11 = .ok (.putfield 15, 3) := by decide +kernel
theorem d_O_init_14 : decode c_O_init 14 = .ok (.return_, 1) := by decide +kernel
theorem d_O_findFault_0 : decode c_O_findFault 0 = .ok (.aload_n 0, 1) := by decide +kernel
theorem d_O_findFault_1 : decode c_O_findFault 1 = .ok (.getfield 15, 3) := by decide +kernel
theorem d_O_findFault_4 : decode c_O_findFault 4 = .ok (.getfield 19, 3) := by decide +kernel
theorem d_O_findFault_7 : decode c_O_findFault 7 = .ok (.ifCond .ne 5, 3) := by decide +kernel
theorem d_O_findFault_10 : decode c_O_findFault 10 = .ok (.iconst 0, 1) := by decide +kernel
theorem d_O_findFault_11 : decode c_O_findFault 11 = .ok (.ireturn, 1) := by decide +kernel
theorem d_O_findFault_12 : decode c_O_findFault 12 = .ok (.iconst 0, 1) := by decide +kernel
theorem d_O_findFault_13 : decode c_O_findFault 13 = .ok (.istore_n 1, 1) := by decide +kernel
theorem d_O_findFault_14 : decode c_O_findFault 14 = .ok (.iload_n 1, 1) := by decide +kernel
theorem d_O_findFault_15 : decode c_O_findFault 15 = .ok (.aload_n 0, 1) := by decide +kernel
theorem d_O_findFault_16 : decode c_O_findFault 16 = .ok (.getfield 15, 3) := by decide +kernel
theorem d_O_findFault_19 : decode c_O_findFault 19 = .ok (.getfield 19, 3) := by decide +kernel
theorem d_O_findFault_22 : decode c_O_findFault 22 = .ok (.if_icmp .ge 45, 3) := by decide +kernel
theorem d_O_findFault_25 : decode c_O_findFault 25 = .ok (.aload_n 0, 1) := by decide +kernel
theorem d_O_findFault_26 : decode c_O_findFault 26 = .ok (.aload_n 0, 1) := by decide +kernel
theorem d_O_findFault_27 : decode c_O_findFault 27 = .ok (.getfield 15, 3) := by decide +kernel
theorem d_O_findFault_30 : decode c_O_findFault 30 = .ok (.getfield 25, 3) := by decide +kernel
theorem d_O_findFault_33 : decode c_O_findFault 33 = .ok (.iload_n 1, 1) := by decide +kernel
theorem d_O_findFault_34 : decode c_O_findFault 34 = .ok (.iaload, 1) := by decide +kernel
theorem d_O_findFault_35 : decode c_O_findFault 35 = .ok (.aload_n 0, 1) := by decide +kernel
theorem d_O_findFault_36 : decode c_O_findFault 36 = .ok (.getfield 15, 3) := by decide +kernel
theorem d_O_findFault_39 : decode c_O_findFault 39 = .ok (.getfield 29, 3) := by decide +kernel
theorem d_O_findFault_42 : decode c_O_findFault 42 = .ok (.iload_n 1, 1) := by decide +kernel
theorem d_O_findFault_43 : decode c_O_findFault 43 = .ok (.iaload, 1) := by decide +kernel
theorem d_O_findFault_44 : decode c_O_findFault 44 = .ok (.aload_n 0, 1) := by decide +kernel
theorem d_O_findFault_45 : decode c_O_findFault 45 = .ok (.getfield 15, 3) := by decide +kernel
theorem d_O_findFault_48 : decode c_O_findFault 48 = .ok (.getfield 32, 3) := by decide +kernel
theorem d_O_findFault_51 : decode c_O_findFault 51 = .ok (.iload_n 1, 1) := by decide +kernel
theorem d_O_findFault_52 : decode c_O_findFault 52 = .ok (.iaload, 1) := by decide +kernel
theorem d_O_findFault_53 : decode c_O_findFault 53 = .ok (.invokevirtual 35, 3) := by decide +kernel
theorem d_O_findFault_56 : decode c_O_findFault 56 = .ok (.ifCond .ne 5, 3) := by decide +kernel
theorem d_O_findFault_59 : decode c_O_findFault 59 = .ok (.iload_n 1, 1) := by decide +kernel
theorem d_O_findFault_60 : decode c_O_findFault 60 = .ok (.ireturn, 1) := by decide +kernel
theorem d_O_findFault_61 : decode c_O_findFault 61 = .ok (.iinc 1 1, 3) := by decide +kernel
theorem d_O_findFault_64 : decode c_O_findFault 64 = .ok (.goto (-50), 3) := by decide +kernel
theorem d_O_findFault_67 : decode c_O_findFault 67 = .ok (.iconst 0, 1) := by decide +kernel
theorem d_O_findFault_68 : decode c_O_findFault 68 = .ok (.istore_n 1, 1) := by decide +kernel
theorem d_O_findFault_69 : decode c_O_findFault 69 = .ok (.iload_n 1, 1) := by decide +kernel
theorem d_O_findFault_70 : decode c_O_findFault 70 = .ok (.aload_n 0, 1) := by decide +kernel
theorem d_O_findFault_71 : decode c_O_findFault 71 = .ok (.getfield 15, 3) := by decide +kernel
theorem d_O_findFault_74 : decode c_O_findFault 74 = .ok (.getfield 39, 3) := by decide +kernel
theorem d_O_findFault_77 : decode c_O_findFault 77 = .ok (.if_icmp .ge 22, 3) := by decide +kernel
theorem d_O_findFault_80 : decode c_O_findFault 80 = .ok (.aload_n 0, 1) := by decide +kernel
theorem d_O_findFault_81 : decode c_O_findFault 81 = .ok (.iload_n 1, 1) := by decide +kernel
theorem d_O_findFault_82 : decode c_O_findFault 82 = .ok (.invokevirtual 42, 3) := by decide +kernel
theorem d_O_findFault_85 : decode c_O_findFault 85 = .ok (.ifCond .ne 8, 3) := by decide +kernel
theorem d_O_findFault_88 : decode c_O_findFault 88 = .ok (.bipush 100, 2) := by decide +kernel
theorem d_O_findFault_90 : decode c_O_findFault 90 = .ok (.iload_n 1, 1) := by decide +kernel
theorem d_O_findFault_91 : decode c_O_findFault 91 = .ok (.iadd, 1) := by decide +kernel
theorem d_O_findFault_92 : decode c_O_findFault 92 = .ok (.ireturn, 1) := by decide +kernel
theorem d_O_findFault_93 : decode c_O_findFault 93 = .ok (.iinc 1 1, 3) := by decide +kernel
theorem d_O_findFault_96 : decode c_O_findFault 96 = .ok (.goto (-27), 3) := by decide +kernel
theorem d_O_findFault_99 : decode c_O_findFault 99 = .ok (.aload_n 0, 1) := by decide +kernel
theorem d_O_findFault_100 : decode c_O_findFault 100 = .ok (.invokevirtual 46, 3) := by decide +kernel
theorem d_O_findFault_103 : decode c_O_findFault 103 = .ok (.ifCond .eq 7, 3) := by decide +kernel
theorem d_O_findFault_106 : decode c_O_findFault 106 = .ok (.iconst (-1), 1) := by decide +kernel
theorem d_O_findFault_107 : decode c_O_findFault 107 = .ok (.goto 6, 3) := by decide +kernel
theorem d_O_findFault_110 : decode c_O_findFault 110 = .ok (.sipush 200, 3) := by decide +kernel
theorem d_O_findFault_113 : decode c_O_findFault 113 = .ok (.ireturn, 1) := by decide +kernel
theorem d_O_isWellFormed_0 : decode c_O_isWellFormed 0 = .ok (.iload_n 1, 1) := by decide +kernel
theorem d_O_isWellFormed_1 : decode c_O_isWellFormed 1 = .ok (.tableswitch 351 1 30 #[135, 151, 151, 351, 351, 351, 351, 351, 160, 165, 185, 201, 201, 201, 201, 151, 210, 351, 351, 238, 238, 247, 247, 275, 303, 312, 342, 342, 351, 151], 135) := by decide +kernel
theorem d_O_isWellFormed_136 : decode c_O_isWellFormed 136 = .ok (.iload_n 2, 1) := by decide +kernel
theorem d_O_isWellFormed_137 : decode c_O_isWellFormed 137 = .ok (.iconst 1, 1) := by decide +kernel
theorem d_O_isWellFormed_138 : decode c_O_isWellFormed 138 = .ok (.if_icmp .lt 12, 3) := by decide +kernel
theorem d_O_isWellFormed_141 : decode c_O_isWellFormed 141 = .ok (.iload_n 2, 1) := by decide +kernel
theorem d_O_isWellFormed_142 : decode c_O_isWellFormed 142 = .ok (.iconst 5, 1) := by decide +kernel
theorem d_O_isWellFormed_143 : decode c_O_isWellFormed 143 = .ok (.if_icmp .gt 7, 3) := by decide +kernel
theorem d_O_isWellFormed_146 : decode c_O_isWellFormed 146 = .ok (.iconst 1, 1) := by decide +kernel
theorem d_O_isWellFormed_147 : decode c_O_isWellFormed 147 = .ok (.goto 4, 3) := by decide +kernel
theorem d_O_isWellFormed_150 : decode c_O_isWellFormed 150 = .ok (.iconst 0, 1) := by decide +kernel
theorem d_O_isWellFormed_151 : decode c_O_isWellFormed 151 = .ok (.ireturn, 1) := by decide +kernel
theorem d_O_isWellFormed_152 : decode c_O_isWellFormed 152 = .ok (.aload_n 0, 1) := by decide +kernel
theorem d_O_isWellFormed_153 : decode c_O_isWellFormed 153 = .ok (.getfield 15, 3) := by decide +kernel
theorem d_O_isWellFormed_156 : decode c_O_isWellFormed 156 = .ok (.iload_n 2, 1) := by decide +kernel
theorem d_O_isWellFormed_157 : decode c_O_isWellFormed 157 = .ok (.invokevirtual 50, 3) := by decide +kernel
theorem d_O_isWellFormed_160 : decode c_O_isWellFormed 160 = .ok (.ireturn, 1) := by decide +kernel
theorem d_O_isWellFormed_161 : decode c_O_isWellFormed 161 = .ok (.iload_n 2, 1) := by decide +kernel
theorem d_O_isWellFormed_162 : decode c_O_isWellFormed 162 = .ok (.invokestatic 53, 3) := by decide +kernel
theorem d_O_isWellFormed_165 : decode c_O_isWellFormed 165 = .ok (.ireturn, 1) := by decide +kernel
theorem d_O_isWellFormed_166 : decode c_O_isWellFormed 166 = .ok (.iload_n 2, 1) := by decide +kernel
theorem d_O_isWellFormed_167 : decode c_O_isWellFormed 167 = .ok (.invokestatic 53, 3) := by decide +kernel
theorem d_O_isWellFormed_170 : decode c_O_isWellFormed 170 = .ok (.ifCond .eq 14, 3) := by decide +kernel
theorem d_O_isWellFormed_173 : decode c_O_isWellFormed 173 = .ok (.iload_n 3, 1) := by decide +kernel
theorem d_O_isWellFormed_174 : decode c_O_isWellFormed 174 = .ok (.invokestatic 53, 3) := by decide +kernel
theorem d_O_isWellFormed_177 : decode c_O_isWellFormed 177 = .ok (.ifCond .eq 7, 3) := by decide +kernel
theorem d_O_isWellFormed_180 : decode c_O_isWellFormed 180 = .ok (.iconst 1, 1) := by decide +kernel
theorem d_O_isWellFormed_181 : decode c_O_isWellFormed 181 = .ok (.goto 4, 3) := by decide +kernel
theorem d_O_isWellFormed_184 : decode c_O_isWellFormed 184 = .ok (.iconst 0, 1) := by decide +kernel
theorem d_O_isWellFormed_185 : decode c_O_isWellFormed 185 = .ok (.ireturn, 1) := by decide +kernel
theorem d_O_isWellFormed_186 : decode c_O_isWellFormed 186 = .ok (.iload_n 2, 1) := by decide +kernel
theorem d_O_isWellFormed_187 : decode c_O_isWellFormed 187 = .ok (.iconst 2, 1) := by decide +kernel
theorem d_O_isWellFormed_188 : decode c_O_isWellFormed 188 = .ok (.if_icmp .lt 12, 3) := by decide +kernel
theorem d_O_isWellFormed_191 : decode c_O_isWellFormed 191 = .ok (.iload_n 2, 1) := by decide +kernel
theorem d_O_isWellFormed_192 : decode c_O_isWellFormed 192 = .ok (.iconst 4, 1) := by decide +kernel
theorem d_O_isWellFormed_193 : decode c_O_isWellFormed 193 = .ok (.if_icmp .gt 7, 3) := by decide +kernel
theorem d_O_isWellFormed_196 : decode c_O_isWellFormed 196 = .ok (.iconst 1, 1) := by decide +kernel
theorem d_O_isWellFormed_197 : decode c_O_isWellFormed 197 = .ok (.goto 4, 3) := by decide +kernel
theorem d_O_isWellFormed_200 : decode c_O_isWellFormed 200 = .ok (.iconst 0, 1) := by decide +kernel
theorem d_O_isWellFormed_201 : decode c_O_isWellFormed 201 = .ok (.ireturn, 1) := by decide +kernel
theorem d_O_isWellFormed_202 : decode c_O_isWellFormed 202 = .ok (.aload_n 0, 1) := by decide +kernel
theorem d_O_isWellFormed_203 : decode c_O_isWellFormed 203 = .ok (.getfield 15, 3) := by decide +kernel
theorem d_O_isWellFormed_206 : decode c_O_isWellFormed 206 = .ok (.iload_n 3, 1) := by decide +kernel
theorem d_O_isWellFormed_207 : decode c_O_isWellFormed 207 = .ok (.invokevirtual 56, 3) := by decide +kernel
theorem d_O_isWellFormed_210 : decode c_O_isWellFormed 210 = .ok (.ireturn, 1) := by decide +kernel
theorem d_O_isWellFormed_211 : decode c_O_isWellFormed 211 = .ok (.aload_n 0, 1) := by decide +kernel
theorem d_O_isWellFormed_212 : decode c_O_isWellFormed 212 = .ok (.getfield 15, 3) := by decide +kernel
theorem d_O_isWellFormed_215 : decode c_O_isWellFormed 215 = .ok (.iload_n 2, 1) := by decide +kernel
theorem d_O_isWellFormed_216 : decode c_O_isWellFormed 216 = .ok (.invokevirtual 56, 3) := by decide +kernel
theorem d_O_isWellFormed_219 : decode c_O_isWellFormed 219 = .ok (.ifCond .eq 18, 3) := by decide +kernel
theorem d_O_isWellFormed_222 : decode c_O_isWellFormed 222 = .ok (.aload_n 0, 1) := by decide +kernel
theorem d_O_isWellFormed_223 : decode c_O_isWellFormed 223 = .ok (.getfield 15, 3) := by decide +kernel
theorem d_O_isWellFormed_226 : decode c_O_isWellFormed 226 = .ok (.iload_n 3, 1) := by decide +kernel
theorem d_O_isWellFormed_227 : decode c_O_isWellFormed 227 = .ok (.invokevirtual 56, 3) := by decide +kernel
theorem d_O_isWellFormed_230 : decode c_O_isWellFormed 230 = .ok (.ifCond .eq 7, 3) := by decide +kernel
theorem d_O_isWellFormed_233 : decode c_O_isWellFormed 233 = .ok (.iconst 1, 1) := by decide +kernel
theorem d_O_isWellFormed_234 : decode c_O_isWellFormed 234 = .ok (.goto 4, 3) := by decide +kernel
theorem d_O_isWellFormed_237 : decode c_O_isWellFormed 237 = .ok (.iconst 0, 1) := by decide +kernel
theorem d_O_isWellFormed_238 : decode c_O_isWellFormed 238 = .ok (.ireturn, 1) := by decide +kernel
theorem d_O_isWellFormed_239 : decode c_O_isWellFormed 239 = .ok (.aload_n 0, 1) := by decide +kernel
theorem d_O_isWellFormed_240 : decode c_O_isWellFormed 240 = .ok (.getfield 9, 3) := by decide +kernel
theorem d_O_isWellFormed_243 : decode c_O_isWellFormed 243 = .ok (.iload_n 2, 1) := by decide +kernel
theorem d_O_isWellFormed_244 : decode c_O_isWellFormed 244 = .ok (.invokevirtual 59, 3) := by decide +kernel
theorem d_O_isWellFormed_247 : decode c_O_isWellFormed 247 = .ok (.ireturn, 1) := by decide +kernel
theorem d_O_isWellFormed_248 : decode c_O_isWellFormed 248 = .ok (.aload_n 0, 1) := by decide +kernel
theorem d_O_isWellFormed_249 : decode c_O_isWellFormed 249 = .ok (.getfield 9, 3) := by decide +kernel
theorem d_O_isWellFormed_252 : decode c_O_isWellFormed 252 = .ok (.iload_n 2, 1) := by decide +kernel
theorem d_O_isWellFormed_253 : decode c_O_isWellFormed 253 = .ok (.invokevirtual 59, 3) := by decide +kernel
theorem d_O_isWellFormed_256 : decode c_O_isWellFormed 256 = .ok (.ifCond .eq 18, 3) := by decide +kernel
theorem d_O_isWellFormed_259 : decode c_O_isWellFormed 259 = .ok (.aload_n 0, 1) := by decide +kernel
theorem d_O_isWellFormed_260 : decode c_O_isWellFormed 260 = .ok (.getfield 9, 3) := by decide +kernel
theorem d_O_isWellFormed_263 : decode c_O_isWellFormed 263 = .ok (.iload_n 3, 1) := by decide +kernel
theorem d_O_isWellFormed_264 : decode c_O_isWellFormed 264 = .ok (.invokevirtual 64, 3) := by decide +kernel
theorem d_O_isWellFormed_267 : decode c_O_isWellFormed 267 = .ok (.ifCond .eq 7, 3) := by decide +kernel
theorem d_O_isWellFormed_270 : decode c_O_isWellFormed 270 = .ok (.iconst 1, 1) := by decide +kernel
theorem d_O_isWellFormed_271 : decode c_O_isWellFormed 271 = .ok (.goto 4, 3) := by decide +kernel
theorem d_O_isWellFormed_274 : decode c_O_isWellFormed 274 = .ok (.iconst 0, 1) := by decide +kernel
theorem d_O_isWellFormed_275 : decode c_O_isWellFormed 275 = .ok (.ireturn, 1) := by decide +kernel
theorem d_O_isWellFormed_276 : decode c_O_isWellFormed 276 = .ok (.aload_n 0, 1) := by decide +kernel
theorem d_O_isWellFormed_277 : decode c_O_isWellFormed 277 = .ok (.getfield 9, 3) := by decide +kernel
theorem d_O_isWellFormed_280 : decode c_O_isWellFormed 280 = .ok (.iload_n 2, 1) := by decide +kernel
theorem d_O_isWellFormed_281 : decode c_O_isWellFormed 281 = .ok (.invokevirtual 64, 3) := by decide +kernel
theorem d_O_isWellFormed_284 : decode c_O_isWellFormed 284 = .ok (.ifCond .eq 18, 3) := by decide +kernel
theorem d_O_isWellFormed_287 : decode c_O_isWellFormed 287 = .ok (.aload_n 0, 1) := by decide +kernel
theorem d_O_isWellFormed_288 : decode c_O_isWellFormed 288 = .ok (.getfield 9, 3) := by decide +kernel
theorem d_O_isWellFormed_291 : decode c_O_isWellFormed 291 = .ok (.iload_n 3, 1) := by decide +kernel
theorem d_O_isWellFormed_292 : decode c_O_isWellFormed 292 = .ok (.invokevirtual 64, 3) := by decide +kernel
theorem d_O_isWellFormed_295 : decode c_O_isWellFormed 295 = .ok (.ifCond .eq 7, 3) := by decide +kernel
theorem d_O_isWellFormed_298 : decode c_O_isWellFormed 298 = .ok (.iconst 1, 1) := by decide +kernel
theorem d_O_isWellFormed_299 : decode c_O_isWellFormed 299 = .ok (.goto 4, 3) := by decide +kernel
theorem d_O_isWellFormed_302 : decode c_O_isWellFormed 302 = .ok (.iconst 0, 1) := by decide +kernel
theorem d_O_isWellFormed_303 : decode c_O_isWellFormed 303 = .ok (.ireturn, 1) := by decide +kernel
theorem d_O_isWellFormed_304 : decode c_O_isWellFormed 304 = .ok (.aload_n 0, 1) := by decide +kernel
theorem d_O_isWellFormed_305 : decode c_O_isWellFormed 305 = .ok (.getfield 9, 3) := by decide +kernel
theorem d_O_isWellFormed_308 : decode c_O_isWellFormed 308 = .ok (.iload_n 2, 1) := by decide +kernel
theorem d_O_isWellFormed_309 : decode c_O_isWellFormed 309 = .ok (.invokevirtual 67, 3) := by decide +kernel
theorem d_O_isWellFormed_312 : decode c_O_isWellFormed 312 = .ok (.ireturn, 1) := by decide +kernel
theorem d_O_isWellFormed_313 : decode c_O_isWellFormed 313 = .ok (.iload_n 2, 1) := by decide +kernel
theorem d_O_isWellFormed_314 : decode c_O_isWellFormed 314 = .ok (.bipush 12, 2) := by decide +kernel
theorem d_O_isWellFormed_316 : decode c_O_isWellFormed 316 = .ok (.if_icmp .eq 21, 3) := by decide +kernel
theorem d_O_isWellFormed_319 : decode c_O_isWellFormed 319 = .ok (.iload_n 2, 1) := by decide +kernel
theorem d_O_isWellFormed_320 : decode c_O_isWellFormed 320 = .ok (.sipush 192, 3) := by decide +kernel
theorem d_O_isWellFormed_323 : decode c_O_isWellFormed 323 = .ok (.if_icmp .ge 18, 3) := by decide +kernel
theorem d_O_isWellFormed_326 : decode c_O_isWellFormed 326 = .ok (.aload_n 0, 1) := by decide +kernel
theorem d_O_isWellFormed_327 : decode c_O_isWellFormed 327 = .ok (.getfield 9, 3) := by decide +kernel
theorem d_O_isWellFormed_330 : decode c_O_isWellFormed 330 = .ok (.iload_n 2, 1) := by decide +kernel
theorem d_O_isWellFormed_331 : decode c_O_isWellFormed 331 = .ok (.invokevirtual 67, 3) := by decide +kernel
theorem d_O_isWellFormed_334 : decode c_O_isWellFormed 334 = .ok (.ifCond .eq 7, 3) := by decide +kernel
theorem d_O_isWellFormed_337 : decode c_O_isWellFormed 337 = .ok (.iconst 1, 1) := by decide +kernel
theorem d_O_isWellFormed_338 : decode c_O_isWellFormed 338 = .ok (.goto 4, 3) := by decide +kernel
theorem d_O_isWellFormed_341 : decode c_O_isWellFormed 341 = .ok (.iconst 0, 1) := by decide +kernel
theorem d_O_isWellFormed_342 : decode c_O_isWellFormed 342 = .ok (.ireturn, 1) := by decide +kernel
theorem d_O_isWellFormed_343 : decode c_O_isWellFormed 343 = .ok (.aload_n 0, 1) := by decide +kernel
theorem d_O_isWellFormed_344 : decode c_O_isWellFormed 344 = .ok (.getfield 9, 3) := by decide +kernel
theorem d_O_isWellFormed_347 : decode c_O_isWellFormed 347 = .ok (.iload_n 2, 1) := by decide +kernel
theorem d_O_isWellFormed_348 : decode c_O_isWellFormed 348 = .ok (.invokevirtual 70, 3) := by decide +kernel
theorem d_O_isWellFormed_351 : decode c_O_isWellFormed 351 = .ok (.ireturn, 1) := by decide +kernel
theorem d_O_isWellFormed_352 : decode c_O_isWellFormed 352 = .ok (.iconst 1, 1) := by decide +kernel
theorem d_O_isWellFormed_353 : decode c_O_isWellFormed 353 = .ok (.ireturn, 1) := by decide +kernel
theorem d_O_isNumber_0 : decode c_O_isNumber 0 = .ok (.iload_n 0, 1) := by decide +kernel
theorem d_O_isNumber_1 : decode c_O_isNumber 1 = .ok (.iconst 1, 1) := by decide +kernel
theorem d_O_isNumber_2 : decode c_O_isNumber 2 = .ok (.if_icmp .lt 12, 3) := by decide +kernel
theorem d_O_isNumber_5 : decode c_O_isNumber 5 = .ok (.iload_n 0, 1) := by decide +kernel
theorem d_O_isNumber_6 : decode c_O_isNumber 6 = .ok (.iconst 4, 1) := by decide +kernel
theorem d_O_isNumber_7 : decode c_O_isNumber 7 = .ok (.if_icmp .gt 7, 3) := by decide +kernel
theorem d_O_isNumber_10 : decode c_O_isNumber 10 = .ok (.iconst 1, 1) := by decide +kernel
theorem d_O_isNumber_11 : decode c_O_isNumber 11 = .ok (.goto 4, 3) := by decide +kernel
theorem d_O_isNumber_14 : decode c_O_isNumber 14 = .ok (.iconst 0, 1) := by decide +kernel
theorem d_O_isNumber_15 : decode c_O_isNumber 15 = .ok (.ireturn, 1) := by decide +kernel
theorem d_O_isHandlerWellFormed_0 : decode c_O_isHandlerWellFormed 0 = .ok (.iconst 0, 1) := by decide +kernel
theorem d_O_isHandlerWellFormed_1 : decode c_O_isHandlerWellFormed 1 = .ok (.aload_n 0, 1) := by decide +kernel
theorem d_O_isHandlerWellFormed_2 : decode c_O_isHandlerWellFormed 2 = .ok (.getfield 15, 3) := by decide +kernel
theorem d_O_isHandlerWellFormed_5 : decode c_O_isHandlerWellFormed 5 = .ok (.getfield 73, 3) := by decide +kernel
theorem d_O_isHandlerWellFormed_8 : decode c_O_isHandlerWellFormed 8 = .ok (.iload_n 1, 1) := by decide +kernel
theorem d_O_isHandlerWellFormed_9 : decode c_O_isHandlerWellFormed 9 = .ok (.iaload, 1) := by decide +kernel
theorem d_O_isHandlerWellFormed_10 : decode c_O_isHandlerWellFormed 10 = .ok (.if_icmp .gt 47, 3) := by decide +kernel
theorem d_O_isHandlerWellFormed_13 : decode c_O_isHandlerWellFormed 13 = .ok (.aload_n 0, 1) := by decide +kernel
theorem d_O_isHandlerWellFormed_14 : decode c_O_isHandlerWellFormed 14 = .ok (.getfield 15, 3) := by decide +kernel
theorem d_O_isHandlerWellFormed_17 : decode c_O_isHandlerWellFormed 17 = .ok (.getfield 73, 3) := by decide +kernel
theorem d_O_isHandlerWellFormed_20 : decode c_O_isHandlerWellFormed 20 = .ok (.iload_n 1, 1) := by decide +kernel
theorem d_O_isHandlerWellFormed_21 : decode c_O_isHandlerWellFormed 21 = .ok (.iaload, 1) := by decide +kernel
theorem d_O_isHandlerWellFormed_22 : decode c_O_isHandlerWellFormed 22 = .ok (.aload_n 0, 1) := by decide +kernel
theorem d_O_isHandlerWellFormed_23 : decode c_O_isHandlerWellFormed 23 = .ok (.getfield 15, 3) := by decide +kernel
theorem d_O_isHandlerWellFormed_26 : decode c_O_isHandlerWellFormed 26 = .ok (.getfield 76, 3) := by decide +kernel
theorem d_O_isHandlerWellFormed_29 : decode c_O_isHandlerWellFormed 29 = .ok (.iload_n 1, 1) := by decide +kernel
theorem d_O_isHandlerWellFormed_30 : decode c_O_isHandlerWellFormed 30 = .ok (.iaload, 1) := by decide +kernel
theorem d_O_isHandlerWellFormed_31 : decode c_O_isHandlerWellFormed 31 = .ok (.if_icmp .ge 26, 3) := by decide +kernel
theorem d_O_isHandlerWellFormed_34 : decode c_O_isHandlerWellFormed 34 = .ok (.aload_n 0, 1) := by decide +kernel
theorem d_O_isHandlerWellFormed_35 : decode c_O_isHandlerWellFormed 35 = .ok (.getfield 15, 3) := by decide +kernel
theorem d_O_isHandlerWellFormed_38 : decode c_O_isHandlerWellFormed 38 = .ok (.getfield 76, 3) := by decide +kernel
theorem d_O_isHandlerWellFormed_41 : decode c_O_isHandlerWellFormed 41 = .ok (.iload_n 1, 1) := by decide +kernel
theorem d_O_isHandlerWellFormed_42 : decode c_O_isHandlerWellFormed 42 = .ok (.iaload, 1) := by decide +kernel
theorem d_O_isHandlerWellFormed_43 : decode c_O_isHandlerWellFormed 43 = .ok (.aload_n 0, 1) := by decide +kernel
theorem d_O_isHandlerWellFormed_44 : decode c_O_isHandlerWellFormed 44 = .ok (.getfield 15, 3) := by decide +kernel
theorem d_O_isHandlerWellFormed_47 : decode c_O_isHandlerWellFormed 47 = .ok (.getfield 19, 3) := by decide +kernel
theorem d_O_isHandlerWellFormed_50 : decode c_O_isHandlerWellFormed 50 = .ok (.if_icmp .gt 7, 3) := by decide +kernel
theorem d_O_isHandlerWellFormed_53 : decode c_O_isHandlerWellFormed 53 = .ok (.iconst 1, 1) := by decide +kernel
theorem d_O_isHandlerWellFormed_54 : decode c_O_isHandlerWellFormed 54 = .ok (.goto 4, 3) := by decide +kernel
theorem d_O_isHandlerWellFormed_57 : decode c_O_isHandlerWellFormed 57 = .ok (.iconst 0, 1) := by decide +kernel
theorem d_O_isHandlerWellFormed_58 : decode c_O_isHandlerWellFormed 58 = .ok (.istore_n 2, 1) := by decide +kernel
theorem d_O_isHandlerWellFormed_59 : decode c_O_isHandlerWellFormed 59 = .ok (.iload_n 2, 1) := by decide +kernel
theorem d_O_isHandlerWellFormed_60 : decode c_O_isHandlerWellFormed 60 = .ok (.ifCond .eq 22, 3) := by decide +kernel
theorem d_O_isHandlerWellFormed_63 : decode c_O_isHandlerWellFormed 63 = .ok (.aload_n 0, 1) := by decide +kernel
theorem d_O_isHandlerWellFormed_64 : decode c_O_isHandlerWellFormed 64 = .ok (.getfield 15, 3) := by decide +kernel
theorem d_O_isHandlerWellFormed_67 : decode c_O_isHandlerWellFormed 67 = .ok (.aload_n 0, 1) := by decide +kernel
theorem d_O_isHandlerWellFormed_68 : decode c_O_isHandlerWellFormed 68 = .ok (.getfield 15, 3) := by decide +kernel
theorem d_O_isHandlerWellFormed_71 : decode c_O_isHandlerWellFormed 71 = .ok (.getfield 79, 3) := by decide +kernel
theorem d_O_isHandlerWellFormed_74 : decode c_O_isHandlerWellFormed 74 = .ok (.iload_n 1, 1) := by decide +kernel
theorem d_O_isHandlerWellFormed_75 : decode c_O_isHandlerWellFormed 75 = .ok (.iaload, 1) := by decide +kernel
theorem d_O_isHandlerWellFormed_76 : decode c_O_isHandlerWellFormed 76 = .ok (.invokevirtual 56, 3) := by decide +kernel
theorem d_O_isHandlerWellFormed_79 : decode c_O_isHandlerWellFormed 79 = .ok (.ifCond .ne 5, 3) := by decide +kernel
theorem d_O_isHandlerWellFormed_82 : decode c_O_isHandlerWellFormed 82 = .ok (.iconst 0, 1) := by decide +kernel
theorem d_O_isHandlerWellFormed_83 : decode c_O_isHandlerWellFormed 83 = .ok (.ireturn, 1) := by decide +kernel
theorem d_O_isHandlerWellFormed_84 : decode c_O_isHandlerWellFormed 84 = .ok (.aload_n 0, 1) := by decide +kernel
theorem d_O_isHandlerWellFormed_85 : decode c_O_isHandlerWellFormed 85 = .ok (.getfield 15, 3) := by decide +kernel
theorem d_O_isHandlerWellFormed_88 : decode c_O_isHandlerWellFormed 88 = .ok (.getfield 82, 3) := by decide +kernel
theorem d_O_isHandlerWellFormed_91 : decode c_O_isHandlerWellFormed 91 = .ok (.iload_n 1, 1) := by decide +kernel
theorem d_O_isHandlerWellFormed_92 : decode c_O_isHandlerWellFormed 92 = .ok (.iaload, 1) := by decide +kernel
theorem d_O_isHandlerWellFormed_93 : decode c_O_isHandlerWellFormed 93 = .ok (.istore_n 3, 1) := by decide +kernel
theorem d_O_isHandlerWellFormed_94 : decode c_O_isHandlerWellFormed 94 = .ok (.aload_n 0, 1) := by decide +kernel
theorem d_O_isHandlerWellFormed_95 : decode c_O_isHandlerWellFormed 95 = .ok (.getfield 9, 3) := by decide +kernel
theorem d_O_isHandlerWellFormed_98 : decode c_O_isHandlerWellFormed 98 = .ok (.iload_n 3, 1) := by decide +kernel
theorem d_O_isHandlerWellFormed_99 : decode c_O_isHandlerWellFormed 99 = .ok (.invokevirtual 59, 3) := by decide +kernel
theorem d_O_isHandlerWellFormed_102 : decode c_O_isHandlerWellFormed 102 = .ok (.ifCond .eq 19, 3) := by decide +kernel
theorem d_O_isHandlerWellFormed_105 : decode c_O_isHandlerWellFormed 105 = .ok (.aload_n 0, 1) := by decide +kernel
theorem d_O_isHandlerWellFormed_106 : decode c_O_isHandlerWellFormed 106 = .ok (.getfield 9, 3) := by decide +kernel
theorem d_O_isHandlerWellFormed_109 : decode c_O_isHandlerWellFormed 109 = .ok (.iload_n 3, 1) := by decide +kernel
theorem d_O_isHandlerWellFormed_110 : decode c_O_isHandlerWellFormed 110 = .ok (.iconst 1, 1) := by decide +kernel
theorem d_O_isHandlerWellFormed_111 : decode c_O_isHandlerWellFormed 111 = .ok (.invokevirtual 85, 3) := by decide +kernel
theorem d_O_isHandlerWellFormed_114 : decode c_O_isHandlerWellFormed 114 = .ok (.ifCond .eq 7, 3) := by decide +kernel
theorem d_O_isHandlerWellFormed_117 : decode c_O_isHandlerWellFormed 117 = .ok (.iconst 1, 1) := by decide +kernel
theorem d_O_isHandlerWellFormed_118 : decode c_O_isHandlerWellFormed 118 = .ok (.goto 4, 3) := by decide +kernel
theorem d_O_isHandlerWellFormed_121 : decode c_O_isHandlerWellFormed 121 = .ok (.iconst 0, 1) := by decide +kernel
theorem d_O_isHandlerWellFormed_122 : decode c_O_isHandlerWellFormed 122 = .ok (.ireturn, 1) := by decide +kernel
theorem d_O_haveArgumentsRoom_0 : decode c_O_haveArgumentsRoom 0 = .ok (.iconst 0, 1) := by decide +kernel
theorem d_O_haveArgumentsRoom_1 : decode c_O_haveArgumentsRoom 1 = .ok (.istore_n 1, 1) := by decide +kernel
theorem d_O_haveArgumentsRoom_2 : decode c_O_haveArgumentsRoom 2 = .ok (.iconst 0, 1) := by decide +kernel
theorem d_O_haveArgumentsRoom_3 : decode c_O_haveArgumentsRoom 3 = .ok (.istore_n 2, 1) := by decide +kernel
theorem d_O_haveArgumentsRoom_4 : decode c_O_haveArgumentsRoom 4 = .ok (.iload_n 2, 1) := by decide +kernel
theorem d_O_haveArgumentsRoom_5 : decode c_O_haveArgumentsRoom 5 = .ok (.aload_n 0, 1) := by decide +kernel
theorem d_O_haveArgumentsRoom_6 : decode c_O_haveArgumentsRoom 6 = .ok (.getfield 15, 3) := by decide +kernel
theorem d_O_haveArgumentsRoom_9 : decode c_O_haveArgumentsRoom 9 = .ok (.getfield 89, 3) := by decide +kernel
theorem d_O_haveArgumentsRoom_12 : decode c_O_haveArgumentsRoom 12 = .ok (.if_icmp .ge 24, 3) := by decide +kernel
theorem d_O_haveArgumentsRoom_15 : decode c_O_haveArgumentsRoom 15 = .ok (.iload_n 1, 1) := by decide +kernel
theorem d_O_haveArgumentsRoom_16 : decode c_O_haveArgumentsRoom 16 = .ok (.aload_n 0, 1) := by decide +kernel
theorem d_O_haveArgumentsRoom_17 : decode c_O_haveArgumentsRoom 17 = .ok (.getfield 15, 3) := by decide +kernel
theorem d_O_haveArgumentsRoom_20 : decode c_O_haveArgumentsRoom 20 = .ok (.getfield 92, 3) := by decide +kernel
theorem d_O_haveArgumentsRoom_23 : decode c_O_haveArgumentsRoom 23 = .ok (.iload_n 2, 1) := by decide +kernel
theorem d_O_haveArgumentsRoom_24 : decode c_O_haveArgumentsRoom 24 = .ok (.iaload, 1) := by decide +kernel
theorem d_O_haveArgumentsRoom_25 : decode c_O_haveArgumentsRoom 25 = .ok (.invokestatic 95, 3) := by decide +kernel
theorem d_O_haveArgumentsRoom_28 : decode c_O_haveArgumentsRoom 28 = .ok (.iadd, 1) := by decide +kernel
theorem d_O_haveArgumentsRoom_29 : decode c_O_haveArgumentsRoom 29 = .ok (.istore_n 1, 1) := by decide +kernel
theorem d_O_haveArgumentsRoom_30 : decode c_O_haveArgumentsRoom 30 = .ok (.iinc 2 1, 3) := by decide +kernel
theorem d_O_haveArgumentsRoom_33 : decode c_O_haveArgumentsRoom 33 = .ok (.goto (-29), 3) := by decide +kernel
theorem d_O_haveArgumentsRoom_36 : decode c_O_haveArgumentsRoom 36 = .ok (.iload_n 1, 1) := by decide +kernel
theorem d_O_haveArgumentsRoom_37 : decode c_O_haveArgumentsRoom 37 = .ok (.aload_n 0, 1) := by decide +kernel
theorem d_O_haveArgumentsRoom_38 : decode c_O_haveArgumentsRoom 38 = .ok (.getfield 15, 3) := by decide +kernel
theorem d_O_haveArgumentsRoom_41 : decode c_O_haveArgumentsRoom 41 = .ok (.getfield 99, 3) := by decide +kernel
theorem d_O_haveArgumentsRoom_44 : decode c_O_haveArgumentsRoom 44 = .ok (.if_icmp .gt 7, 3) := by decide +kernel
theorem d_O_haveArgumentsRoom_47 : decode c_O_haveArgumentsRoom 47 = .ok (.iconst 1, 1) := by decide +kernel
theorem d_O_haveArgumentsRoom_48 : decode c_O_haveArgumentsRoom 48 = .ok (.goto 4, 3) := by decide +kernel
theorem d_O_haveArgumentsRoom_51 : decode c_O_haveArgumentsRoom 51 = .ok (.iconst 0, 1) := by decide +kernel
theorem d_O_haveArgumentsRoom_52 : decode c_O_haveArgumentsRoom 52 = .ok (.ireturn, 1) := by decide +kernel
theorem d_R_init_0 : decode c_R_init 0 = .ok (.aload_n 0, 1) := by decide +kernel
theorem d_R_init_1 : decode c_R_init 1 = .ok (.invokespecial 3, 3) := by decide +kernel
theorem d_R_init_4 : decode c_R_init 4 = .ok (.aload_n 0, 1) := by decide +kernel
theorem d_R_init_5 : decode c_R_init 5 = .ok (.bipush 12, 2) := by decide +kernel
theorem d_R_init_7 : decode c_R_init 7 = .ok (.newarray .int, 2) := by decide +kernel
theorem d_R_init_9 : decode c_R_init 9 = .ok (.putfield 9, 3) := by decide +kernel
theorem d_R_init_12 : decode c_R_init 12 = .ok (.aload_n 0, 1) := by decide +kernel
theorem d_R_init_13 : decode c_R_init 13 = .ok (.bipush 12, 2) := by decide +kernel
theorem d_R_init_15 : decode c_R_init 15 = .ok (.newarray .int, 2) := by decide +kernel
theorem d_R_init_17 : decode c_R_init 17 = .ok (.putfield 15, 3) := by decide +kernel
theorem d_R_init_20 : decode c_R_init 20 = .ok (.aload_n 0, 1) := by decide +kernel
theorem d_R_init_21 : decode c_R_init 21 = .ok (.bipush 48, 2) := by decide +kernel
theorem d_R_init_23 : decode c_R_init 23 = .ok (.newarray .int, 2) := by decide +kernel
theorem d_R_init_25 : decode c_R_init 25 = .ok (.putfield 18, 3) := by decide +kernel
theorem d_R_init_28 : decode c_R_init 28 = .ok (.return_, 1) := by decide +kernel
theorem d_R_copy_0 : decode c_R_copy 0 = .ok (.aload_n 1, 1) := by decide +kernel
theorem d_R_copy_1 : decode c_R_copy 1 = .ok (.getfield 9, 3) := by decide +kernel
theorem d_R_copy_4 : decode c_R_copy 4 = .ok (.iconst 0, 1) := by decide +kernel
theorem d_R_copy_5 : decode c_R_copy 5 = .ok (.aload_n 0, 1) := by decide +kernel
theorem d_R_copy_6 : decode c_R_copy 6 = .ok (.getfield 9, 3) := by decide +kernel
theorem d_R_copy_9 : decode c_R_copy 9 = .ok (.iconst 0, 1) := by decide +kernel
theorem d_R_copy_10 : decode c_R_copy 10 = .ok (.bipush 12, 2) := by decide +kernel
theorem d_R_copy_12 : decode c_R_copy 12 = .ok (.invokestatic 21, 3) := by decide +kernel
theorem d_R_copy_15 : decode c_R_copy 15 = .ok (.aload_n 1, 1) := by decide +kernel
theorem d_R_copy_16 : decode c_R_copy 16 = .ok (.getfield 15, 3) := by decide +kernel
theorem d_R_copy_19 : decode c_R_copy 19 = .ok (.iconst 0, 1) := by decide +kernel
theorem d_R_copy_20 : decode c_R_copy 20 = .ok (.aload_n 0, 1) := by decide +kernel
theorem d_R_copy_21 : decode c_R_copy 21 = .ok (.getfield 15, 3) := by decide +kernel
theorem d_R_copy_24 : decode c_R_copy 24 = .ok (.iconst 0, 1) := by decide +kernel
theorem d_R_copy_25 : decode c_R_copy 25 = .ok (.bipush 12, 2) := by decide +kernel
theorem d_R_copy_27 : decode c_R_copy 27 = .ok (.invokestatic 21, 3) := by decide +kernel
theorem d_R_copy_30 : decode c_R_copy 30 = .ok (.aload_n 1, 1) := by decide +kernel
theorem d_R_copy_31 : decode c_R_copy 31 = .ok (.getfield 18, 3) := by decide +kernel
theorem d_R_copy_34 : decode c_R_copy 34 = .ok (.iconst 0, 1) := by decide +kernel
theorem d_R_copy_35 : decode c_R_copy 35 = .ok (.aload_n 0, 1) := by decide +kernel
theorem d_R_copy_36 : decode c_R_copy 36 = .ok (.getfield 18, 3) := by decide +kernel
theorem d_R_copy_39 : decode c_R_copy 39 = .ok (.iconst 0, 1) := by decide +kernel
theorem d_R_copy_40 : decode c_R_copy 40 = .ok (.bipush 48, 2) := by decide +kernel
theorem d_R_copy_42 : decode c_R_copy 42 = .ok (.invokestatic 21, 3) := by decide +kernel
theorem d_R_copy_45 : decode c_R_copy 45 = .ok (.aload_n 0, 1) := by decide +kernel
theorem d_R_copy_46 : decode c_R_copy 46 = .ok (.aload_n 1, 1) := by decide +kernel
theorem d_R_copy_47 : decode c_R_copy 47 = .ok (.getfield 27, 3) := by decide +kernel
theorem d_R_copy_50 : decode c_R_copy 50 = .ok (.putfield 27, 3) := by decide +kernel
theorem d_R_copy_53 : decode c_R_copy 53 = .ok (.aload_n 0, 1) := by decide +kernel
theorem d_R_copy_54 : decode c_R_copy 54 = .ok (.aload_n 1, 1) := by decide +kernel
theorem d_R_copy_55 : decode c_R_copy 55 = .ok (.getfield 31, 3) := by decide +kernel
theorem d_R_copy_58 : decode c_R_copy 58 = .ok (.putfield 31, 3) := by decide +kernel
theorem d_R_copy_61 : decode c_R_copy 61 = .ok (.return_, 1) := by decide +kernel
theorem d_R_start_0 : decode c_R_start 0 = .ok (.aload_n 0, 1) := by decide +kernel
theorem d_R_start_1 : decode c_R_start 1 = .ok (.getfield 9, 3) := by decide +kernel
theorem d_R_start_4 : decode c_R_start 4 = .ok (.iconst 0, 1) := by decide +kernel
theorem d_R_start_5 : decode c_R_start 5 = .ok (.invokestatic 35, 3) := by decide +kernel
theorem d_R_start_8 : decode c_R_start 8 = .ok (.aload_n 0, 1) := by decide +kernel
theorem d_R_start_9 : decode c_R_start 9 = .ok (.getfield 18, 3) := by decide +kernel
theorem d_R_start_12 : decode c_R_start 12 = .ok (.iconst 0, 1) := by decide +kernel
theorem d_R_start_13 : decode c_R_start 13 = .ok (.invokestatic 35, 3) := by decide +kernel
theorem d_R_start_16 : decode c_R_start 16 = .ok (.aload_n 0, 1) := by decide +kernel
theorem d_R_start_17 : decode c_R_start 17 = .ok (.iconst 0, 1) := by decide +kernel
theorem d_R_start_18 : decode c_R_start 18 = .ok (.putfield 27, 3) := by decide +kernel
theorem d_R_start_21 : decode c_R_start 21 = .ok (.aload_n 0, 1) := by decide +kernel
theorem d_R_start_22 : decode c_R_start 22 = .ok (.lconst 0, 1) := by decide +kernel
theorem d_R_start_23 : decode c_R_start 23 = .ok (.putfield 31, 3) := by decide +kernel
theorem d_R_start_26 : decode c_R_start 26 = .ok (.iconst 0, 1) := by decide +kernel
theorem d_R_start_27 : decode c_R_start 27 = .ok (.istore_n 2, 1) := by decide +kernel
theorem d_R_start_28 : decode c_R_start 28 = .ok (.iconst 0, 1) := by decide +kernel
theorem d_R_start_29 : decode c_R_start 29 = .ok (.istore_n 3, 1) := by decide +kernel
theorem d_R_start_30 : decode c_R_start 30 = .ok (.iload_n 3, 1) := by decide +kernel
theorem d_R_start_31 : decode c_R_start 31 = .ok (.aload_n 1, 1) := by decide +kernel
theorem d_R_start_32 : decode c_R_start 32 = .ok (.getfield 41, 3) := by decide +kernel
theorem d_R_start_35 : decode c_R_start 35 = .ok (.if_icmp .ge 39, 3) := by decide +kernel
theorem d_R_start_38 : decode c_R_start 38 = .ok (.iload_n 2, 1) := by decide +kernel
theorem d_R_start_39 : decode c_R_start 39 = .ok (.bipush 12, 2) := by decide +kernel
theorem d_R_start_41 : decode c_R_start 41 = .ok (.if_icmp .ge 33, 3) := by decide +kernel
theorem d_R_start_44 : decode c_R_start 44 = .ok (.aload_n 0, 1) := by decide +kernel
theorem d_R_start_45 : decode c_R_start 45 = .ok (.getfield 9, 3) := by decide +kernel
theorem d_R_start_48 : decode c_R_start 48 = .ok (.iload_n 2, 1) := by decide +kernel
theorem d_R_start_49 : decode c_R_start 49 = .ok (.aload_n 1, 1) := by decide +kernel
theorem d_R_start_50 : decode c_R_start 50 = .ok (.getfield 46, 3) := by decide +kernel
theorem d_R_start_53 : decode c_R_start 53 = .ok (.iload_n 3, 1) := by decide +kernel
theorem d_R_start_54 : decode c_R_start 54 = .ok (.iaload, 1) := by decide +kernel
theorem d_R_start_55 : decode c_R_start 55 = .ok (.iastore, 1) := by decide +kernel
theorem d_R_start_56 : decode c_R_start 56 = .ok (.iload_n 2, 1) := by decide +kernel
theorem d_R_start_57 : decode c_R_start 57 = .ok (.aload_n 1, 1) := by decide +kernel
theorem d_R_start_58 : decode c_R_start 58 = .ok (.getfield 46, 3) := by decide +kernel
theorem d_R_start_61 : decode c_R_start 61 = .ok (.iload_n 3, 1) := by decide +kernel
theorem d_R_start_62 : decode c_R_start 62 = .ok (.iaload, 1) := by decide +kernel
theorem d_R_start_63 : decode c_R_start 63 = .ok (.invokestatic 49, 3) := by decide +kernel
theorem d_R_start_66 : decode c_R_start 66 = .ok (.iadd, 1) := by decide +kernel
theorem d_R_start_67 : decode c_R_start 67 = .ok (.istore_n 2, 1) := by decide +kernel
theorem d_R_start_68 : decode c_R_start 68 = .ok (.iinc 3 1, 3) := by decide +kernel
theorem d_R_start_71 : decode c_R_start 71 = .ok (.goto (-41), 3) := by decide +kernel
theorem d_R_start_74 : decode c_R_start 74 = .ok (.return_, 1) := by decide +kernel
theorem d_R_catchIn_0 : decode c_R_catchIn 0 = .ok (.aload_n 0, 1) := by decide +kernel
theorem d_R_catchIn_1 : decode c_R_catchIn 1 = .ok (.aload_n 1, 1) := by decide +kernel
theorem d_R_catchIn_2 : decode c_R_catchIn 2 = .ok (.invokevirtual 53, 3) := by decide +kernel
theorem d_R_catchIn_5 : decode c_R_catchIn 5 = .ok (.aload_n 0, 1) := by decide +kernel
theorem d_R_catchIn_6 : decode c_R_catchIn 6 = .ok (.getfield 15, 3) := by decide +kernel
theorem d_R_catchIn_9 : decode c_R_catchIn 9 = .ok (.iconst 0, 1) := by decide +kernel
theorem d_R_catchIn_10 : decode c_R_catchIn 10 = .ok (.iload_n 2, 1) := by decide +kernel
theorem d_R_catchIn_11 : decode c_R_catchIn 11 = .ok (.iastore, 1) := by decide +kernel
theorem d_R_catchIn_12 : decode c_R_catchIn 12 = .ok (.aload_n 0, 1) := by decide +kernel
theorem d_R_catchIn_13 : decode c_R_catchIn 13 = .ok (.iconst 1, 1) := by decide +kernel
theorem d_R_catchIn_14 : decode c_R_catchIn 14 = .ok (.putfield 27, 3) := by decide +kernel
theorem d_R_catchIn_17 : decode c_R_catchIn 17 = .ok (.return_, 1) := by decide +kernel
theorem d_R_comeBack_0 : decode c_R_comeBack 0 = .ok (.aload_n 0, 1) := by decide +kernel
theorem d_R_comeBack_1 : decode c_R_comeBack 1 = .ok (.aload_n 2, 1) := by decide +kernel
theorem d_R_comeBack_2 : decode c_R_comeBack 2 = .ok (.invokevirtual 53, 3) := by decide +kernel
theorem d_R_comeBack_5 : decode c_R_comeBack 5 = .ok (.aload_n 1, 1) := by decide +kernel
theorem d_R_comeBack_6 : decode c_R_comeBack 6 = .ok (.getfield 15, 3) := by decide +kernel
theorem d_R_comeBack_9 : decode c_R_comeBack 9 = .ok (.iconst 0, 1) := by decide +kernel
theorem d_R_comeBack_10 : decode c_R_comeBack 10 = .ok (.aload_n 0, 1) := by decide +kernel
theorem d_R_comeBack_11 : decode c_R_comeBack 11 = .ok (.getfield 15, 3) := by decide +kernel
theorem d_R_comeBack_14 : decode c_R_comeBack 14 = .ok (.iconst 0, 1) := by decide +kernel
theorem d_R_comeBack_15 : decode c_R_comeBack 15 = .ok (.bipush 12, 2) := by decide +kernel
theorem d_R_comeBack_17 : decode c_R_comeBack 17 = .ok (.invokestatic 21, 3) := by decide +kernel
theorem d_R_comeBack_20 : decode c_R_comeBack 20 = .ok (.aload_n 0, 1) := by decide +kernel
theorem d_R_comeBack_21 : decode c_R_comeBack 21 = .ok (.aload_n 1, 1) := by decide +kernel
theorem d_R_comeBack_22 : decode c_R_comeBack 22 = .ok (.getfield 27, 3) := by decide +kernel
theorem d_R_comeBack_25 : decode c_R_comeBack 25 = .ok (.putfield 27, 3) := by decide +kernel
theorem d_R_comeBack_28 : decode c_R_comeBack 28 = .ok (.aload_n 1, 1) := by decide +kernel
theorem d_R_comeBack_29 : decode c_R_comeBack 29 = .ok (.getfield 18, 3) := by decide +kernel
theorem d_R_comeBack_32 : decode c_R_comeBack 32 = .ok (.iload_n 3, 1) := by decide +kernel
theorem d_R_comeBack_33 : decode c_R_comeBack 33 = .ok (.iaload, 1) := by decide +kernel
theorem d_R_comeBack_34 : decode c_R_comeBack 34 = .ok (.istore 4, 2) := by decide +kernel
theorem d_R_comeBack_36 : decode c_R_comeBack 36 = .ok (.iconst 0, 1) := by decide +kernel
theorem d_R_comeBack_37 : decode c_R_comeBack 37 = .ok (.istore 5, 2) := by decide +kernel
theorem d_R_comeBack_39 : decode c_R_comeBack 39 = .ok (.iload 5, 2) := by decide +kernel
theorem d_R_comeBack_41 : decode c_R_comeBack 41 = .ok (.bipush 12, 2) := by decide +kernel
theorem d_R_comeBack_43 : decode c_R_comeBack 43 = .ok (.if_icmp .ge 33, 3) := by decide +kernel
theorem d_R_comeBack_46 : decode c_R_comeBack 46 = .ok (.iload 4, 2) := by decide +kernel
theorem d_R_comeBack_48 : decode c_R_comeBack 48 = .ok (.iload 5, 2) := by decide +kernel
theorem d_R_comeBack_50 : decode c_R_comeBack 50 = .ok (.ishr, 1) := by decide +kernel
theorem d_R_comeBack_51 : decode c_R_comeBack 51 = .ok (.iconst 1, 1) := by decide +kernel
theorem d_R_comeBack_52 : decode c_R_comeBack 52 = .ok (.iand, 1) := by decide +kernel
theorem d_R_comeBack_53 : decode c_R_comeBack 53 = .ok (.ifCond .eq 17, 3) := by decide +kernel
theorem d_R_comeBack_56 : decode c_R_comeBack 56 = .ok (.aload_n 0, 1) := by decide +kernel
theorem d_R_comeBack_57 : decode c_R_comeBack 57 = .ok (.getfield 9, 3) := by decide +kernel
theorem d_R_comeBack_60 : decode c_R_comeBack 60 = .ok (.iload 5, 2) := by decide +kernel
theorem d_R_comeBack_62 : decode c_R_comeBack 62 = .ok (.aload_n 1, 1) := by decide +kernel
theorem d_R_comeBack_63 : decode c_R_comeBack 63 = .ok (.getfield 9, 3) := by decide +kernel
theorem d_R_comeBack_66 : decode c_R_comeBack 66 = .ok (.iload 5, 2) := by decide +kernel
theorem d_R_comeBack_68 : decode c_R_comeBack 68 = .ok (.iaload, 1) := by decide +kernel
theorem d_R_comeBack_69 : decode c_R_comeBack 69 = .ok (.iastore, 1) := by decide +kernel
theorem d_R_comeBack_70 : decode c_R_comeBack 70 = .ok (.iinc 5 1, 3) := by decide +kernel
theorem d_R_comeBack_73 : decode c_R_comeBack 73 = .ok (.goto (-34), 3) := by decide +kernel
theorem d_R_comeBack_76 : decode c_R_comeBack 76 = .ok (.aload_n 0, 1) := by decide +kernel
theorem d_R_comeBack_77 : decode c_R_comeBack 77 = .ok (.iload 4, 2) := by decide +kernel
theorem d_R_comeBack_79 : decode c_R_comeBack 79 = .ok (.invokevirtual 57, 3) := by decide +kernel
theorem d_R_comeBack_82 : decode c_R_comeBack 82 = .ok (.aload_n 0, 1) := by decide +kernel
theorem d_R_comeBack_83 : decode c_R_comeBack 83 = .ok (.sipush 2000, 3) := by decide +kernel
theorem d_R_comeBack_86 : decode c_R_comeBack 86 = .ok (.iload_n 3, 1) := by decide +kernel
theorem d_R_comeBack_87 : decode c_R_comeBack 87 = .ok (.iadd, 1) := by decide +kernel
theorem d_R_comeBack_88 : decode c_R_comeBack 88 = .ok (.iconst 0, 1) := by decide +kernel
theorem d_R_comeBack_89 : decode c_R_comeBack 89 = .ok (.invokevirtual 61, 3) := by decide +kernel
theorem d_R_comeBack_92 : decode c_R_comeBack 92 = .ok (.return_, 1) := by decide +kernel
theorem d_R_top_0 : decode c_R_top 0 = .ok (.iload_n 1, 1) := by decide +kernel
theorem d_R_top_1 : decode c_R_top 1 = .ok (.aload_n 0, 1) := by decide +kernel
theorem d_R_top_2 : decode c_R_top 2 = .ok (.getfield 27, 3) := by decide +kernel
theorem d_R_top_5 : decode c_R_top 5 = .ok (.if_icmp .ge 19, 3) := by decide +kernel
theorem d_R_top_8 : decode c_R_top 8 = .ok (.aload_n 0, 1) := by decide +kernel
theorem d_R_top_9 : decode c_R_top 9 = .ok (.getfield 15, 3) := by decide +kernel
theorem d_R_top_12 : decode c_R_top 12 = .ok (.aload_n 0, 1) := by decide +kernel
theorem d_R_top_13 : decode c_R_top 13 = .ok (.getfield 27, 3) := by decide +kernel
theorem d_R_top_16 : decode c_R_top 16 = .ok (.iconst 1, 1) := by decide +kernel
theorem d_R_top_17 : decode c_R_top 17 = .ok (.isub, 1) := by decide +kernel
theorem d_R_top_18 : decode c_R_top 18 = .ok (.iload_n 1, 1) := by decide +kernel
theorem d_R_top_19 : decode c_R_top 19 = .ok (.isub, 1) := by decide +kernel
theorem d_R_top_20 : decode c_R_top 20 = .ok (.iaload, 1) := by decide +kernel
theorem d_R_top_21 : decode c_R_top 21 = .ok (.goto 4, 3) := by decide +kernel
theorem d_R_top_24 : decode c_R_top 24 = .ok (.iconst (-1), 1) := by decide +kernel
theorem d_R_top_25 : decode c_R_top 25 = .ok (.ireturn, 1) := by decide +kernel
theorem d_R_hasNarrow_0 : decode c_R_hasNarrow 0 = .ok (.iload_n 1, 1) := by decide +kernel
theorem d_R_hasNarrow_1 : decode c_R_hasNarrow 1 = .ok (.aload_n 0, 1) := by decide +kernel
theorem d_R_hasNarrow_2 : decode c_R_hasNarrow 2 = .ok (.getfield 27, 3) := by decide +kernel
theorem d_R_hasNarrow_5 : decode c_R_hasNarrow 5 = .ok (.if_icmp .ge 26, 3) := by decide +kernel
theorem d_R_hasNarrow_8 : decode c_R_hasNarrow 8 = .ok (.aload_n 0, 1) := by decide +kernel
theorem d_R_hasNarrow_9 : decode c_R_hasNarrow 9 = .ok (.getfield 15, 3) := by decide +kernel
theorem d_R_hasNarrow_12 : decode c_R_hasNarrow 12 = .ok (.aload_n 0, 1) := by decide +kernel
theorem d_R_hasNarrow_13 : decode c_R_hasNarrow 13 = .ok (.getfield 27, 3) := by decide +kernel
theorem d_R_hasNarrow_16 : decode c_R_hasNarrow 16 = .ok (.iconst 1, 1) := by decide +kernel
theorem d_R_hasNarrow_17 : decode c_R_hasNarrow 17 = .ok (.isub, 1) := by decide +kernel
theorem d_R_hasNarrow_18 : decode c_R_hasNarrow 18 = .ok (.iload_n 1, 1) := by decide +kernel
theorem d_R_hasNarrow_19 : decode c_R_hasNarrow 19 = .ok (.isub, 1) := by decide +kernel
theorem d_R_hasNarrow_20 : decode c_R_hasNarrow 20 = .ok (.iaload, 1) := by decide +kernel
theorem d_R_hasNarrow_21 : decode c_R_hasNarrow 21 = .ok (.invokestatic 65, 3) := by decide +kernel
theorem d_R_hasNarrow_24 : decode c_R_hasNarrow 24 = .ok (.ifCond .ne 7, 3) := by decide +kernel
theorem d_R_hasNarrow_27 : decode c_R_hasNarrow 27 = .ok (.iconst 1, 1) := by decide +kernel
theorem d_R_hasNarrow_28 : decode c_R_hasNarrow 28 = .ok (.goto 4, 3) := by decide +kernel
theorem d_R_hasNarrow_31 : decode c_R_hasNarrow 31 = .ok (.iconst 0, 1) := by decide +kernel
theorem d_R_hasNarrow_32 : decode c_R_hasNarrow 32 = .ok (.ireturn, 1) := by decide +kernel
theorem d_R_drop_0 : decode c_R_drop 0 = .ok (.aload_n 0, 1) := by decide +kernel
theorem d_R_drop_1 : decode c_R_drop 1 = .ok (.dup, 1) := by decide +kernel
theorem d_R_drop_2 : decode c_R_drop 2 = .ok (.getfield 27, 3) := by decide +kernel
theorem d_R_drop_5 : decode c_R_drop 5 = .ok (.iload_n 1, 1) := by decide +kernel
theorem d_R_drop_6 : decode c_R_drop 6 = .ok (.isub, 1) := by decide +kernel
theorem d_R_drop_7 : decode c_R_drop 7 = .ok (.putfield 27, 3) := by decide +kernel
theorem d_R_drop_10 : decode c_R_drop 10 = .ok (.return_, 1) := by decide +kernel
theorem d_R_push_0 : decode c_R_push 0 = .ok (.iload_n 1, 1) := by decide +kernel
theorem d_R_push_1 : decode c_R_push 1 = .ok (.invokestatic 49, 3) := by decide +kernel
theorem d_R_push_4 : decode c_R_push 4 = .ok (.istore_n 3, 1) := by decide +kernel
theorem d_R_push_5 : decode c_R_push 5 = .ok (.iconst 0, 1) := by decide +kernel
theorem d_R_push_6 : decode c_R_push 6 = .ok (.istore 4, 2) := by decide +kernel
theorem d_R_push_8 : decode c_R_push 8 = .ok (.iload 4, 2) := by decide +kernel
theorem d_R_push_10 : decode c_R_push 10 = .ok (.aload_n 0, 1) := by decide +kernel
theorem d_R_push_11 : decode c_R_push 11 = .ok (.getfield 27, 3) := by decide +kernel
theorem d_R_push_14 : decode c_R_push 14 = .ok (.if_icmp .ge 22, 3) := by decide +kernel
theorem d_R_push_17 : decode c_R_push 17 = .ok (.iload_n 3, 1) := by decide +kernel
theorem d_R_push_18 : decode c_R_push 18 = .ok (.aload_n 0, 1) := by decide +kernel
theorem d_R_push_19 : decode c_R_push 19 = .ok (.getfield 15, 3) := by decide +kernel
theorem d_R_push_22 : decode c_R_push 22 = .ok (.iload 4, 2) := by decide +kernel
theorem d_R_push_24 : decode c_R_push 24 = .ok (.iaload, 1) := by decide +kernel
theorem d_R_push_25 : decode c_R_push 25 = .ok (.invokestatic 49, 3) := by decide +kernel
theorem d_R_push_28 : decode c_R_push 28 = .ok (.iadd, 1) := by decide +kernel
theorem d_R_push_29 : decode c_R_push 29 = .ok (.istore_n 3, 1) := by decide +kernel
theorem d_R_push_30 : decode c_R_push 30 = .ok (.iinc 4 1, 3) := by decide +kernel
theorem d_R_push_33 : decode c_R_push 33 = .ok (.goto (-25), 3) := by decide +kernel
theorem d_R_push_36 : decode c_R_push 36 = .ok (.iload_n 3, 1) := by decide +kernel
theorem d_R_push_37 : decode c_R_push 37 = .ok (.iload_n 2, 1) := by decide +kernel
theorem d_R_push_38 : decode c_R_push 38 = .ok (.if_icmp .le 5, 3) := by decide +kernel
theorem d_R_push_41 : decode c_R_push 41 = .ok (.iconst 3, 1) := by decide +kernel
theorem d_R_push_42 : decode c_R_push 42 = .ok (.ireturn, 1) := by decide +kernel
theorem d_R_push_43 : decode c_R_push 43 = .ok (.aload_n 0, 1) := by decide +kernel
theorem d_R_push_44 : decode c_R_push 44 = .ok (.getfield 15, 3) := by decide +kernel
theorem d_R_push_47 : decode c_R_push 47 = .ok (.aload_n 0, 1) := by decide +kernel
theorem d_R_push_48 : decode c_R_push 48 = .ok (.getfield 27, 3) := by decide +kernel
theorem d_R_push_51 : decode c_R_push 51 = .ok (.iload_n 1, 1) := by decide +kernel
theorem d_R_push_52 : decode c_R_push 52 = .ok (.iastore, 1) := by decide +kernel
theorem d_R_push_53 : decode c_R_push 53 = .ok (.aload_n 0, 1) := by decide +kernel
theorem d_R_push_54 : decode c_R_push 54 = .ok (.dup, 1) := by decide +kernel
theorem d_R_push_55 : decode c_R_push 55 = .ok (.getfield 27, 3) := by decide +kernel
theorem d_R_push_58 : decode c_R_push 58 = .ok (.iconst 1, 1) := by decide +kernel
theorem d_R_push_59 : decode c_R_push 59 = .ok (.iadd, 1) := by decide +kernel
theorem d_R_push_60 : decode c_R_push 60 = .ok (.putfield 27, 3) := by decide +kernel
theorem d_R_push_63 : decode c_R_push 63 = .ok (.iconst 0, 1) := by decide +kernel
theorem d_R_push_64 : decode c_R_push 64 = .ok (.ireturn, 1) := by decide +kernel
theorem d_R_store_0 : decode c_R_store 0 = .ok (.iload_n 1, 1) := by decide +kernel
theorem d_R_store_1 : decode c_R_store 1 = .ok (.ifCond .le 26, 3) := by decide +kernel
theorem d_R_store_4 : decode c_R_store 4 = .ok (.aload_n 0, 1) := by decide +kernel
theorem d_R_store_5 : decode c_R_store 5 = .ok (.getfield 9, 3) := by decide +kernel
theorem d_R_store_8 : decode c_R_store 8 = .ok (.iload_n 1, 1) := by decide +kernel
theorem d_R_store_9 : decode c_R_store 9 = .ok (.iconst 1, 1) := by decide +kernel
theorem d_R_store_10 : decode c_R_store 10 = .ok (.isub, 1) := by decide +kernel
theorem d_R_store_11 : decode c_R_store 11 = .ok (.iaload, 1) := by decide +kernel
theorem d_R_store_12 : decode c_R_store 12 = .ok (.invokestatic 65, 3) := by decide +kernel
theorem d_R_store_15 : decode c_R_store 15 = .ok (.ifCond .eq 12, 3) := by decide +kernel
theorem d_R_store_18 : decode c_R_store 18 = .ok (.aload_n 0, 1) := by decide +kernel
theorem d_R_store_19 : decode c_R_store 19 = .ok (.getfield 9, 3) := by decide +kernel
theorem d_R_store_22 : decode c_R_store 22 = .ok (.iload_n 1, 1) := by decide +kernel
theorem d_R_store_23 : decode c_R_store 23 = .ok (.iconst 1, 1) := by decide +kernel
theorem d_R_store_24 : decode c_R_store 24 = .ok (.isub, 1) := by decide +kernel
theorem d_R_store_25 : decode c_R_store 25 = .ok (.iconst 0, 1) := by decide +kernel
theorem d_R_store_26 : decode c_R_store 26 = .ok (.iastore, 1) := by decide +kernel
theorem d_R_store_27 : decode c_R_store 27 = .ok (.aload_n 0, 1) := by decide +kernel
theorem d_R_store_28 : decode c_R_store 28 = .ok (.getfield 9, 3) := by decide +kernel
theorem d_R_store_31 : decode c_R_store 31 = .ok (.iload_n 1, 1) := by decide +kernel
theorem d_R_store_32 : decode c_R_store 32 = .ok (.iload_n 2, 1) := by decide +kernel
theorem d_R_store_33 : decode c_R_store 33 = .ok (.iastore, 1) := by decide +kernel
theorem d_R_store_34 : decode c_R_store 34 = .ok (.iload_n 2, 1) := by decide +kernel
theorem d_R_store_35 : decode c_R_store 35 = .ok (.invokestatic 65, 3) := by decide +kernel
theorem d_R_store_38 : decode c_R_store 38 = .ok (.ifCond .eq 12, 3) := by decide +kernel
theorem d_R_store_41 : decode c_R_store 41 = .ok (.aload_n 0, 1) := by decide +kernel
theorem d_R_store_42 : decode c_R_store 42 = .ok (.getfield 9, 3) := by decide +kernel
theorem d_R_store_45 : decode c_R_store 45 = .ok (.iload_n 1, 1) := by decide +kernel
theorem d_R_store_46 : decode c_R_store 46 = .ok (.iconst 1, 1) := by decide +kernel
theorem d_R_store_47 : decode c_R_store 47 = .ok (.iadd, 1) := by decide +kernel
theorem d_R_store_48 : decode c_R_store 48 = .ok (.iconst 0, 1) := by decide +kernel
theorem d_R_store_49 : decode c_R_store 49 = .ok (.iastore, 1) := by decide +kernel
theorem d_R_store_50 : decode c_R_store 50 = .ok (.return_, 1) := by decide +kernel
theorem d_R_touch_0 : decode c_R_touch 0 = .ok (.aload_n 0, 1) := by decide +kernel
theorem d_R_touch_1 : decode c_R_touch 1 = .ok (.iload_n 2, 1) := by decide +kernel
theorem d_R_touch_2 : decode c_R_touch 2 = .ok (.invokestatic 65, 3) := by decide +kernel
theorem d_R_touch_5 : decode c_R_touch 5 = .ok (.ifCond .eq 9, 3) := by decide +kernel
theorem d_R_touch_8 : decode c_R_touch 8 = .ok (.iconst 3, 1) := by decide +kernel
theorem d_R_touch_9 : decode c_R_touch 9 = .ok (.iload_n 1, 1) := by decide +kernel
theorem d_R_touch_10 : decode c_R_touch 10 = .ok (.ishl, 1) := by decide +kernel
theorem d_R_touch_11 : decode c_R_touch 11 = .ok (.goto 6, 3) := by decide +kernel
theorem d_R_touch_14 : decode c_R_touch 14 = .ok (.iconst 1, 1) := by decide +kernel
theorem d_R_touch_15 : decode c_R_touch 15 = .ok (.iload_n 1, 1) := by decide +kernel
theorem d_R_touch_16 : decode c_R_touch 16 = .ok (.ishl, 1) := by decide +kernel
theorem d_R_touch_17 : decode c_R_touch 17 = .ok (.invokevirtual 57, 3) := by decide +kernel
theorem d_R_touch_20 : decode c_R_touch 20 = .ok (.return_, 1) := by decide +kernel
theorem d_R_touchAll_0 : decode c_R_touchAll 0 = .ok (.iconst 0, 1) := by decide +kernel
theorem d_R_touchAll_1 : decode c_R_touchAll 1 = .ok (.istore_n 2, 1) := by decide +kernel
theorem d_R_touchAll_2 : decode c_R_touchAll 2 = .ok (.iload_n 2, 1) := by decide +kernel
theorem d_R_touchAll_3 : decode c_R_touchAll 3 = .ok (.bipush 48, 2) := by decide +kernel
theorem d_R_touchAll_5 : decode c_R_touchAll 5 = .ok (.if_icmp .ge 38, 3) := by decide +kernel
theorem d_R_touchAll_8 : decode c_R_touchAll 8 = .ok (.aload_n 0, 1) := by decide +kernel
theorem d_R_touchAll_9 : decode c_R_touchAll 9 = .ok (.getfield 31, 3) := by decide +kernel
theorem d_R_touchAll_12 : decode c_R_touchAll 12 = .ok (.iload_n 2, 1) := by decide +kernel
theorem d_R_touchAll_13 : decode c_R_touchAll 13 = .ok (.lshr, 1) := by decide +kernel
theorem d_R_touchAll_14 : decode c_R_touchAll 14 = .ok (.lconst 0, 1) := by decide +kernel
theorem d_R_touchAll_15 : decode c_R_touchAll 15 = .ok (.lcmp, 1) := by decide +kernel
theorem d_R_touchAll_16 : decode c_R_touchAll 16 = .ok (.ifCond .eq 27, 3) := by decide +kernel
theorem d_R_touchAll_19 : decode c_R_touchAll 19 = .ok (.aload_n 0, 1) := by decide +kernel
theorem d_R_touchAll_20 : decode c_R_touchAll 20 = .ok (.iload_n 2, 1) := by decide +kernel
theorem d_R_touchAll_21 : decode c_R_touchAll 21 = .ok (.invokevirtual 69, 3) := by decide +kernel
theorem d_R_touchAll_24 : decode c_R_touchAll 24 = .ok (.ifCond .eq 13, 3) := by decide +kernel
theorem d_R_touchAll_27 : decode c_R_touchAll 27 = .ok (.aload_n 0, 1) := by decide +kernel
theorem d_R_touchAll_28 : decode c_R_touchAll 28 = .ok (.getfield 18, 3) := by decide +kernel
theorem d_R_touchAll_31 : decode c_R_touchAll 31 = .ok (.iload_n 2, 1) := by decide +kernel
theorem d_R_touchAll_32 : decode c_R_touchAll 32 = .ok (.dup2, 1) := by decide +kernel
theorem d_R_touchAll_33 : decode c_R_touchAll 33 = .ok (.iaload, 1) := by decide +kernel
theorem d_R_touchAll_34 : decode c_R_touchAll 34 = .ok (.iload_n 1, 1) := by decide +kernel
theorem d_R_touchAll_35 : decode c_R_touchAll 35 = .ok (.ior, 1) := by decide +kernel
theorem d_R_touchAll_36 : decode c_R_touchAll 36 = .ok (.iastore, 1) := by decide +kernel
theorem d_R_touchAll_37 : decode c_R_touchAll 37 = .ok (.iinc 2 1, 3) := by decide +kernel
theorem d_R_touchAll_40 : decode c_R_touchAll 40 = .ok (.goto (-38), 3) := by decide +kernel
theorem d_R_touchAll_43 : decode c_R_touchAll 43 = .ok (.return_, 1) := by decide +kernel
theorem d_R_isIn_0 : decode c_R_isIn 0 = .ok (.aload_n 0, 1) := by decide +kernel
theorem d_R_isIn_1 : decode c_R_isIn 1 = .ok (.getfield 31, 3) := by decide +kernel
theorem d_R_isIn_4 : decode c_R_isIn 4 = .ok (.iload_n 1, 1) := by decide +kernel
theorem d_R_isIn_5 : decode c_R_isIn 5 = .ok (.lshr, 1) := by decide +kernel
theorem d_R_isIn_6 : decode c_R_isIn 6 = .ok (.lconst 1, 1) := by decide +kernel
theorem d_R_isIn_7 : decode c_R_isIn 7 = .ok (.land, 1) := by decide +kernel
theorem d_R_isIn_8 : decode c_R_isIn 8 = .ok (.lconst 0, 1) := by decide +kernel
theorem d_R_isIn_9 : decode c_R_isIn 9 = .ok (.lcmp, 1) := by decide +kernel
theorem d_R_isIn_10 : decode c_R_isIn 10 = .ok (.ifCond .eq 7, 3) := by decide +kernel
theorem d_R_isIn_13 : decode c_R_isIn 13 = .ok (.iconst 1, 1) := by decide +kernel
theorem d_R_isIn_14 : decode c_R_isIn 14 = .ok (.goto 4, 3) := by decide +kernel
theorem d_R_isIn_17 : decode c_R_isIn 17 = .ok (.iconst 0, 1) := by decide +kernel
theorem d_R_isIn_18 : decode c_R_isIn 18 = .ok (.ireturn, 1) := by decide +kernel
theorem d_R_enter_0 : decode c_R_enter 0 = .ok (.aload_n 0, 1) := by decide +kernel
theorem d_R_enter_1 : decode c_R_enter 1 = .ok (.dup, 1) := by decide +kernel
theorem d_R_enter_2 : decode c_R_enter 2 = .ok (.getfield 31, 3) := by decide +kernel
theorem d_R_enter_5 : decode c_R_enter 5 = .ok (.lconst 1, 1) := by decide +kernel
theorem d_R_enter_6 : decode c_R_enter 6 = .ok (.iload_n 1, 1) := by decide +kernel
theorem d_R_enter_7 : decode c_R_enter 7 = .ok (.lshl, 1) := by decide +kernel
theorem d_R_enter_8 : decode c_R_enter 8 = .ok (.lor, 1) := by decide +kernel
theorem d_R_enter_9 : decode c_R_enter 9 = .ok (.putfield 31, 3) := by decide +kernel
theorem d_R_enter_12 : decode c_R_enter 12 = .ok (.aload_n 0, 1) := by decide +kernel
theorem d_R_enter_13 : decode c_R_enter 13 = .ok (.getfield 18, 3) := by decide +kernel
theorem d_R_enter_16 : decode c_R_enter 16 = .ok (.iload_n 1, 1) := by decide +kernel
theorem d_R_enter_17 : decode c_R_enter 17 = .ok (.iconst 0, 1) := by decide +kernel
theorem d_R_enter_18 : decode c_R_enter 18 = .ok (.iastore, 1) := by decide +kernel
theorem d_R_enter_19 : decode c_R_enter 19 = .ok (.return_, 1) := by decide +kernel
theorem d_R_replace_0 : decode c_R_replace 0 = .ok (.iconst 0, 1) := by decide +kernel
theorem d_R_replace_1 : decode c_R_replace 1 = .ok (.istore_n 3, 1) := by decide +kernel
theorem d_R_replace_2 : decode c_R_replace 2 = .ok (.iload_n 3, 1) := by decide +kernel
theorem d_R_replace_3 : decode c_R_replace 3 = .ok (.bipush 12, 2) := by decide +kernel
theorem d_R_replace_5 : decode c_R_replace 5 = .ok (.if_icmp .ge 26, 3) := by decide +kernel
theorem d_R_replace_8 : decode c_R_replace 8 = .ok (.aload_n 0, 1) := by decide +kernel
theorem d_R_replace_9 : decode c_R_replace 9 = .ok (.getfield 9, 3) := by decide +kernel
theorem d_R_replace_12 : decode c_R_replace 12 = .ok (.iload_n 3, 1) := by decide +kernel
theorem d_R_replace_13 : decode c_R_replace 13 = .ok (.iaload, 1) := by decide +kernel
theorem d_R_replace_14 : decode c_R_replace 14 = .ok (.iload_n 1, 1) := by decide +kernel
theorem d_R_replace_15 : decode c_R_replace 15 = .ok (.if_icmp .ne 10, 3) := by decide +kernel
theorem d_R_replace_18 : decode c_R_replace 18 = .ok (.aload_n 0, 1) := by decide +kernel
theorem d_R_replace_19 : decode c_R_replace 19 = .ok (.getfield 9, 3) := by decide +kernel
theorem d_R_replace_22 : decode c_R_replace 22 = .ok (.iload_n 3, 1) := by decide +kernel
theorem d_R_replace_23 : decode c_R_replace 23 = .ok (.iload_n 2, 1) := by decide +kernel
theorem d_R_replace_24 : decode c_R_replace 24 = .ok (.iastore, 1) := by decide +kernel
theorem d_R_replace_25 : decode c_R_replace 25 = .ok (.iinc 3 1, 3) := by decide +kernel
theorem d_R_replace_28 : decode c_R_replace 28 = .ok (.goto (-26), 3) := by decide +kernel
theorem d_R_replace_31 : decode c_R_replace 31 = .ok (.iconst 0, 1) := by decide +kernel
theorem d_R_replace_32 : decode c_R_replace 32 = .ok (.istore_n 3, 1) := by decide +kernel
theorem d_R_replace_33 : decode c_R_replace 33 = .ok (.iload_n 3, 1) := by decide +kernel
theorem d_R_replace_34 : decode c_R_replace 34 = .ok (.aload_n 0, 1) := by decide +kernel
theorem d_R_replace_35 : decode c_R_replace 35 = .ok (.getfield 27, 3) := by decide +kernel
theorem d_R_replace_38 : decode c_R_replace 38 = .ok (.if_icmp .ge 26, 3) := by decide +kernel
theorem d_R_replace_41 : decode c_R_replace 41 = .ok (.aload_n 0, 1) := by decide +kernel
theorem d_R_replace_42 : decode c_R_replace 42 = .ok (.getfield 15, 3) := by decide +kernel
theorem d_R_replace_45 : decode c_R_replace 45 = .ok (.iload_n 3, 1) := by decide +kernel
theorem d_R_replace_46 : decode c_R_replace 46 = .ok (.iaload, 1) := by decide +kernel
theorem d_R_replace_47 : decode c_R_replace 47 = .ok (.iload_n 1, 1) := by decide +kernel
theorem d_R_replace_48 : decode c_R_replace 48 = .ok (.if_icmp .ne 10, 3) := by decide +kernel
theorem d_R_replace_51 : decode c_R_replace 51 = .ok (.aload_n 0, 1) := by decide +kernel
theorem d_R_replace_52 : decode c_R_replace 52 = .ok (.getfield 15, 3) := by decide +kernel
theorem d_R_replace_55 : decode c_R_replace 55 = .ok (.iload_n 3, 1) := by decide +kernel
theorem d_R_replace_56 : decode c_R_replace 56 = .ok (.iload_n 2, 1) := by decide +kernel
theorem d_R_replace_57 : decode c_R_replace 57 = .ok (.iastore, 1) := by decide +kernel
theorem d_R_replace_58 : decode c_R_replace 58 = .ok (.iinc 3 1, 3) := by decide +kernel
theorem d_R_replace_61 : decode c_R_replace 61 = .ok (.goto (-28), 3) := by decide +kernel
theorem d_R_replace_64 : decode c_R_replace 64 = .ok (.return_, 1) := by decide +kernel
theorem d_R_isOnStack_0 : decode c_R_isOnStack 0 = .ok (.iconst 0, 1) := by decide +kernel
theorem d_R_isOnStack_1 : decode c_R_isOnStack 1 = .ok (.istore_n 2, 1) := by decide +kernel
theorem d_R_isOnStack_2 : decode c_R_isOnStack 2 = .ok (.iload_n 2, 1) := by decide +kernel
theorem d_R_isOnStack_3 : decode c_R_isOnStack 3 = .ok (.aload_n 0, 1) := by decide +kernel
theorem d_R_isOnStack_4 : decode c_R_isOnStack 4 = .ok (.getfield 27, 3) := by decide +kernel
theorem d_R_isOnStack_7 : decode c_R_isOnStack 7 = .ok (.if_icmp .ge 21, 3) := by decide +kernel
theorem d_R_isOnStack_10 : decode c_R_isOnStack 10 = .ok (.aload_n 0, 1) := by decide +kernel
theorem d_R_isOnStack_11 : decode c_R_isOnStack 11 = .ok (.getfield 15, 3) := by decide +kernel
theorem d_R_isOnStack_14 : decode c_R_isOnStack 14 = .ok (.iload_n 2, 1) := by decide +kernel
theorem d_R_isOnStack_15 : decode c_R_isOnStack 15 = .ok (.iaload, 1) := by decide +kernel
theorem d_R_isOnStack_16 : decode c_R_isOnStack 16 = .ok (.iload_n 1, 1) := by decide +kernel
theorem d_R_isOnStack_17 : decode c_R_isOnStack 17 = .ok (.if_icmp .ne 5, 3) := by decide +kernel
theorem d_R_isOnStack_20 : decode c_R_isOnStack 20 = .ok (.iconst 1, 1) := by decide +kernel
theorem d_R_isOnStack_21 : decode c_R_isOnStack 21 = .ok (.ireturn, 1) := by decide +kernel
theorem d_R_isOnStack_22 : decode c_R_isOnStack 22 = .ok (.iinc 2 1, 3) := by decide +kernel
theorem d_R_isOnStack_25 : decode c_R_isOnStack 25 = .ok (.goto (-23), 3) := by decide +kernel
theorem d_R_isOnStack_28 : decode c_R_isOnStack 28 = .ok (.iconst 0, 1) := by decide +kernel
theorem d_R_isOnStack_29 : decode c_R_isOnStack 29 = .ok (.ireturn, 1) := by decide +kernel
theorem d_R_hasRawLocal_0 : decode c_R_hasRawLocal 0 = .ok (.iconst 0, 1) := by decide +kernel
theorem d_R_hasRawLocal_1 : decode c_R_hasRawLocal 1 = .ok (.istore_n 1, 1) := by decide +kernel
theorem d_R_hasRawLocal_2 : decode c_R_hasRawLocal 2 = .ok (.iload_n 1, 1) := by decide +kernel
theorem d_R_hasRawLocal_3 : decode c_R_hasRawLocal 3 = .ok (.bipush 12, 2) := by decide +kernel
theorem d_R_hasRawLocal_5 : decode c_R_hasRawLocal 5 = .ok (.if_icmp .ge 23, 3) := by decide +kernel
theorem d_R_hasRawLocal_8 : decode c_R_hasRawLocal 8 = .ok (.aload_n 0, 1) := by decide +kernel
theorem d_R_hasRawLocal_9 : decode c_R_hasRawLocal 9 = .ok (.getfield 9, 3) := by decide +kernel
theorem d_R_hasRawLocal_12 : decode c_R_hasRawLocal 12 = .ok (.iload_n 1, 1) := by decide +kernel
theorem d_R_hasRawLocal_13 : decode c_R_hasRawLocal 13 = .ok (.iaload, 1) := by decide +kernel
theorem d_R_hasRawLocal_14 : decode c_R_hasRawLocal 14 = .ok (.invokestatic 72, 3) := by decide +kernel
theorem d_R_hasRawLocal_17 : decode c_R_hasRawLocal 17 = .ok (.ifCond .eq 5, 3) := by decide +kernel
theorem d_R_hasRawLocal_20 : decode c_R_hasRawLocal 20 = .ok (.iconst 1, 1) := by decide +kernel
theorem d_R_hasRawLocal_21 : decode c_R_hasRawLocal 21 = .ok (.ireturn, 1) := by decide +kernel
theorem d_R_hasRawLocal_22 : decode c_R_hasRawLocal 22 = .ok (.iinc 1 1, 3) := by decide +kernel
theorem d_R_hasRawLocal_25 : decode c_R_hasRawLocal 25 = .ok (.goto (-23), 3) := by decide +kernel
theorem d_R_hasRawLocal_28 : decode c_R_hasRawLocal 28 = .ok (.iconst 0, 1) := by decide +kernel
theorem d_R_hasRawLocal_29 : decode c_R_hasRawLocal 29 = .ok (.ireturn, 1) := by decide +kernel
