theorem d_Md_readFunction_0 : decode prog_12_method_26_code 0 = .ok (.aload_n 0, 1) := by decide +kernel
theorem d_Md_readFunction_1 : decode prog_12_method_26_code 1 = .ok (.dup, 1) := by decide +kernel
theorem d_Md_readFunction_2 : decode prog_12_method_26_code 2 = .ok (.getfield 167, 3) := by decide +kernel
theorem d_Md_readFunction_5 : decode prog_12_method_26_code 5 = .ok (.iconst 1, 1) := by decide +kernel
theorem d_Md_readFunction_6 : decode prog_12_method_26_code 6 = .ok (.iadd, 1) := by decide +kernel
theorem d_Md_readFunction_7 : decode prog_12_method_26_code 7 = .ok (.putfield 167, 3) := by decide +kernel
theorem d_Md_readFunction_10 : decode prog_12_method_26_code 10 = .ok (.aload_n 0, 1) := by decide +kernel
theorem d_Md_readFunction_11 : decode prog_12_method_26_code 11 = .ok (.invokevirtual 173, 3) := by decide +kernel
theorem d_Md_readFunction_14 : decode prog_12_method_26_code 14 = .ok (.bipush 65, 2) := by decide +kernel
theorem d_Md_readFunction_16 : decode prog_12_method_26_code 16 = .ok (.isub, 1) := by decide +kernel
theorem d_Md_readFunction_17 : decode prog_12_method_26_code 17 = .ok (.istore_n 2, 1) := by decide +kernel
theorem d_Md_readFunction_18 : decode prog_12_method_26_code 18 = .ok (.aload_n 0, 1) := by decide +kernel
theorem d_Md_readFunction_19 : decode prog_12_method_26_code 19 = .ok (.invokevirtual 173, 3) := by decide +kernel
theorem d_Md_readFunction_22 : decode prog_12_method_26_code 22 = .ok (.invokestatic 247, 3) := by decide +kernel
theorem d_Md_readFunction_25 : decode prog_12_method_26_code 25 = .ok (.ifCond .ne 12, 3) := by decide +kernel
theorem d_Md_readFunction_28 : decode prog_12_method_26_code 28 = .ok (.aload_n 0, 1) := by decide +kernel
theorem d_Md_readFunction_29 : decode prog_12_method_26_code 29 = .ok (.aload_n 0, 1) := by decide +kernel
theorem d_Md_readFunction_30 : decode prog_12_method_26_code 30 = .ok (.getfield 167, 3) := by decide +kernel
theorem d_Md_readFunction_33 : decode prog_12_method_26_code 33 = .ok (.putfield 170, 3) := by decide +kernel
theorem d_Md_readFunction_36 : decode prog_12_method_26_code 36 = .ok (.return_, 1) := by decide +kernel
theorem d_Md_readFunction_37 : decode prog_12_method_26_code 37 = .ok (.aload_n 0, 1) := by decide +kernel
theorem d_Md_readFunction_38 : decode prog_12_method_26_code 38 = .ok (.getfield 233, 3) := by decide +kernel
theorem d_Md_readFunction_41 : decode prog_12_method_26_code 41 = .ok (.ifCond .gt 21, 3) := by decide +kernel
theorem d_Md_readFunction_44 : decode prog_12_method_26_code 44 = .ok (.aload_n 0, 1) := by decide +kernel
theorem d_Md_readFunction_45 : decode prog_12_method_26_code 45 = .ok (.getfield 37, 3) := by decide +kernel
theorem d_Md_readFunction_48 : decode prog_12_method_26_code 48 = .ok (.bipush 26, 2) := by decide +kernel
theorem d_Md_readFunction_50 : decode prog_12_method_26_code 50 = .ok (.aload_n 0, 1) := by decide +kernel
theorem d_Md_readFunction_51 : decode prog_12_method_26_code 51 = .ok (.getfield 177, 3) := by decide +kernel
theorem d_Md_readFunction_54 : decode prog_12_method_26_code 54 = .ok (.imul, 1) := by decide +kernel
theorem d_Md_readFunction_55 : decode prog_12_method_26_code 55 = .ok (.iload_n 2, 1) := by decide +kernel
theorem d_Md_readFunction_56 : decode prog_12_method_26_code 56 = .ok (.iadd, 1) := by decide +kernel
theorem d_Md_readFunction_57 : decode prog_12_method_26_code 57 = .ok (.iaload, 1) := by decide +kernel
theorem d_Md_readFunction_58 : decode prog_12_method_26_code 58 = .ok (.iconst (-1), 1) := by decide +kernel
theorem d_Md_readFunction_59 : decode prog_12_method_26_code 59 = .ok (.if_icmp .eq 9, 3) := by decide +kernel
theorem d_Md_readFunction_62 : decode prog_12_method_26_code 62 = .ok (.aload_n 0, 1) := by decide +kernel
theorem d_Md_readFunction_63 : decode prog_12_method_26_code 63 = .ok (.iload_n 1, 1) := by decide +kernel
theorem d_Md_readFunction_64 : decode prog_12_method_26_code 64 = .ok (.putfield 170, 3) := by decide +kernel
theorem d_Md_readFunction_67 : decode prog_12_method_26_code 67 = .ok (.return_, 1) := by decide +kernel
theorem d_Md_readFunction_68 : decode prog_12_method_26_code 68 = .ok (.aload_n 0, 1) := by decide +kernel
theorem d_Md_readFunction_69 : decode prog_12_method_26_code 69 = .ok (.dup, 1) := by decide +kernel
theorem d_Md_readFunction_70 : decode prog_12_method_26_code 70 = .ok (.getfield 167, 3) := by decide +kernel
theorem d_Md_readFunction_73 : decode prog_12_method_26_code 73 = .ok (.iconst 1, 1) := by decide +kernel
theorem d_Md_readFunction_74 : decode prog_12_method_26_code 74 = .ok (.iadd, 1) := by decide +kernel
theorem d_Md_readFunction_75 : decode prog_12_method_26_code 75 = .ok (.putfield 167, 3) := by decide +kernel
theorem d_Md_readFunction_78 : decode prog_12_method_26_code 78 = .ok (.aload_n 0, 1) := by decide +kernel
theorem d_Md_readFunction_79 : decode prog_12_method_26_code 79 = .ok (.bipush 17, 2) := by decide +kernel
theorem d_Md_readFunction_81 : decode prog_12_method_26_code 81 = .ok (.iload_n 1, 1) := by decide +kernel
theorem d_Md_readFunction_82 : decode prog_12_method_26_code 82 = .ok (.invokevirtual 236, 3) := by decide +kernel
theorem d_Md_readFunction_85 : decode prog_12_method_26_code 85 = .ok (.istore_n 3, 1) := by decide +kernel
theorem d_Md_readFunction_86 : decode prog_12_method_26_code 86 = .ok (.aload_n 0, 1) := by decide +kernel
theorem d_Md_readFunction_87 : decode prog_12_method_26_code 87 = .ok (.getfield 37, 3) := by decide +kernel
theorem d_Md_readFunction_90 : decode prog_12_method_26_code 90 = .ok (.bipush 26, 2) := by decide +kernel
theorem d_Md_readFunction_92 : decode prog_12_method_26_code 92 = .ok (.aload_n 0, 1) := by decide +kernel
theorem d_Md_readFunction_93 : decode prog_12_method_26_code 93 = .ok (.getfield 177, 3) := by decide +kernel
theorem d_Md_readFunction_96 : decode prog_12_method_26_code 96 = .ok (.imul, 1) := by decide +kernel
theorem d_Md_readFunction_97 : decode prog_12_method_26_code 97 = .ok (.iload_n 2, 1) := by decide +kernel
theorem d_Md_readFunction_98 : decode prog_12_method_26_code 98 = .ok (.iadd, 1) := by decide +kernel
theorem d_Md_readFunction_99 : decode prog_12_method_26_code 99 = .ok (.aload_n 0, 1) := by decide +kernel
theorem d_Md_readFunction_100 : decode prog_12_method_26_code 100 = .ok (.getfield 230, 3) := by decide +kernel
theorem d_Md_readFunction_103 : decode prog_12_method_26_code 103 = .ok (.iastore, 1) := by decide +kernel
theorem d_Md_readFunction_104 : decode prog_12_method_26_code 104 = .ok (.aload_n 0, 1) := by decide +kernel
theorem d_Md_readFunction_105 : decode prog_12_method_26_code 105 = .ok (.bipush 7, 2) := by decide +kernel
theorem d_Md_readFunction_107 : decode prog_12_method_26_code 107 = .ok (.bipush 123, 2) := by decide +kernel
theorem d_Md_readFunction_109 : decode prog_12_method_26_code 109 = .ok (.iload_n 3, 1) := by decide +kernel
theorem d_Md_readFunction_110 : decode prog_12_method_26_code 110 = .ok (.invokevirtual 243, 3) := by decide +kernel
theorem d_Md_readFunction_113 : decode prog_12_method_26_code 113 = .ok (.return_, 1) := by decide +kernel
theorem d_Md_readSimple_0 : decode prog_12_method_27_code 0 = .ok (.aload_n 0, 1) := by decide +kernel
theorem d_Md_readSimple_1 : decode prog_12_method_27_code 1 = .ok (.dup, 1) := by decide +kernel
theorem d_Md_readSimple_2 : decode prog_12_method_27_code 2 = .ok (.getfield 167, 3) := by decide +kernel
theorem d_Md_readSimple_5 : decode prog_12_method_27_code 5 = .ok (.iconst 1, 1) := by decide +kernel
theorem d_Md_readSimple_6 : decode prog_12_method_27_code 6 = .ok (.iadd, 1) := by decide +kernel
theorem d_Md_readSimple_7 : decode prog_12_method_27_code 7 = .ok (.putfield 167, 3) := by decide +kernel
theorem d_Md_readSimple_10 : decode prog_12_method_27_code 10 = .ok (.aload_n 0, 1) := by decide +kernel
theorem d_Md_readSimple_11 : decode prog_12_method_27_code 11 = .ok (.iload_n 1, 1) := by decide +kernel
theorem d_Md_readSimple_12 : decode prog_12_method_27_code 12 = .ok (.iload_n 2, 1) := by decide +kernel
theorem d_Md_readSimple_13 : decode prog_12_method_27_code 13 = .ok (.invokevirtual 236, 3) := by decide +kernel
theorem d_Md_readSimple_16 : decode prog_12_method_27_code 16 = .ok (.istore_n 3, 1) := by decide +kernel
theorem d_Md_readSimple_17 : decode prog_12_method_27_code 17 = .ok (.aload_n 0, 1) := by decide +kernel
theorem d_Md_readSimple_18 : decode prog_12_method_27_code 18 = .ok (.getfield 31, 3) := by decide +kernel
theorem d_Md_readSimple_21 : decode prog_12_method_27_code 21 = .ok (.sipush 600, 3) := by decide +kernel
theorem d_Md_readSimple_24 : decode prog_12_method_27_code 24 = .ok (.aload_n 0, 1) := by decide +kernel
theorem d_Md_readSimple_25 : decode prog_12_method_27_code 25 = .ok (.getfield 177, 3) := by decide +kernel
theorem d_Md_readSimple_28 : decode prog_12_method_27_code 28 = .ok (.imul, 1) := by decide +kernel
theorem d_Md_readSimple_29 : decode prog_12_method_27_code 29 = .ok (.iload_n 3, 1) := by decide +kernel
theorem d_Md_readSimple_30 : decode prog_12_method_27_code 30 = .ok (.iadd, 1) := by decide +kernel
theorem d_Md_readSimple_31 : decode prog_12_method_27_code 31 = .ok (.aload_n 0, 1) := by decide +kernel
theorem d_Md_readSimple_32 : decode prog_12_method_27_code 32 = .ok (.iconst 1, 1) := by decide +kernel
theorem d_Md_readSimple_33 : decode prog_12_method_27_code 33 = .ok (.invokevirtual 250, 3) := by decide +kernel
theorem d_Md_readSimple_36 : decode prog_12_method_27_code 36 = .ok (.iastore, 1) := by decide +kernel
theorem d_Md_readSimple_37 : decode prog_12_method_27_code 37 = .ok (.aload_n 0, 1) := by decide +kernel
theorem d_Md_readSimple_38 : decode prog_12_method_27_code 38 = .ok (.bipush 59, 2) := by decide +kernel
theorem d_Md_readSimple_40 : decode prog_12_method_27_code 40 = .ok (.invokevirtual 197, 3) := by decide +kernel
theorem d_Md_readSimple_43 : decode prog_12_method_27_code 43 = .ok (.iload_n 3, 1) := by decide +kernel
theorem d_Md_readSimple_44 : decode prog_12_method_27_code 44 = .ok (.ireturn, 1) := by decide +kernel
theorem d_Md_readSet_0 : decode prog_12_method_28_code 0 = .ok (.aload_n 0, 1) := by decide +kernel
theorem d_Md_readSet_1 : decode prog_12_method_28_code 1 = .ok (.invokevirtual 173, 3) := by decide +kernel
theorem d_Md_readSet_4 : decode prog_12_method_28_code 4 = .ok (.istore_n 2, 1) := by decide +kernel
theorem d_Md_readSet_5 : decode prog_12_method_28_code 5 = .ok (.aload_n 0, 1) := by decide +kernel
theorem d_Md_readSet_6 : decode prog_12_method_28_code 6 = .ok (.iload_n 2, 1) := by decide +kernel
theorem d_Md_readSet_7 : decode prog_12_method_28_code 7 = .ok (.bipush 64, 2) := by decide +kernel
theorem d_Md_readSet_9 : decode prog_12_method_28_code 9 = .ok (.if_icmp .ne 7, 3) := by decide +kernel
theorem d_Md_readSet_12 : decode prog_12_method_28_code 12 = .ok (.iconst 2, 1) := by decide +kernel
theorem d_Md_readSet_13 : decode prog_12_method_28_code 13 = .ok (.goto 14, 3) := by decide +kernel
theorem d_Md_readSet_16 : decode prog_12_method_28_code 16 = .ok (.iload_n 2, 1) := by decide +kernel
theorem d_Md_readSet_17 : decode prog_12_method_28_code 17 = .ok (.bipush 39, 2) := by decide +kernel
theorem d_Md_readSet_19 : decode prog_12_method_28_code 19 = .ok (.if_icmp .ne 7, 3) := by decide +kernel
theorem d_Md_readSet_22 : decode prog_12_method_28_code 22 = .ok (.iconst 3, 1) := by decide +kernel
theorem d_Md_readSet_23 : decode prog_12_method_28_code 23 = .ok (.goto 4, 3) := by decide +kernel
theorem d_Md_readSet_26 : decode prog_12_method_28_code 26 = .ok (.iconst 1, 1) := by decide +kernel
theorem d_Md_readSet_27 : decode prog_12_method_28_code 27 = .ok (.iload_n 1, 1) := by decide +kernel
theorem d_Md_readSet_28 : decode prog_12_method_28_code 28 = .ok (.invokevirtual 236, 3) := by decide +kernel
theorem d_Md_readSet_31 : decode prog_12_method_28_code 31 = .ok (.istore_n 3, 1) := by decide +kernel
theorem d_Md_readSet_32 : decode prog_12_method_28_code 32 = .ok (.sipush 600, 3) := by decide +kernel
theorem d_Md_readSet_35 : decode prog_12_method_28_code 35 = .ok (.aload_n 0, 1) := by decide +kernel
theorem d_Md_readSet_36 : decode prog_12_method_28_code 36 = .ok (.getfield 177, 3) := by decide +kernel
theorem d_Md_readSet_39 : decode prog_12_method_28_code 39 = .ok (.imul, 1) := by decide +kernel
theorem d_Md_readSet_40 : decode prog_12_method_28_code 40 = .ok (.iload_n 3, 1) := by decide +kernel
theorem d_Md_readSet_41 : decode prog_12_method_28_code 41 = .ok (.iadd, 1) := by decide +kernel
theorem d_Md_readSet_42 : decode prog_12_method_28_code 42 = .ok (.istore 4, 2) := by decide +kernel
theorem d_Md_readSet_44 : decode prog_12_method_28_code 44 = .ok (.aload_n 0, 1) := by decide +kernel
theorem d_Md_readSet_45 : decode prog_12_method_28_code 45 = .ok (.dup, 1) := by decide +kernel
theorem d_Md_readSet_46 : decode prog_12_method_28_code 46 = .ok (.getfield 167, 3) := by decide +kernel
theorem d_Md_readSet_49 : decode prog_12_method_28_code 49 = .ok (.iconst 1, 1) := by decide +kernel
theorem d_Md_readSet_50 : decode prog_12_method_28_code 50 = .ok (.iadd, 1) := by decide +kernel
theorem d_Md_readSet_51 : decode prog_12_method_28_code 51 = .ok (.putfield 167, 3) := by decide +kernel
theorem d_Md_readSet_54 : decode prog_12_method_28_code 54 = .ok (.iload_n 2, 1) := by decide +kernel
theorem d_Md_readSet_55 : decode prog_12_method_28_code 55 = .ok (.invokestatic 205, 3) := by decide +kernel
theorem d_Md_readSet_58 : decode prog_12_method_28_code 58 = .ok (.ifCond .eq 17, 3) := by decide +kernel
theorem d_Md_readSet_61 : decode prog_12_method_28_code 61 = .ok (.aload_n 0, 1) := by decide +kernel
theorem d_Md_readSet_62 : decode prog_12_method_28_code 62 = .ok (.getfield 25, 3) := by decide +kernel
theorem d_Md_readSet_65 : decode prog_12_method_28_code 65 = .ok (.iload 4, 2) := by decide +kernel
theorem d_Md_readSet_67 : decode prog_12_method_28_code 67 = .ok (.iload_n 2, 1) := by decide +kernel
theorem d_Md_readSet_68 : decode prog_12_method_28_code 68 = .ok (.bipush 97, 2) := by decide +kernel
theorem d_Md_readSet_70 : decode prog_12_method_28_code 70 = .ok (.isub, 1) := by decide +kernel
theorem d_Md_readSet_71 : decode prog_12_method_28_code 71 = .ok (.iastore, 1) := by decide +kernel
theorem d_Md_readSet_72 : decode prog_12_method_28_code 72 = .ok (.goto 15, 3) := by decide +kernel
theorem d_Md_readSet_75 : decode prog_12_method_28_code 75 = .ok (.aload_n 0, 1) := by decide +kernel
theorem d_Md_readSet_76 : decode prog_12_method_28_code 76 = .ok (.getfield 28, 3) := by decide +kernel
theorem d_Md_readSet_79 : decode prog_12_method_28_code 79 = .ok (.iload 4, 2) := by decide +kernel
theorem d_Md_readSet_81 : decode prog_12_method_28_code 81 = .ok (.aload_n 0, 1) := by decide +kernel
theorem d_Md_readSet_82 : decode prog_12_method_28_code 82 = .ok (.iconst 0, 1) := by decide +kernel
theorem d_Md_readSet_83 : decode prog_12_method_28_code 83 = .ok (.invokevirtual 250, 3) := by decide +kernel
theorem d_Md_readSet_86 : decode prog_12_method_28_code 86 = .ok (.iastore, 1) := by decide +kernel
theorem d_Md_readSet_87 : decode prog_12_method_28_code 87 = .ok (.iload_n 2, 1) := by decide +kernel
theorem d_Md_readSet_88 : decode prog_12_method_28_code 88 = .ok (.bipush 64, 2) := by decide +kernel
theorem d_Md_readSet_90 : decode prog_12_method_28_code 90 = .ok (.if_icmp .ne 64, 3) := by decide +kernel
theorem d_Md_readSet_93 : decode prog_12_method_28_code 93 = .ok (.aload_n 0, 1) := by decide +kernel
theorem d_Md_readSet_94 : decode prog_12_method_28_code 94 = .ok (.bipush 58, 2) := by decide +kernel
theorem d_Md_readSet_96 : decode prog_12_method_28_code 96 = .ok (.invokevirtual 197, 3) := by decide +kernel
theorem d_Md_readSet_99 : decode prog_12_method_28_code 99 = .ok (.aload_n 0, 1) := by decide +kernel
theorem d_Md_readSet_100 : decode prog_12_method_28_code 100 = .ok (.invokevirtual 173, 3) := by decide +kernel
theorem d_Md_readSet_103 : decode prog_12_method_28_code 103 = .ok (.bipush 48, 2) := by decide +kernel
theorem d_Md_readSet_105 : decode prog_12_method_28_code 105 = .ok (.isub, 1) := by decide +kernel
theorem d_Md_readSet_106 : decode prog_12_method_28_code 106 = .ok (.istore 5, 2) := by decide +kernel
theorem d_Md_readSet_108 : decode prog_12_method_28_code 108 = .ok (.aload_n 0, 1) := by decide +kernel
theorem d_Md_readSet_109 : decode prog_12_method_28_code 109 = .ok (.getfield 170, 3) := by decide +kernel
theorem d_Md_readSet_112 : decode prog_12_method_28_code 112 = .ok (.iconst (-1), 1) := by decide +kernel
theorem d_Md_readSet_113 : decode prog_12_method_28_code 113 = .ok (.if_icmp .ne 22, 3) := by decide +kernel
theorem d_Md_readSet_116 : decode prog_12_method_28_code 116 = .ok (.iload 5, 2) := by decide +kernel
theorem d_Md_readSet_118 : decode prog_12_method_28_code 118 = .ok (.ifCond .lt 9, 3) := by decide +kernel
theorem d_Md_readSet_121 : decode prog_12_method_28_code 121 = .ok (.iload 5, 2) := by decide +kernel
theorem d_Md_readSet_123 : decode prog_12_method_28_code 123 = .ok (.iconst 5, 1) := by decide +kernel
theorem d_Md_readSet_124 : decode prog_12_method_28_code 124 = .ok (.if_icmp .le 11, 3) := by decide +kernel
theorem d_Md_readSet_127 : decode prog_12_method_28_code 127 = .ok (.aload_n 0, 1) := by decide +kernel
theorem d_Md_readSet_128 : decode prog_12_method_28_code 128 = .ok (.aload_n 0, 1) := by decide +kernel
theorem d_Md_readSet_129 : decode prog_12_method_28_code 129 = .ok (.getfield 167, 3) := by decide +kernel
theorem d_Md_readSet_132 : decode prog_12_method_28_code 132 = .ok (.putfield 170, 3) := by decide +kernel
theorem d_Md_readSet_135 : decode prog_12_method_28_code 135 = .ok (.aload_n 0, 1) := by decide +kernel
theorem d_Md_readSet_136 : decode prog_12_method_28_code 136 = .ok (.dup, 1) := by decide +kernel
theorem d_Md_readSet_137 : decode prog_12_method_28_code 137 = .ok (.getfield 167, 3) := by decide +kernel
theorem d_Md_readSet_140 : decode prog_12_method_28_code 140 = .ok (.iconst 1, 1) := by decide +kernel
theorem d_Md_readSet_141 : decode prog_12_method_28_code 141 = .ok (.iadd, 1) := by decide +kernel
theorem d_Md_readSet_142 : decode prog_12_method_28_code 142 = .ok (.putfield 167, 3) := by decide +kernel
theorem d_Md_readSet_145 : decode prog_12_method_28_code 145 = .ok (.aload_n 0, 1) := by decide +kernel
theorem d_Md_readSet_146 : decode prog_12_method_28_code 146 = .ok (.getfield 25, 3) := by decide +kernel
theorem d_Md_readSet_149 : decode prog_12_method_28_code 149 = .ok (.iload 4, 2) := by decide +kernel
theorem d_Md_readSet_151 : decode prog_12_method_28_code 151 = .ok (.iload 5, 2) := by decide +kernel
theorem d_Md_readSet_153 : decode prog_12_method_28_code 153 = .ok (.iastore, 1) := by decide +kernel
theorem d_Md_readSet_154 : decode prog_12_method_28_code 154 = .ok (.aload_n 0, 1) := by decide +kernel
theorem d_Md_readSet_155 : decode prog_12_method_28_code 155 = .ok (.bipush 61, 2) := by decide +kernel
theorem d_Md_readSet_157 : decode prog_12_method_28_code 157 = .ok (.invokevirtual 197, 3) := by decide +kernel
theorem d_Md_readSet_160 : decode prog_12_method_28_code 160 = .ok (.aload_n 0, 1) := by decide +kernel
theorem d_Md_readSet_161 : decode prog_12_method_28_code 161 = .ok (.getfield 170, 3) := by decide +kernel
theorem d_Md_readSet_164 : decode prog_12_method_28_code 164 = .ok (.iconst (-1), 1) := by decide +kernel
theorem d_Md_readSet_165 : decode prog_12_method_28_code 165 = .ok (.if_icmp .eq 4, 3) := by decide +kernel
theorem d_Md_readSet_168 : decode prog_12_method_28_code 168 = .ok (.return_, 1) := by decide +kernel
theorem d_Md_readSet_169 : decode prog_12_method_28_code 169 = .ok (.aload_n 0, 1) := by decide +kernel
theorem d_Md_readSet_170 : decode prog_12_method_28_code 170 = .ok (.getfield 31, 3) := by decide +kernel
theorem d_Md_readSet_173 : decode prog_12_method_28_code 173 = .ok (.iload 4, 2) := by decide +kernel
theorem d_Md_readSet_175 : decode prog_12_method_28_code 175 = .ok (.aload_n 0, 1) := by decide +kernel
theorem d_Md_readSet_176 : decode prog_12_method_28_code 176 = .ok (.iconst 1, 1) := by decide +kernel
theorem d_Md_readSet_177 : decode prog_12_method_28_code 177 = .ok (.invokevirtual 250, 3) := by decide +kernel
theorem d_Md_readSet_180 : decode prog_12_method_28_code 180 = .ok (.iastore, 1) := by decide +kernel
theorem d_Md_readSet_181 : decode prog_12_method_28_code 181 = .ok (.aload_n 0, 1) := by decide +kernel
theorem d_Md_readSet_182 : decode prog_12_method_28_code 182 = .ok (.bipush 59, 2) := by decide +kernel
theorem d_Md_readSet_184 : decode prog_12_method_28_code 184 = .ok (.invokevirtual 197, 3) := by decide +kernel
theorem d_Md_readSet_187 : decode prog_12_method_28_code 187 = .ok (.return_, 1) := by decide +kernel
theorem d_Md_simpleOf_0 : decode prog_12_method_29_code 0 = .ok (.iload_n 0, 1) := by decide +kernel
theorem d_Md_simpleOf_1 : decode prog_12_method_29_code 1 = .ok (.lookupswitch 76 #[(33, 59), (38, 67), (43, 64), (60, 73), (94, 61), (124, 70)], 59) := by decide +kernel
theorem d_Md_simpleOf_60 : decode prog_12_method_29_code 60 = .ok (.iconst 4, 1) := by decide +kernel
theorem d_Md_simpleOf_61 : decode prog_12_method_29_code 61 = .ok (.ireturn, 1) := by decide +kernel
theorem d_Md_simpleOf_62 : decode prog_12_method_29_code 62 = .ok (.bipush 12, 2) := by decide +kernel
theorem d_Md_simpleOf_64 : decode prog_12_method_29_code 64 = .ok (.ireturn, 1) := by decide +kernel
theorem d_Md_simpleOf_65 : decode prog_12_method_29_code 65 = .ok (.bipush 13, 2) := by decide +kernel
theorem d_Md_simpleOf_67 : decode prog_12_method_29_code 67 = .ok (.ireturn, 1) := by decide +kernel
theorem d_Md_simpleOf_68 : decode prog_12_method_29_code 68 = .ok (.bipush 14, 2) := by decide +kernel
theorem d_Md_simpleOf_70 : decode prog_12_method_29_code 70 = .ok (.ireturn, 1) := by decide +kernel
theorem d_Md_simpleOf_71 : decode prog_12_method_29_code 71 = .ok (.bipush 15, 2) := by decide +kernel
theorem d_Md_simpleOf_73 : decode prog_12_method_29_code 73 = .ok (.ireturn, 1) := by decide +kernel
theorem d_Md_simpleOf_74 : decode prog_12_method_29_code 74 = .ok (.bipush 16, 2) := by decide +kernel
theorem d_Md_simpleOf_76 : decode prog_12_method_29_code 76 = .ok (.ireturn, 1) := by decide +kernel
theorem d_Md_simpleOf_77 : decode prog_12_method_29_code 77 = .ok (.iconst 0, 1) := by decide +kernel
theorem d_Md_simpleOf_78 : decode prog_12_method_29_code 78 = .ok (.ireturn, 1) := by decide +kernel
theorem d_Md_readBlockWith_0 : decode prog_12_method_30_code 0 = .ok (.aload_n 0, 1) := by decide +kernel
theorem d_Md_readBlockWith_1 : decode prog_12_method_30_code 1 = .ok (.dup, 1) := by decide +kernel
theorem d_Md_readBlockWith_2 : decode prog_12_method_30_code 2 = .ok (.getfield 167, 3) := by decide +kernel
theorem d_Md_readBlockWith_5 : decode prog_12_method_30_code 5 = .ok (.iconst 1, 1) := by decide +kernel
theorem d_Md_readBlockWith_6 : decode prog_12_method_30_code 6 = .ok (.iadd, 1) := by decide +kernel
theorem d_Md_readBlockWith_7 : decode prog_12_method_30_code 7 = .ok (.putfield 167, 3) := by decide +kernel
theorem d_Md_readBlockWith_10 : decode prog_12_method_30_code 10 = .ok (.aload_n 0, 1) := by decide +kernel
theorem d_Md_readBlockWith_11 : decode prog_12_method_30_code 11 = .ok (.iload_n 1, 1) := by decide +kernel
theorem d_Md_readBlockWith_12 : decode prog_12_method_30_code 12 = .ok (.iload_n 3, 1) := by decide +kernel
theorem d_Md_readBlockWith_13 : decode prog_12_method_30_code 13 = .ok (.invokevirtual 236, 3) := by decide +kernel
theorem d_Md_readBlockWith_16 : decode prog_12_method_30_code 16 = .ok (.istore 4, 2) := by decide +kernel
theorem d_Md_readBlockWith_18 : decode prog_12_method_30_code 18 = .ok (.aload_n 0, 1) := by decide +kernel
theorem d_Md_readBlockWith_19 : decode prog_12_method_30_code 19 = .ok (.getfield 31, 3) := by decide +kernel
theorem d_Md_readBlockWith_22 : decode prog_12_method_30_code 22 = .ok (.sipush 600, 3) := by decide +kernel
theorem d_Md_readBlockWith_25 : decode prog_12_method_30_code 25 = .ok (.aload_n 0, 1) := by decide +kernel
theorem d_Md_readBlockWith_26 : decode prog_12_method_30_code 26 = .ok (.getfield 177, 3) := by decide +kernel
theorem d_Md_readBlockWith_29 : decode prog_12_method_30_code 29 = .ok (.imul, 1) := by decide +kernel
theorem d_Md_readBlockWith_30 : decode prog_12_method_30_code 30 = .ok (.iload 4, 2) := by decide +kernel
theorem d_Md_readBlockWith_32 : decode prog_12_method_30_code 32 = .ok (.iadd, 1) := by decide +kernel
theorem d_Md_readBlockWith_33 : decode prog_12_method_30_code 33 = .ok (.aload_n 0, 1) := by decide +kernel
theorem d_Md_readBlockWith_34 : decode prog_12_method_30_code 34 = .ok (.iconst 1, 1) := by decide +kernel
theorem d_Md_readBlockWith_35 : decode prog_12_method_30_code 35 = .ok (.invokevirtual 250, 3) := by decide +kernel
theorem d_Md_readBlockWith_38 : decode prog_12_method_30_code 38 = .ok (.iastore, 1) := by decide +kernel
theorem d_Md_readBlockWith_39 : decode prog_12_method_30_code 39 = .ok (.aload_n 0, 1) := by decide +kernel
theorem d_Md_readBlockWith_40 : decode prog_12_method_30_code 40 = .ok (.iload_n 2, 1) := by decide +kernel
theorem d_Md_readBlockWith_41 : decode prog_12_method_30_code 41 = .ok (.bipush 123, 2) := by decide +kernel
theorem d_Md_readBlockWith_43 : decode prog_12_method_30_code 43 = .ok (.iload 4, 2) := by decide +kernel
theorem d_Md_readBlockWith_45 : decode prog_12_method_30_code 45 = .ok (.invokevirtual 243, 3) := by decide +kernel
theorem d_Md_readBlockWith_48 : decode prog_12_method_30_code 48 = .ok (.return_, 1) := by decide +kernel
theorem d_Md_readStatement_0 : decode prog_12_method_31_code 0 = .ok (.aload_n 0, 1) := by decide +kernel
theorem d_Md_readStatement_1 : decode prog_12_method_31_code 1 = .ok (.getfield 167, 3) := by decide +kernel
theorem d_Md_readStatement_4 : decode prog_12_method_31_code 4 = .ok (.istore_n 1, 1) := by decide +kernel
theorem d_Md_readStatement_5 : decode prog_12_method_31_code 5 = .ok (.aload_n 0, 1) := by decide +kernel
theorem d_Md_readStatement_6 : decode prog_12_method_31_code 6 = .ok (.invokevirtual 173, 3) := by decide +kernel
theorem d_Md_readStatement_9 : decode prog_12_method_31_code 9 = .ok (.istore_n 2, 1) := by decide +kernel
theorem d_Md_readStatement_10 : decode prog_12_method_31_code 10 = .ok (.aload_n 0, 1) := by decide +kernel
theorem d_Md_readStatement_11 : decode prog_12_method_31_code 11 = .ok (.getfield 254, 3) := by decide +kernel
theorem d_Md_readStatement_14 : decode prog_12_method_31_code 14 = .ok (.bipush 100, 2) := by decide +kernel
theorem d_Md_readStatement_16 : decode prog_12_method_31_code 16 = .ok (.if_icmp .ne 12, 3) := by decide +kernel
theorem d_Md_readStatement_19 : decode prog_12_method_31_code 19 = .ok (.aload_n 0, 1) := by decide +kernel
theorem d_Md_readStatement_20 : decode prog_12_method_31_code 20 = .ok (.aload_n 0, 1) := by decide +kernel
theorem d_Md_readStatement_21 : decode prog_12_method_31_code 21 = .ok (.getfield 167, 3) := by decide +kernel
theorem d_Md_readStatement_24 : decode prog_12_method_31_code 24 = .ok (.putfield 170, 3) := by decide +kernel
theorem d_Md_readStatement_27 : decode prog_12_method_31_code 27 = .ok (.return_, 1) := by decide +kernel
theorem d_Md_readStatement_28 : decode prog_12_method_31_code 28 = .ok (.aload_n 0, 1) := by decide +kernel
theorem d_Md_readStatement_29 : decode prog_12_method_31_code 29 = .ok (.dup, 1) := by decide +kernel
theorem d_Md_readStatement_30 : decode prog_12_method_31_code 30 = .ok (.getfield 254, 3) := by decide +kernel
theorem d_Md_readStatement_33 : decode prog_12_method_31_code 33 = .ok (.iconst 1, 1) := by decide +kernel
theorem d_Md_readStatement_34 : decode prog_12_method_31_code 34 = .ok (.iadd, 1) := by decide +kernel
theorem d_Md_readStatement_35 : decode prog_12_method_31_code 35 = .ok (.putfield 254, 3) := by decide +kernel
theorem d_Md_readStatement_38 : decode prog_12_method_31_code 38 = .ok (.iload_n 2, 1) := by decide +kernel
theorem d_Md_readStatement_39 : decode prog_12_method_31_code 39 = .ok (.invokestatic 205, 3) := by decide +kernel
theorem d_Md_readStatement_42 : decode prog_12_method_31_code 42 = .ok (.ifCond .ne 15, 3) := by decide +kernel
theorem d_Md_readStatement_45 : decode prog_12_method_31_code 45 = .ok (.iload_n 2, 1) := by decide +kernel
theorem d_Md_readStatement_46 : decode prog_12_method_31_code 46 = .ok (.bipush 64, 2) := by decide +kernel
theorem d_Md_readStatement_48 : decode prog_12_method_31_code 48 = .ok (.if_icmp .eq 9, 3) := by decide +kernel
theorem d_Md_readStatement_51 : decode prog_12_method_31_code 51 = .ok (.iload_n 2, 1) := by decide +kernel
theorem d_Md_readStatement_52 : decode prog_12_method_31_code 52 = .ok (.bipush 39, 2) := by decide +kernel
theorem d_Md_readStatement_54 : decode prog_12_method_31_code 54 = .ok (.if_icmp .ne 11, 3) := by decide +kernel
theorem d_Md_readStatement_57 : decode prog_12_method_31_code 57 = .ok (.aload_n 0, 1) := by decide +kernel
theorem d_Md_readStatement_58 : decode prog_12_method_31_code 58 = .ok (.iload_n 1, 1) := by decide +kernel
theorem d_Md_readStatement_59 : decode prog_12_method_31_code 59 = .ok (.invokevirtual 257, 3) := by decide +kernel
theorem d_Md_readStatement_62 : decode prog_12_method_31_code 62 = .ok (.goto 191, 3) := by decide +kernel
theorem d_Md_readStatement_65 : decode prog_12_method_31_code 65 = .ok (.iload_n 2, 1) := by decide +kernel
theorem d_Md_readStatement_66 : decode prog_12_method_31_code 66 = .ok (.invokestatic 260, 3) := by decide +kernel
theorem d_Md_readStatement_69 : decode prog_12_method_31_code 69 = .ok (.ifCond .eq 16, 3) := by decide +kernel
theorem d_Md_readStatement_72 : decode prog_12_method_31_code 72 = .ok (.aload_n 0, 1) := by decide +kernel
theorem d_Md_readStatement_73 : decode prog_12_method_31_code 73 = .ok (.iload_n 2, 1) := by decide +kernel
theorem d_Md_readStatement_74 : decode prog_12_method_31_code 74 = .ok (.invokestatic 260, 3) := by decide +kernel
theorem d_Md_readStatement_77 : decode prog_12_method_31_code 77 = .ok (.iload_n 1, 1) := by decide +kernel
theorem d_Md_readStatement_78 : decode prog_12_method_31_code 78 = .ok (.invokevirtual 263, 3) := by decide +kernel
theorem d_Md_readStatement_81 : decode prog_12_method_31_code 81 = .ok (.pop, 1) := by decide +kernel
theorem d_Md_readStatement_82 : decode prog_12_method_31_code 82 = .ok (.goto 171, 3) := by decide +kernel
theorem d_Md_readStatement_85 : decode prog_12_method_31_code 85 = .ok (.iload_n 2, 1) := by decide +kernel
theorem d_Md_readStatement_86 : decode prog_12_method_31_code 86 = .ok (.bipush 63, 2) := by decide +kernel
theorem d_Md_readStatement_88 : decode prog_12_method_31_code 88 = .ok (.if_icmp .ne 13, 3) := by decide +kernel
theorem d_Md_readStatement_91 : decode prog_12_method_31_code 91 = .ok (.aload_n 0, 1) := by decide +kernel
theorem d_Md_readStatement_92 : decode prog_12_method_31_code 92 = .ok (.iconst 5, 1) := by decide +kernel
theorem d_Md_readStatement_93 : decode prog_12_method_31_code 93 = .ok (.iconst 1, 1) := by decide +kernel
theorem d_Md_readStatement_94 : decode prog_12_method_31_code 94 = .ok (.iload_n 1, 1) := by decide +kernel
theorem d_Md_readStatement_95 : decode prog_12_method_31_code 95 = .ok (.invokevirtual 266, 3) := by decide +kernel
theorem d_Md_readStatement_98 : decode prog_12_method_31_code 98 = .ok (.goto 155, 3) := by decide +kernel
theorem d_Md_readStatement_101 : decode prog_12_method_31_code 101 = .ok (.iload_n 2, 1) := by decide +kernel
theorem d_Md_readStatement_102 : decode prog_12_method_31_code 102 = .ok (.bipush 42, 2) := by decide +kernel
theorem d_Md_readStatement_104 : decode prog_12_method_31_code 104 = .ok (.if_icmp .ne 14, 3) := by decide +kernel
theorem d_Md_readStatement_107 : decode prog_12_method_31_code 107 = .ok (.aload_n 0, 1) := by decide +kernel
theorem d_Md_readStatement_108 : decode prog_12_method_31_code 108 = .ok (.bipush 6, 2) := by decide +kernel
theorem d_Md_readStatement_110 : decode prog_12_method_31_code 110 = .ok (.iconst 3, 1) := by decide +kernel
theorem d_Md_readStatement_111 : decode prog_12_method_31_code 111 = .ok (.iload_n 1, 1) := by decide +kernel
theorem d_Md_readStatement_112 : decode prog_12_method_31_code 112 = .ok (.invokevirtual 266, 3) := by decide +kernel
theorem d_Md_readStatement_115 : decode prog_12_method_31_code 115 = .ok (.goto 138, 3) := by decide +kernel
theorem d_Md_readStatement_118 : decode prog_12_method_31_code 118 = .ok (.iload_n 2, 1) := by decide +kernel
theorem d_Md_readStatement_119 : decode prog_12_method_31_code 119 = .ok (.bipush 91, 2) := by decide +kernel
theorem d_Md_readStatement_121 : decode prog_12_method_31_code 121 = .ok (.if_icmp .ne 22, 3) := by decide +kernel
theorem d_Md_readStatement_124 : decode prog_12_method_31_code 124 = .ok (.aload_n 0, 1) := by decide +kernel
theorem d_Md_readStatement_125 : decode prog_12_method_31_code 125 = .ok (.bipush 7, 2) := by decide +kernel
theorem d_Md_readStatement_127 : decode prog_12_method_31_code 127 = .ok (.iload_n 1, 1) := by decide +kernel
theorem d_Md_readStatement_128 : decode prog_12_method_31_code 128 = .ok (.invokevirtual 236, 3) := by decide +kernel
theorem d_Md_readStatement_131 : decode prog_12_method_31_code 131 = .ok (.istore_n 3, 1) := by decide +kernel
theorem d_Md_readStatement_132 : decode prog_12_method_31_code 132 = .ok (.aload_n 0, 1) := by decide +kernel
theorem d_Md_readStatement_133 : decode prog_12_method_31_code 133 = .ok (.iconst 4, 1) := by decide +kernel
theorem d_Md_readStatement_134 : decode prog_12_method_31_code 134 = .ok (.bipush 91, 2) := by decide +kernel
theorem d_Md_readStatement_136 : decode prog_12_method_31_code 136 = .ok (.iload_n 3, 1) := by decide +kernel
theorem d_Md_readStatement_137 : decode prog_12_method_31_code 137 = .ok (.invokevirtual 243, 3) := by decide +kernel
theorem d_Md_readStatement_140 : decode prog_12_method_31_code 140 = .ok (.goto 113, 3) := by decide +kernel
theorem d_Md_readStatement_143 : decode prog_12_method_31_code 143 = .ok (.iload_n 2, 1) := by decide +kernel
theorem d_Md_readStatement_144 : decode prog_12_method_31_code 144 = .ok (.bipush 126, 2) := by decide +kernel
theorem d_Md_readStatement_146 : decode prog_12_method_31_code 146 = .ok (.if_icmp .ne 32, 3) := by decide +kernel
theorem d_Md_readStatement_149 : decode prog_12_method_31_code 149 = .ok (.aload_n 0, 1) := by decide +kernel
theorem d_Md_readStatement_150 : decode prog_12_method_31_code 150 = .ok (.bipush 9, 2) := by decide +kernel
theorem d_Md_readStatement_152 : decode prog_12_method_31_code 152 = .ok (.iload_n 1, 1) := by decide +kernel
theorem d_Md_readStatement_153 : decode prog_12_method_31_code 153 = .ok (.invokevirtual 236, 3) := by decide +kernel
theorem d_Md_readStatement_156 : decode prog_12_method_31_code 156 = .ok (.istore_n 3, 1) := by decide +kernel
theorem d_Md_readStatement_157 : decode prog_12_method_31_code 157 = .ok (.aload_n 0, 1) := by decide +kernel
theorem d_Md_readStatement_158 : decode prog_12_method_31_code 158 = .ok (.dup, 1) := by decide +kernel
theorem d_Md_readStatement_159 : decode prog_12_method_31_code 159 = .ok (.getfield 167, 3) := by decide +kernel
theorem d_Md_readStatement_162 : decode prog_12_method_31_code 162 = .ok (.iconst 1, 1) := by decide +kernel
theorem d_Md_readStatement_163 : decode prog_12_method_31_code 163 = .ok (.iadd, 1) := by decide +kernel
theorem d_Md_readStatement_164 : decode prog_12_method_31_code 164 = .ok (.putfield 167, 3) := by decide +kernel
theorem d_Md_readStatement_167 : decode prog_12_method_31_code 167 = .ok (.aload_n 0, 1) := by decide +kernel
theorem d_Md_readStatement_168 : decode prog_12_method_31_code 168 = .ok (.iconst 5, 1) := by decide +kernel
theorem d_Md_readStatement_169 : decode prog_12_method_31_code 169 = .ok (.bipush 123, 2) := by decide +kernel
theorem d_Md_readStatement_171 : decode prog_12_method_31_code 171 = .ok (.iload_n 3, 1) := by decide +kernel
theorem d_Md_readStatement_172 : decode prog_12_method_31_code 172 = .ok (.invokevirtual 243, 3) := by decide +kernel
theorem d_Md_readStatement_175 : decode prog_12_method_31_code 175 = .ok (.goto 78, 3) := by decide +kernel
theorem d_Md_readStatement_178 : decode prog_12_method_31_code 178 = .ok (.iload_n 2, 1) := by decide +kernel
theorem d_Md_readStatement_179 : decode prog_12_method_31_code 179 = .ok (.bipush 58, 2) := by decide +kernel
theorem d_Md_readStatement_181 : decode prog_12_method_31_code 181 = .ok (.if_icmp .ne 11, 3) := by decide +kernel
theorem d_Md_readStatement_184 : decode prog_12_method_31_code 184 = .ok (.aload_n 0, 1) := by decide +kernel
theorem d_Md_readStatement_185 : decode prog_12_method_31_code 185 = .ok (.iload_n 1, 1) := by decide +kernel
theorem d_Md_readStatement_186 : decode prog_12_method_31_code 186 = .ok (.invokevirtual 269, 3) := by decide +kernel
theorem d_Md_readStatement_189 : decode prog_12_method_31_code 189 = .ok (.goto 64, 3) := by decide +kernel
theorem d_Md_readStatement_192 : decode prog_12_method_31_code 192 = .ok (.iload_n 2, 1) := by decide +kernel
theorem d_Md_readStatement_193 : decode prog_12_method_31_code 193 = .ok (.invokestatic 247, 3) := by decide +kernel
theorem d_Md_readStatement_196 : decode prog_12_method_31_code 196 = .ok (.ifCond .eq 49, 3) := by decide +kernel
theorem d_Md_readStatement_199 : decode prog_12_method_31_code 199 = .ok (.aload_n 0, 1) := by decide +kernel
theorem d_Md_readStatement_200 : decode prog_12_method_31_code 200 = .ok (.bipush 18, 2) := by decide +kernel
theorem d_Md_readStatement_202 : decode prog_12_method_31_code 202 = .ok (.iload_n 1, 1) := by decide +kernel
theorem d_Md_readStatement_203 : decode prog_12_method_31_code 203 = .ok (.invokevirtual 236, 3) := by decide +kernel
theorem d_Md_readStatement_206 : decode prog_12_method_31_code 206 = .ok (.istore_n 3, 1) := by decide +kernel
theorem d_Md_readStatement_207 : decode prog_12_method_31_code 207 = .ok (.aload_n 0, 1) := by decide +kernel
theorem d_Md_readStatement_208 : decode prog_12_method_31_code 208 = .ok (.getfield 25, 3) := by decide +kernel
theorem d_Md_readStatement_211 : decode prog_12_method_31_code 211 = .ok (.sipush 600, 3) := by decide +kernel
theorem d_Md_readStatement_214 : decode prog_12_method_31_code 214 = .ok (.aload_n 0, 1) := by decide +kernel
theorem d_Md_readStatement_215 : decode prog_12_method_31_code 215 = .ok (.getfield 177, 3) := by decide +kernel
theorem d_Md_readStatement_218 : decode prog_12_method_31_code 218 = .ok (.imul, 1) := by decide +kernel
theorem d_Md_readStatement_219 : decode prog_12_method_31_code 219 = .ok (.iload_n 3, 1) := by decide +kernel
theorem d_Md_readStatement_220 : decode prog_12_method_31_code 220 = .ok (.iadd, 1) := by decide +kernel
theorem d_Md_readStatement_221 : decode prog_12_method_31_code 221 = .ok (.iload_n 2, 1) := by decide +kernel
theorem d_Md_readStatement_222 : decode prog_12_method_31_code 222 = .ok (.bipush 65, 2) := by decide +kernel
theorem d_Md_readStatement_224 : decode prog_12_method_31_code 224 = .ok (.isub, 1) := by decide +kernel
theorem d_Md_readStatement_225 : decode prog_12_method_31_code 225 = .ok (.iastore, 1) := by decide +kernel
theorem d_Md_readStatement_226 : decode prog_12_method_31_code 226 = .ok (.aload_n 0, 1) := by decide +kernel
theorem d_Md_readStatement_227 : decode prog_12_method_31_code 227 = .ok (.dup, 1) := by decide +kernel
theorem d_Md_readStatement_228 : decode prog_12_method_31_code 228 = .ok (.getfield 167, 3) := by decide +kernel
theorem d_Md_readStatement_231 : decode prog_12_method_31_code 231 = .ok (.iconst 1, 1) := by decide +kernel
theorem d_Md_readStatement_232 : decode prog_12_method_31_code 232 = .ok (.iadd, 1) := by decide +kernel
theorem d_Md_readStatement_233 : decode prog_12_method_31_code 233 = .ok (.putfield 167, 3) := by decide +kernel
theorem d_Md_readStatement_236 : decode prog_12_method_31_code 236 = .ok (.aload_n 0, 1) := by decide +kernel
theorem d_Md_readStatement_237 : decode prog_12_method_31_code 237 = .ok (.bipush 59, 2) := by decide +kernel
theorem d_Md_readStatement_239 : decode prog_12_method_31_code 239 = .ok (.invokevirtual 197, 3) := by decide +kernel
theorem d_Md_readStatement_242 : decode prog_12_method_31_code 242 = .ok (.goto 11, 3) := by decide +kernel
theorem d_Md_readStatement_245 : decode prog_12_method_31_code 245 = .ok (.aload_n 0, 1) := by decide +kernel
theorem d_Md_readStatement_246 : decode prog_12_method_31_code 246 = .ok (.aload_n 0, 1) := by decide +kernel
theorem d_Md_readStatement_247 : decode prog_12_method_31_code 247 = .ok (.getfield 167, 3) := by decide +kernel
theorem d_Md_readStatement_250 : decode prog_12_method_31_code 250 = .ok (.putfield 170, 3) := by decide +kernel
theorem d_Md_readStatement_253 : decode prog_12_method_31_code 253 = .ok (.return_, 1) := by decide +kernel
theorem d_Md_isEndHere_0 : decode prog_12_method_32_code 0 = .ok (.aload_n 0, 1) := by decide +kernel
theorem d_Md_isEndHere_1 : decode prog_12_method_32_code 1 = .ok (.getfield 233, 3) := by decide +kernel
theorem d_Md_isEndHere_4 : decode prog_12_method_32_code 4 = .ok (.ifCond .le 36, 3) := by decide +kernel
theorem d_Md_isEndHere_7 : decode prog_12_method_32_code 7 = .ok (.aload_n 0, 1) := by decide +kernel
theorem d_Md_isEndHere_8 : decode prog_12_method_32_code 8 = .ok (.invokevirtual 173, 3) := by decide +kernel
theorem d_Md_isEndHere_11 : decode prog_12_method_32_code 11 = .ok (.aload_n 0, 1) := by decide +kernel
theorem d_Md_isEndHere_12 : decode prog_12_method_32_code 12 = .ok (.getfield 46, 3) := by decide +kernel
theorem d_Md_isEndHere_15 : decode prog_12_method_32_code 15 = .ok (.aload_n 0, 1) := by decide +kernel
theorem d_Md_isEndHere_16 : decode prog_12_method_32_code 16 = .ok (.getfield 233, 3) := by decide +kernel
theorem d_Md_isEndHere_19 : decode prog_12_method_32_code 19 = .ok (.iconst 1, 1) := by decide +kernel
theorem d_Md_isEndHere_20 : decode prog_12_method_32_code 20 = .ok (.isub, 1) := by decide +kernel
theorem d_Md_isEndHere_21 : decode prog_12_method_32_code 21 = .ok (.iaload, 1) := by decide +kernel
theorem d_Md_isEndHere_22 : decode prog_12_method_32_code 22 = .ok (.iconst 4, 1) := by decide +kernel
theorem d_Md_isEndHere_23 : decode prog_12_method_32_code 23 = .ok (.if_icmp .ne 8, 3) := by decide +kernel
theorem d_Md_isEndHere_26 : decode prog_12_method_32_code 26 = .ok (.bipush 93, 2) := by decide +kernel
theorem d_Md_isEndHere_28 : decode prog_12_method_32_code 28 = .ok (.goto 5, 3) := by decide +kernel
theorem d_Md_isEndHere_31 : decode prog_12_method_32_code 31 = .ok (.bipush 125, 2) := by decide +kernel
theorem d_Md_isEndHere_33 : decode prog_12_method_32_code 33 = .ok (.if_icmp .ne 7, 3) := by decide +kernel
theorem d_Md_isEndHere_36 : decode prog_12_method_32_code 36 = .ok (.iconst 1, 1) := by decide +kernel
theorem d_Md_isEndHere_37 : decode prog_12_method_32_code 37 = .ok (.goto 4, 3) := by decide +kernel
theorem d_Md_isEndHere_40 : decode prog_12_method_32_code 40 = .ok (.iconst 0, 1) := by decide +kernel
theorem d_Md_isEndHere_41 : decode prog_12_method_32_code 41 = .ok (.ireturn, 1) := by decide +kernel
theorem d_Md_read_0 : decode prog_12_method_33_code 0 = .ok (.aload_n 0, 1) := by decide +kernel
theorem d_Md_read_1 : decode prog_12_method_33_code 1 = .ok (.iconst 0, 1) := by decide +kernel
theorem d_Md_read_2 : decode prog_12_method_33_code 2 = .ok (.putfield 164, 3) := by decide +kernel
theorem d_Md_read_5 : decode prog_12_method_33_code 5 = .ok (.aload_n 0, 1) := by decide +kernel
theorem d_Md_read_6 : decode prog_12_method_33_code 6 = .ok (.iconst 1, 1) := by decide +kernel
theorem d_Md_read_7 : decode prog_12_method_33_code 7 = .ok (.aload_n 0, 1) := by decide +kernel
theorem d_Md_read_8 : decode prog_12_method_33_code 8 = .ok (.getfield 126, 3) := by decide +kernel
theorem d_Md_read_11 : decode prog_12_method_33_code 11 = .ok (.isub, 1) := by decide +kernel
theorem d_Md_read_12 : decode prog_12_method_33_code 12 = .ok (.putfield 177, 3) := by decide +kernel
theorem d_Md_read_15 : decode prog_12_method_33_code 15 = .ok (.aload_n 0, 1) := by decide +kernel
theorem d_Md_read_16 : decode prog_12_method_33_code 16 = .ok (.iconst 0, 1) := by decide +kernel
theorem d_Md_read_17 : decode prog_12_method_33_code 17 = .ok (.putfield 167, 3) := by decide +kernel
theorem d_Md_read_20 : decode prog_12_method_33_code 20 = .ok (.aload_n 0, 1) := by decide +kernel
theorem d_Md_read_21 : decode prog_12_method_33_code 21 = .ok (.iconst (-1), 1) := by decide +kernel
theorem d_Md_read_22 : decode prog_12_method_33_code 22 = .ok (.putfield 170, 3) := by decide +kernel
theorem d_Md_read_25 : decode prog_12_method_33_code 25 = .ok (.aload_n 0, 1) := by decide +kernel
theorem d_Md_read_26 : decode prog_12_method_33_code 26 = .ok (.iconst 0, 1) := by decide +kernel
theorem d_Md_read_27 : decode prog_12_method_33_code 27 = .ok (.putfield 230, 3) := by decide +kernel
theorem d_Md_read_30 : decode prog_12_method_33_code 30 = .ok (.aload_n 0, 1) := by decide +kernel
theorem d_Md_read_31 : decode prog_12_method_33_code 31 = .ok (.iconst 0, 1) := by decide +kernel
theorem d_Md_read_32 : decode prog_12_method_33_code 32 = .ok (.putfield 180, 3) := by decide +kernel
theorem d_Md_read_35 : decode prog_12_method_33_code 35 = .ok (.aload_n 0, 1) := by decide +kernel
theorem d_Md_read_36 : decode prog_12_method_33_code 36 = .ok (.iconst 0, 1) := by decide +kernel
theorem d_Md_read_37 : decode prog_12_method_33_code 37 = .ok (.putfield 254, 3) := by decide +kernel
theorem d_Md_read_40 : decode prog_12_method_33_code 40 = .ok (.aload_n 0, 1) := by decide +kernel
theorem d_Md_read_41 : decode prog_12_method_33_code 41 = .ok (.iconst 0, 1) := by decide +kernel
theorem d_Md_read_42 : decode prog_12_method_33_code 42 = .ok (.putfield 233, 3) := by decide +kernel
theorem d_Md_read_45 : decode prog_12_method_33_code 45 = .ok (.iconst 0, 1) := by decide +kernel
theorem d_Md_read_46 : decode prog_12_method_33_code 46 = .ok (.istore_n 1, 1) := by decide +kernel
theorem d_Md_read_47 : decode prog_12_method_33_code 47 = .ok (.iload_n 1, 1) := by decide +kernel
theorem d_Md_read_48 : decode prog_12_method_33_code 48 = .ok (.bipush 26, 2) := by decide +kernel
theorem d_Md_read_50 : decode prog_12_method_33_code 50 = .ok (.if_icmp .ge 24, 3) := by decide +kernel
theorem d_Md_read_53 : decode prog_12_method_33_code 53 = .ok (.aload_n 0, 1) := by decide +kernel
theorem d_Md_read_54 : decode prog_12_method_33_code 54 = .ok (.getfield 37, 3) := by decide +kernel
theorem d_Md_read_57 : decode prog_12_method_33_code 57 = .ok (.bipush 26, 2) := by decide +kernel
theorem d_Md_read_59 : decode prog_12_method_33_code 59 = .ok (.aload_n 0, 1) := by decide +kernel
theorem d_Md_read_60 : decode prog_12_method_33_code 60 = .ok (.getfield 177, 3) := by decide +kernel
theorem d_Md_read_63 : decode prog_12_method_33_code 63 = .ok (.imul, 1) := by decide +kernel
theorem d_Md_read_64 : decode prog_12_method_33_code 64 = .ok (.iload_n 1, 1) := by decide +kernel
theorem d_Md_read_65 : decode prog_12_method_33_code 65 = .ok (.iadd, 1) := by decide +kernel
theorem d_Md_read_66 : decode prog_12_method_33_code 66 = .ok (.iconst (-1), 1) := by decide +kernel
theorem d_Md_read_67 : decode prog_12_method_33_code 67 = .ok (.iastore, 1) := by decide +kernel
theorem d_Md_read_68 : decode prog_12_method_33_code 68 = .ok (.iinc 1 1, 3) := by decide +kernel
theorem d_Md_read_71 : decode prog_12_method_33_code 71 = .ok (.goto (-24), 3) := by decide +kernel
theorem d_Md_read_74 : decode prog_12_method_33_code 74 = .ok (.aload_n 0, 1) := by decide +kernel
theorem d_Md_read_75 : decode prog_12_method_33_code 75 = .ok (.getfield 170, 3) := by decide +kernel
theorem d_Md_read_78 : decode prog_12_method_33_code 78 = .ok (.iconst (-1), 1) := by decide +kernel
theorem d_Md_read_79 : decode prog_12_method_33_code 79 = .ok (.if_icmp .ne 93, 3) := by decide +kernel
theorem d_Md_read_82 : decode prog_12_method_33_code 82 = .ok (.aload_n 0, 1) := by decide +kernel
theorem d_Md_read_83 : decode prog_12_method_33_code 83 = .ok (.getfield 167, 3) := by decide +kernel
theorem d_Md_read_86 : decode prog_12_method_33_code 86 = .ok (.aload_n 0, 1) := by decide +kernel
theorem d_Md_read_87 : decode prog_12_method_33_code 87 = .ok (.getfield 117, 3) := by decide +kernel
theorem d_Md_read_90 : decode prog_12_method_33_code 90 = .ok (.if_icmp .lt 10, 3) := by decide +kernel
theorem d_Md_read_93 : decode prog_12_method_33_code 93 = .ok (.aload_n 0, 1) := by decide +kernel
theorem d_Md_read_94 : decode prog_12_method_33_code 94 = .ok (.getfield 233, 3) := by decide +kernel
theorem d_Md_read_97 : decode prog_12_method_33_code 97 = .ok (.ifCond .le 75, 3) := by decide +kernel
theorem d_Md_read_100 : decode prog_12_method_33_code 100 = .ok (.aload_n 0, 1) := by decide +kernel
theorem d_Md_read_101 : decode prog_12_method_33_code 101 = .ok (.invokevirtual 173, 3) := by decide +kernel
theorem d_Md_read_104 : decode prog_12_method_33_code 104 = .ok (.bipush 10, 2) := by decide +kernel
theorem d_Md_read_106 : decode prog_12_method_33_code 106 = .ok (.if_icmp .ne 16, 3) := by decide +kernel
theorem d_Md_read_109 : decode prog_12_method_33_code 109 = .ok (.aload_n 0, 1) := by decide +kernel
theorem d_Md_read_110 : decode prog_12_method_33_code 110 = .ok (.dup, 1) := by decide +kernel
theorem d_Md_read_111 : decode prog_12_method_33_code 111 = .ok (.getfield 167, 3) := by decide +kernel
theorem d_Md_read_114 : decode prog_12_method_33_code 114 = .ok (.iconst 1, 1) := by decide +kernel
theorem d_Md_read_115 : decode prog_12_method_33_code 115 = .ok (.iadd, 1) := by decide +kernel
theorem d_Md_read_116 : decode prog_12_method_33_code 116 = .ok (.putfield 167, 3) := by decide +kernel
theorem d_Md_read_119 : decode prog_12_method_33_code 119 = .ok (.goto (-19), 3) := by decide +kernel
theorem d_Md_read_122 : decode prog_12_method_33_code 122 = .ok (.aload_n 0, 1) := by decide +kernel
theorem d_Md_read_123 : decode prog_12_method_33_code 123 = .ok (.invokevirtual 272, 3) := by decide +kernel
theorem d_Md_read_126 : decode prog_12_method_33_code 126 = .ok (.ifCond .eq 10, 3) := by decide +kernel
theorem d_Md_read_129 : decode prog_12_method_33_code 129 = .ok (.aload_n 0, 1) := by decide +kernel
theorem d_Md_read_130 : decode prog_12_method_33_code 130 = .ok (.invokevirtual 275, 3) := by decide +kernel
theorem d_Md_read_133 : decode prog_12_method_33_code 133 = .ok (.goto (-59), 3) := by decide +kernel
theorem d_Md_read_136 : decode prog_12_method_33_code 136 = .ok (.aload_n 0, 1) := by decide +kernel
theorem d_Md_read_137 : decode prog_12_method_33_code 137 = .ok (.getfield 167, 3) := by decide +kernel
theorem d_Md_read_140 : decode prog_12_method_33_code 140 = .ok (.aload_n 0, 1) := by decide +kernel
theorem d_Md_read_141 : decode prog_12_method_33_code 141 = .ok (.getfield 117, 3) := by decide +kernel
theorem d_Md_read_144 : decode prog_12_method_33_code 144 = .ok (.if_icmp .ge 10, 3) := by decide +kernel
theorem d_Md_read_147 : decode prog_12_method_33_code 147 = .ok (.aload_n 0, 1) := by decide +kernel
theorem d_Md_read_148 : decode prog_12_method_33_code 148 = .ok (.invokevirtual 278, 3) := by decide +kernel
theorem d_Md_read_151 : decode prog_12_method_33_code 151 = .ok (.goto (-77), 3) := by decide +kernel
theorem d_Md_read_154 : decode prog_12_method_33_code 154 = .ok (.aload_n 0, 1) := by decide +kernel
theorem d_Md_read_155 : decode prog_12_method_33_code 155 = .ok (.getfield 233, 3) := by decide +kernel
theorem d_Md_read_158 : decode prog_12_method_33_code 158 = .ok (.ifCond .le (-84), 3) := by decide +kernel
theorem d_Md_read_161 : decode prog_12_method_33_code 161 = .ok (.aload_n 0, 1) := by decide +kernel
theorem d_Md_read_162 : decode prog_12_method_33_code 162 = .ok (.aload_n 0, 1) := by decide +kernel
theorem d_Md_read_163 : decode prog_12_method_33_code 163 = .ok (.getfield 167, 3) := by decide +kernel
theorem d_Md_read_166 : decode prog_12_method_33_code 166 = .ok (.putfield 170, 3) := by decide +kernel
theorem d_Md_read_169 : decode prog_12_method_33_code 169 = .ok (.goto (-95), 3) := by decide +kernel
theorem d_Md_read_172 : decode prog_12_method_33_code 172 = .ok (.aload_n 0, 1) := by decide +kernel
theorem d_Md_read_173 : decode prog_12_method_33_code 173 = .ok (.getfield 117, 3) := by decide +kernel
theorem d_Md_read_176 : decode prog_12_method_33_code 176 = .ok (.istore_n 1, 1) := by decide +kernel
theorem d_Md_read_177 : decode prog_12_method_33_code 177 = .ok (.aload_n 0, 1) := by decide +kernel
theorem d_Md_read_178 : decode prog_12_method_33_code 178 = .ok (.iconst 0, 1) := by decide +kernel
theorem d_Md_read_179 : decode prog_12_method_33_code 179 = .ok (.putfield 117, 3) := by decide +kernel
theorem d_Md_read_182 : decode prog_12_method_33_code 182 = .ok (.aload_n 0, 1) := by decide +kernel
theorem d_Md_read_183 : decode prog_12_method_33_code 183 = .ok (.getfield 170, 3) := by decide +kernel
theorem d_Md_read_186 : decode prog_12_method_33_code 186 = .ok (.iconst (-1), 1) := by decide +kernel
theorem d_Md_read_187 : decode prog_12_method_33_code 187 = .ok (.if_icmp .eq 10, 3) := by decide +kernel
theorem d_Md_read_190 : decode prog_12_method_33_code 190 = .ok (.iconst (-1), 1) := by decide +kernel
theorem d_Md_read_191 : decode prog_12_method_33_code 191 = .ok (.aload_n 0, 1) := by decide +kernel
theorem d_Md_read_192 : decode prog_12_method_33_code 192 = .ok (.getfield 170, 3) := by decide +kernel
theorem d_Md_read_195 : decode prog_12_method_33_code 195 = .ok (.isub, 1) := by decide +kernel
theorem d_Md_read_196 : decode prog_12_method_33_code 196 = .ok (.ireturn, 1) := by decide +kernel
theorem d_Md_read_197 : decode prog_12_method_33_code 197 = .ok (.aload_n 0, 1) := by decide +kernel
theorem d_Md_read_198 : decode prog_12_method_33_code 198 = .ok (.bipush 20, 2) := by decide +kernel
theorem d_Md_read_200 : decode prog_12_method_33_code 200 = .ok (.iconst 0, 1) := by decide +kernel
theorem d_Md_read_201 : decode prog_12_method_33_code 201 = .ok (.invokevirtual 236, 3) := by decide +kernel
theorem d_Md_read_204 : decode prog_12_method_33_code 204 = .ok (.pop, 1) := by decide +kernel
theorem d_Md_read_205 : decode prog_12_method_33_code 205 = .ok (.iconst 0, 1) := by decide +kernel
theorem d_Md_read_206 : decode prog_12_method_33_code 206 = .ok (.istore_n 2, 1) := by decide +kernel
theorem d_Md_read_207 : decode prog_12_method_33_code 207 = .ok (.iload_n 2, 1) := by decide +kernel
theorem d_Md_read_208 : decode prog_12_method_33_code 208 = .ok (.iload_n 1, 1) := by decide +kernel
theorem d_Md_read_209 : decode prog_12_method_33_code 209 = .ok (.if_icmp .ge 30, 3) := by decide +kernel
theorem d_Md_read_212 : decode prog_12_method_33_code 212 = .ok (.aload_n 0, 1) := by decide +kernel
theorem d_Md_read_213 : decode prog_12_method_33_code 213 = .ok (.getfield 16, 3) := by decide +kernel
theorem d_Md_read_216 : decode prog_12_method_33_code 216 = .ok (.sipush 400, 3) := by decide +kernel
theorem d_Md_read_219 : decode prog_12_method_33_code 219 = .ok (.aload_n 0, 1) := by decide +kernel
theorem d_Md_read_220 : decode prog_12_method_33_code 220 = .ok (.getfield 177, 3) := by decide +kernel
theorem d_Md_read_223 : decode prog_12_method_33_code 223 = .ok (.imul, 1) := by decide +kernel
theorem d_Md_read_224 : decode prog_12_method_33_code 224 = .ok (.iload_n 2, 1) := by decide +kernel
theorem d_Md_read_225 : decode prog_12_method_33_code 225 = .ok (.iadd, 1) := by decide +kernel
theorem d_Md_read_226 : decode prog_12_method_33_code 226 = .ok (.aload_n 0, 1) := by decide +kernel
theorem d_Md_read_227 : decode prog_12_method_33_code 227 = .ok (.getfield 7, 3) := by decide +kernel
theorem d_Md_read_230 : decode prog_12_method_33_code 230 = .ok (.iload_n 2, 1) := by decide +kernel
theorem d_Md_read_231 : decode prog_12_method_33_code 231 = .ok (.iaload, 1) := by decide +kernel
theorem d_Md_read_232 : decode prog_12_method_33_code 232 = .ok (.iastore, 1) := by decide +kernel
theorem d_Md_read_233 : decode prog_12_method_33_code 233 = .ok (.iinc 2 1, 3) := by decide +kernel
theorem d_Md_read_236 : decode prog_12_method_33_code 236 = .ok (.goto (-29), 3) := by decide +kernel
theorem d_Md_read_239 : decode prog_12_method_33_code 239 = .ok (.aload_n 0, 1) := by decide +kernel
theorem d_Md_read_240 : decode prog_12_method_33_code 240 = .ok (.getfield 13, 3) := by decide +kernel
theorem d_Md_read_243 : decode prog_12_method_33_code 243 = .ok (.aload_n 0, 1) := by decide +kernel
theorem d_Md_read_244 : decode prog_12_method_33_code 244 = .ok (.getfield 177, 3) := by decide +kernel
theorem d_Md_read_247 : decode prog_12_method_33_code 247 = .ok (.iload_n 1, 1) := by decide +kernel
theorem d_Md_read_248 : decode prog_12_method_33_code 248 = .ok (.iastore, 1) := by decide +kernel
theorem d_Md_read_249 : decode prog_12_method_33_code 249 = .ok (.aload_n 0, 1) := by decide +kernel
theorem d_Md_read_250 : decode prog_12_method_33_code 250 = .ok (.aload_n 0, 1) := by decide +kernel
theorem d_Md_read_251 : decode prog_12_method_33_code 251 = .ok (.getfield 177, 3) := by decide +kernel
theorem d_Md_read_254 : decode prog_12_method_33_code 254 = .ok (.putfield 126, 3) := by decide +kernel
theorem d_Md_read_257 : decode prog_12_method_33_code 257 = .ok (.aload_n 0, 1) := by decide +kernel
theorem d_Md_read_258 : decode prog_12_method_33_code 258 = .ok (.invokevirtual 129, 3) := by decide +kernel
theorem d_Md_read_261 : decode prog_12_method_33_code 261 = .ok (.aload_n 0, 1) := by decide +kernel
theorem d_Md_read_262 : decode prog_12_method_33_code 262 = .ok (.getfield 254, 3) := by decide +kernel
theorem d_Md_read_265 : decode prog_12_method_33_code 265 = .ok (.ireturn, 1) := by decide +kernel
