theorem d_Md_call_0 : decode prog_12_method_52_code 0 = .ok (.aload_n 0, 1) := by decide +kernel
theorem d_Md_call_1 : decode prog_12_method_52_code 1 = .ok (.getfield 37, 3) := by decide +kernel
theorem d_Md_call_4 : decode prog_12_method_52_code 4 = .ok (.bipush 26, 2) := by decide +kernel
theorem d_Md_call_6 : decode prog_12_method_52_code 6 = .ok (.aload_n 0, 1) := by decide +kernel
theorem d_Md_call_7 : decode prog_12_method_52_code 7 = .ok (.getfield 126, 3) := by decide +kernel
theorem d_Md_call_10 : decode prog_12_method_52_code 10 = .ok (.imul, 1) := by decide +kernel
theorem d_Md_call_11 : decode prog_12_method_52_code 11 = .ok (.iload_n 1, 1) := by decide +kernel
theorem d_Md_call_12 : decode prog_12_method_52_code 12 = .ok (.iadd, 1) := by decide +kernel
theorem d_Md_call_13 : decode prog_12_method_52_code 13 = .ok (.iaload, 1) := by decide +kernel
theorem d_Md_call_14 : decode prog_12_method_52_code 14 = .ok (.istore_n 2, 1) := by decide +kernel
theorem d_Md_call_15 : decode prog_12_method_52_code 15 = .ok (.iload_n 2, 1) := by decide +kernel
theorem d_Md_call_16 : decode prog_12_method_52_code 16 = .ok (.iconst (-1), 1) := by decide +kernel
theorem d_Md_call_17 : decode prog_12_method_52_code 17 = .ok (.if_icmp .ne 15, 3) := by decide +kernel
theorem d_Md_call_20 : decode prog_12_method_52_code 20 = .ok (.aload_n 0, 1) := by decide +kernel
theorem d_Md_call_21 : decode prog_12_method_52_code 21 = .ok (.bipush 6, 2) := by decide +kernel
theorem d_Md_call_23 : decode prog_12_method_52_code 23 = .ok (.aload_n 0, 1) := by decide +kernel
theorem d_Md_call_24 : decode prog_12_method_52_code 24 = .ok (.getfield 329, 3) := by decide +kernel
theorem d_Md_call_27 : decode prog_12_method_52_code 27 = .ok (.iconst 0, 1) := by decide +kernel
theorem d_Md_call_28 : decode prog_12_method_52_code 28 = .ok (.invokevirtual 335, 3) := by decide +kernel
theorem d_Md_call_31 : decode prog_12_method_52_code 31 = .ok (.return_, 1) := by decide +kernel
theorem d_Md_call_32 : decode prog_12_method_52_code 32 = .ok (.aload_n 0, 1) := by decide +kernel
theorem d_Md_call_33 : decode prog_12_method_52_code 33 = .ok (.getfield 311, 3) := by decide +kernel
theorem d_Md_call_36 : decode prog_12_method_52_code 36 = .ok (.iconst 2, 1) := by decide +kernel
theorem d_Md_call_37 : decode prog_12_method_52_code 37 = .ok (.if_icmp .ne 14, 3) := by decide +kernel
theorem d_Md_call_40 : decode prog_12_method_52_code 40 = .ok (.aload_n 0, 1) := by decide +kernel
theorem d_Md_call_41 : decode prog_12_method_52_code 41 = .ok (.iconst 5, 1) := by decide +kernel
theorem d_Md_call_42 : decode prog_12_method_52_code 42 = .ok (.aload_n 0, 1) := by decide +kernel
theorem d_Md_call_43 : decode prog_12_method_52_code 43 = .ok (.getfield 329, 3) := by decide +kernel
theorem d_Md_call_46 : decode prog_12_method_52_code 46 = .ok (.iconst 0, 1) := by decide +kernel
theorem d_Md_call_47 : decode prog_12_method_52_code 47 = .ok (.invokevirtual 335, 3) := by decide +kernel
theorem d_Md_call_50 : decode prog_12_method_52_code 50 = .ok (.return_, 1) := by decide +kernel
theorem d_Md_call_51 : decode prog_12_method_52_code 51 = .ok (.aload_n 0, 1) := by decide +kernel
theorem d_Md_call_52 : decode prog_12_method_52_code 52 = .ok (.getfield 84, 3) := by decide +kernel
theorem d_Md_call_55 : decode prog_12_method_52_code 55 = .ok (.aload_n 0, 1) := by decide +kernel
theorem d_Md_call_56 : decode prog_12_method_52_code 56 = .ok (.getfield 311, 3) := by decide +kernel
theorem d_Md_call_59 : decode prog_12_method_52_code 59 = .ok (.aload_n 0, 1) := by decide +kernel
theorem d_Md_call_60 : decode prog_12_method_52_code 60 = .ok (.getfield 317, 3) := by decide +kernel
theorem d_Md_call_63 : decode prog_12_method_52_code 63 = .ok (.iastore, 1) := by decide +kernel
theorem d_Md_call_64 : decode prog_12_method_52_code 64 = .ok (.aload_n 0, 1) := by decide +kernel
theorem d_Md_call_65 : decode prog_12_method_52_code 65 = .ok (.dup, 1) := by decide +kernel
theorem d_Md_call_66 : decode prog_12_method_52_code 66 = .ok (.getfield 311, 3) := by decide +kernel
theorem d_Md_call_69 : decode prog_12_method_52_code 69 = .ok (.iconst 1, 1) := by decide +kernel
theorem d_Md_call_70 : decode prog_12_method_52_code 70 = .ok (.iadd, 1) := by decide +kernel
theorem d_Md_call_71 : decode prog_12_method_52_code 71 = .ok (.putfield 311, 3) := by decide +kernel
theorem d_Md_call_74 : decode prog_12_method_52_code 74 = .ok (.aload_n 0, 1) := by decide +kernel
theorem d_Md_call_75 : decode prog_12_method_52_code 75 = .ok (.iload_n 2, 1) := by decide +kernel
theorem d_Md_call_76 : decode prog_12_method_52_code 76 = .ok (.putfield 317, 3) := by decide +kernel
theorem d_Md_call_79 : decode prog_12_method_52_code 79 = .ok (.return_, 1) := by decide +kernel
theorem d_Md_closeEnd_0 : decode prog_12_method_53_code 0 = .ok (.aload_n 0, 1) := by decide +kernel
theorem d_Md_closeEnd_1 : decode prog_12_method_53_code 1 = .ok (.dup, 1) := by decide +kernel
theorem d_Md_closeEnd_2 : decode prog_12_method_53_code 2 = .ok (.getfield 308, 3) := by decide +kernel
theorem d_Md_closeEnd_5 : decode prog_12_method_53_code 5 = .ok (.iconst 1, 1) := by decide +kernel
theorem d_Md_closeEnd_6 : decode prog_12_method_53_code 6 = .ok (.isub, 1) := by decide +kernel
theorem d_Md_closeEnd_7 : decode prog_12_method_53_code 7 = .ok (.putfield 308, 3) := by decide +kernel
theorem d_Md_closeEnd_10 : decode prog_12_method_53_code 10 = .ok (.aload_n 0, 1) := by decide +kernel
theorem d_Md_closeEnd_11 : decode prog_12_method_53_code 11 = .ok (.getfield 308, 3) := by decide +kernel
theorem d_Md_closeEnd_14 : decode prog_12_method_53_code 14 = .ok (.istore_n 1, 1) := by decide +kernel
theorem d_Md_closeEnd_15 : decode prog_12_method_53_code 15 = .ok (.aload_n 0, 1) := by decide +kernel
theorem d_Md_closeEnd_16 : decode prog_12_method_53_code 16 = .ok (.getfield 96, 3) := by decide +kernel
theorem d_Md_closeEnd_19 : decode prog_12_method_53_code 19 = .ok (.iload_n 1, 1) := by decide +kernel
theorem d_Md_closeEnd_20 : decode prog_12_method_53_code 20 = .ok (.iaload, 1) := by decide +kernel
theorem d_Md_closeEnd_21 : decode prog_12_method_53_code 21 = .ok (.ifCond .eq 25, 3) := by decide +kernel
theorem d_Md_closeEnd_24 : decode prog_12_method_53_code 24 = .ok (.aload_n 0, 1) := by decide +kernel
theorem d_Md_closeEnd_25 : decode prog_12_method_53_code 25 = .ok (.aload_n 0, 1) := by decide +kernel
theorem d_Md_closeEnd_26 : decode prog_12_method_53_code 26 = .ok (.getfield 96, 3) := by decide +kernel
theorem d_Md_closeEnd_29 : decode prog_12_method_53_code 29 = .ok (.iload_n 1, 1) := by decide +kernel
theorem d_Md_closeEnd_30 : decode prog_12_method_53_code 30 = .ok (.iaload, 1) := by decide +kernel
theorem d_Md_closeEnd_31 : decode prog_12_method_53_code 31 = .ok (.aload_n 0, 1) := by decide +kernel
theorem d_Md_closeEnd_32 : decode prog_12_method_53_code 32 = .ok (.getfield 99, 3) := by decide +kernel
theorem d_Md_closeEnd_35 : decode prog_12_method_53_code 35 = .ok (.iload_n 1, 1) := by decide +kernel
theorem d_Md_closeEnd_36 : decode prog_12_method_53_code 36 = .ok (.iaload, 1) := by decide +kernel
theorem d_Md_closeEnd_37 : decode prog_12_method_53_code 37 = .ok (.aload_n 0, 1) := by decide +kernel
theorem d_Md_closeEnd_38 : decode prog_12_method_53_code 38 = .ok (.getfield 102, 3) := by decide +kernel
theorem d_Md_closeEnd_41 : decode prog_12_method_53_code 41 = .ok (.iload_n 1, 1) := by decide +kernel
theorem d_Md_closeEnd_42 : decode prog_12_method_53_code 42 = .ok (.iaload, 1) := by decide +kernel
theorem d_Md_closeEnd_43 : decode prog_12_method_53_code 43 = .ok (.invokevirtual 335, 3) := by decide +kernel
theorem d_Md_closeEnd_46 : decode prog_12_method_53_code 46 = .ok (.return_, 1) := by decide +kernel
theorem d_Md_beginClosing_0 : decode prog_12_method_54_code 0 = .ok (.aload_n 0, 1) := by decide +kernel
theorem d_Md_beginClosing_1 : decode prog_12_method_54_code 1 = .ok (.getfield 87, 3) := by decide +kernel
theorem d_Md_beginClosing_4 : decode prog_12_method_54_code 4 = .ok (.aload_n 0, 1) := by decide +kernel
theorem d_Md_beginClosing_5 : decode prog_12_method_54_code 5 = .ok (.getfield 308, 3) := by decide +kernel
theorem d_Md_beginClosing_8 : decode prog_12_method_54_code 8 = .ok (.iconst 1, 1) := by decide +kernel
theorem d_Md_beginClosing_9 : decode prog_12_method_54_code 9 = .ok (.isub, 1) := by decide +kernel
theorem d_Md_beginClosing_10 : decode prog_12_method_54_code 10 = .ok (.bipush 10, 2) := by decide +kernel
theorem d_Md_beginClosing_12 : decode prog_12_method_54_code 12 = .ok (.iastore, 1) := by decide +kernel
theorem d_Md_beginClosing_13 : decode prog_12_method_54_code 13 = .ok (.aload_n 0, 1) := by decide +kernel
theorem d_Md_beginClosing_14 : decode prog_12_method_54_code 14 = .ok (.getfield 145, 3) := by decide +kernel
theorem d_Md_beginClosing_17 : decode prog_12_method_54_code 17 = .ok (.bipush 20, 2) := by decide +kernel
theorem d_Md_beginClosing_19 : decode prog_12_method_54_code 19 = .ok (.if_icmp .ne 4, 3) := by decide +kernel
theorem d_Md_beginClosing_22 : decode prog_12_method_54_code 22 = .ok (.return_, 1) := by decide +kernel
theorem d_Md_beginClosing_23 : decode prog_12_method_54_code 23 = .ok (.aload_n 0, 1) := by decide +kernel
theorem d_Md_beginClosing_24 : decode prog_12_method_54_code 24 = .ok (.getfield 81, 3) := by decide +kernel
theorem d_Md_beginClosing_27 : decode prog_12_method_54_code 27 = .ok (.aload_n 0, 1) := by decide +kernel
theorem d_Md_beginClosing_28 : decode prog_12_method_54_code 28 = .ok (.getfield 145, 3) := by decide +kernel
theorem d_Md_beginClosing_31 : decode prog_12_method_54_code 31 = .ok (.iload_n 1, 1) := by decide +kernel
theorem d_Md_beginClosing_32 : decode prog_12_method_54_code 32 = .ok (.iastore, 1) := by decide +kernel
theorem d_Md_beginClosing_33 : decode prog_12_method_54_code 33 = .ok (.aload_n 0, 1) := by decide +kernel
theorem d_Md_beginClosing_34 : decode prog_12_method_54_code 34 = .ok (.dup, 1) := by decide +kernel
theorem d_Md_beginClosing_35 : decode prog_12_method_54_code 35 = .ok (.getfield 145, 3) := by decide +kernel
theorem d_Md_beginClosing_38 : decode prog_12_method_54_code 38 = .ok (.iconst 1, 1) := by decide +kernel
theorem d_Md_beginClosing_39 : decode prog_12_method_54_code 39 = .ok (.iadd, 1) := by decide +kernel
theorem d_Md_beginClosing_40 : decode prog_12_method_54_code 40 = .ok (.putfield 145, 3) := by decide +kernel
theorem d_Md_beginClosing_43 : decode prog_12_method_54_code 43 = .ok (.return_, 1) := by decide +kernel
theorem d_Md_endAct_0 : decode prog_12_method_55_code 0 = .ok (.aload_n 0, 1) := by decide +kernel
theorem d_Md_endAct_1 : decode prog_12_method_55_code 1 = .ok (.getfield 65, 3) := by decide +kernel
theorem d_Md_endAct_4 : decode prog_12_method_55_code 4 = .ok (.iconst (-1), 1) := by decide +kernel
theorem d_Md_endAct_5 : decode prog_12_method_55_code 5 = .ok (.if_icmp .eq 32, 3) := by decide +kernel
theorem d_Md_endAct_8 : decode prog_12_method_55_code 8 = .ok (.aload_n 0, 1) := by decide +kernel
theorem d_Md_endAct_9 : decode prog_12_method_55_code 9 = .ok (.getfield 93, 3) := by decide +kernel
theorem d_Md_endAct_12 : decode prog_12_method_55_code 12 = .ok (.aload_n 0, 1) := by decide +kernel
theorem d_Md_endAct_13 : decode prog_12_method_55_code 13 = .ok (.getfield 308, 3) := by decide +kernel
theorem d_Md_endAct_16 : decode prog_12_method_55_code 16 = .ok (.iconst 1, 1) := by decide +kernel
theorem d_Md_endAct_17 : decode prog_12_method_55_code 17 = .ok (.isub, 1) := by decide +kernel
theorem d_Md_endAct_18 : decode prog_12_method_55_code 18 = .ok (.iaload, 1) := by decide +kernel
theorem d_Md_endAct_19 : decode prog_12_method_55_code 19 = .ok (.aload_n 0, 1) := by decide +kernel
theorem d_Md_endAct_20 : decode prog_12_method_55_code 20 = .ok (.getfield 65, 3) := by decide +kernel
theorem d_Md_endAct_23 : decode prog_12_method_55_code 23 = .ok (.if_icmp .ne 14, 3) := by decide +kernel
theorem d_Md_endAct_26 : decode prog_12_method_55_code 26 = .ok (.aload_n 0, 1) := by decide +kernel
theorem d_Md_endAct_27 : decode prog_12_method_55_code 27 = .ok (.bipush 7, 2) := by decide +kernel
theorem d_Md_endAct_29 : decode prog_12_method_55_code 29 = .ok (.iload_n 1, 1) := by decide +kernel
theorem d_Md_endAct_30 : decode prog_12_method_55_code 30 = .ok (.iconst 0, 1) := by decide +kernel
theorem d_Md_endAct_31 : decode prog_12_method_55_code 31 = .ok (.invokevirtual 335, 3) := by decide +kernel
theorem d_Md_endAct_34 : decode prog_12_method_55_code 34 = .ok (.goto 13, 3) := by decide +kernel
theorem d_Md_endAct_37 : decode prog_12_method_55_code 37 = .ok (.aload_n 0, 1) := by decide +kernel
theorem d_Md_endAct_38 : decode prog_12_method_55_code 38 = .ok (.dup, 1) := by decide +kernel
theorem d_Md_endAct_39 : decode prog_12_method_55_code 39 = .ok (.getfield 308, 3) := by decide +kernel
theorem d_Md_endAct_42 : decode prog_12_method_55_code 42 = .ok (.iconst 1, 1) := by decide +kernel
theorem d_Md_endAct_43 : decode prog_12_method_55_code 43 = .ok (.isub, 1) := by decide +kernel
theorem d_Md_endAct_44 : decode prog_12_method_55_code 44 = .ok (.putfield 308, 3) := by decide +kernel
theorem d_Md_endAct_47 : decode prog_12_method_55_code 47 = .ok (.return_, 1) := by decide +kernel
theorem d_Md_walk_0 : decode prog_12_method_56_code 0 = .ok (.sipush 600, 3) := by decide +kernel
theorem d_Md_walk_3 : decode prog_12_method_56_code 3 = .ok (.aload_n 0, 1) := by decide +kernel
theorem d_Md_walk_4 : decode prog_12_method_56_code 4 = .ok (.getfield 126, 3) := by decide +kernel
theorem d_Md_walk_7 : decode prog_12_method_56_code 7 = .ok (.imul, 1) := by decide +kernel
theorem d_Md_walk_8 : decode prog_12_method_56_code 8 = .ok (.aload_n 0, 1) := by decide +kernel
theorem d_Md_walk_9 : decode prog_12_method_56_code 9 = .ok (.getfield 317, 3) := by decide +kernel
theorem d_Md_walk_12 : decode prog_12_method_56_code 12 = .ok (.iadd, 1) := by decide +kernel
theorem d_Md_walk_13 : decode prog_12_method_56_code 13 = .ok (.istore_n 1, 1) := by decide +kernel
theorem d_Md_walk_14 : decode prog_12_method_56_code 14 = .ok (.aload_n 0, 1) := by decide +kernel
theorem d_Md_walk_15 : decode prog_12_method_56_code 15 = .ok (.getfield 19, 3) := by decide +kernel
theorem d_Md_walk_18 : decode prog_12_method_56_code 18 = .ok (.iload_n 1, 1) := by decide +kernel
theorem d_Md_walk_19 : decode prog_12_method_56_code 19 = .ok (.iaload, 1) := by decide +kernel
theorem d_Md_walk_20 : decode prog_12_method_56_code 20 = .ok (.istore_n 2, 1) := by decide +kernel
theorem d_Md_walk_21 : decode prog_12_method_56_code 21 = .ok (.aload_n 0, 1) := by decide +kernel
theorem d_Md_walk_22 : decode prog_12_method_56_code 22 = .ok (.dup, 1) := by decide +kernel
theorem d_Md_walk_23 : decode prog_12_method_56_code 23 = .ok (.getfield 317, 3) := by decide +kernel
theorem d_Md_walk_26 : decode prog_12_method_56_code 26 = .ok (.iconst 1, 1) := by decide +kernel
theorem d_Md_walk_27 : decode prog_12_method_56_code 27 = .ok (.iadd, 1) := by decide +kernel
theorem d_Md_walk_28 : decode prog_12_method_56_code 28 = .ok (.putfield 317, 3) := by decide +kernel
theorem d_Md_walk_31 : decode prog_12_method_56_code 31 = .ok (.iload_n 2, 1) := by decide +kernel
theorem d_Md_walk_32 : decode prog_12_method_56_code 32 = .ok (.tableswitch 136 8 20 #[109, 136, 120, 131, 136, 136, 136, 136, 136, 74, 136, 85, 68], 68) := by decide +kernel
theorem d_Md_walk_100 : decode prog_12_method_56_code 100 = .ok (.aload_n 0, 1) := by decide +kernel
theorem d_Md_walk_101 : decode prog_12_method_56_code 101 = .ok (.iconst 1, 1) := by decide +kernel
theorem d_Md_walk_102 : decode prog_12_method_56_code 102 = .ok (.putfield 323, 3) := by decide +kernel
theorem d_Md_walk_105 : decode prog_12_method_56_code 105 = .ok (.return_, 1) := by decide +kernel
theorem d_Md_walk_106 : decode prog_12_method_56_code 106 = .ok (.aload_n 0, 1) := by decide +kernel
theorem d_Md_walk_107 : decode prog_12_method_56_code 107 = .ok (.aload_n 0, 1) := by decide +kernel
theorem d_Md_walk_108 : decode prog_12_method_56_code 108 = .ok (.getfield 34, 3) := by decide +kernel
theorem d_Md_walk_111 : decode prog_12_method_56_code 111 = .ok (.iload_n 1, 1) := by decide +kernel
theorem d_Md_walk_112 : decode prog_12_method_56_code 112 = .ok (.iaload, 1) := by decide +kernel
theorem d_Md_walk_113 : decode prog_12_method_56_code 113 = .ok (.putfield 317, 3) := by decide +kernel
theorem d_Md_walk_116 : decode prog_12_method_56_code 116 = .ok (.return_, 1) := by decide +kernel
theorem d_Md_walk_117 : decode prog_12_method_56_code 117 = .ok (.aload_n 0, 1) := by decide +kernel
theorem d_Md_walk_118 : decode prog_12_method_56_code 118 = .ok (.dup, 1) := by decide +kernel
theorem d_Md_walk_119 : decode prog_12_method_56_code 119 = .ok (.getfield 311, 3) := by decide +kernel
theorem d_Md_walk_122 : decode prog_12_method_56_code 122 = .ok (.iconst 1, 1) := by decide +kernel
theorem d_Md_walk_123 : decode prog_12_method_56_code 123 = .ok (.isub, 1) := by decide +kernel
theorem d_Md_walk_124 : decode prog_12_method_56_code 124 = .ok (.putfield 311, 3) := by decide +kernel
theorem d_Md_walk_127 : decode prog_12_method_56_code 127 = .ok (.aload_n 0, 1) := by decide +kernel
theorem d_Md_walk_128 : decode prog_12_method_56_code 128 = .ok (.aload_n 0, 1) := by decide +kernel
theorem d_Md_walk_129 : decode prog_12_method_56_code 129 = .ok (.getfield 84, 3) := by decide +kernel
theorem d_Md_walk_132 : decode prog_12_method_56_code 132 = .ok (.aload_n 0, 1) := by decide +kernel
theorem d_Md_walk_133 : decode prog_12_method_56_code 133 = .ok (.getfield 311, 3) := by decide +kernel
theorem d_Md_walk_136 : decode prog_12_method_56_code 136 = .ok (.iaload, 1) := by decide +kernel
theorem d_Md_walk_137 : decode prog_12_method_56_code 137 = .ok (.putfield 317, 3) := by decide +kernel
theorem d_Md_walk_140 : decode prog_12_method_56_code 140 = .ok (.return_, 1) := by decide +kernel
theorem d_Md_walk_141 : decode prog_12_method_56_code 141 = .ok (.aload_n 0, 1) := by decide +kernel
theorem d_Md_walk_142 : decode prog_12_method_56_code 142 = .ok (.aload_n 0, 1) := by decide +kernel
theorem d_Md_walk_143 : decode prog_12_method_56_code 143 = .ok (.getfield 22, 3) := by decide +kernel
theorem d_Md_walk_146 : decode prog_12_method_56_code 146 = .ok (.iload_n 1, 1) := by decide +kernel
theorem d_Md_walk_147 : decode prog_12_method_56_code 147 = .ok (.iaload, 1) := by decide +kernel
theorem d_Md_walk_148 : decode prog_12_method_56_code 148 = .ok (.invokevirtual 341, 3) := by decide +kernel
theorem d_Md_walk_151 : decode prog_12_method_56_code 151 = .ok (.return_, 1) := by decide +kernel
theorem d_Md_walk_152 : decode prog_12_method_56_code 152 = .ok (.aload_n 0, 1) := by decide +kernel
theorem d_Md_walk_153 : decode prog_12_method_56_code 153 = .ok (.aload_n 0, 1) := by decide +kernel
theorem d_Md_walk_154 : decode prog_12_method_56_code 154 = .ok (.getfield 22, 3) := by decide +kernel
theorem d_Md_walk_157 : decode prog_12_method_56_code 157 = .ok (.iload_n 1, 1) := by decide +kernel
theorem d_Md_walk_158 : decode prog_12_method_56_code 158 = .ok (.iaload, 1) := by decide +kernel
theorem d_Md_walk_159 : decode prog_12_method_56_code 159 = .ok (.invokevirtual 344, 3) := by decide +kernel
theorem d_Md_walk_162 : decode prog_12_method_56_code 162 = .ok (.return_, 1) := by decide +kernel
theorem d_Md_walk_163 : decode prog_12_method_56_code 163 = .ok (.aload_n 0, 1) := by decide +kernel
theorem d_Md_walk_164 : decode prog_12_method_56_code 164 = .ok (.invokevirtual 347, 3) := by decide +kernel
theorem d_Md_walk_167 : decode prog_12_method_56_code 167 = .ok (.return_, 1) := by decide +kernel
theorem d_Md_walk_168 : decode prog_12_method_56_code 168 = .ok (.aload_n 0, 1) := by decide +kernel
theorem d_Md_walk_169 : decode prog_12_method_56_code 169 = .ok (.aload_n 0, 1) := by decide +kernel
theorem d_Md_walk_170 : decode prog_12_method_56_code 170 = .ok (.getfield 22, 3) := by decide +kernel
theorem d_Md_walk_173 : decode prog_12_method_56_code 173 = .ok (.iload_n 1, 1) := by decide +kernel
theorem d_Md_walk_174 : decode prog_12_method_56_code 174 = .ok (.iaload, 1) := by decide +kernel
theorem d_Md_walk_175 : decode prog_12_method_56_code 175 = .ok (.invokevirtual 350, 3) := by decide +kernel
theorem d_Md_walk_178 : decode prog_12_method_56_code 178 = .ok (.ifCond .ne 4, 3) := by decide +kernel
theorem d_Md_walk_181 : decode prog_12_method_56_code 181 = .ok (.return_, 1) := by decide +kernel
theorem d_Md_walk_182 : decode prog_12_method_56_code 182 = .ok (.iload_n 2, 1) := by decide +kernel
theorem d_Md_walk_183 : decode prog_12_method_56_code 183 = .ok (.tableswitch 137 1 18 #[85, 85, 85, 137, 137, 137, 92, 137, 113, 137, 137, 137, 137, 137, 137, 137, 137, 126], 85) := by decide +kernel
theorem d_Md_walk_268 : decode prog_12_method_56_code 268 = .ok (.aload_n 0, 1) := by decide +kernel
theorem d_Md_walk_269 : decode prog_12_method_56_code 269 = .ok (.iload_n 2, 1) := by decide +kernel
theorem d_Md_walk_270 : decode prog_12_method_56_code 270 = .ok (.iload_n 1, 1) := by decide +kernel
theorem d_Md_walk_271 : decode prog_12_method_56_code 271 = .ok (.invokevirtual 353, 3) := by decide +kernel
theorem d_Md_walk_274 : decode prog_12_method_56_code 274 = .ok (.return_, 1) := by decide +kernel
theorem d_Md_walk_275 : decode prog_12_method_56_code 275 = .ok (.aload_n 0, 1) := by decide +kernel
theorem d_Md_walk_276 : decode prog_12_method_56_code 276 = .ok (.bipush 7, 2) := by decide +kernel
theorem d_Md_walk_278 : decode prog_12_method_56_code 278 = .ok (.aload_n 0, 1) := by decide +kernel
theorem d_Md_walk_279 : decode prog_12_method_56_code 279 = .ok (.getfield 152, 3) := by decide +kernel
theorem d_Md_walk_282 : decode prog_12_method_56_code 282 = .ok (.invokevirtual 356, 3) := by decide +kernel
theorem d_Md_walk_285 : decode prog_12_method_56_code 285 = .ok (.aload_n 0, 1) := by decide +kernel
theorem d_Md_walk_286 : decode prog_12_method_56_code 286 = .ok (.dup, 1) := by decide +kernel
theorem d_Md_walk_287 : decode prog_12_method_56_code 287 = .ok (.getfield 152, 3) := by decide +kernel
theorem d_Md_walk_290 : decode prog_12_method_56_code 290 = .ok (.iconst 1, 1) := by decide +kernel
theorem d_Md_walk_291 : decode prog_12_method_56_code 291 = .ok (.iadd, 1) := by decide +kernel
theorem d_Md_walk_292 : decode prog_12_method_56_code 292 = .ok (.putfield 152, 3) := by decide +kernel
theorem d_Md_walk_295 : decode prog_12_method_56_code 295 = .ok (.return_, 1) := by decide +kernel
theorem d_Md_walk_296 : decode prog_12_method_56_code 296 = .ok (.aload_n 0, 1) := by decide +kernel
theorem d_Md_walk_297 : decode prog_12_method_56_code 297 = .ok (.bipush 9, 2) := by decide +kernel
theorem d_Md_walk_299 : decode prog_12_method_56_code 299 = .ok (.aload_n 0, 1) := by decide +kernel
theorem d_Md_walk_300 : decode prog_12_method_56_code 300 = .ok (.getfield 34, 3) := by decide +kernel
theorem d_Md_walk_303 : decode prog_12_method_56_code 303 = .ok (.iload_n 1, 1) := by decide +kernel
theorem d_Md_walk_304 : decode prog_12_method_56_code 304 = .ok (.iaload, 1) := by decide +kernel
theorem d_Md_walk_305 : decode prog_12_method_56_code 305 = .ok (.invokevirtual 356, 3) := by decide +kernel
theorem d_Md_walk_308 : decode prog_12_method_56_code 308 = .ok (.return_, 1) := by decide +kernel
theorem d_Md_walk_309 : decode prog_12_method_56_code 309 = .ok (.aload_n 0, 1) := by decide +kernel
theorem d_Md_walk_310 : decode prog_12_method_56_code 310 = .ok (.aload_n 0, 1) := by decide +kernel
theorem d_Md_walk_311 : decode prog_12_method_56_code 311 = .ok (.getfield 25, 3) := by decide +kernel
theorem d_Md_walk_314 : decode prog_12_method_56_code 314 = .ok (.iload_n 1, 1) := by decide +kernel
theorem d_Md_walk_315 : decode prog_12_method_56_code 315 = .ok (.iaload, 1) := by decide +kernel
theorem d_Md_walk_316 : decode prog_12_method_56_code 316 = .ok (.invokevirtual 359, 3) := by decide +kernel
theorem d_Md_walk_319 : decode prog_12_method_56_code 319 = .ok (.return_, 1) := by decide +kernel
theorem d_Md_walk_320 : decode prog_12_method_56_code 320 = .ok (.aload_n 0, 1) := by decide +kernel
theorem d_Md_walk_321 : decode prog_12_method_56_code 321 = .ok (.iload_n 2, 1) := by decide +kernel
theorem d_Md_walk_322 : decode prog_12_method_56_code 322 = .ok (.iload_n 1, 1) := by decide +kernel
theorem d_Md_walk_323 : decode prog_12_method_56_code 323 = .ok (.invokevirtual 362, 3) := by decide +kernel
theorem d_Md_walk_326 : decode prog_12_method_56_code 326 = .ok (.return_, 1) := by decide +kernel
theorem d_Md_run_0 : decode prog_12_method_57_code 0 = .ok (.aload_n 0, 1) := by decide +kernel
theorem d_Md_run_1 : decode prog_12_method_57_code 1 = .ok (.lload_n 1, 1) := by decide +kernel
theorem d_Md_run_2 : decode prog_12_method_57_code 2 = .ok (.lconst 1, 1) := by decide +kernel
theorem d_Md_run_3 : decode prog_12_method_57_code 3 = .ok (.lcmp, 1) := by decide +kernel
theorem d_Md_run_4 : decode prog_12_method_57_code 4 = .ok (.ifCond .lt 15, 3) := by decide +kernel
theorem d_Md_run_7 : decode prog_12_method_57_code 7 = .ok (.lload_n 1, 1) := by decide +kernel
theorem d_Md_run_8 : decode prog_12_method_57_code 8 = .ok (.ldc2_w 365, 3) := by decide +kernel
theorem d_Md_run_11 : decode prog_12_method_57_code 11 = .ok (.lcmp, 1) := by decide +kernel
theorem d_Md_run_12 : decode prog_12_method_57_code 12 = .ok (.ifCond .gt 7, 3) := by decide +kernel
theorem d_Md_run_15 : decode prog_12_method_57_code 15 = .ok (.iconst 0, 1) := by decide +kernel
theorem d_Md_run_16 : decode prog_12_method_57_code 16 = .ok (.goto 4, 3) := by decide +kernel
theorem d_Md_run_19 : decode prog_12_method_57_code 19 = .ok (.iconst 1, 1) := by decide +kernel
theorem d_Md_run_20 : decode prog_12_method_57_code 20 = .ok (.putfield 164, 3) := by decide +kernel
theorem d_Md_run_23 : decode prog_12_method_57_code 23 = .ok (.aload_n 0, 1) := by decide +kernel
theorem d_Md_run_24 : decode prog_12_method_57_code 24 = .ok (.getfield 164, 3) := by decide +kernel
theorem d_Md_run_27 : decode prog_12_method_57_code 27 = .ok (.ifCond .eq 5, 3) := by decide +kernel
theorem d_Md_run_30 : decode prog_12_method_57_code 30 = .ok (.iconst 0, 1) := by decide +kernel
theorem d_Md_run_31 : decode prog_12_method_57_code 31 = .ok (.ireturn, 1) := by decide +kernel
theorem d_Md_run_32 : decode prog_12_method_57_code 32 = .ok (.aload_n 0, 1) := by decide +kernel
theorem d_Md_run_33 : decode prog_12_method_57_code 33 = .ok (.invokevirtual 129, 3) := by decide +kernel
theorem d_Md_run_36 : decode prog_12_method_57_code 36 = .ok (.aload_n 0, 1) := by decide +kernel
theorem d_Md_run_37 : decode prog_12_method_57_code 37 = .ok (.lload_n 1, 1) := by decide +kernel
theorem d_Md_run_38 : decode prog_12_method_57_code 38 = .ok (.putfield 326, 3) := by decide +kernel
theorem d_Md_run_41 : decode prog_12_method_57_code 41 = .ok (.aload_n 0, 1) := by decide +kernel
theorem d_Md_run_42 : decode prog_12_method_57_code 42 = .ok (.iconst 0, 1) := by decide +kernel
theorem d_Md_run_43 : decode prog_12_method_57_code 43 = .ok (.putfield 323, 3) := by decide +kernel
theorem d_Md_run_46 : decode prog_12_method_57_code 46 = .ok (.aload_n 0, 1) := by decide +kernel
theorem d_Md_run_47 : decode prog_12_method_57_code 47 = .ok (.iconst 0, 1) := by decide +kernel
theorem d_Md_run_48 : decode prog_12_method_57_code 48 = .ok (.putfield 320, 3) := by decide +kernel
theorem d_Md_run_51 : decode prog_12_method_57_code 51 = .ok (.aload_n 0, 1) := by decide +kernel
theorem d_Md_run_52 : decode prog_12_method_57_code 52 = .ok (.iconst 0, 1) := by decide +kernel
theorem d_Md_run_53 : decode prog_12_method_57_code 53 = .ok (.putfield 317, 3) := by decide +kernel
theorem d_Md_run_56 : decode prog_12_method_57_code 56 = .ok (.aload_n 0, 1) := by decide +kernel
theorem d_Md_run_57 : decode prog_12_method_57_code 57 = .ok (.iconst 0, 1) := by decide +kernel
theorem d_Md_run_58 : decode prog_12_method_57_code 58 = .ok (.putfield 311, 3) := by decide +kernel
theorem d_Md_run_61 : decode prog_12_method_57_code 61 = .ok (.aload_n 0, 1) := by decide +kernel
theorem d_Md_run_62 : decode prog_12_method_57_code 62 = .ok (.iconst 0, 1) := by decide +kernel
theorem d_Md_run_63 : decode prog_12_method_57_code 63 = .ok (.putfield 308, 3) := by decide +kernel
theorem d_Md_run_66 : decode prog_12_method_57_code 66 = .ok (.aload_n 0, 1) := by decide +kernel
theorem d_Md_run_67 : decode prog_12_method_57_code 67 = .ok (.getfield 323, 3) := by decide +kernel
theorem d_Md_run_70 : decode prog_12_method_57_code 70 = .ok (.ifCond .ne 10, 3) := by decide +kernel
theorem d_Md_run_73 : decode prog_12_method_57_code 73 = .ok (.aload_n 0, 1) := by decide +kernel
theorem d_Md_run_74 : decode prog_12_method_57_code 74 = .ok (.invokevirtual 367, 3) := by decide +kernel
theorem d_Md_run_77 : decode prog_12_method_57_code 77 = .ok (.goto (-11), 3) := by decide +kernel
theorem d_Md_run_80 : decode prog_12_method_57_code 80 = .ok (.aload_n 0, 1) := by decide +kernel
theorem d_Md_run_81 : decode prog_12_method_57_code 81 = .ok (.getfield 320, 3) := by decide +kernel
theorem d_Md_run_84 : decode prog_12_method_57_code 84 = .ok (.ireturn, 1) := by decide +kernel
theorem d_Md_query_0 : decode prog_12_method_58_code 0 = .ok (.aload_n 0, 1) := by decide +kernel
theorem d_Md_query_1 : decode prog_12_method_58_code 1 = .ok (.iconst 0, 1) := by decide +kernel
theorem d_Md_query_2 : decode prog_12_method_58_code 2 = .ok (.putfield 164, 3) := by decide +kernel
theorem d_Md_query_5 : decode prog_12_method_58_code 5 = .ok (.iload_n 1, 1) := by decide +kernel
theorem d_Md_query_6 : decode prog_12_method_58_code 6 = .ok (.ifCond .lt 20, 3) := by decide +kernel
theorem d_Md_query_9 : decode prog_12_method_58_code 9 = .ok (.iload_n 1, 1) := by decide +kernel
theorem d_Md_query_10 : decode prog_12_method_58_code 10 = .ok (.aload_n 0, 1) := by decide +kernel
theorem d_Md_query_11 : decode prog_12_method_58_code 11 = .ok (.getfield 142, 3) := by decide +kernel
theorem d_Md_query_14 : decode prog_12_method_58_code 14 = .ok (.if_icmp .ge 12, 3) := by decide +kernel
theorem d_Md_query_17 : decode prog_12_method_58_code 17 = .ok (.aload_n 0, 1) := by decide +kernel
theorem d_Md_query_18 : decode prog_12_method_58_code 18 = .ok (.getfield 78, 3) := by decide +kernel
theorem d_Md_query_21 : decode prog_12_method_58_code 21 = .ok (.iload_n 1, 1) := by decide +kernel
theorem d_Md_query_22 : decode prog_12_method_58_code 22 = .ok (.iaload, 1) := by decide +kernel
theorem d_Md_query_23 : decode prog_12_method_58_code 23 = .ok (.goto 4, 3) := by decide +kernel
theorem d_Md_query_26 : decode prog_12_method_58_code 26 = .ok (.iconst (-1), 1) := by decide +kernel
theorem d_Md_query_27 : decode prog_12_method_58_code 27 = .ok (.ireturn, 1) := by decide +kernel
theorem d_Md_output_0 : decode prog_12_method_59_code 0 = .ok (.aload_n 0, 1) := by decide +kernel
theorem d_Md_output_1 : decode prog_12_method_59_code 1 = .ok (.iload_n 1, 1) := by decide +kernel
theorem d_Md_output_2 : decode prog_12_method_59_code 2 = .ok (.ifCond .lt 15, 3) := by decide +kernel
theorem d_Md_output_5 : decode prog_12_method_59_code 5 = .ok (.iload_n 1, 1) := by decide +kernel
theorem d_Md_output_6 : decode prog_12_method_59_code 6 = .ok (.aload_n 0, 1) := by decide +kernel
theorem d_Md_output_7 : decode prog_12_method_59_code 7 = .ok (.getfield 136, 3) := by decide +kernel
theorem d_Md_output_10 : decode prog_12_method_59_code 10 = .ok (.if_icmp .ge 7, 3) := by decide +kernel
theorem d_Md_output_13 : decode prog_12_method_59_code 13 = .ok (.iconst 0, 1) := by decide +kernel
theorem d_Md_output_14 : decode prog_12_method_59_code 14 = .ok (.goto 4, 3) := by decide +kernel
theorem d_Md_output_17 : decode prog_12_method_59_code 17 = .ok (.iconst 1, 1) := by decide +kernel
theorem d_Md_output_18 : decode prog_12_method_59_code 18 = .ok (.putfield 164, 3) := by decide +kernel
theorem d_Md_output_21 : decode prog_12_method_59_code 21 = .ok (.aload_n 0, 1) := by decide +kernel
theorem d_Md_output_22 : decode prog_12_method_59_code 22 = .ok (.getfield 164, 3) := by decide +kernel
theorem d_Md_output_25 : decode prog_12_method_59_code 25 = .ok (.ifCond .ne 12, 3) := by decide +kernel
theorem d_Md_output_28 : decode prog_12_method_59_code 28 = .ok (.aload_n 0, 1) := by decide +kernel
theorem d_Md_output_29 : decode prog_12_method_59_code 29 = .ok (.getfield 72, 3) := by decide +kernel
theorem d_Md_output_32 : decode prog_12_method_59_code 32 = .ok (.iload_n 1, 1) := by decide +kernel
theorem d_Md_output_33 : decode prog_12_method_59_code 33 = .ok (.iaload, 1) := by decide +kernel
theorem d_Md_output_34 : decode prog_12_method_59_code 34 = .ok (.goto 4, 3) := by decide +kernel
theorem d_Md_output_37 : decode prog_12_method_59_code 37 = .ok (.iconst 0, 1) := by decide +kernel
theorem d_Md_output_38 : decode prog_12_method_59_code 38 = .ok (.ireturn, 1) := by decide +kernel
theorem d_Md_error_0 : decode prog_12_method_60_code 0 = .ok (.aload_n 0, 1) := by decide +kernel
theorem d_Md_error_1 : decode prog_12_method_60_code 1 = .ok (.iload_n 1, 1) := by decide +kernel
theorem d_Md_error_2 : decode prog_12_method_60_code 2 = .ok (.ifCond .lt 12, 3) := by decide +kernel
theorem d_Md_error_5 : decode prog_12_method_60_code 5 = .ok (.iload_n 1, 1) := by decide +kernel
theorem d_Md_error_6 : decode prog_12_method_60_code 6 = .ok (.iconst 3, 1) := by decide +kernel
theorem d_Md_error_7 : decode prog_12_method_60_code 7 = .ok (.if_icmp .ge 7, 3) := by decide +kernel
theorem d_Md_error_10 : decode prog_12_method_60_code 10 = .ok (.iconst 0, 1) := by decide +kernel
theorem d_Md_error_11 : decode prog_12_method_60_code 11 = .ok (.goto 4, 3) := by decide +kernel
theorem d_Md_error_14 : decode prog_12_method_60_code 14 = .ok (.iconst 1, 1) := by decide +kernel
theorem d_Md_error_15 : decode prog_12_method_60_code 15 = .ok (.putfield 164, 3) := by decide +kernel
theorem d_Md_error_18 : decode prog_12_method_60_code 18 = .ok (.aload_n 0, 1) := by decide +kernel
theorem d_Md_error_19 : decode prog_12_method_60_code 19 = .ok (.getfield 164, 3) := by decide +kernel
theorem d_Md_error_22 : decode prog_12_method_60_code 22 = .ok (.ifCond .eq 5, 3) := by decide +kernel
theorem d_Md_error_25 : decode prog_12_method_60_code 25 = .ok (.iconst 0, 1) := by decide +kernel
theorem d_Md_error_26 : decode prog_12_method_60_code 26 = .ok (.ireturn, 1) := by decide +kernel
theorem d_Md_error_27 : decode prog_12_method_60_code 27 = .ok (.iload_n 1, 1) := by decide +kernel
theorem d_Md_error_28 : decode prog_12_method_60_code 28 = .ok (.ifCond .ne 10, 3) := by decide +kernel
theorem d_Md_error_31 : decode prog_12_method_60_code 31 = .ok (.aload_n 0, 1) := by decide +kernel
theorem d_Md_error_32 : decode prog_12_method_60_code 32 = .ok (.getfield 155, 3) := by decide +kernel
theorem d_Md_error_35 : decode prog_12_method_60_code 35 = .ok (.goto 19, 3) := by decide +kernel
theorem d_Md_error_38 : decode prog_12_method_60_code 38 = .ok (.iload_n 1, 1) := by decide +kernel
theorem d_Md_error_39 : decode prog_12_method_60_code 39 = .ok (.iconst 1, 1) := by decide +kernel
theorem d_Md_error_40 : decode prog_12_method_60_code 40 = .ok (.if_icmp .ne 10, 3) := by decide +kernel
theorem d_Md_error_43 : decode prog_12_method_60_code 43 = .ok (.aload_n 0, 1) := by decide +kernel
theorem d_Md_error_44 : decode prog_12_method_60_code 44 = .ok (.getfield 158, 3) := by decide +kernel
theorem d_Md_error_47 : decode prog_12_method_60_code 47 = .ok (.goto 7, 3) := by decide +kernel
theorem d_Md_error_50 : decode prog_12_method_60_code 50 = .ok (.aload_n 0, 1) := by decide +kernel
theorem d_Md_error_51 : decode prog_12_method_60_code 51 = .ok (.getfield 161, 3) := by decide +kernel
theorem d_Md_error_54 : decode prog_12_method_60_code 54 = .ok (.ireturn, 1) := by decide +kernel
theorem d_Md_closed_0 : decode prog_12_method_61_code 0 = .ok (.aload_n 0, 1) := by decide +kernel
theorem d_Md_closed_1 : decode prog_12_method_61_code 1 = .ok (.iconst 0, 1) := by decide +kernel
theorem d_Md_closed_2 : decode prog_12_method_61_code 2 = .ok (.putfield 164, 3) := by decide +kernel
theorem d_Md_closed_5 : decode prog_12_method_61_code 5 = .ok (.iload_n 1, 1) := by decide +kernel
theorem d_Md_closed_6 : decode prog_12_method_61_code 6 = .ok (.ifCond .lt 20, 3) := by decide +kernel
theorem d_Md_closed_9 : decode prog_12_method_61_code 9 = .ok (.iload_n 1, 1) := by decide +kernel
theorem d_Md_closed_10 : decode prog_12_method_61_code 10 = .ok (.aload_n 0, 1) := by decide +kernel
theorem d_Md_closed_11 : decode prog_12_method_61_code 11 = .ok (.getfield 145, 3) := by decide +kernel
theorem d_Md_closed_14 : decode prog_12_method_61_code 14 = .ok (.if_icmp .ge 12, 3) := by decide +kernel
theorem d_Md_closed_17 : decode prog_12_method_61_code 17 = .ok (.aload_n 0, 1) := by decide +kernel
theorem d_Md_closed_18 : decode prog_12_method_61_code 18 = .ok (.getfield 81, 3) := by decide +kernel
theorem d_Md_closed_21 : decode prog_12_method_61_code 21 = .ok (.iload_n 1, 1) := by decide +kernel
theorem d_Md_closed_22 : decode prog_12_method_61_code 22 = .ok (.iaload, 1) := by decide +kernel
theorem d_Md_closed_23 : decode prog_12_method_61_code 23 = .ok (.goto 4, 3) := by decide +kernel
theorem d_Md_closed_26 : decode prog_12_method_61_code 26 = .ok (.iconst (-1), 1) := by decide +kernel
theorem d_Md_closed_27 : decode prog_12_method_61_code 27 = .ok (.ireturn, 1) := by decide +kernel
theorem d_Md_restored_0 : decode prog_12_method_62_code 0 = .ok (.aload_n 0, 1) := by decide +kernel
theorem d_Md_restored_1 : decode prog_12_method_62_code 1 = .ok (.iconst 0, 1) := by decide +kernel
theorem d_Md_restored_2 : decode prog_12_method_62_code 2 = .ok (.putfield 164, 3) := by decide +kernel
theorem d_Md_restored_5 : decode prog_12_method_62_code 5 = .ok (.aload_n 0, 1) := by decide +kernel
theorem d_Md_restored_6 : decode prog_12_method_62_code 6 = .ok (.getfield 148, 3) := by decide +kernel
theorem d_Md_restored_9 : decode prog_12_method_62_code 9 = .ok (.ireturn, 1) := by decide +kernel
theorem d_Md_added_0 : decode prog_12_method_63_code 0 = .ok (.aload_n 0, 1) := by decide +kernel
theorem d_Md_added_1 : decode prog_12_method_63_code 1 = .ok (.iconst 0, 1) := by decide +kernel
theorem d_Md_added_2 : decode prog_12_method_63_code 2 = .ok (.putfield 164, 3) := by decide +kernel
theorem d_Md_added_5 : decode prog_12_method_63_code 5 = .ok (.iload_n 1, 1) := by decide +kernel
theorem d_Md_added_6 : decode prog_12_method_63_code 6 = .ok (.ifCond .lt 11, 3) := by decide +kernel
theorem d_Md_added_9 : decode prog_12_method_63_code 9 = .ok (.iload_n 1, 1) := by decide +kernel
theorem d_Md_added_10 : decode prog_12_method_63_code 10 = .ok (.aload_n 0, 1) := by decide +kernel
theorem d_Md_added_11 : decode prog_12_method_63_code 11 = .ok (.getfield 139, 3) := by decide +kernel
theorem d_Md_added_14 : decode prog_12_method_63_code 14 = .ok (.if_icmp .lt 5, 3) := by decide +kernel
theorem d_Md_added_17 : decode prog_12_method_63_code 17 = .ok (.iconst (-1), 1) := by decide +kernel
theorem d_Md_added_18 : decode prog_12_method_63_code 18 = .ok (.ireturn, 1) := by decide +kernel
theorem d_Md_added_19 : decode prog_12_method_63_code 19 = .ok (.aload_n 0, 1) := by decide +kernel
theorem d_Md_added_20 : decode prog_12_method_63_code 20 = .ok (.aload_n 0, 1) := by decide +kernel
theorem d_Md_added_21 : decode prog_12_method_63_code 21 = .ok (.getfield 75, 3) := by decide +kernel
theorem d_Md_added_24 : decode prog_12_method_63_code 24 = .ok (.iload_n 1, 1) := by decide +kernel
theorem d_Md_added_25 : decode prog_12_method_63_code 25 = .ok (.iaload, 1) := by decide +kernel
theorem d_Md_added_26 : decode prog_12_method_63_code 26 = .ok (.invokevirtual 332, 3) := by decide +kernel
theorem d_Md_added_29 : decode prog_12_method_63_code 29 = .ok (.ifCond .ne 8, 3) := by decide +kernel
theorem d_Md_added_32 : decode prog_12_method_63_code 32 = .ok (.bipush (-2), 2) := by decide +kernel
theorem d_Md_added_34 : decode prog_12_method_63_code 34 = .ok (.goto 17, 3) := by decide +kernel
theorem d_Md_added_37 : decode prog_12_method_63_code 37 = .ok (.aload_n 0, 1) := by decide +kernel
theorem d_Md_added_38 : decode prog_12_method_63_code 38 = .ok (.getfield 305, 3) := by decide +kernel
theorem d_Md_added_41 : decode prog_12_method_63_code 41 = .ok (.lconst 0, 1) := by decide +kernel
theorem d_Md_added_42 : decode prog_12_method_63_code 42 = .ok (.lcmp, 1) := by decide +kernel
theorem d_Md_added_43 : decode prog_12_method_63_code 43 = .ok (.ifCond .eq 7, 3) := by decide +kernel
theorem d_Md_added_46 : decode prog_12_method_63_code 46 = .ok (.iconst 1, 1) := by decide +kernel
theorem d_Md_added_47 : decode prog_12_method_63_code 47 = .ok (.goto 4, 3) := by decide +kernel
theorem d_Md_added_50 : decode prog_12_method_63_code 50 = .ok (.iconst 0, 1) := by decide +kernel
theorem d_Md_added_51 : decode prog_12_method_63_code 51 = .ok (.ireturn, 1) := by decide +kernel
theorem d_Md_steps_0 : decode prog_12_method_64_code 0 = .ok (.aload_n 0, 1) := by decide +kernel
theorem d_Md_steps_1 : decode prog_12_method_64_code 1 = .ok (.iconst 0, 1) := by decide +kernel
theorem d_Md_steps_2 : decode prog_12_method_64_code 2 = .ok (.putfield 164, 3) := by decide +kernel
theorem d_Md_steps_5 : decode prog_12_method_64_code 5 = .ok (.aload_n 0, 1) := by decide +kernel
theorem d_Md_steps_6 : decode prog_12_method_64_code 6 = .ok (.getfield 132, 3) := by decide +kernel
theorem d_Md_steps_9 : decode prog_12_method_64_code 9 = .ok (.lreturn, 1) := by decide +kernel
theorem d_Md_line_0 : decode prog_12_method_65_code 0 = .ok (.aload_n 0, 1) := by decide +kernel
theorem d_Md_line_1 : decode prog_12_method_65_code 1 = .ok (.iconst 0, 1) := by decide +kernel
theorem d_Md_line_2 : decode prog_12_method_65_code 2 = .ok (.putfield 164, 3) := by decide +kernel
theorem d_Md_line_5 : decode prog_12_method_65_code 5 = .ok (.aload_n 0, 1) := by decide +kernel
theorem d_Md_line_6 : decode prog_12_method_65_code 6 = .ok (.getfield 158, 3) := by decide +kernel
theorem d_Md_line_9 : decode prog_12_method_65_code 9 = .ok (.iconst (-1), 1) := by decide +kernel
theorem d_Md_line_10 : decode prog_12_method_65_code 10 = .ok (.if_icmp .ne 5, 3) := by decide +kernel
theorem d_Md_line_13 : decode prog_12_method_65_code 13 = .ok (.iconst 0, 1) := by decide +kernel
theorem d_Md_line_14 : decode prog_12_method_65_code 14 = .ok (.ireturn, 1) := by decide +kernel
theorem d_Md_line_15 : decode prog_12_method_65_code 15 = .ok (.iconst 1, 1) := by decide +kernel
theorem d_Md_line_16 : decode prog_12_method_65_code 16 = .ok (.istore_n 1, 1) := by decide +kernel
theorem d_Md_line_17 : decode prog_12_method_65_code 17 = .ok (.iconst 0, 1) := by decide +kernel
theorem d_Md_line_18 : decode prog_12_method_65_code 18 = .ok (.istore_n 2, 1) := by decide +kernel
theorem d_Md_line_19 : decode prog_12_method_65_code 19 = .ok (.iload_n 2, 1) := by decide +kernel
theorem d_Md_line_20 : decode prog_12_method_65_code 20 = .ok (.aload_n 0, 1) := by decide +kernel
theorem d_Md_line_21 : decode prog_12_method_65_code 21 = .ok (.getfield 158, 3) := by decide +kernel
theorem d_Md_line_24 : decode prog_12_method_65_code 24 = .ok (.if_icmp .ge 37, 3) := by decide +kernel
theorem d_Md_line_27 : decode prog_12_method_65_code 27 = .ok (.iload_n 1, 1) := by decide +kernel
theorem d_Md_line_28 : decode prog_12_method_65_code 28 = .ok (.aload_n 0, 1) := by decide +kernel
theorem d_Md_line_29 : decode prog_12_method_65_code 29 = .ok (.getfield 16, 3) := by decide +kernel
theorem d_Md_line_32 : decode prog_12_method_65_code 32 = .ok (.sipush 400, 3) := by decide +kernel
theorem d_Md_line_35 : decode prog_12_method_65_code 35 = .ok (.aload_n 0, 1) := by decide +kernel
theorem d_Md_line_36 : decode prog_12_method_65_code 36 = .ok (.getfield 126, 3) := by decide +kernel
theorem d_Md_line_39 : decode prog_12_method_65_code 39 = .ok (.imul, 1) := by decide +kernel
theorem d_Md_line_40 : decode prog_12_method_65_code 40 = .ok (.iload_n 2, 1) := by decide +kernel
theorem d_Md_line_41 : decode prog_12_method_65_code 41 = .ok (.iadd, 1) := by decide +kernel
theorem d_Md_line_42 : decode prog_12_method_65_code 42 = .ok (.iaload, 1) := by decide +kernel
theorem d_Md_line_43 : decode prog_12_method_65_code 43 = .ok (.bipush 10, 2) := by decide +kernel
theorem d_Md_line_45 : decode prog_12_method_65_code 45 = .ok (.if_icmp .ne 7, 3) := by decide +kernel
theorem d_Md_line_48 : decode prog_12_method_65_code 48 = .ok (.iconst 1, 1) := by decide +kernel
theorem d_Md_line_49 : decode prog_12_method_65_code 49 = .ok (.goto 4, 3) := by decide +kernel
theorem d_Md_line_52 : decode prog_12_method_65_code 52 = .ok (.iconst 0, 1) := by decide +kernel
theorem d_Md_line_53 : decode prog_12_method_65_code 53 = .ok (.iadd, 1) := by decide +kernel
theorem d_Md_line_54 : decode prog_12_method_65_code 54 = .ok (.istore_n 1, 1) := by decide +kernel
theorem d_Md_line_55 : decode prog_12_method_65_code 55 = .ok (.iinc 2 1, 3) := by decide +kernel
theorem d_Md_line_58 : decode prog_12_method_65_code 58 = .ok (.goto (-39), 3) := by decide +kernel
theorem d_Md_line_61 : decode prog_12_method_65_code 61 = .ok (.iload_n 1, 1) := by decide +kernel
theorem d_Md_line_62 : decode prog_12_method_65_code 62 = .ok (.ireturn, 1) := by decide +kernel
theorem d_Lw_field_0 : decode method_3_code 0 = .ok (.aload 5, 2) := by decide +kernel
theorem d_Lw_field_2 : decode method_3_code 2 = .ok (.iconst 0, 1) := by decide +kernel
theorem d_Lw_field_3 : decode method_3_code 3 = .ok (.aload_n 0, 1) := by decide +kernel
theorem d_Lw_field_4 : decode method_3_code 4 = .ok (.iload_n 1, 1) := by decide +kernel
theorem d_Lw_field_5 : decode method_3_code 5 = .ok (.iload_n 2, 1) := by decide +kernel
theorem d_Lw_field_6 : decode method_3_code 6 = .ok (.lload_n 3, 1) := by decide +kernel
theorem d_Lw_field_7 : decode method_3_code 7 = .ok (.invokevirtual 7, 3) := by decide +kernel
theorem d_Lw_field_10 : decode method_3_code 10 = .ok (.ifCond .eq 7, 3) := by decide +kernel
theorem d_Lw_field_13 : decode method_3_code 13 = .ok (.lconst 1, 1) := by decide +kernel
theorem d_Lw_field_14 : decode method_3_code 14 = .ok (.goto 4, 3) := by decide +kernel
theorem d_Lw_field_17 : decode method_3_code 17 = .ok (.lconst 0, 1) := by decide +kernel
theorem d_Lw_field_18 : decode method_3_code 18 = .ok (.lastore, 1) := by decide +kernel
theorem d_Lw_field_19 : decode method_3_code 19 = .ok (.goto 7, 3) := by decide +kernel
theorem d_Lw_field_22 : decode method_3_code 22 = .ok (.astore 6, 2) := by decide +kernel
theorem d_Lw_field_24 : decode method_3_code 24 = .ok (.iconst 1, 1) := by decide +kernel
theorem d_Lw_field_25 : decode method_3_code 25 = .ok (.ireturn, 1) := by decide +kernel
theorem d_Lw_field_26 : decode method_3_code 26 = .ok (.iconst 0, 1) := by decide +kernel
theorem d_Lw_field_27 : decode method_3_code 27 = .ok (.ireturn, 1) := by decide +kernel
