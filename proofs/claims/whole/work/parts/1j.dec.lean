theorem d_Md_raise_0 : decode prog_12_method_45_code 0 = .ok (.iload_n 1, 1) := by decide +kernel
theorem d_Md_raise_1 : decode prog_12_method_45_code 1 = .ok (.istore 4, 2) := by decide +kernel
theorem d_Md_raise_3 : decode prog_12_method_45_code 3 = .ok (.aload_n 0, 1) := by decide +kernel
theorem d_Md_raise_4 : decode prog_12_method_45_code 4 = .ok (.getfield 308, 3) := by decide +kernel
theorem d_Md_raise_7 : decode prog_12_method_45_code 7 = .ok (.ifCond .le 119, 3) := by decide +kernel
theorem d_Md_raise_10 : decode prog_12_method_45_code 10 = .ok (.aload_n 0, 1) := by decide +kernel
theorem d_Md_raise_11 : decode prog_12_method_45_code 11 = .ok (.dup, 1) := by decide +kernel
theorem d_Md_raise_12 : decode prog_12_method_45_code 12 = .ok (.getfield 308, 3) := by decide +kernel
theorem d_Md_raise_15 : decode prog_12_method_45_code 15 = .ok (.iconst 1, 1) := by decide +kernel
theorem d_Md_raise_16 : decode prog_12_method_45_code 16 = .ok (.isub, 1) := by decide +kernel
theorem d_Md_raise_17 : decode prog_12_method_45_code 17 = .ok (.putfield 308, 3) := by decide +kernel
theorem d_Md_raise_20 : decode prog_12_method_45_code 20 = .ok (.aload_n 0, 1) := by decide +kernel
theorem d_Md_raise_21 : decode prog_12_method_45_code 21 = .ok (.getfield 308, 3) := by decide +kernel
theorem d_Md_raise_24 : decode prog_12_method_45_code 24 = .ok (.istore 5, 2) := by decide +kernel
theorem d_Md_raise_26 : decode prog_12_method_45_code 26 = .ok (.aload_n 0, 1) := by decide +kernel
theorem d_Md_raise_27 : decode prog_12_method_45_code 27 = .ok (.aload_n 0, 1) := by decide +kernel
theorem d_Md_raise_28 : decode prog_12_method_45_code 28 = .ok (.getfield 90, 3) := by decide +kernel
theorem d_Md_raise_31 : decode prog_12_method_45_code 31 = .ok (.iload 5, 2) := by decide +kernel
theorem d_Md_raise_33 : decode prog_12_method_45_code 33 = .ok (.iaload, 1) := by decide +kernel
theorem d_Md_raise_34 : decode prog_12_method_45_code 34 = .ok (.putfield 311, 3) := by decide +kernel
theorem d_Md_raise_37 : decode prog_12_method_45_code 37 = .ok (.aload_n 0, 1) := by decide +kernel
theorem d_Md_raise_38 : decode prog_12_method_45_code 38 = .ok (.getfield 87, 3) := by decide +kernel
theorem d_Md_raise_41 : decode prog_12_method_45_code 41 = .ok (.iload 5, 2) := by decide +kernel
theorem d_Md_raise_43 : decode prog_12_method_45_code 43 = .ok (.iaload, 1) := by decide +kernel
theorem d_Md_raise_44 : decode prog_12_method_45_code 44 = .ok (.bipush 7, 2) := by decide +kernel
theorem d_Md_raise_46 : decode prog_12_method_45_code 46 = .ok (.if_icmp .ne 9, 3) := by decide +kernel
theorem d_Md_raise_49 : decode prog_12_method_45_code 49 = .ok (.aload_n 0, 1) := by decide +kernel
theorem d_Md_raise_50 : decode prog_12_method_45_code 50 = .ok (.iload 5, 2) := by decide +kernel
theorem d_Md_raise_52 : decode prog_12_method_45_code 52 = .ok (.invokevirtual 314, 3) := by decide +kernel
theorem d_Md_raise_55 : decode prog_12_method_45_code 55 = .ok (.aload_n 0, 1) := by decide +kernel
theorem d_Md_raise_56 : decode prog_12_method_45_code 56 = .ok (.getfield 87, 3) := by decide +kernel
theorem d_Md_raise_59 : decode prog_12_method_45_code 59 = .ok (.iload 5, 2) := by decide +kernel
theorem d_Md_raise_61 : decode prog_12_method_45_code 61 = .ok (.iaload, 1) := by decide +kernel
theorem d_Md_raise_62 : decode prog_12_method_45_code 62 = .ok (.bipush 9, 2) := by decide +kernel
theorem d_Md_raise_64 : decode prog_12_method_45_code 64 = .ok (.if_icmp .eq 6, 3) := by decide +kernel
theorem d_Md_raise_67 : decode prog_12_method_45_code 67 = .ok (.goto (-64), 3) := by decide +kernel
theorem d_Md_raise_70 : decode prog_12_method_45_code 70 = .ok (.aload_n 0, 1) := by decide +kernel
theorem d_Md_raise_71 : decode prog_12_method_45_code 71 = .ok (.getfield 87, 3) := by decide +kernel
theorem d_Md_raise_74 : decode prog_12_method_45_code 74 = .ok (.iload 5, 2) := by decide +kernel
theorem d_Md_raise_76 : decode prog_12_method_45_code 76 = .ok (.bipush 10, 2) := by decide +kernel
theorem d_Md_raise_78 : decode prog_12_method_45_code 78 = .ok (.iastore, 1) := by decide +kernel
theorem d_Md_raise_79 : decode prog_12_method_45_code 79 = .ok (.aload_n 0, 1) := by decide +kernel
theorem d_Md_raise_80 : decode prog_12_method_45_code 80 = .ok (.getfield 96, 3) := by decide +kernel
theorem d_Md_raise_83 : decode prog_12_method_45_code 83 = .ok (.iload 5, 2) := by decide +kernel
theorem d_Md_raise_85 : decode prog_12_method_45_code 85 = .ok (.iload 4, 2) := by decide +kernel
theorem d_Md_raise_87 : decode prog_12_method_45_code 87 = .ok (.iastore, 1) := by decide +kernel
theorem d_Md_raise_88 : decode prog_12_method_45_code 88 = .ok (.aload_n 0, 1) := by decide +kernel
theorem d_Md_raise_89 : decode prog_12_method_45_code 89 = .ok (.getfield 99, 3) := by decide +kernel
theorem d_Md_raise_92 : decode prog_12_method_45_code 92 = .ok (.iload 5, 2) := by decide +kernel
theorem d_Md_raise_94 : decode prog_12_method_45_code 94 = .ok (.iload_n 2, 1) := by decide +kernel
theorem d_Md_raise_95 : decode prog_12_method_45_code 95 = .ok (.iastore, 1) := by decide +kernel
theorem d_Md_raise_96 : decode prog_12_method_45_code 96 = .ok (.aload_n 0, 1) := by decide +kernel
theorem d_Md_raise_97 : decode prog_12_method_45_code 97 = .ok (.getfield 102, 3) := by decide +kernel
theorem d_Md_raise_100 : decode prog_12_method_45_code 100 = .ok (.iload 5, 2) := by decide +kernel
theorem d_Md_raise_102 : decode prog_12_method_45_code 102 = .ok (.iload_n 3, 1) := by decide +kernel
theorem d_Md_raise_103 : decode prog_12_method_45_code 103 = .ok (.iastore, 1) := by decide +kernel
theorem d_Md_raise_104 : decode prog_12_method_45_code 104 = .ok (.aload_n 0, 1) := by decide +kernel
theorem d_Md_raise_105 : decode prog_12_method_45_code 105 = .ok (.dup, 1) := by decide +kernel
theorem d_Md_raise_106 : decode prog_12_method_45_code 106 = .ok (.getfield 308, 3) := by decide +kernel
theorem d_Md_raise_109 : decode prog_12_method_45_code 109 = .ok (.iconst 1, 1) := by decide +kernel
theorem d_Md_raise_110 : decode prog_12_method_45_code 110 = .ok (.iadd, 1) := by decide +kernel
theorem d_Md_raise_111 : decode prog_12_method_45_code 111 = .ok (.putfield 308, 3) := by decide +kernel
theorem d_Md_raise_114 : decode prog_12_method_45_code 114 = .ok (.aload_n 0, 1) := by decide +kernel
theorem d_Md_raise_115 : decode prog_12_method_45_code 115 = .ok (.aload_n 0, 1) := by decide +kernel
theorem d_Md_raise_116 : decode prog_12_method_45_code 116 = .ok (.getfield 93, 3) := by decide +kernel
theorem d_Md_raise_119 : decode prog_12_method_45_code 119 = .ok (.iload 5, 2) := by decide +kernel
theorem d_Md_raise_121 : decode prog_12_method_45_code 121 = .ok (.iaload, 1) := by decide +kernel
theorem d_Md_raise_122 : decode prog_12_method_45_code 122 = .ok (.putfield 317, 3) := by decide +kernel
theorem d_Md_raise_125 : decode prog_12_method_45_code 125 = .ok (.return_, 1) := by decide +kernel
theorem d_Md_raise_126 : decode prog_12_method_45_code 126 = .ok (.aload_n 0, 1) := by decide +kernel
theorem d_Md_raise_127 : decode prog_12_method_45_code 127 = .ok (.iload 4, 2) := by decide +kernel
theorem d_Md_raise_129 : decode prog_12_method_45_code 129 = .ok (.putfield 155, 3) := by decide +kernel
theorem d_Md_raise_132 : decode prog_12_method_45_code 132 = .ok (.aload_n 0, 1) := by decide +kernel
theorem d_Md_raise_133 : decode prog_12_method_45_code 133 = .ok (.iload_n 2, 1) := by decide +kernel
theorem d_Md_raise_134 : decode prog_12_method_45_code 134 = .ok (.putfield 158, 3) := by decide +kernel
theorem d_Md_raise_137 : decode prog_12_method_45_code 137 = .ok (.aload_n 0, 1) := by decide +kernel
theorem d_Md_raise_138 : decode prog_12_method_45_code 138 = .ok (.iload_n 3, 1) := by decide +kernel
theorem d_Md_raise_139 : decode prog_12_method_45_code 139 = .ok (.putfield 161, 3) := by decide +kernel
theorem d_Md_raise_142 : decode prog_12_method_45_code 142 = .ok (.aload_n 0, 1) := by decide +kernel
theorem d_Md_raise_143 : decode prog_12_method_45_code 143 = .ok (.iconst 1, 1) := by decide +kernel
theorem d_Md_raise_144 : decode prog_12_method_45_code 144 = .ok (.putfield 320, 3) := by decide +kernel
theorem d_Md_raise_147 : decode prog_12_method_45_code 147 = .ok (.aload_n 0, 1) := by decide +kernel
theorem d_Md_raise_148 : decode prog_12_method_45_code 148 = .ok (.iconst 1, 1) := by decide +kernel
theorem d_Md_raise_149 : decode prog_12_method_45_code 149 = .ok (.putfield 323, 3) := by decide +kernel
theorem d_Md_raise_152 : decode prog_12_method_45_code 152 = .ok (.return_, 1) := by decide +kernel
theorem d_Md_putBack_0 : decode prog_12_method_46_code 0 = .ok (.aload_n 0, 1) := by decide +kernel
theorem d_Md_putBack_1 : decode prog_12_method_46_code 1 = .ok (.aload_n 0, 1) := by decide +kernel
theorem d_Md_putBack_2 : decode prog_12_method_46_code 2 = .ok (.getfield 108, 3) := by decide +kernel
theorem d_Md_putBack_5 : decode prog_12_method_46_code 5 = .ok (.iload_n 1, 1) := by decide +kernel
theorem d_Md_putBack_6 : decode prog_12_method_46_code 6 = .ok (.iaload, 1) := by decide +kernel
theorem d_Md_putBack_7 : decode prog_12_method_46_code 7 = .ok (.putfield 120, 3) := by decide +kernel
theorem d_Md_putBack_10 : decode prog_12_method_46_code 10 = .ok (.iconst 0, 1) := by decide +kernel
theorem d_Md_putBack_11 : decode prog_12_method_46_code 11 = .ok (.istore_n 2, 1) := by decide +kernel
theorem d_Md_putBack_12 : decode prog_12_method_46_code 12 = .ok (.iload_n 2, 1) := by decide +kernel
theorem d_Md_putBack_13 : decode prog_12_method_46_code 13 = .ok (.bipush 72, 2) := by decide +kernel
theorem d_Md_putBack_15 : decode prog_12_method_46_code 15 = .ok (.if_icmp .ge 26, 3) := by decide +kernel
theorem d_Md_putBack_18 : decode prog_12_method_46_code 18 = .ok (.aload_n 0, 1) := by decide +kernel
theorem d_Md_putBack_19 : decode prog_12_method_46_code 19 = .ok (.getfield 58, 3) := by decide +kernel
theorem d_Md_putBack_22 : decode prog_12_method_46_code 22 = .ok (.iload_n 2, 1) := by decide +kernel
theorem d_Md_putBack_23 : decode prog_12_method_46_code 23 = .ok (.aload_n 0, 1) := by decide +kernel
theorem d_Md_putBack_24 : decode prog_12_method_46_code 24 = .ok (.getfield 105, 3) := by decide +kernel
theorem d_Md_putBack_27 : decode prog_12_method_46_code 27 = .ok (.bipush 72, 2) := by decide +kernel
theorem d_Md_putBack_29 : decode prog_12_method_46_code 29 = .ok (.iload_n 1, 1) := by decide +kernel
theorem d_Md_putBack_30 : decode prog_12_method_46_code 30 = .ok (.imul, 1) := by decide +kernel
theorem d_Md_putBack_31 : decode prog_12_method_46_code 31 = .ok (.iload_n 2, 1) := by decide +kernel
theorem d_Md_putBack_32 : decode prog_12_method_46_code 32 = .ok (.iadd, 1) := by decide +kernel
theorem d_Md_putBack_33 : decode prog_12_method_46_code 33 = .ok (.laload, 1) := by decide +kernel
theorem d_Md_putBack_34 : decode prog_12_method_46_code 34 = .ok (.lastore, 1) := by decide +kernel
theorem d_Md_putBack_35 : decode prog_12_method_46_code 35 = .ok (.iinc 2 1, 3) := by decide +kernel
theorem d_Md_putBack_38 : decode prog_12_method_46_code 38 = .ok (.goto (-26), 3) := by decide +kernel
theorem d_Md_putBack_41 : decode prog_12_method_46_code 41 = .ok (.aload_n 0, 1) := by decide +kernel
theorem d_Md_putBack_42 : decode prog_12_method_46_code 42 = .ok (.iconst 1, 1) := by decide +kernel
theorem d_Md_putBack_43 : decode prog_12_method_46_code 43 = .ok (.putfield 148, 3) := by decide +kernel
theorem d_Md_putBack_46 : decode prog_12_method_46_code 46 = .ok (.return_, 1) := by decide +kernel
theorem d_Md_handle_0 : decode prog_12_method_47_code 0 = .ok (.aload_n 0, 1) := by decide +kernel
theorem d_Md_handle_1 : decode prog_12_method_47_code 1 = .ok (.getfield 308, 3) := by decide +kernel
theorem d_Md_handle_4 : decode prog_12_method_47_code 4 = .ok (.istore_n 3, 1) := by decide +kernel
theorem d_Md_handle_5 : decode prog_12_method_47_code 5 = .ok (.aload_n 0, 1) := by decide +kernel
theorem d_Md_handle_6 : decode prog_12_method_47_code 6 = .ok (.getfield 87, 3) := by decide +kernel
theorem d_Md_handle_9 : decode prog_12_method_47_code 9 = .ok (.iload_n 3, 1) := by decide +kernel
theorem d_Md_handle_10 : decode prog_12_method_47_code 10 = .ok (.iload_n 1, 1) := by decide +kernel
theorem d_Md_handle_11 : decode prog_12_method_47_code 11 = .ok (.iastore, 1) := by decide +kernel
theorem d_Md_handle_12 : decode prog_12_method_47_code 12 = .ok (.aload_n 0, 1) := by decide +kernel
theorem d_Md_handle_13 : decode prog_12_method_47_code 13 = .ok (.getfield 90, 3) := by decide +kernel
theorem d_Md_handle_16 : decode prog_12_method_47_code 16 = .ok (.iload_n 3, 1) := by decide +kernel
theorem d_Md_handle_17 : decode prog_12_method_47_code 17 = .ok (.aload_n 0, 1) := by decide +kernel
theorem d_Md_handle_18 : decode prog_12_method_47_code 18 = .ok (.getfield 311, 3) := by decide +kernel
theorem d_Md_handle_21 : decode prog_12_method_47_code 21 = .ok (.iastore, 1) := by decide +kernel
theorem d_Md_handle_22 : decode prog_12_method_47_code 22 = .ok (.aload_n 0, 1) := by decide +kernel
theorem d_Md_handle_23 : decode prog_12_method_47_code 23 = .ok (.getfield 93, 3) := by decide +kernel
theorem d_Md_handle_26 : decode prog_12_method_47_code 26 = .ok (.iload_n 3, 1) := by decide +kernel
theorem d_Md_handle_27 : decode prog_12_method_47_code 27 = .ok (.iload_n 2, 1) := by decide +kernel
theorem d_Md_handle_28 : decode prog_12_method_47_code 28 = .ok (.iastore, 1) := by decide +kernel
theorem d_Md_handle_29 : decode prog_12_method_47_code 29 = .ok (.aload_n 0, 1) := by decide +kernel
theorem d_Md_handle_30 : decode prog_12_method_47_code 30 = .ok (.getfield 96, 3) := by decide +kernel
theorem d_Md_handle_33 : decode prog_12_method_47_code 33 = .ok (.iload_n 3, 1) := by decide +kernel
theorem d_Md_handle_34 : decode prog_12_method_47_code 34 = .ok (.iconst 0, 1) := by decide +kernel
theorem d_Md_handle_35 : decode prog_12_method_47_code 35 = .ok (.iastore, 1) := by decide +kernel
theorem d_Md_handle_36 : decode prog_12_method_47_code 36 = .ok (.aload_n 0, 1) := by decide +kernel
theorem d_Md_handle_37 : decode prog_12_method_47_code 37 = .ok (.getfield 108, 3) := by decide +kernel
theorem d_Md_handle_40 : decode prog_12_method_47_code 40 = .ok (.iload_n 3, 1) := by decide +kernel
theorem d_Md_handle_41 : decode prog_12_method_47_code 41 = .ok (.aload_n 0, 1) := by decide +kernel
theorem d_Md_handle_42 : decode prog_12_method_47_code 42 = .ok (.getfield 120, 3) := by decide +kernel
theorem d_Md_handle_45 : decode prog_12_method_47_code 45 = .ok (.iastore, 1) := by decide +kernel
theorem d_Md_handle_46 : decode prog_12_method_47_code 46 = .ok (.iconst 0, 1) := by decide +kernel
theorem d_Md_handle_47 : decode prog_12_method_47_code 47 = .ok (.istore 4, 2) := by decide +kernel
theorem d_Md_handle_49 : decode prog_12_method_47_code 49 = .ok (.iload 4, 2) := by decide +kernel
theorem d_Md_handle_51 : decode prog_12_method_47_code 51 = .ok (.bipush 72, 2) := by decide +kernel
theorem d_Md_handle_53 : decode prog_12_method_47_code 53 = .ok (.if_icmp .ge 34, 3) := by decide +kernel
theorem d_Md_handle_56 : decode prog_12_method_47_code 56 = .ok (.iload_n 1, 1) := by decide +kernel
theorem d_Md_handle_57 : decode prog_12_method_47_code 57 = .ok (.bipush 7, 2) := by decide +kernel
theorem d_Md_handle_59 : decode prog_12_method_47_code 59 = .ok (.if_icmp .ne 28, 3) := by decide +kernel
theorem d_Md_handle_62 : decode prog_12_method_47_code 62 = .ok (.aload_n 0, 1) := by decide +kernel
theorem d_Md_handle_63 : decode prog_12_method_47_code 63 = .ok (.getfield 105, 3) := by decide +kernel
theorem d_Md_handle_66 : decode prog_12_method_47_code 66 = .ok (.bipush 72, 2) := by decide +kernel
theorem d_Md_handle_68 : decode prog_12_method_47_code 68 = .ok (.iload_n 3, 1) := by decide +kernel
theorem d_Md_handle_69 : decode prog_12_method_47_code 69 = .ok (.imul, 1) := by decide +kernel
theorem d_Md_handle_70 : decode prog_12_method_47_code 70 = .ok (.iload 4, 2) := by decide +kernel
theorem d_Md_handle_72 : decode prog_12_method_47_code 72 = .ok (.iadd, 1) := by decide +kernel
theorem d_Md_handle_73 : decode prog_12_method_47_code 73 = .ok (.aload_n 0, 1) := by decide +kernel
theorem d_Md_handle_74 : decode prog_12_method_47_code 74 = .ok (.getfield 58, 3) := by decide +kernel
theorem d_Md_handle_77 : decode prog_12_method_47_code 77 = .ok (.iload 4, 2) := by decide +kernel
theorem d_Md_handle_79 : decode prog_12_method_47_code 79 = .ok (.laload, 1) := by decide +kernel
theorem d_Md_handle_80 : decode prog_12_method_47_code 80 = .ok (.lastore, 1) := by decide +kernel
theorem d_Md_handle_81 : decode prog_12_method_47_code 81 = .ok (.iinc 4 1, 3) := by decide +kernel
theorem d_Md_handle_84 : decode prog_12_method_47_code 84 = .ok (.goto (-35), 3) := by decide +kernel
theorem d_Md_handle_87 : decode prog_12_method_47_code 87 = .ok (.aload_n 0, 1) := by decide +kernel
theorem d_Md_handle_88 : decode prog_12_method_47_code 88 = .ok (.dup, 1) := by decide +kernel
theorem d_Md_handle_89 : decode prog_12_method_47_code 89 = .ok (.getfield 308, 3) := by decide +kernel
theorem d_Md_handle_92 : decode prog_12_method_47_code 92 = .ok (.iconst 1, 1) := by decide +kernel
theorem d_Md_handle_93 : decode prog_12_method_47_code 93 = .ok (.iadd, 1) := by decide +kernel
theorem d_Md_handle_94 : decode prog_12_method_47_code 94 = .ok (.putfield 308, 3) := by decide +kernel
theorem d_Md_handle_97 : decode prog_12_method_47_code 97 = .ok (.return_, 1) := by decide +kernel
theorem d_Md_step_0 : decode prog_12_method_48_code 0 = .ok (.aload_n 0, 1) := by decide +kernel
theorem d_Md_step_1 : decode prog_12_method_48_code 1 = .ok (.getfield 132, 3) := by decide +kernel
theorem d_Md_step_4 : decode prog_12_method_48_code 4 = .ok (.aload_n 0, 1) := by decide +kernel
theorem d_Md_step_5 : decode prog_12_method_48_code 5 = .ok (.getfield 326, 3) := by decide +kernel
theorem d_Md_step_8 : decode prog_12_method_48_code 8 = .ok (.lcmp, 1) := by decide +kernel
theorem d_Md_step_9 : decode prog_12_method_48_code 9 = .ok (.ifCond .ne 15, 3) := by decide +kernel
theorem d_Md_step_12 : decode prog_12_method_48_code 12 = .ok (.aload_n 0, 1) := by decide +kernel
theorem d_Md_step_13 : decode prog_12_method_48_code 13 = .ok (.iconst 2, 1) := by decide +kernel
theorem d_Md_step_14 : decode prog_12_method_48_code 14 = .ok (.putfield 320, 3) := by decide +kernel
theorem d_Md_step_17 : decode prog_12_method_48_code 17 = .ok (.aload_n 0, 1) := by decide +kernel
theorem d_Md_step_18 : decode prog_12_method_48_code 18 = .ok (.iconst 1, 1) := by decide +kernel
theorem d_Md_step_19 : decode prog_12_method_48_code 19 = .ok (.putfield 323, 3) := by decide +kernel
theorem d_Md_step_22 : decode prog_12_method_48_code 22 = .ok (.iconst 0, 1) := by decide +kernel
theorem d_Md_step_23 : decode prog_12_method_48_code 23 = .ok (.ireturn, 1) := by decide +kernel
theorem d_Md_step_24 : decode prog_12_method_48_code 24 = .ok (.aload_n 0, 1) := by decide +kernel
theorem d_Md_step_25 : decode prog_12_method_48_code 25 = .ok (.dup, 1) := by decide +kernel
theorem d_Md_step_26 : decode prog_12_method_48_code 26 = .ok (.getfield 132, 3) := by decide +kernel
theorem d_Md_step_29 : decode prog_12_method_48_code 29 = .ok (.lconst 1, 1) := by decide +kernel
theorem d_Md_step_30 : decode prog_12_method_48_code 30 = .ok (.ladd, 1) := by decide +kernel
theorem d_Md_step_31 : decode prog_12_method_48_code 31 = .ok (.putfield 132, 3) := by decide +kernel
theorem d_Md_step_34 : decode prog_12_method_48_code 34 = .ok (.aload_n 0, 1) := by decide +kernel
theorem d_Md_step_35 : decode prog_12_method_48_code 35 = .ok (.iload_n 1, 1) := by decide +kernel
theorem d_Md_step_36 : decode prog_12_method_48_code 36 = .ok (.putfield 329, 3) := by decide +kernel
theorem d_Md_step_39 : decode prog_12_method_48_code 39 = .ok (.iconst 1, 1) := by decide +kernel
theorem d_Md_step_40 : decode prog_12_method_48_code 40 = .ok (.ireturn, 1) := by decide +kernel
theorem d_Md_store_0 : decode prog_12_method_49_code 0 = .ok (.iload_n 1, 1) := by decide +kernel
theorem d_Md_store_1 : decode prog_12_method_49_code 1 = .ok (.iconst 1, 1) := by decide +kernel
theorem d_Md_store_2 : decode prog_12_method_49_code 2 = .ok (.if_icmp .ne 48, 3) := by decide +kernel
theorem d_Md_store_5 : decode prog_12_method_49_code 5 = .ok (.aload_n 0, 1) := by decide +kernel
theorem d_Md_store_6 : decode prog_12_method_49_code 6 = .ok (.aload_n 0, 1) := by decide +kernel
theorem d_Md_store_7 : decode prog_12_method_49_code 7 = .ok (.getfield 31, 3) := by decide +kernel
theorem d_Md_store_10 : decode prog_12_method_49_code 10 = .ok (.iload_n 2, 1) := by decide +kernel
theorem d_Md_store_11 : decode prog_12_method_49_code 11 = .ok (.iaload, 1) := by decide +kernel
theorem d_Md_store_12 : decode prog_12_method_49_code 12 = .ok (.invokevirtual 332, 3) := by decide +kernel
theorem d_Md_store_15 : decode prog_12_method_49_code 15 = .ok (.ifCond .eq 21, 3) := by decide +kernel
theorem d_Md_store_18 : decode prog_12_method_49_code 18 = .ok (.aload_n 0, 1) := by decide +kernel
theorem d_Md_store_19 : decode prog_12_method_49_code 19 = .ok (.getfield 69, 3) := by decide +kernel
theorem d_Md_store_22 : decode prog_12_method_49_code 22 = .ok (.aload_n 0, 1) := by decide +kernel
theorem d_Md_store_23 : decode prog_12_method_49_code 23 = .ok (.getfield 25, 3) := by decide +kernel
theorem d_Md_store_26 : decode prog_12_method_49_code 26 = .ok (.iload_n 2, 1) := by decide +kernel
theorem d_Md_store_27 : decode prog_12_method_49_code 27 = .ok (.iaload, 1) := by decide +kernel
theorem d_Md_store_28 : decode prog_12_method_49_code 28 = .ok (.aload_n 0, 1) := by decide +kernel
theorem d_Md_store_29 : decode prog_12_method_49_code 29 = .ok (.getfield 305, 3) := by decide +kernel
theorem d_Md_store_32 : decode prog_12_method_49_code 32 = .ok (.lastore, 1) := by decide +kernel
theorem d_Md_store_33 : decode prog_12_method_49_code 33 = .ok (.goto 16, 3) := by decide +kernel
theorem d_Md_store_36 : decode prog_12_method_49_code 36 = .ok (.aload_n 0, 1) := by decide +kernel
theorem d_Md_store_37 : decode prog_12_method_49_code 37 = .ok (.aload_n 0, 1) := by decide +kernel
theorem d_Md_store_38 : decode prog_12_method_49_code 38 = .ok (.getfield 298, 3) := by decide +kernel
theorem d_Md_store_41 : decode prog_12_method_49_code 41 = .ok (.aload_n 0, 1) := by decide +kernel
theorem d_Md_store_42 : decode prog_12_method_49_code 42 = .ok (.getfield 329, 3) := by decide +kernel
theorem d_Md_store_45 : decode prog_12_method_49_code 45 = .ok (.iconst 0, 1) := by decide +kernel
theorem d_Md_store_46 : decode prog_12_method_49_code 46 = .ok (.invokevirtual 335, 3) := by decide +kernel
theorem d_Md_store_49 : decode prog_12_method_49_code 49 = .ok (.return_, 1) := by decide +kernel
theorem d_Md_store_50 : decode prog_12_method_49_code 50 = .ok (.aload_n 0, 1) := by decide +kernel
theorem d_Md_store_51 : decode prog_12_method_49_code 51 = .ok (.aload_n 0, 1) := by decide +kernel
theorem d_Md_store_52 : decode prog_12_method_49_code 52 = .ok (.getfield 28, 3) := by decide +kernel
theorem d_Md_store_55 : decode prog_12_method_49_code 55 = .ok (.iload_n 2, 1) := by decide +kernel
theorem d_Md_store_56 : decode prog_12_method_49_code 56 = .ok (.iaload, 1) := by decide +kernel
theorem d_Md_store_57 : decode prog_12_method_49_code 57 = .ok (.invokevirtual 332, 3) := by decide +kernel
theorem d_Md_store_60 : decode prog_12_method_49_code 60 = .ok (.istore_n 3, 1) := by decide +kernel
theorem d_Md_store_61 : decode prog_12_method_49_code 61 = .ok (.aload_n 0, 1) := by decide +kernel
theorem d_Md_store_62 : decode prog_12_method_49_code 62 = .ok (.getfield 305, 3) := by decide +kernel
theorem d_Md_store_65 : decode prog_12_method_49_code 65 = .ok (.lstore 4, 2) := by decide +kernel
theorem d_Md_store_67 : decode prog_12_method_49_code 67 = .ok (.iload_n 1, 1) := by decide +kernel
theorem d_Md_store_68 : decode prog_12_method_49_code 68 = .ok (.iconst 2, 1) := by decide +kernel
theorem d_Md_store_69 : decode prog_12_method_49_code 69 = .ok (.if_icmp .ne 12, 3) := by decide +kernel
theorem d_Md_store_72 : decode prog_12_method_49_code 72 = .ok (.aload_n 0, 1) := by decide +kernel
theorem d_Md_store_73 : decode prog_12_method_49_code 73 = .ok (.lload 4, 2) := by decide +kernel
theorem d_Md_store_75 : decode prog_12_method_49_code 75 = .ok (.invokevirtual 281, 3) := by decide +kernel
theorem d_Md_store_78 : decode prog_12_method_49_code 78 = .ok (.goto 26, 3) := by decide +kernel
theorem d_Md_store_81 : decode prog_12_method_49_code 81 = .ok (.lload 4, 2) := by decide +kernel
theorem d_Md_store_83 : decode prog_12_method_49_code 83 = .ok (.lconst 0, 1) := by decide +kernel
theorem d_Md_store_84 : decode prog_12_method_49_code 84 = .ok (.lcmp, 1) := by decide +kernel
theorem d_Md_store_85 : decode prog_12_method_49_code 85 = .ok (.ifCond .lt 18, 3) := by decide +kernel
theorem d_Md_store_88 : decode prog_12_method_49_code 88 = .ok (.lload 4, 2) := by decide +kernel
theorem d_Md_store_90 : decode prog_12_method_49_code 90 = .ok (.aload_n 0, 1) := by decide +kernel
theorem d_Md_store_91 : decode prog_12_method_49_code 91 = .ok (.getfield 123, 3) := by decide +kernel
theorem d_Md_store_94 : decode prog_12_method_49_code 94 = .ok (.i2l, 1) := by decide +kernel
theorem d_Md_store_95 : decode prog_12_method_49_code 95 = .ok (.lcmp, 1) := by decide +kernel
theorem d_Md_store_96 : decode prog_12_method_49_code 96 = .ok (.ifCond .ge 7, 3) := by decide +kernel
theorem d_Md_store_99 : decode prog_12_method_49_code 99 = .ok (.iconst 1, 1) := by decide +kernel
theorem d_Md_store_100 : decode prog_12_method_49_code 100 = .ok (.goto 4, 3) := by decide +kernel
theorem d_Md_store_103 : decode prog_12_method_49_code 103 = .ok (.iconst 0, 1) := by decide +kernel
theorem d_Md_store_104 : decode prog_12_method_49_code 104 = .ok (.istore 6, 2) := by decide +kernel
theorem d_Md_store_106 : decode prog_12_method_49_code 106 = .ok (.iload_n 3, 1) := by decide +kernel
theorem d_Md_store_107 : decode prog_12_method_49_code 107 = .ok (.ifCond .ne 19, 3) := by decide +kernel
theorem d_Md_store_110 : decode prog_12_method_49_code 110 = .ok (.aload_n 0, 1) := by decide +kernel
theorem d_Md_store_111 : decode prog_12_method_49_code 111 = .ok (.aload_n 0, 1) := by decide +kernel
theorem d_Md_store_112 : decode prog_12_method_49_code 112 = .ok (.getfield 298, 3) := by decide +kernel
theorem d_Md_store_115 : decode prog_12_method_49_code 115 = .ok (.aload_n 0, 1) := by decide +kernel
theorem d_Md_store_116 : decode prog_12_method_49_code 116 = .ok (.getfield 329, 3) := by decide +kernel
theorem d_Md_store_119 : decode prog_12_method_49_code 119 = .ok (.iconst 0, 1) := by decide +kernel
theorem d_Md_store_120 : decode prog_12_method_49_code 120 = .ok (.invokevirtual 335, 3) := by decide +kernel
theorem d_Md_store_123 : decode prog_12_method_49_code 123 = .ok (.goto 92, 3) := by decide +kernel
theorem d_Md_store_126 : decode prog_12_method_49_code 126 = .ok (.iload 6, 2) := by decide +kernel
theorem d_Md_store_128 : decode prog_12_method_49_code 128 = .ok (.ifCond .ne 16, 3) := by decide +kernel
theorem d_Md_store_131 : decode prog_12_method_49_code 131 = .ok (.aload_n 0, 1) := by decide +kernel
theorem d_Md_store_132 : decode prog_12_method_49_code 132 = .ok (.iconst 2, 1) := by decide +kernel
theorem d_Md_store_133 : decode prog_12_method_49_code 133 = .ok (.aload_n 0, 1) := by decide +kernel
theorem d_Md_store_134 : decode prog_12_method_49_code 134 = .ok (.getfield 329, 3) := by decide +kernel
theorem d_Md_store_137 : decode prog_12_method_49_code 137 = .ok (.iconst 0, 1) := by decide +kernel
theorem d_Md_store_138 : decode prog_12_method_49_code 138 = .ok (.invokevirtual 335, 3) := by decide +kernel
theorem d_Md_store_141 : decode prog_12_method_49_code 141 = .ok (.goto 74, 3) := by decide +kernel
theorem d_Md_store_144 : decode prog_12_method_49_code 144 = .ok (.aload_n 0, 1) := by decide +kernel
theorem d_Md_store_145 : decode prog_12_method_49_code 145 = .ok (.aload_n 0, 1) := by decide +kernel
theorem d_Md_store_146 : decode prog_12_method_49_code 146 = .ok (.getfield 31, 3) := by decide +kernel
theorem d_Md_store_149 : decode prog_12_method_49_code 149 = .ok (.iload_n 2, 1) := by decide +kernel
theorem d_Md_store_150 : decode prog_12_method_49_code 150 = .ok (.iaload, 1) := by decide +kernel
theorem d_Md_store_151 : decode prog_12_method_49_code 151 = .ok (.invokevirtual 332, 3) := by decide +kernel
theorem d_Md_store_154 : decode prog_12_method_49_code 154 = .ok (.ifCond .ne 19, 3) := by decide +kernel
theorem d_Md_store_157 : decode prog_12_method_49_code 157 = .ok (.aload_n 0, 1) := by decide +kernel
theorem d_Md_store_158 : decode prog_12_method_49_code 158 = .ok (.aload_n 0, 1) := by decide +kernel
theorem d_Md_store_159 : decode prog_12_method_49_code 159 = .ok (.getfield 298, 3) := by decide +kernel
theorem d_Md_store_162 : decode prog_12_method_49_code 162 = .ok (.aload_n 0, 1) := by decide +kernel
theorem d_Md_store_163 : decode prog_12_method_49_code 163 = .ok (.getfield 329, 3) := by decide +kernel
theorem d_Md_store_166 : decode prog_12_method_49_code 166 = .ok (.iconst 0, 1) := by decide +kernel
theorem d_Md_store_167 : decode prog_12_method_49_code 167 = .ok (.invokevirtual 335, 3) := by decide +kernel
theorem d_Md_store_170 : decode prog_12_method_49_code 170 = .ok (.goto 45, 3) := by decide +kernel
theorem d_Md_store_173 : decode prog_12_method_49_code 173 = .ok (.iload_n 1, 1) := by decide +kernel
theorem d_Md_store_174 : decode prog_12_method_49_code 174 = .ok (.iconst 2, 1) := by decide +kernel
theorem d_Md_store_175 : decode prog_12_method_49_code 175 = .ok (.if_icmp .ne 28, 3) := by decide +kernel
theorem d_Md_store_178 : decode prog_12_method_49_code 178 = .ok (.aload_n 0, 1) := by decide +kernel
theorem d_Md_store_179 : decode prog_12_method_49_code 179 = .ok (.getfield 58, 3) := by decide +kernel
theorem d_Md_store_182 : decode prog_12_method_49_code 182 = .ok (.bipush 6, 2) := by decide +kernel
theorem d_Md_store_184 : decode prog_12_method_49_code 184 = .ok (.lload 4, 2) := by decide +kernel
theorem d_Md_store_186 : decode prog_12_method_49_code 186 = .ok (.l2i, 1) := by decide +kernel
theorem d_Md_store_187 : decode prog_12_method_49_code 187 = .ok (.imul, 1) := by decide +kernel
theorem d_Md_store_188 : decode prog_12_method_49_code 188 = .ok (.aload_n 0, 1) := by decide +kernel
theorem d_Md_store_189 : decode prog_12_method_49_code 189 = .ok (.getfield 25, 3) := by decide +kernel
theorem d_Md_store_192 : decode prog_12_method_49_code 192 = .ok (.iload_n 2, 1) := by decide +kernel
theorem d_Md_store_193 : decode prog_12_method_49_code 193 = .ok (.iaload, 1) := by decide +kernel
theorem d_Md_store_194 : decode prog_12_method_49_code 194 = .ok (.iadd, 1) := by decide +kernel
theorem d_Md_store_195 : decode prog_12_method_49_code 195 = .ok (.aload_n 0, 1) := by decide +kernel
theorem d_Md_store_196 : decode prog_12_method_49_code 196 = .ok (.getfield 305, 3) := by decide +kernel
theorem d_Md_store_199 : decode prog_12_method_49_code 199 = .ok (.lastore, 1) := by decide +kernel
theorem d_Md_store_200 : decode prog_12_method_49_code 200 = .ok (.goto 15, 3) := by decide +kernel
theorem d_Md_store_203 : decode prog_12_method_49_code 203 = .ok (.aload_n 0, 1) := by decide +kernel
theorem d_Md_store_204 : decode prog_12_method_49_code 204 = .ok (.getfield 62, 3) := by decide +kernel
theorem d_Md_store_207 : decode prog_12_method_49_code 207 = .ok (.lload 4, 2) := by decide +kernel
theorem d_Md_store_209 : decode prog_12_method_49_code 209 = .ok (.l2i, 1) := by decide +kernel
theorem d_Md_store_210 : decode prog_12_method_49_code 210 = .ok (.aload_n 0, 1) := by decide +kernel
theorem d_Md_store_211 : decode prog_12_method_49_code 211 = .ok (.getfield 305, 3) := by decide +kernel
theorem d_Md_store_214 : decode prog_12_method_49_code 214 = .ok (.lastore, 1) := by decide +kernel
theorem d_Md_store_215 : decode prog_12_method_49_code 215 = .ok (.return_, 1) := by decide +kernel
theorem d_Md_askObjects_0 : decode prog_12_method_50_code 0 = .ok (.aload_n 0, 1) := by decide +kernel
theorem d_Md_askObjects_1 : decode prog_12_method_50_code 1 = .ok (.getfield 69, 3) := by decide +kernel
theorem d_Md_askObjects_4 : decode prog_12_method_50_code 4 = .ok (.bipush 25, 2) := by decide +kernel
theorem d_Md_askObjects_6 : decode prog_12_method_50_code 6 = .ok (.laload, 1) := by decide +kernel
theorem d_Md_askObjects_7 : decode prog_12_method_50_code 7 = .ok (.lstore_n 2, 1) := by decide +kernel
theorem d_Md_askObjects_8 : decode prog_12_method_50_code 8 = .ok (.iconst 0, 1) := by decide +kernel
theorem d_Md_askObjects_9 : decode prog_12_method_50_code 9 = .ok (.istore 4, 2) := by decide +kernel
theorem d_Md_askObjects_11 : decode prog_12_method_50_code 11 = .ok (.iconst 0, 1) := by decide +kernel
theorem d_Md_askObjects_12 : decode prog_12_method_50_code 12 = .ok (.istore 5, 2) := by decide +kernel
theorem d_Md_askObjects_14 : decode prog_12_method_50_code 14 = .ok (.iload 5, 2) := by decide +kernel
theorem d_Md_askObjects_16 : decode prog_12_method_50_code 16 = .ok (.aload_n 0, 1) := by decide +kernel
theorem d_Md_askObjects_17 : decode prog_12_method_50_code 17 = .ok (.getfield 120, 3) := by decide +kernel
theorem d_Md_askObjects_20 : decode prog_12_method_50_code 20 = .ok (.if_icmp .ge 64, 3) := by decide +kernel
theorem d_Md_askObjects_23 : decode prog_12_method_50_code 23 = .ok (.aload_n 0, 1) := by decide +kernel
theorem d_Md_askObjects_24 : decode prog_12_method_50_code 24 = .ok (.getfield 69, 3) := by decide +kernel
theorem d_Md_askObjects_27 : decode prog_12_method_50_code 27 = .ok (.bipush 25, 2) := by decide +kernel
theorem d_Md_askObjects_29 : decode prog_12_method_50_code 29 = .ok (.iload 5, 2) := by decide +kernel
theorem d_Md_askObjects_31 : decode prog_12_method_50_code 31 = .ok (.i2l, 1) := by decide +kernel
theorem d_Md_askObjects_32 : decode prog_12_method_50_code 32 = .ok (.lastore, 1) := by decide +kernel
theorem d_Md_askObjects_33 : decode prog_12_method_50_code 33 = .ok (.aload_n 0, 1) := by decide +kernel
theorem d_Md_askObjects_34 : decode prog_12_method_50_code 34 = .ok (.aload_n 0, 1) := by decide +kernel
theorem d_Md_askObjects_35 : decode prog_12_method_50_code 35 = .ok (.getfield 31, 3) := by decide +kernel
theorem d_Md_askObjects_38 : decode prog_12_method_50_code 38 = .ok (.iload_n 1, 1) := by decide +kernel
theorem d_Md_askObjects_39 : decode prog_12_method_50_code 39 = .ok (.iaload, 1) := by decide +kernel
theorem d_Md_askObjects_40 : decode prog_12_method_50_code 40 = .ok (.invokevirtual 332, 3) := by decide +kernel
theorem d_Md_askObjects_43 : decode prog_12_method_50_code 43 = .ok (.ifCond .ne 17, 3) := by decide +kernel
theorem d_Md_askObjects_46 : decode prog_12_method_50_code 46 = .ok (.aload_n 0, 1) := by decide +kernel
theorem d_Md_askObjects_47 : decode prog_12_method_50_code 47 = .ok (.aload_n 0, 1) := by decide +kernel
theorem d_Md_askObjects_48 : decode prog_12_method_50_code 48 = .ok (.getfield 298, 3) := by decide +kernel
theorem d_Md_askObjects_51 : decode prog_12_method_50_code 51 = .ok (.aload_n 0, 1) := by decide +kernel
theorem d_Md_askObjects_52 : decode prog_12_method_50_code 52 = .ok (.getfield 329, 3) := by decide +kernel
theorem d_Md_askObjects_55 : decode prog_12_method_50_code 55 = .ok (.iconst 0, 1) := by decide +kernel
theorem d_Md_askObjects_56 : decode prog_12_method_50_code 56 = .ok (.invokevirtual 335, 3) := by decide +kernel
theorem d_Md_askObjects_59 : decode prog_12_method_50_code 59 = .ok (.return_, 1) := by decide +kernel
theorem d_Md_askObjects_60 : decode prog_12_method_50_code 60 = .ok (.aload_n 0, 1) := by decide +kernel
theorem d_Md_askObjects_61 : decode prog_12_method_50_code 61 = .ok (.getfield 305, 3) := by decide +kernel
theorem d_Md_askObjects_64 : decode prog_12_method_50_code 64 = .ok (.lconst 0, 1) := by decide +kernel
theorem d_Md_askObjects_65 : decode prog_12_method_50_code 65 = .ok (.lcmp, 1) := by decide +kernel
theorem d_Md_askObjects_66 : decode prog_12_method_50_code 66 = .ok (.ifCond .eq 12, 3) := by decide +kernel
theorem d_Md_askObjects_69 : decode prog_12_method_50_code 69 = .ok (.iload 4, 2) := by decide +kernel
theorem d_Md_askObjects_71 : decode prog_12_method_50_code 71 = .ok (.iconst 1, 1) := by decide +kernel
theorem d_Md_askObjects_72 : decode prog_12_method_50_code 72 = .ok (.iload 5, 2) := by decide +kernel
theorem d_Md_askObjects_74 : decode prog_12_method_50_code 74 = .ok (.ishl, 1) := by decide +kernel
theorem d_Md_askObjects_75 : decode prog_12_method_50_code 75 = .ok (.ior, 1) := by decide +kernel
theorem d_Md_askObjects_76 : decode prog_12_method_50_code 76 = .ok (.istore 4, 2) := by decide +kernel
theorem d_Md_askObjects_78 : decode prog_12_method_50_code 78 = .ok (.iinc 5 1, 3) := by decide +kernel
theorem d_Md_askObjects_81 : decode prog_12_method_50_code 81 = .ok (.goto (-67), 3) := by decide +kernel
theorem d_Md_askObjects_84 : decode prog_12_method_50_code 84 = .ok (.aload_n 0, 1) := by decide +kernel
theorem d_Md_askObjects_85 : decode prog_12_method_50_code 85 = .ok (.getfield 69, 3) := by decide +kernel
theorem d_Md_askObjects_88 : decode prog_12_method_50_code 88 = .ok (.bipush 25, 2) := by decide +kernel
theorem d_Md_askObjects_90 : decode prog_12_method_50_code 90 = .ok (.lload_n 2, 1) := by decide +kernel
theorem d_Md_askObjects_91 : decode prog_12_method_50_code 91 = .ok (.lastore, 1) := by decide +kernel
theorem d_Md_askObjects_92 : decode prog_12_method_50_code 92 = .ok (.aload_n 0, 1) := by decide +kernel
theorem d_Md_askObjects_93 : decode prog_12_method_50_code 93 = .ok (.iconst 0, 1) := by decide +kernel
theorem d_Md_askObjects_94 : decode prog_12_method_50_code 94 = .ok (.putfield 142, 3) := by decide +kernel
theorem d_Md_askObjects_97 : decode prog_12_method_50_code 97 = .ok (.iconst 0, 1) := by decide +kernel
theorem d_Md_askObjects_98 : decode prog_12_method_50_code 98 = .ok (.istore 5, 2) := by decide +kernel
theorem d_Md_askObjects_100 : decode prog_12_method_50_code 100 = .ok (.iload 5, 2) := by decide +kernel
theorem d_Md_askObjects_102 : decode prog_12_method_50_code 102 = .ok (.aload_n 0, 1) := by decide +kernel
theorem d_Md_askObjects_103 : decode prog_12_method_50_code 103 = .ok (.getfield 120, 3) := by decide +kernel
theorem d_Md_askObjects_106 : decode prog_12_method_50_code 106 = .ok (.if_icmp .ge 43, 3) := by decide +kernel
theorem d_Md_askObjects_109 : decode prog_12_method_50_code 109 = .ok (.iload 4, 2) := by decide +kernel
theorem d_Md_askObjects_111 : decode prog_12_method_50_code 111 = .ok (.iload 5, 2) := by decide +kernel
theorem d_Md_askObjects_113 : decode prog_12_method_50_code 113 = .ok (.ishr, 1) := by decide +kernel
theorem d_Md_askObjects_114 : decode prog_12_method_50_code 114 = .ok (.iconst 1, 1) := by decide +kernel
theorem d_Md_askObjects_115 : decode prog_12_method_50_code 115 = .ok (.iand, 1) := by decide +kernel
theorem d_Md_askObjects_116 : decode prog_12_method_50_code 116 = .ok (.ifCond .ne 6, 3) := by decide +kernel
theorem d_Md_askObjects_119 : decode prog_12_method_50_code 119 = .ok (.goto 24, 3) := by decide +kernel
theorem d_Md_askObjects_122 : decode prog_12_method_50_code 122 = .ok (.aload_n 0, 1) := by decide +kernel
theorem d_Md_askObjects_123 : decode prog_12_method_50_code 123 = .ok (.getfield 78, 3) := by decide +kernel
theorem d_Md_askObjects_126 : decode prog_12_method_50_code 126 = .ok (.aload_n 0, 1) := by decide +kernel
theorem d_Md_askObjects_127 : decode prog_12_method_50_code 127 = .ok (.getfield 142, 3) := by decide +kernel
theorem d_Md_askObjects_130 : decode prog_12_method_50_code 130 = .ok (.iload 5, 2) := by decide +kernel
theorem d_Md_askObjects_132 : decode prog_12_method_50_code 132 = .ok (.iastore, 1) := by decide +kernel
theorem d_Md_askObjects_133 : decode prog_12_method_50_code 133 = .ok (.aload_n 0, 1) := by decide +kernel
theorem d_Md_askObjects_134 : decode prog_12_method_50_code 134 = .ok (.dup, 1) := by decide +kernel
theorem d_Md_askObjects_135 : decode prog_12_method_50_code 135 = .ok (.getfield 142, 3) := by decide +kernel
theorem d_Md_askObjects_138 : decode prog_12_method_50_code 138 = .ok (.iconst 1, 1) := by decide +kernel
theorem d_Md_askObjects_139 : decode prog_12_method_50_code 139 = .ok (.iadd, 1) := by decide +kernel
theorem d_Md_askObjects_140 : decode prog_12_method_50_code 140 = .ok (.putfield 142, 3) := by decide +kernel
theorem d_Md_askObjects_143 : decode prog_12_method_50_code 143 = .ok (.iinc 5 1, 3) := by decide +kernel
theorem d_Md_askObjects_146 : decode prog_12_method_50_code 146 = .ok (.goto (-46), 3) := by decide +kernel
theorem d_Md_askObjects_149 : decode prog_12_method_50_code 149 = .ok (.return_, 1) := by decide +kernel
theorem d_Md_act_0 : decode prog_12_method_51_code 0 = .ok (.iload_n 1, 1) := by decide +kernel
theorem d_Md_act_1 : decode prog_12_method_51_code 1 = .ok (.bipush 14, 2) := by decide +kernel
theorem d_Md_act_3 : decode prog_12_method_51_code 3 = .ok (.if_icmp .ne 38, 3) := by decide +kernel
theorem d_Md_act_6 : decode prog_12_method_51_code 6 = .ok (.aload_n 0, 1) := by decide +kernel
theorem d_Md_act_7 : decode prog_12_method_51_code 7 = .ok (.getfield 139, 3) := by decide +kernel
theorem d_Md_act_10 : decode prog_12_method_51_code 10 = .ok (.bipush 8, 2) := by decide +kernel
theorem d_Md_act_12 : decode prog_12_method_51_code 12 = .ok (.if_icmp .ge 28, 3) := by decide +kernel
theorem d_Md_act_15 : decode prog_12_method_51_code 15 = .ok (.aload_n 0, 1) := by decide +kernel
theorem d_Md_act_16 : decode prog_12_method_51_code 16 = .ok (.getfield 75, 3) := by decide +kernel
theorem d_Md_act_19 : decode prog_12_method_51_code 19 = .ok (.aload_n 0, 1) := by decide +kernel
theorem d_Md_act_20 : decode prog_12_method_51_code 20 = .ok (.getfield 139, 3) := by decide +kernel
theorem d_Md_act_23 : decode prog_12_method_51_code 23 = .ok (.aload_n 0, 1) := by decide +kernel
theorem d_Md_act_24 : decode prog_12_method_51_code 24 = .ok (.getfield 31, 3) := by decide +kernel
theorem d_Md_act_27 : decode prog_12_method_51_code 27 = .ok (.iload_n 2, 1) := by decide +kernel
theorem d_Md_act_28 : decode prog_12_method_51_code 28 = .ok (.iaload, 1) := by decide +kernel
theorem d_Md_act_29 : decode prog_12_method_51_code 29 = .ok (.iastore, 1) := by decide +kernel
theorem d_Md_act_30 : decode prog_12_method_51_code 30 = .ok (.aload_n 0, 1) := by decide +kernel
theorem d_Md_act_31 : decode prog_12_method_51_code 31 = .ok (.dup, 1) := by decide +kernel
theorem d_Md_act_32 : decode prog_12_method_51_code 32 = .ok (.getfield 139, 3) := by decide +kernel
theorem d_Md_act_35 : decode prog_12_method_51_code 35 = .ok (.iconst 1, 1) := by decide +kernel
theorem d_Md_act_36 : decode prog_12_method_51_code 36 = .ok (.iadd, 1) := by decide +kernel
theorem d_Md_act_37 : decode prog_12_method_51_code 37 = .ok (.putfield 139, 3) := by decide +kernel
theorem d_Md_act_40 : decode prog_12_method_51_code 40 = .ok (.return_, 1) := by decide +kernel
theorem d_Md_act_41 : decode prog_12_method_51_code 41 = .ok (.iload_n 1, 1) := by decide +kernel
theorem d_Md_act_42 : decode prog_12_method_51_code 42 = .ok (.bipush 15, 2) := by decide +kernel
theorem d_Md_act_44 : decode prog_12_method_51_code 44 = .ok (.if_icmp .ne 9, 3) := by decide +kernel
theorem d_Md_act_47 : decode prog_12_method_51_code 47 = .ok (.aload_n 0, 1) := by decide +kernel
theorem d_Md_act_48 : decode prog_12_method_51_code 48 = .ok (.iload_n 2, 1) := by decide +kernel
theorem d_Md_act_49 : decode prog_12_method_51_code 49 = .ok (.invokevirtual 338, 3) := by decide +kernel
theorem d_Md_act_52 : decode prog_12_method_51_code 52 = .ok (.return_, 1) := by decide +kernel
theorem d_Md_act_53 : decode prog_12_method_51_code 53 = .ok (.aload_n 0, 1) := by decide +kernel
theorem d_Md_act_54 : decode prog_12_method_51_code 54 = .ok (.aload_n 0, 1) := by decide +kernel
theorem d_Md_act_55 : decode prog_12_method_51_code 55 = .ok (.getfield 31, 3) := by decide +kernel
theorem d_Md_act_58 : decode prog_12_method_51_code 58 = .ok (.iload_n 2, 1) := by decide +kernel
theorem d_Md_act_59 : decode prog_12_method_51_code 59 = .ok (.iaload, 1) := by decide +kernel
theorem d_Md_act_60 : decode prog_12_method_51_code 60 = .ok (.invokevirtual 332, 3) := by decide +kernel
theorem d_Md_act_63 : decode prog_12_method_51_code 63 = .ok (.ifCond .ne 19, 3) := by decide +kernel
theorem d_Md_act_66 : decode prog_12_method_51_code 66 = .ok (.aload_n 0, 1) := by decide +kernel
theorem d_Md_act_67 : decode prog_12_method_51_code 67 = .ok (.aload_n 0, 1) := by decide +kernel
theorem d_Md_act_68 : decode prog_12_method_51_code 68 = .ok (.getfield 298, 3) := by decide +kernel
theorem d_Md_act_71 : decode prog_12_method_51_code 71 = .ok (.aload_n 0, 1) := by decide +kernel
theorem d_Md_act_72 : decode prog_12_method_51_code 72 = .ok (.getfield 329, 3) := by decide +kernel
theorem d_Md_act_75 : decode prog_12_method_51_code 75 = .ok (.iconst 0, 1) := by decide +kernel
theorem d_Md_act_76 : decode prog_12_method_51_code 76 = .ok (.invokevirtual 335, 3) := by decide +kernel
theorem d_Md_act_79 : decode prog_12_method_51_code 79 = .ok (.goto 147, 3) := by decide +kernel
theorem d_Md_act_82 : decode prog_12_method_51_code 82 = .ok (.iload_n 1, 1) := by decide +kernel
theorem d_Md_act_83 : decode prog_12_method_51_code 83 = .ok (.iconst 4, 1) := by decide +kernel
theorem d_Md_act_84 : decode prog_12_method_51_code 84 = .ok (.if_icmp .ne 39, 3) := by decide +kernel
theorem d_Md_act_87 : decode prog_12_method_51_code 87 = .ok (.aload_n 0, 1) := by decide +kernel
theorem d_Md_act_88 : decode prog_12_method_51_code 88 = .ok (.getfield 136, 3) := by decide +kernel
theorem d_Md_act_91 : decode prog_12_method_51_code 91 = .ok (.bipush 40, 2) := by decide +kernel
theorem d_Md_act_93 : decode prog_12_method_51_code 93 = .ok (.if_icmp .ge 133, 3) := by decide +kernel
theorem d_Md_act_96 : decode prog_12_method_51_code 96 = .ok (.aload_n 0, 1) := by decide +kernel
theorem d_Md_act_97 : decode prog_12_method_51_code 97 = .ok (.getfield 72, 3) := by decide +kernel
theorem d_Md_act_100 : decode prog_12_method_51_code 100 = .ok (.aload_n 0, 1) := by decide +kernel
theorem d_Md_act_101 : decode prog_12_method_51_code 101 = .ok (.getfield 136, 3) := by decide +kernel
theorem d_Md_act_104 : decode prog_12_method_51_code 104 = .ok (.aload_n 0, 1) := by decide +kernel
theorem d_Md_act_105 : decode prog_12_method_51_code 105 = .ok (.getfield 305, 3) := by decide +kernel
theorem d_Md_act_108 : decode prog_12_method_51_code 108 = .ok (.l2i, 1) := by decide +kernel
theorem d_Md_act_109 : decode prog_12_method_51_code 109 = .ok (.iastore, 1) := by decide +kernel
theorem d_Md_act_110 : decode prog_12_method_51_code 110 = .ok (.aload_n 0, 1) := by decide +kernel
theorem d_Md_act_111 : decode prog_12_method_51_code 111 = .ok (.dup, 1) := by decide +kernel
theorem d_Md_act_112 : decode prog_12_method_51_code 112 = .ok (.getfield 136, 3) := by decide +kernel
theorem d_Md_act_115 : decode prog_12_method_51_code 115 = .ok (.iconst 1, 1) := by decide +kernel
theorem d_Md_act_116 : decode prog_12_method_51_code 116 = .ok (.iadd, 1) := by decide +kernel
theorem d_Md_act_117 : decode prog_12_method_51_code 117 = .ok (.putfield 136, 3) := by decide +kernel
theorem d_Md_act_120 : decode prog_12_method_51_code 120 = .ok (.goto 106, 3) := by decide +kernel
theorem d_Md_act_123 : decode prog_12_method_51_code 123 = .ok (.iload_n 1, 1) := by decide +kernel
theorem d_Md_act_124 : decode prog_12_method_51_code 124 = .ok (.bipush 12, 2) := by decide +kernel
theorem d_Md_act_126 : decode prog_12_method_51_code 126 = .ok (.if_icmp .ne 20, 3) := by decide +kernel
theorem d_Md_act_129 : decode prog_12_method_51_code 129 = .ok (.aload_n 0, 1) := by decide +kernel
theorem d_Md_act_130 : decode prog_12_method_51_code 130 = .ok (.iconst 4, 1) := by decide +kernel
theorem d_Md_act_131 : decode prog_12_method_51_code 131 = .ok (.aload_n 0, 1) := by decide +kernel
theorem d_Md_act_132 : decode prog_12_method_51_code 132 = .ok (.getfield 329, 3) := by decide +kernel
theorem d_Md_act_135 : decode prog_12_method_51_code 135 = .ok (.aload_n 0, 1) := by decide +kernel
theorem d_Md_act_136 : decode prog_12_method_51_code 136 = .ok (.getfield 305, 3) := by decide +kernel
theorem d_Md_act_139 : decode prog_12_method_51_code 139 = .ok (.l2i, 1) := by decide +kernel
theorem d_Md_act_140 : decode prog_12_method_51_code 140 = .ok (.invokevirtual 335, 3) := by decide +kernel
theorem d_Md_act_143 : decode prog_12_method_51_code 143 = .ok (.goto 83, 3) := by decide +kernel
theorem d_Md_act_146 : decode prog_12_method_51_code 146 = .ok (.iload_n 1, 1) := by decide +kernel
theorem d_Md_act_147 : decode prog_12_method_51_code 147 = .ok (.bipush 13, 2) := by decide +kernel
theorem d_Md_act_149 : decode prog_12_method_51_code 149 = .ok (.if_icmp .ne 28, 3) := by decide +kernel
theorem d_Md_act_152 : decode prog_12_method_51_code 152 = .ok (.aload_n 0, 1) := by decide +kernel
theorem d_Md_act_153 : decode prog_12_method_51_code 153 = .ok (.aload_n 0, 1) := by decide +kernel
theorem d_Md_act_154 : decode prog_12_method_51_code 154 = .ok (.getfield 305, 3) := by decide +kernel
theorem d_Md_act_157 : decode prog_12_method_51_code 157 = .ok (.invokevirtual 285, 3) := by decide +kernel
theorem d_Md_act_160 : decode prog_12_method_51_code 160 = .ok (.iconst (-1), 1) := by decide +kernel
theorem d_Md_act_161 : decode prog_12_method_51_code 161 = .ok (.if_icmp .ne 65, 3) := by decide +kernel
theorem d_Md_act_164 : decode prog_12_method_51_code 164 = .ok (.aload_n 0, 1) := by decide +kernel
theorem d_Md_act_165 : decode prog_12_method_51_code 165 = .ok (.iconst 3, 1) := by decide +kernel
theorem d_Md_act_166 : decode prog_12_method_51_code 166 = .ok (.aload_n 0, 1) := by decide +kernel
theorem d_Md_act_167 : decode prog_12_method_51_code 167 = .ok (.getfield 329, 3) := by decide +kernel
theorem d_Md_act_170 : decode prog_12_method_51_code 170 = .ok (.iconst 0, 1) := by decide +kernel
theorem d_Md_act_171 : decode prog_12_method_51_code 171 = .ok (.invokevirtual 335, 3) := by decide +kernel
theorem d_Md_act_174 : decode prog_12_method_51_code 174 = .ok (.goto 52, 3) := by decide +kernel
theorem d_Md_act_177 : decode prog_12_method_51_code 177 = .ok (.iload_n 1, 1) := by decide +kernel
theorem d_Md_act_178 : decode prog_12_method_51_code 178 = .ok (.bipush 16, 2) := by decide +kernel
theorem d_Md_act_180 : decode prog_12_method_51_code 180 = .ok (.if_icmp .ne 27, 3) := by decide +kernel
theorem d_Md_act_183 : decode prog_12_method_51_code 183 = .ok (.aload_n 0, 1) := by decide +kernel
theorem d_Md_act_184 : decode prog_12_method_51_code 184 = .ok (.aload_n 0, 1) := by decide +kernel
theorem d_Md_act_185 : decode prog_12_method_51_code 185 = .ok (.getfield 305, 3) := by decide +kernel
theorem d_Md_act_188 : decode prog_12_method_51_code 188 = .ok (.invokevirtual 295, 3) := by decide +kernel
theorem d_Md_act_191 : decode prog_12_method_51_code 191 = .ok (.ifCond .ne 35, 3) := by decide +kernel
theorem d_Md_act_194 : decode prog_12_method_51_code 194 = .ok (.aload_n 0, 1) := by decide +kernel
theorem d_Md_act_195 : decode prog_12_method_51_code 195 = .ok (.iconst 3, 1) := by decide +kernel
theorem d_Md_act_196 : decode prog_12_method_51_code 196 = .ok (.aload_n 0, 1) := by decide +kernel
theorem d_Md_act_197 : decode prog_12_method_51_code 197 = .ok (.getfield 329, 3) := by decide +kernel
theorem d_Md_act_200 : decode prog_12_method_51_code 200 = .ok (.iconst 0, 1) := by decide +kernel
theorem d_Md_act_201 : decode prog_12_method_51_code 201 = .ok (.invokevirtual 335, 3) := by decide +kernel
theorem d_Md_act_204 : decode prog_12_method_51_code 204 = .ok (.goto 22, 3) := by decide +kernel
theorem d_Md_act_207 : decode prog_12_method_51_code 207 = .ok (.aload_n 0, 1) := by decide +kernel
theorem d_Md_act_208 : decode prog_12_method_51_code 208 = .ok (.getfield 305, 3) := by decide +kernel
theorem d_Md_act_211 : decode prog_12_method_51_code 211 = .ok (.lconst 0, 1) := by decide +kernel
theorem d_Md_act_212 : decode prog_12_method_51_code 212 = .ok (.lcmp, 1) := by decide +kernel
theorem d_Md_act_213 : decode prog_12_method_51_code 213 = .ok (.ifCond .ne 13, 3) := by decide +kernel
theorem d_Md_act_216 : decode prog_12_method_51_code 216 = .ok (.aload_n 0, 1) := by decide +kernel
theorem d_Md_act_217 : decode prog_12_method_51_code 217 = .ok (.aload_n 0, 1) := by decide +kernel
theorem d_Md_act_218 : decode prog_12_method_51_code 218 = .ok (.getfield 34, 3) := by decide +kernel
theorem d_Md_act_221 : decode prog_12_method_51_code 221 = .ok (.iload_n 2, 1) := by decide +kernel
theorem d_Md_act_222 : decode prog_12_method_51_code 222 = .ok (.iaload, 1) := by decide +kernel
theorem d_Md_act_223 : decode prog_12_method_51_code 223 = .ok (.putfield 317, 3) := by decide +kernel
theorem d_Md_act_226 : decode prog_12_method_51_code 226 = .ok (.return_, 1) := by decide +kernel
