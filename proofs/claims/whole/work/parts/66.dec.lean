theorem d_Rf_init_0 : decode b_Rf_init 0 = .ok (.aload_n 0, 1) := by decide +kernel
theorem d_Rf_init_1 : decode b_Rf_init 1 = .ok (.invokespecial 1, 3) := by decide +kernel
theorem d_Rf_init_4 : decode b_Rf_init 4 = .ok (.aload_n 0, 1) := by decide +kernel
theorem d_Rf_init_5 : decode b_Rf_init 5 = .ok (.sipush 8000, 3) := by decide +kernel
theorem d_Rf_init_8 : decode b_Rf_init 8 = .ok (.newarray .int, 2) := by decide +kernel
theorem d_Rf_init_10 : decode b_Rf_init 10 = .ok (.putfield 7, 3) := by decide +kernel
theorem d_Rf_init_13 : decode b_Rf_init 13 = .ok (.aload_n 0, 1) := by decide +kernel
theorem d_Rf_init_14 : decode b_Rf_init 14 = .ok (.sipush 8000, 3) := by decide +kernel
theorem d_Rf_init_17 : decode b_Rf_init 17 = .ok (.newarray .int, 2) := by decide +kernel
theorem d_Rf_init_19 : decode b_Rf_init 19 = .ok (.putfield 13, 3) := by decide +kernel
theorem d_Rf_init_22 : decode b_Rf_init 22 = .ok (.aload_n 0, 1) := by decide +kernel
theorem d_Rf_init_23 : decode b_Rf_init 23 = .ok (.sipush 8000, 3) := by decide +kernel
theorem d_Rf_init_26 : decode b_Rf_init 26 = .ok (.newarray .int, 2) := by decide +kernel
theorem d_Rf_init_28 : decode b_Rf_init 28 = .ok (.putfield 16, 3) := by decide +kernel
theorem d_Rf_init_31 : decode b_Rf_init 31 = .ok (.aload_n 0, 1) := by decide +kernel
theorem d_Rf_init_32 : decode b_Rf_init 32 = .ok (.sipush 8000, 3) := by decide +kernel
theorem d_Rf_init_35 : decode b_Rf_init 35 = .ok (.newarray .int, 2) := by decide +kernel
theorem d_Rf_init_37 : decode b_Rf_init 37 = .ok (.putfield 19, 3) := by decide +kernel
theorem d_Rf_init_40 : decode b_Rf_init 40 = .ok (.aload_n 0, 1) := by decide +kernel
theorem d_Rf_init_41 : decode b_Rf_init 41 = .ok (.sipush 8000, 3) := by decide +kernel
theorem d_Rf_init_44 : decode b_Rf_init 44 = .ok (.newarray .int, 2) := by decide +kernel
theorem d_Rf_init_46 : decode b_Rf_init 46 = .ok (.putfield 22, 3) := by decide +kernel
theorem d_Rf_init_49 : decode b_Rf_init 49 = .ok (.aload_n 0, 1) := by decide +kernel
theorem d_Rf_init_50 : decode b_Rf_init 50 = .ok (.sipush 8000, 3) := by decide +kernel
theorem d_Rf_init_53 : decode b_Rf_init 53 = .ok (.newarray .boolean, 2) := by decide +kernel
theorem d_Rf_init_55 : decode b_Rf_init 55 = .ok (.putfield 25, 3) := by decide +kernel
theorem d_Rf_init_58 : decode b_Rf_init 58 = .ok (.aload_n 0, 1) := by decide +kernel
theorem d_Rf_init_59 : decode b_Rf_init 59 = .ok (.bipush 40, 2) := by decide +kernel
theorem d_Rf_init_61 : decode b_Rf_init 61 = .ok (.newarray .int, 2) := by decide +kernel
theorem d_Rf_init_63 : decode b_Rf_init 63 = .ok (.putfield 29, 3) := by decide +kernel
theorem d_Rf_init_66 : decode b_Rf_init 66 = .ok (.aload_n 0, 1) := by decide +kernel
theorem d_Rf_init_67 : decode b_Rf_init 67 = .ok (.bipush 50, 2) := by decide +kernel
theorem d_Rf_init_69 : decode b_Rf_init 69 = .ok (.newarray .int, 2) := by decide +kernel
theorem d_Rf_init_71 : decode b_Rf_init 71 = .ok (.putfield 32, 3) := by decide +kernel
theorem d_Rf_init_74 : decode b_Rf_init 74 = .ok (.aload_n 0, 1) := by decide +kernel
theorem d_Rf_init_75 : decode b_Rf_init 75 = .ok (.bipush 50, 2) := by decide +kernel
theorem d_Rf_init_77 : decode b_Rf_init 77 = .ok (.newarray .int, 2) := by decide +kernel
theorem d_Rf_init_79 : decode b_Rf_init 79 = .ok (.putfield 35, 3) := by decide +kernel
theorem d_Rf_init_82 : decode b_Rf_init 82 = .ok (.aload_n 0, 1) := by decide +kernel
theorem d_Rf_init_83 : decode b_Rf_init 83 = .ok (.bipush 50, 2) := by decide +kernel
theorem d_Rf_init_85 : decode b_Rf_init 85 = .ok (.newarray .int, 2) := by decide +kernel
theorem d_Rf_init_87 : decode b_Rf_init 87 = .ok (.putfield 38, 3) := by decide +kernel
theorem d_Rf_init_90 : decode b_Rf_init 90 = .ok (.aload_n 0, 1) := by decide +kernel
theorem d_Rf_init_91 : decode b_Rf_init 91 = .ok (.iconst (-1), 1) := by decide +kernel
theorem d_Rf_init_92 : decode b_Rf_init 92 = .ok (.putfield 41, 3) := by decide +kernel
theorem d_Rf_init_95 : decode b_Rf_init 95 = .ok (.aload_n 0, 1) := by decide +kernel
theorem d_Rf_init_96 : decode b_Rf_init 96 = .ok (.sipush 1000, 3) := by decide +kernel
theorem d_Rf_init_99 : decode b_Rf_init 99 = .ok (.newarray .int, 2) := by decide +kernel
theorem d_Rf_init_101 : decode b_Rf_init 101 = .ok (.putfield 45, 3) := by decide +kernel
theorem d_Rf_init_104 : decode b_Rf_init 104 = .ok (.aload_n 0, 1) := by decide +kernel
theorem d_Rf_init_105 : decode b_Rf_init 105 = .ok (.sipush 8000, 3) := by decide +kernel
theorem d_Rf_init_108 : decode b_Rf_init 108 = .ok (.newarray .boolean, 2) := by decide +kernel
theorem d_Rf_init_110 : decode b_Rf_init 110 = .ok (.putfield 48, 3) := by decide +kernel
theorem d_Rf_init_113 : decode b_Rf_init 113 = .ok (.aload_n 0, 1) := by decide +kernel
theorem d_Rf_init_114 : decode b_Rf_init 114 = .ok (.sipush 8000, 3) := by decide +kernel
theorem d_Rf_init_117 : decode b_Rf_init 117 = .ok (.newarray .boolean, 2) := by decide +kernel
theorem d_Rf_init_119 : decode b_Rf_init 119 = .ok (.putfield 51, 3) := by decide +kernel
theorem d_Rf_init_122 : decode b_Rf_init 122 = .ok (.aload_n 0, 1) := by decide +kernel
theorem d_Rf_init_123 : decode b_Rf_init 123 = .ok (.sipush 8000, 3) := by decide +kernel
theorem d_Rf_init_126 : decode b_Rf_init 126 = .ok (.newarray .int, 2) := by decide +kernel
theorem d_Rf_init_128 : decode b_Rf_init 128 = .ok (.putfield 54, 3) := by decide +kernel
theorem d_Rf_init_131 : decode b_Rf_init 131 = .ok (.return_, 1) := by decide +kernel
theorem d_Rf_node_0 : decode b_Rf_node 0 = .ok (.aload_n 0, 1) := by decide +kernel
theorem d_Rf_node_1 : decode b_Rf_node 1 = .ok (.getfield 57, 3) := by decide +kernel
theorem d_Rf_node_4 : decode b_Rf_node 4 = .ok (.istore 5, 2) := by decide +kernel
theorem d_Rf_node_6 : decode b_Rf_node 6 = .ok (.aload_n 0, 1) := by decide +kernel
theorem d_Rf_node_7 : decode b_Rf_node 7 = .ok (.aload_n 0, 1) := by decide +kernel
theorem d_Rf_node_8 : decode b_Rf_node 8 = .ok (.getfield 57, 3) := by decide +kernel
theorem d_Rf_node_11 : decode b_Rf_node 11 = .ok (.iconst 1, 1) := by decide +kernel
theorem d_Rf_node_12 : decode b_Rf_node 12 = .ok (.iadd, 1) := by decide +kernel
theorem d_Rf_node_13 : decode b_Rf_node 13 = .ok (.putfield 57, 3) := by decide +kernel
theorem d_Rf_node_16 : decode b_Rf_node 16 = .ok (.aload_n 0, 1) := by decide +kernel
theorem d_Rf_node_17 : decode b_Rf_node 17 = .ok (.getfield 7, 3) := by decide +kernel
theorem d_Rf_node_20 : decode b_Rf_node 20 = .ok (.iload 5, 2) := by decide +kernel
theorem d_Rf_node_22 : decode b_Rf_node 22 = .ok (.iload_n 1, 1) := by decide +kernel
theorem d_Rf_node_23 : decode b_Rf_node 23 = .ok (.iastore, 1) := by decide +kernel
theorem d_Rf_node_24 : decode b_Rf_node 24 = .ok (.aload_n 0, 1) := by decide +kernel
theorem d_Rf_node_25 : decode b_Rf_node 25 = .ok (.getfield 13, 3) := by decide +kernel
theorem d_Rf_node_28 : decode b_Rf_node 28 = .ok (.iload 5, 2) := by decide +kernel
theorem d_Rf_node_30 : decode b_Rf_node 30 = .ok (.iload_n 2, 1) := by decide +kernel
theorem d_Rf_node_31 : decode b_Rf_node 31 = .ok (.iastore, 1) := by decide +kernel
theorem d_Rf_node_32 : decode b_Rf_node 32 = .ok (.aload_n 0, 1) := by decide +kernel
theorem d_Rf_node_33 : decode b_Rf_node 33 = .ok (.getfield 16, 3) := by decide +kernel
theorem d_Rf_node_36 : decode b_Rf_node 36 = .ok (.iload 5, 2) := by decide +kernel
theorem d_Rf_node_38 : decode b_Rf_node 38 = .ok (.iload_n 3, 1) := by decide +kernel
theorem d_Rf_node_39 : decode b_Rf_node 39 = .ok (.iastore, 1) := by decide +kernel
theorem d_Rf_node_40 : decode b_Rf_node 40 = .ok (.aload_n 0, 1) := by decide +kernel
theorem d_Rf_node_41 : decode b_Rf_node 41 = .ok (.getfield 19, 3) := by decide +kernel
theorem d_Rf_node_44 : decode b_Rf_node 44 = .ok (.iload 5, 2) := by decide +kernel
theorem d_Rf_node_46 : decode b_Rf_node 46 = .ok (.iload 4, 2) := by decide +kernel
theorem d_Rf_node_48 : decode b_Rf_node 48 = .ok (.iastore, 1) := by decide +kernel
theorem d_Rf_node_49 : decode b_Rf_node 49 = .ok (.aload_n 0, 1) := by decide +kernel
theorem d_Rf_node_50 : decode b_Rf_node 50 = .ok (.getfield 22, 3) := by decide +kernel
theorem d_Rf_node_53 : decode b_Rf_node 53 = .ok (.iload 5, 2) := by decide +kernel
theorem d_Rf_node_55 : decode b_Rf_node 55 = .ok (.iconst (-1), 1) := by decide +kernel
theorem d_Rf_node_56 : decode b_Rf_node 56 = .ok (.iastore, 1) := by decide +kernel
theorem d_Rf_node_57 : decode b_Rf_node 57 = .ok (.iload_n 3, 1) := by decide +kernel
theorem d_Rf_node_58 : decode b_Rf_node 58 = .ok (.ifCond .lt 11, 3) := by decide +kernel
theorem d_Rf_node_61 : decode b_Rf_node 61 = .ok (.aload_n 0, 1) := by decide +kernel
theorem d_Rf_node_62 : decode b_Rf_node 62 = .ok (.getfield 22, 3) := by decide +kernel
theorem d_Rf_node_65 : decode b_Rf_node 65 = .ok (.iload_n 3, 1) := by decide +kernel
theorem d_Rf_node_66 : decode b_Rf_node 66 = .ok (.iload 5, 2) := by decide +kernel
theorem d_Rf_node_68 : decode b_Rf_node 68 = .ok (.iastore, 1) := by decide +kernel
theorem d_Rf_node_69 : decode b_Rf_node 69 = .ok (.iload 4, 2) := by decide +kernel
theorem d_Rf_node_71 : decode b_Rf_node 71 = .ok (.ifCond .lt 12, 3) := by decide +kernel
theorem d_Rf_node_74 : decode b_Rf_node 74 = .ok (.aload_n 0, 1) := by decide +kernel
theorem d_Rf_node_75 : decode b_Rf_node 75 = .ok (.getfield 22, 3) := by decide +kernel
theorem d_Rf_node_78 : decode b_Rf_node 78 = .ok (.iload 4, 2) := by decide +kernel
theorem d_Rf_node_80 : decode b_Rf_node 80 = .ok (.iload 5, 2) := by decide +kernel
theorem d_Rf_node_82 : decode b_Rf_node 82 = .ok (.iastore, 1) := by decide +kernel
theorem d_Rf_node_83 : decode b_Rf_node 83 = .ok (.aload_n 0, 1) := by decide +kernel
theorem d_Rf_node_84 : decode b_Rf_node 84 = .ok (.getfield 25, 3) := by decide +kernel
theorem d_Rf_node_87 : decode b_Rf_node 87 = .ok (.iload 5, 2) := by decide +kernel
theorem d_Rf_node_89 : decode b_Rf_node 89 = .ok (.iload_n 1, 1) := by decide +kernel
theorem d_Rf_node_90 : decode b_Rf_node 90 = .ok (.iconst 1, 1) := by decide +kernel
theorem d_Rf_node_91 : decode b_Rf_node 91 = .ok (.if_icmp .eq 70, 3) := by decide +kernel
theorem d_Rf_node_94 : decode b_Rf_node 94 = .ok (.iload_n 1, 1) := by decide +kernel
theorem d_Rf_node_95 : decode b_Rf_node 95 = .ok (.iconst 2, 1) := by decide +kernel
theorem d_Rf_node_96 : decode b_Rf_node 96 = .ok (.if_icmp .eq 65, 3) := by decide +kernel
theorem d_Rf_node_99 : decode b_Rf_node 99 = .ok (.iload_n 1, 1) := by decide +kernel
theorem d_Rf_node_100 : decode b_Rf_node 100 = .ok (.iconst 3, 1) := by decide +kernel
theorem d_Rf_node_101 : decode b_Rf_node 101 = .ok (.if_icmp .ne 12, 3) := by decide +kernel
theorem d_Rf_node_104 : decode b_Rf_node 104 = .ok (.aload_n 0, 1) := by decide +kernel
theorem d_Rf_node_105 : decode b_Rf_node 105 = .ok (.getfield 25, 3) := by decide +kernel
theorem d_Rf_node_108 : decode b_Rf_node 108 = .ok (.iload_n 3, 1) := by decide +kernel
theorem d_Rf_node_109 : decode b_Rf_node 109 = .ok (.baload, 1) := by decide +kernel
theorem d_Rf_node_110 : decode b_Rf_node 110 = .ok (.ifCond .ne 51, 3) := by decide +kernel
theorem d_Rf_node_113 : decode b_Rf_node 113 = .ok (.iload_n 1, 1) := by decide +kernel
theorem d_Rf_node_114 : decode b_Rf_node 114 = .ok (.iconst 4, 1) := by decide +kernel
theorem d_Rf_node_115 : decode b_Rf_node 115 = .ok (.if_icmp .ne 22, 3) := by decide +kernel
theorem d_Rf_node_118 : decode b_Rf_node 118 = .ok (.aload_n 0, 1) := by decide +kernel
theorem d_Rf_node_119 : decode b_Rf_node 119 = .ok (.getfield 25, 3) := by decide +kernel
theorem d_Rf_node_122 : decode b_Rf_node 122 = .ok (.iload_n 3, 1) := by decide +kernel
theorem d_Rf_node_123 : decode b_Rf_node 123 = .ok (.baload, 1) := by decide +kernel
theorem d_Rf_node_124 : decode b_Rf_node 124 = .ok (.ifCond .eq 13, 3) := by decide +kernel
theorem d_Rf_node_127 : decode b_Rf_node 127 = .ok (.aload_n 0, 1) := by decide +kernel
theorem d_Rf_node_128 : decode b_Rf_node 128 = .ok (.getfield 25, 3) := by decide +kernel
theorem d_Rf_node_131 : decode b_Rf_node 131 = .ok (.iload 4, 2) := by decide +kernel
theorem d_Rf_node_133 : decode b_Rf_node 133 = .ok (.baload, 1) := by decide +kernel
theorem d_Rf_node_134 : decode b_Rf_node 134 = .ok (.ifCond .ne 27, 3) := by decide +kernel
theorem d_Rf_node_137 : decode b_Rf_node 137 = .ok (.iload_n 1, 1) := by decide +kernel
theorem d_Rf_node_138 : decode b_Rf_node 138 = .ok (.iconst 5, 1) := by decide +kernel
theorem d_Rf_node_139 : decode b_Rf_node 139 = .ok (.if_icmp .ne 26, 3) := by decide +kernel
theorem d_Rf_node_142 : decode b_Rf_node 142 = .ok (.aload_n 0, 1) := by decide +kernel
theorem d_Rf_node_143 : decode b_Rf_node 143 = .ok (.getfield 25, 3) := by decide +kernel
theorem d_Rf_node_146 : decode b_Rf_node 146 = .ok (.iload_n 3, 1) := by decide +kernel
theorem d_Rf_node_147 : decode b_Rf_node 147 = .ok (.baload, 1) := by decide +kernel
theorem d_Rf_node_148 : decode b_Rf_node 148 = .ok (.ifCond .ne 13, 3) := by decide +kernel
theorem d_Rf_node_151 : decode b_Rf_node 151 = .ok (.aload_n 0, 1) := by decide +kernel
theorem d_Rf_node_152 : decode b_Rf_node 152 = .ok (.getfield 25, 3) := by decide +kernel
theorem d_Rf_node_155 : decode b_Rf_node 155 = .ok (.iload 4, 2) := by decide +kernel
theorem d_Rf_node_157 : decode b_Rf_node 157 = .ok (.baload, 1) := by decide +kernel
theorem d_Rf_node_158 : decode b_Rf_node 158 = .ok (.ifCond .eq 7, 3) := by decide +kernel
theorem d_Rf_node_161 : decode b_Rf_node 161 = .ok (.iconst 1, 1) := by decide +kernel
theorem d_Rf_node_162 : decode b_Rf_node 162 = .ok (.goto 4, 3) := by decide +kernel
theorem d_Rf_node_165 : decode b_Rf_node 165 = .ok (.iconst 0, 1) := by decide +kernel
theorem d_Rf_node_166 : decode b_Rf_node 166 = .ok (.bastore, 1) := by decide +kernel
theorem d_Rf_node_167 : decode b_Rf_node 167 = .ok (.iload 5, 2) := by decide +kernel
theorem d_Rf_node_169 : decode b_Rf_node 169 = .ok (.ireturn, 1) := by decide +kernel
theorem d_Rf_isName_0 : decode b_Rf_isName 0 = .ok (.iload_n 0, 1) := by decide +kernel
theorem d_Rf_isName_1 : decode b_Rf_isName 1 = .ok (.iconst 1, 1) := by decide +kernel
theorem d_Rf_isName_2 : decode b_Rf_isName 2 = .ok (.if_icmp .lt 14, 3) := by decide +kernel
theorem d_Rf_isName_5 : decode b_Rf_isName 5 = .ok (.iload_n 0, 1) := by decide +kernel
theorem d_Rf_isName_6 : decode b_Rf_isName 6 = .ok (.sipush 1000, 3) := by decide +kernel
theorem d_Rf_isName_9 : decode b_Rf_isName 9 = .ok (.if_icmp .gt 7, 3) := by decide +kernel
theorem d_Rf_isName_12 : decode b_Rf_isName 12 = .ok (.iconst 1, 1) := by decide +kernel
theorem d_Rf_isName_13 : decode b_Rf_isName 13 = .ok (.goto 4, 3) := by decide +kernel
theorem d_Rf_isName_16 : decode b_Rf_isName 16 = .ok (.iconst 0, 1) := by decide +kernel
theorem d_Rf_isName_17 : decode b_Rf_isName 17 = .ok (.ireturn, 1) := by decide +kernel
theorem d_Rf_name_0 : decode b_Rf_name 0 = .ok (.iload_n 1, 1) := by decide +kernel
theorem d_Rf_name_1 : decode b_Rf_name 1 = .ok (.invokestatic 60, 3) := by decide +kernel
theorem d_Rf_name_4 : decode b_Rf_name 4 = .ok (.ifCond .eq 22, 3) := by decide +kernel
theorem d_Rf_name_7 : decode b_Rf_name 7 = .ok (.aload_n 0, 1) := by decide +kernel
theorem d_Rf_name_8 : decode b_Rf_name 8 = .ok (.getfield 64, 3) := by decide +kernel
theorem d_Rf_name_11 : decode b_Rf_name 11 = .ok (.bipush 40, 2) := by decide +kernel
theorem d_Rf_name_13 : decode b_Rf_name 13 = .ok (.if_icmp .eq 13, 3) := by decide +kernel
theorem d_Rf_name_16 : decode b_Rf_name 16 = .ok (.aload_n 0, 1) := by decide +kernel
theorem d_Rf_name_17 : decode b_Rf_name 17 = .ok (.getfield 67, 3) := by decide +kernel
theorem d_Rf_name_20 : decode b_Rf_name 20 = .ok (.sipush 255, 3) := by decide +kernel
theorem d_Rf_name_23 : decode b_Rf_name 23 = .ok (.if_icmp .ne 5, 3) := by decide +kernel
theorem d_Rf_name_26 : decode b_Rf_name 26 = .ok (.iconst (-1), 1) := by decide +kernel
theorem d_Rf_name_27 : decode b_Rf_name 27 = .ok (.ireturn, 1) := by decide +kernel
theorem d_Rf_name_28 : decode b_Rf_name 28 = .ok (.aload_n 0, 1) := by decide +kernel
theorem d_Rf_name_29 : decode b_Rf_name 29 = .ok (.aload_n 0, 1) := by decide +kernel
theorem d_Rf_name_30 : decode b_Rf_name 30 = .ok (.getfield 64, 3) := by decide +kernel
theorem d_Rf_name_33 : decode b_Rf_name 33 = .ok (.ifCond .ne 10, 3) := by decide +kernel
theorem d_Rf_name_36 : decode b_Rf_name 36 = .ok (.aload_n 0, 1) := by decide +kernel
theorem d_Rf_name_37 : decode b_Rf_name 37 = .ok (.getfield 57, 3) := by decide +kernel
theorem d_Rf_name_40 : decode b_Rf_name 40 = .ok (.goto 7, 3) := by decide +kernel
theorem d_Rf_name_43 : decode b_Rf_name 43 = .ok (.aload_n 0, 1) := by decide +kernel
theorem d_Rf_name_44 : decode b_Rf_name 44 = .ok (.getfield 70, 3) := by decide +kernel
theorem d_Rf_name_47 : decode b_Rf_name 47 = .ok (.putfield 70, 3) := by decide +kernel
theorem d_Rf_name_50 : decode b_Rf_name 50 = .ok (.aload_n 0, 1) := by decide +kernel
theorem d_Rf_name_51 : decode b_Rf_name 51 = .ok (.getfield 29, 3) := by decide +kernel
theorem d_Rf_name_54 : decode b_Rf_name 54 = .ok (.aload_n 0, 1) := by decide +kernel
theorem d_Rf_name_55 : decode b_Rf_name 55 = .ok (.getfield 64, 3) := by decide +kernel
theorem d_Rf_name_58 : decode b_Rf_name 58 = .ok (.aload_n 0, 1) := by decide +kernel
theorem d_Rf_name_59 : decode b_Rf_name 59 = .ok (.iconst 0, 1) := by decide +kernel
theorem d_Rf_name_60 : decode b_Rf_name 60 = .ok (.iload_n 1, 1) := by decide +kernel
theorem d_Rf_name_61 : decode b_Rf_name 61 = .ok (.iconst (-1), 1) := by decide +kernel
theorem d_Rf_name_62 : decode b_Rf_name 62 = .ok (.iconst (-1), 1) := by decide +kernel
theorem d_Rf_name_63 : decode b_Rf_name 63 = .ok (.invokevirtual 73, 3) := by decide +kernel
theorem d_Rf_name_66 : decode b_Rf_name 66 = .ok (.iastore, 1) := by decide +kernel
theorem d_Rf_name_67 : decode b_Rf_name 67 = .ok (.aload_n 0, 1) := by decide +kernel
theorem d_Rf_name_68 : decode b_Rf_name 68 = .ok (.aload_n 0, 1) := by decide +kernel
theorem d_Rf_name_69 : decode b_Rf_name 69 = .ok (.getfield 64, 3) := by decide +kernel
theorem d_Rf_name_72 : decode b_Rf_name 72 = .ok (.iconst 1, 1) := by decide +kernel
theorem d_Rf_name_73 : decode b_Rf_name 73 = .ok (.iadd, 1) := by decide +kernel
theorem d_Rf_name_74 : decode b_Rf_name 74 = .ok (.putfield 64, 3) := by decide +kernel
theorem d_Rf_name_77 : decode b_Rf_name 77 = .ok (.aload_n 0, 1) := by decide +kernel
theorem d_Rf_name_78 : decode b_Rf_name 78 = .ok (.aload_n 0, 1) := by decide +kernel
theorem d_Rf_name_79 : decode b_Rf_name 79 = .ok (.getfield 67, 3) := by decide +kernel
theorem d_Rf_name_82 : decode b_Rf_name 82 = .ok (.iconst 1, 1) := by decide +kernel
theorem d_Rf_name_83 : decode b_Rf_name 83 = .ok (.iadd, 1) := by decide +kernel
theorem d_Rf_name_84 : decode b_Rf_name 84 = .ok (.putfield 67, 3) := by decide +kernel
theorem d_Rf_name_87 : decode b_Rf_name 87 = .ok (.aload_n 0, 1) := by decide +kernel
theorem d_Rf_name_88 : decode b_Rf_name 88 = .ok (.getfield 64, 3) := by decide +kernel
theorem d_Rf_name_91 : decode b_Rf_name 91 = .ok (.ireturn, 1) := by decide +kernel
theorem d_Rf_join_0 : decode b_Rf_join 0 = .ok (.aload_n 0, 1) := by decide +kernel
theorem d_Rf_join_1 : decode b_Rf_join 1 = .ok (.getfield 64, 3) := by decide +kernel
theorem d_Rf_join_4 : decode b_Rf_join 4 = .ok (.iconst 2, 1) := by decide +kernel
theorem d_Rf_join_5 : decode b_Rf_join 5 = .ok (.if_icmp .ge 5, 3) := by decide +kernel
theorem d_Rf_join_8 : decode b_Rf_join 8 = .ok (.iconst (-1), 1) := by decide +kernel
theorem d_Rf_join_9 : decode b_Rf_join 9 = .ok (.ireturn, 1) := by decide +kernel
theorem d_Rf_join_10 : decode b_Rf_join 10 = .ok (.aload_n 0, 1) := by decide +kernel
theorem d_Rf_join_11 : decode b_Rf_join 11 = .ok (.getfield 29, 3) := by decide +kernel
theorem d_Rf_join_14 : decode b_Rf_join 14 = .ok (.aload_n 0, 1) := by decide +kernel
theorem d_Rf_join_15 : decode b_Rf_join 15 = .ok (.getfield 64, 3) := by decide +kernel
theorem d_Rf_join_18 : decode b_Rf_join 18 = .ok (.iconst 2, 1) := by decide +kernel
theorem d_Rf_join_19 : decode b_Rf_join 19 = .ok (.isub, 1) := by decide +kernel
theorem d_Rf_join_20 : decode b_Rf_join 20 = .ok (.aload_n 0, 1) := by decide +kernel
theorem d_Rf_join_21 : decode b_Rf_join 21 = .ok (.iload_n 1, 1) := by decide +kernel
theorem d_Rf_join_22 : decode b_Rf_join 22 = .ok (.iconst 0, 1) := by decide +kernel
theorem d_Rf_join_23 : decode b_Rf_join 23 = .ok (.aload_n 0, 1) := by decide +kernel
theorem d_Rf_join_24 : decode b_Rf_join 24 = .ok (.getfield 29, 3) := by decide +kernel
theorem d_Rf_join_27 : decode b_Rf_join 27 = .ok (.aload_n 0, 1) := by decide +kernel
theorem d_Rf_join_28 : decode b_Rf_join 28 = .ok (.getfield 64, 3) := by decide +kernel
theorem d_Rf_join_31 : decode b_Rf_join 31 = .ok (.iconst 2, 1) := by decide +kernel
theorem d_Rf_join_32 : decode b_Rf_join 32 = .ok (.isub, 1) := by decide +kernel
theorem d_Rf_join_33 : decode b_Rf_join 33 = .ok (.iaload, 1) := by decide +kernel
theorem d_Rf_join_34 : decode b_Rf_join 34 = .ok (.aload_n 0, 1) := by decide +kernel
theorem d_Rf_join_35 : decode b_Rf_join 35 = .ok (.getfield 29, 3) := by decide +kernel
theorem d_Rf_join_38 : decode b_Rf_join 38 = .ok (.aload_n 0, 1) := by decide +kernel
theorem d_Rf_join_39 : decode b_Rf_join 39 = .ok (.getfield 64, 3) := by decide +kernel
theorem d_Rf_join_42 : decode b_Rf_join 42 = .ok (.iconst 1, 1) := by decide +kernel
theorem d_Rf_join_43 : decode b_Rf_join 43 = .ok (.isub, 1) := by decide +kernel
theorem d_Rf_join_44 : decode b_Rf_join 44 = .ok (.iaload, 1) := by decide +kernel
theorem d_Rf_join_45 : decode b_Rf_join 45 = .ok (.invokevirtual 73, 3) := by decide +kernel
theorem d_Rf_join_48 : decode b_Rf_join 48 = .ok (.iastore, 1) := by decide +kernel
theorem d_Rf_join_49 : decode b_Rf_join 49 = .ok (.aload_n 0, 1) := by decide +kernel
theorem d_Rf_join_50 : decode b_Rf_join 50 = .ok (.aload_n 0, 1) := by decide +kernel
theorem d_Rf_join_51 : decode b_Rf_join 51 = .ok (.getfield 64, 3) := by decide +kernel
theorem d_Rf_join_54 : decode b_Rf_join 54 = .ok (.iconst 1, 1) := by decide +kernel
theorem d_Rf_join_55 : decode b_Rf_join 55 = .ok (.isub, 1) := by decide +kernel
theorem d_Rf_join_56 : decode b_Rf_join 56 = .ok (.putfield 64, 3) := by decide +kernel
theorem d_Rf_join_59 : decode b_Rf_join 59 = .ok (.aload_n 0, 1) := by decide +kernel
theorem d_Rf_join_60 : decode b_Rf_join 60 = .ok (.getfield 64, 3) := by decide +kernel
theorem d_Rf_join_63 : decode b_Rf_join 63 = .ok (.ireturn, 1) := by decide +kernel
theorem d_Rf_row_0 : decode b_Rf_row 0 = .ok (.aload_n 0, 1) := by decide +kernel
theorem d_Rf_row_1 : decode b_Rf_row 1 = .ok (.iconst 4, 1) := by decide +kernel
theorem d_Rf_row_2 : decode b_Rf_row 2 = .ok (.invokevirtual 77, 3) := by decide +kernel
theorem d_Rf_row_5 : decode b_Rf_row 5 = .ok (.ireturn, 1) := by decide +kernel
theorem d_Rf_choice_0 : decode b_Rf_choice 0 = .ok (.aload_n 0, 1) := by decide +kernel
theorem d_Rf_choice_1 : decode b_Rf_choice 1 = .ok (.iconst 5, 1) := by decide +kernel
theorem d_Rf_choice_2 : decode b_Rf_choice 2 = .ok (.invokevirtual 77, 3) := by decide +kernel
theorem d_Rf_choice_5 : decode b_Rf_choice 5 = .ok (.ireturn, 1) := by decide +kernel
theorem d_Rf_often_0 : decode b_Rf_often 0 = .ok (.aload_n 0, 1) := by decide +kernel
theorem d_Rf_often_1 : decode b_Rf_often 1 = .ok (.getfield 64, 3) := by decide +kernel
theorem d_Rf_often_4 : decode b_Rf_often 4 = .ok (.ifCond .eq 13, 3) := by decide +kernel
theorem d_Rf_often_7 : decode b_Rf_often 7 = .ok (.iload_n 1, 1) := by decide +kernel
theorem d_Rf_often_8 : decode b_Rf_often 8 = .ok (.iconst 1, 1) := by decide +kernel
theorem d_Rf_often_9 : decode b_Rf_often 9 = .ok (.if_icmp .lt 8, 3) := by decide +kernel
theorem d_Rf_often_12 : decode b_Rf_often 12 = .ok (.iload_n 1, 1) := by decide +kernel
theorem d_Rf_often_13 : decode b_Rf_often 13 = .ok (.iconst 3, 1) := by decide +kernel
theorem d_Rf_often_14 : decode b_Rf_often 14 = .ok (.if_icmp .le 5, 3) := by decide +kernel
theorem d_Rf_often_17 : decode b_Rf_often 17 = .ok (.iconst 0, 1) := by decide +kernel
theorem d_Rf_often_18 : decode b_Rf_often 18 = .ok (.ireturn, 1) := by decide +kernel
theorem d_Rf_often_19 : decode b_Rf_often 19 = .ok (.aload_n 0, 1) := by decide +kernel
theorem d_Rf_often_20 : decode b_Rf_often 20 = .ok (.getfield 29, 3) := by decide +kernel
theorem d_Rf_often_23 : decode b_Rf_often 23 = .ok (.aload_n 0, 1) := by decide +kernel
theorem d_Rf_often_24 : decode b_Rf_often 24 = .ok (.getfield 64, 3) := by decide +kernel
theorem d_Rf_often_27 : decode b_Rf_often 27 = .ok (.iconst 1, 1) := by decide +kernel
theorem d_Rf_often_28 : decode b_Rf_often 28 = .ok (.isub, 1) := by decide +kernel
theorem d_Rf_often_29 : decode b_Rf_often 29 = .ok (.iaload, 1) := by decide +kernel
theorem d_Rf_often_30 : decode b_Rf_often 30 = .ok (.istore_n 2, 1) := by decide +kernel
theorem d_Rf_often_31 : decode b_Rf_often 31 = .ok (.aload_n 0, 1) := by decide +kernel
theorem d_Rf_often_32 : decode b_Rf_often 32 = .ok (.getfield 7, 3) := by decide +kernel
theorem d_Rf_often_35 : decode b_Rf_often 35 = .ok (.iload_n 2, 1) := by decide +kernel
theorem d_Rf_often_36 : decode b_Rf_often 36 = .ok (.iaload, 1) := by decide +kernel
theorem d_Rf_often_37 : decode b_Rf_often 37 = .ok (.istore_n 3, 1) := by decide +kernel
theorem d_Rf_often_38 : decode b_Rf_often 38 = .ok (.iload_n 3, 1) := by decide +kernel
theorem d_Rf_often_39 : decode b_Rf_often 39 = .ok (.iload_n 1, 1) := by decide +kernel
theorem d_Rf_often_40 : decode b_Rf_often 40 = .ok (.if_icmp .eq 8, 3) := by decide +kernel
theorem d_Rf_often_43 : decode b_Rf_often 43 = .ok (.iload_n 3, 1) := by decide +kernel
theorem d_Rf_often_44 : decode b_Rf_often 44 = .ok (.iconst 2, 1) := by decide +kernel
theorem d_Rf_often_45 : decode b_Rf_often 45 = .ok (.if_icmp .ne 5, 3) := by decide +kernel
theorem d_Rf_often_48 : decode b_Rf_often 48 = .ok (.iconst 1, 1) := by decide +kernel
theorem d_Rf_often_49 : decode b_Rf_often 49 = .ok (.ireturn, 1) := by decide +kernel
theorem d_Rf_often_50 : decode b_Rf_often 50 = .ok (.iload_n 3, 1) := by decide +kernel
theorem d_Rf_often_51 : decode b_Rf_often 51 = .ok (.iconst 1, 1) := by decide +kernel
theorem d_Rf_often_52 : decode b_Rf_often 52 = .ok (.if_icmp .eq 8, 3) := by decide +kernel
theorem d_Rf_often_55 : decode b_Rf_often 55 = .ok (.iload_n 3, 1) := by decide +kernel
theorem d_Rf_often_56 : decode b_Rf_often 56 = .ok (.iconst 3, 1) := by decide +kernel
theorem d_Rf_often_57 : decode b_Rf_often 57 = .ok (.if_icmp .ne 19, 3) := by decide +kernel
theorem d_Rf_often_60 : decode b_Rf_often 60 = .ok (.aload_n 0, 1) := by decide +kernel
theorem d_Rf_often_61 : decode b_Rf_often 61 = .ok (.getfield 7, 3) := by decide +kernel
theorem d_Rf_often_64 : decode b_Rf_often 64 = .ok (.iload_n 2, 1) := by decide +kernel
theorem d_Rf_often_65 : decode b_Rf_often 65 = .ok (.iconst 2, 1) := by decide +kernel
theorem d_Rf_often_66 : decode b_Rf_often 66 = .ok (.iastore, 1) := by decide +kernel
theorem d_Rf_often_67 : decode b_Rf_often 67 = .ok (.aload_n 0, 1) := by decide +kernel
theorem d_Rf_often_68 : decode b_Rf_often 68 = .ok (.getfield 25, 3) := by decide +kernel
theorem d_Rf_often_71 : decode b_Rf_often 71 = .ok (.iload_n 2, 1) := by decide +kernel
theorem d_Rf_often_72 : decode b_Rf_often 72 = .ok (.iconst 1, 1) := by decide +kernel
theorem d_Rf_often_73 : decode b_Rf_often 73 = .ok (.bastore, 1) := by decide +kernel
theorem d_Rf_often_74 : decode b_Rf_often 74 = .ok (.iconst 1, 1) := by decide +kernel
theorem d_Rf_often_75 : decode b_Rf_often 75 = .ok (.ireturn, 1) := by decide +kernel
theorem d_Rf_often_76 : decode b_Rf_often 76 = .ok (.aload_n 0, 1) := by decide +kernel
theorem d_Rf_often_77 : decode b_Rf_often 77 = .ok (.getfield 29, 3) := by decide +kernel
theorem d_Rf_often_80 : decode b_Rf_often 80 = .ok (.aload_n 0, 1) := by decide +kernel
theorem d_Rf_often_81 : decode b_Rf_often 81 = .ok (.getfield 64, 3) := by decide +kernel
theorem d_Rf_often_84 : decode b_Rf_often 84 = .ok (.iconst 1, 1) := by decide +kernel
theorem d_Rf_often_85 : decode b_Rf_often 85 = .ok (.isub, 1) := by decide +kernel
theorem d_Rf_often_86 : decode b_Rf_often 86 = .ok (.aload_n 0, 1) := by decide +kernel
theorem d_Rf_often_87 : decode b_Rf_often 87 = .ok (.iload_n 1, 1) := by decide +kernel
theorem d_Rf_often_88 : decode b_Rf_often 88 = .ok (.iconst 0, 1) := by decide +kernel
theorem d_Rf_often_89 : decode b_Rf_often 89 = .ok (.iload_n 2, 1) := by decide +kernel
theorem d_Rf_often_90 : decode b_Rf_often 90 = .ok (.iconst (-1), 1) := by decide +kernel
theorem d_Rf_often_91 : decode b_Rf_often 91 = .ok (.invokevirtual 73, 3) := by decide +kernel
theorem d_Rf_often_94 : decode b_Rf_often 94 = .ok (.iastore, 1) := by decide +kernel
theorem d_Rf_often_95 : decode b_Rf_often 95 = .ok (.iconst 1, 1) := by decide +kernel
theorem d_Rf_often_96 : decode b_Rf_often 96 = .ok (.ireturn, 1) := by decide +kernel
theorem d_Rf_forget_0 : decode b_Rf_forget 0 = .ok (.aload_n 0, 1) := by decide +kernel
theorem d_Rf_forget_1 : decode b_Rf_forget 1 = .ok (.iconst 0, 1) := by decide +kernel
theorem d_Rf_forget_2 : decode b_Rf_forget 2 = .ok (.putfield 64, 3) := by decide +kernel
theorem d_Rf_forget_5 : decode b_Rf_forget 5 = .ok (.aload_n 0, 1) := by decide +kernel
theorem d_Rf_forget_6 : decode b_Rf_forget 6 = .ok (.iconst 0, 1) := by decide +kernel
theorem d_Rf_forget_7 : decode b_Rf_forget 7 = .ok (.putfield 67, 3) := by decide +kernel
theorem d_Rf_forget_10 : decode b_Rf_forget 10 = .ok (.return_, 1) := by decide +kernel
theorem d_Rf_clear_0 : decode b_Rf_clear 0 = .ok (.aload_n 0, 1) := by decide +kernel
theorem d_Rf_clear_1 : decode b_Rf_clear 1 = .ok (.getfield 64, 3) := by decide +kernel
theorem d_Rf_clear_4 : decode b_Rf_clear 4 = .ok (.istore_n 1, 1) := by decide +kernel
theorem d_Rf_clear_5 : decode b_Rf_clear 5 = .ok (.aload_n 0, 1) := by decide +kernel
theorem d_Rf_clear_6 : decode b_Rf_clear 6 = .ok (.iload_n 1, 1) := by decide +kernel
theorem d_Rf_clear_7 : decode b_Rf_clear 7 = .ok (.ifCond .le 10, 3) := by decide +kernel
theorem d_Rf_clear_10 : decode b_Rf_clear 10 = .ok (.aload_n 0, 1) := by decide +kernel
theorem d_Rf_clear_11 : decode b_Rf_clear 11 = .ok (.getfield 70, 3) := by decide +kernel
theorem d_Rf_clear_14 : decode b_Rf_clear 14 = .ok (.goto 7, 3) := by decide +kernel
theorem d_Rf_clear_17 : decode b_Rf_clear 17 = .ok (.aload_n 0, 1) := by decide +kernel
theorem d_Rf_clear_18 : decode b_Rf_clear 18 = .ok (.getfield 57, 3) := by decide +kernel
theorem d_Rf_clear_21 : decode b_Rf_clear 21 = .ok (.putfield 57, 3) := by decide +kernel
theorem d_Rf_clear_24 : decode b_Rf_clear 24 = .ok (.aload_n 0, 1) := by decide +kernel
theorem d_Rf_clear_25 : decode b_Rf_clear 25 = .ok (.invokevirtual 81, 3) := by decide +kernel
theorem d_Rf_clear_28 : decode b_Rf_clear 28 = .ok (.iload_n 1, 1) := by decide +kernel
theorem d_Rf_clear_29 : decode b_Rf_clear 29 = .ok (.ireturn, 1) := by decide +kernel
theorem d_Rf_make_0 : decode b_Rf_make 0 = .ok (.aload_n 0, 1) := by decide +kernel
theorem d_Rf_make_1 : decode b_Rf_make 1 = .ok (.getfield 64, 3) := by decide +kernel
theorem d_Rf_make_4 : decode b_Rf_make 4 = .ok (.iconst 1, 1) := by decide +kernel
theorem d_Rf_make_5 : decode b_Rf_make 5 = .ok (.if_icmp .ne 12, 3) := by decide +kernel
theorem d_Rf_make_8 : decode b_Rf_make 8 = .ok (.aload_n 0, 1) := by decide +kernel
theorem d_Rf_make_9 : decode b_Rf_make 9 = .ok (.getfield 84, 3) := by decide +kernel
theorem d_Rf_make_12 : decode b_Rf_make 12 = .ok (.bipush 50, 2) := by decide +kernel
theorem d_Rf_make_14 : decode b_Rf_make 14 = .ok (.if_icmp .ne 5, 3) := by decide +kernel
theorem d_Rf_make_17 : decode b_Rf_make 17 = .ok (.iconst (-1), 1) := by decide +kernel
theorem d_Rf_make_18 : decode b_Rf_make 18 = .ok (.ireturn, 1) := by decide +kernel
theorem d_Rf_make_19 : decode b_Rf_make 19 = .ok (.aload_n 0, 1) := by decide +kernel
theorem d_Rf_make_20 : decode b_Rf_make 20 = .ok (.getfield 32, 3) := by decide +kernel
theorem d_Rf_make_23 : decode b_Rf_make 23 = .ok (.aload_n 0, 1) := by decide +kernel
theorem d_Rf_make_24 : decode b_Rf_make 24 = .ok (.getfield 84, 3) := by decide +kernel
theorem d_Rf_make_27 : decode b_Rf_make 27 = .ok (.aload_n 0, 1) := by decide +kernel
theorem d_Rf_make_28 : decode b_Rf_make 28 = .ok (.getfield 70, 3) := by decide +kernel
theorem d_Rf_make_31 : decode b_Rf_make 31 = .ok (.iastore, 1) := by decide +kernel
theorem d_Rf_make_32 : decode b_Rf_make 32 = .ok (.aload_n 0, 1) := by decide +kernel
theorem d_Rf_make_33 : decode b_Rf_make 33 = .ok (.getfield 35, 3) := by decide +kernel
theorem d_Rf_make_36 : decode b_Rf_make 36 = .ok (.aload_n 0, 1) := by decide +kernel
theorem d_Rf_make_37 : decode b_Rf_make 37 = .ok (.getfield 84, 3) := by decide +kernel
theorem d_Rf_make_40 : decode b_Rf_make 40 = .ok (.aload_n 0, 1) := by decide +kernel
theorem d_Rf_make_41 : decode b_Rf_make 41 = .ok (.getfield 29, 3) := by decide +kernel
theorem d_Rf_make_44 : decode b_Rf_make 44 = .ok (.iconst 0, 1) := by decide +kernel
theorem d_Rf_make_45 : decode b_Rf_make 45 = .ok (.iaload, 1) := by decide +kernel
theorem d_Rf_make_46 : decode b_Rf_make 46 = .ok (.iastore, 1) := by decide +kernel
theorem d_Rf_make_47 : decode b_Rf_make 47 = .ok (.aload_n 0, 1) := by decide +kernel
theorem d_Rf_make_48 : decode b_Rf_make 48 = .ok (.getfield 38, 3) := by decide +kernel
theorem d_Rf_make_51 : decode b_Rf_make 51 = .ok (.aload_n 0, 1) := by decide +kernel
theorem d_Rf_make_52 : decode b_Rf_make 52 = .ok (.getfield 84, 3) := by decide +kernel
theorem d_Rf_make_55 : decode b_Rf_make 55 = .ok (.aload_n 0, 1) := by decide +kernel
theorem d_Rf_make_56 : decode b_Rf_make 56 = .ok (.getfield 67, 3) := by decide +kernel
theorem d_Rf_make_59 : decode b_Rf_make 59 = .ok (.iastore, 1) := by decide +kernel
theorem d_Rf_make_60 : decode b_Rf_make 60 = .ok (.aload_n 0, 1) := by decide +kernel
theorem d_Rf_make_61 : decode b_Rf_make 61 = .ok (.aload_n 0, 1) := by decide +kernel
theorem d_Rf_make_62 : decode b_Rf_make 62 = .ok (.getfield 84, 3) := by decide +kernel
theorem d_Rf_make_65 : decode b_Rf_make 65 = .ok (.iconst 1, 1) := by decide +kernel
theorem d_Rf_make_66 : decode b_Rf_make 66 = .ok (.iadd, 1) := by decide +kernel
theorem d_Rf_make_67 : decode b_Rf_make 67 = .ok (.putfield 84, 3) := by decide +kernel
theorem d_Rf_make_70 : decode b_Rf_make 70 = .ok (.aload_n 0, 1) := by decide +kernel
theorem d_Rf_make_71 : decode b_Rf_make 71 = .ok (.invokevirtual 81, 3) := by decide +kernel
theorem d_Rf_make_74 : decode b_Rf_make 74 = .ok (.aload_n 0, 1) := by decide +kernel
theorem d_Rf_make_75 : decode b_Rf_make 75 = .ok (.getfield 84, 3) := by decide +kernel
theorem d_Rf_make_78 : decode b_Rf_make 78 = .ok (.iconst 1, 1) := by decide +kernel
theorem d_Rf_make_79 : decode b_Rf_make 79 = .ok (.isub, 1) := by decide +kernel
theorem d_Rf_make_80 : decode b_Rf_make 80 = .ok (.ireturn, 1) := by decide +kernel
theorem d_Rf_isModel_0 : decode b_Rf_isModel 0 = .ok (.iload_n 1, 1) := by decide +kernel
theorem d_Rf_isModel_1 : decode b_Rf_isModel 1 = .ok (.ifCond .lt 15, 3) := by decide +kernel
theorem d_Rf_isModel_4 : decode b_Rf_isModel 4 = .ok (.iload_n 1, 1) := by decide +kernel
theorem d_Rf_isModel_5 : decode b_Rf_isModel 5 = .ok (.aload_n 0, 1) := by decide +kernel
theorem d_Rf_isModel_6 : decode b_Rf_isModel 6 = .ok (.getfield 84, 3) := by decide +kernel
theorem d_Rf_isModel_9 : decode b_Rf_isModel 9 = .ok (.if_icmp .ge 7, 3) := by decide +kernel
theorem d_Rf_isModel_12 : decode b_Rf_isModel 12 = .ok (.iconst 1, 1) := by decide +kernel
theorem d_Rf_isModel_13 : decode b_Rf_isModel 13 = .ok (.goto 4, 3) := by decide +kernel
theorem d_Rf_isModel_16 : decode b_Rf_isModel 16 = .ok (.iconst 0, 1) := by decide +kernel
theorem d_Rf_isModel_17 : decode b_Rf_isModel 17 = .ok (.ireturn, 1) := by decide +kernel
theorem d_Rf_size_0 : decode b_Rf_size 0 = .ok (.aload_n 0, 1) := by decide +kernel
theorem d_Rf_size_1 : decode b_Rf_size 1 = .ok (.iload_n 1, 1) := by decide +kernel
theorem d_Rf_size_2 : decode b_Rf_size 2 = .ok (.invokevirtual 87, 3) := by decide +kernel
theorem d_Rf_size_5 : decode b_Rf_size 5 = .ok (.ifCond .eq 12, 3) := by decide +kernel
theorem d_Rf_size_8 : decode b_Rf_size 8 = .ok (.aload_n 0, 1) := by decide +kernel
theorem d_Rf_size_9 : decode b_Rf_size 9 = .ok (.getfield 38, 3) := by decide +kernel
theorem d_Rf_size_12 : decode b_Rf_size 12 = .ok (.iload_n 1, 1) := by decide +kernel
theorem d_Rf_size_13 : decode b_Rf_size 13 = .ok (.iaload, 1) := by decide +kernel
theorem d_Rf_size_14 : decode b_Rf_size 14 = .ok (.goto 4, 3) := by decide +kernel
theorem d_Rf_size_17 : decode b_Rf_size 17 = .ok (.iconst (-1), 1) := by decide +kernel
theorem d_Rf_size_18 : decode b_Rf_size 18 = .ok (.ireturn, 1) := by decide +kernel
theorem d_Rf_enter_0 : decode b_Rf_enter 0 = .ok (.iconst 1, 1) := by decide +kernel
theorem d_Rf_enter_1 : decode b_Rf_enter 1 = .ok (.istore_n 2, 1) := by decide +kernel
theorem d_Rf_enter_2 : decode b_Rf_enter 2 = .ok (.aload_n 0, 1) := by decide +kernel
theorem d_Rf_enter_3 : decode b_Rf_enter 3 = .ok (.getfield 54, 3) := by decide +kernel
theorem d_Rf_enter_6 : decode b_Rf_enter 6 = .ok (.iconst 0, 1) := by decide +kernel
theorem d_Rf_enter_7 : decode b_Rf_enter 7 = .ok (.iload_n 1, 1) := by decide +kernel
theorem d_Rf_enter_8 : decode b_Rf_enter 8 = .ok (.iastore, 1) := by decide +kernel
theorem d_Rf_enter_9 : decode b_Rf_enter 9 = .ok (.iload_n 2, 1) := by decide +kernel
theorem d_Rf_enter_10 : decode b_Rf_enter 10 = .ok (.ifCond .le 102, 3) := by decide +kernel
theorem d_Rf_enter_13 : decode b_Rf_enter 13 = .ok (.iload_n 2, 1) := by decide +kernel
theorem d_Rf_enter_14 : decode b_Rf_enter 14 = .ok (.iconst 1, 1) := by decide +kernel
theorem d_Rf_enter_15 : decode b_Rf_enter 15 = .ok (.isub, 1) := by decide +kernel
theorem d_Rf_enter_16 : decode b_Rf_enter 16 = .ok (.istore_n 2, 1) := by decide +kernel
theorem d_Rf_enter_17 : decode b_Rf_enter 17 = .ok (.aload_n 0, 1) := by decide +kernel
theorem d_Rf_enter_18 : decode b_Rf_enter 18 = .ok (.getfield 54, 3) := by decide +kernel
theorem d_Rf_enter_21 : decode b_Rf_enter 21 = .ok (.iload_n 2, 1) := by decide +kernel
theorem d_Rf_enter_22 : decode b_Rf_enter 22 = .ok (.iaload, 1) := by decide +kernel
theorem d_Rf_enter_23 : decode b_Rf_enter 23 = .ok (.istore_n 3, 1) := by decide +kernel
theorem d_Rf_enter_24 : decode b_Rf_enter 24 = .ok (.aload_n 0, 1) := by decide +kernel
theorem d_Rf_enter_25 : decode b_Rf_enter 25 = .ok (.getfield 7, 3) := by decide +kernel
theorem d_Rf_enter_28 : decode b_Rf_enter 28 = .ok (.iload_n 3, 1) := by decide +kernel
theorem d_Rf_enter_29 : decode b_Rf_enter 29 = .ok (.iaload, 1) := by decide +kernel
theorem d_Rf_enter_30 : decode b_Rf_enter 30 = .ok (.ifCond .ne 13, 3) := by decide +kernel
theorem d_Rf_enter_33 : decode b_Rf_enter 33 = .ok (.aload_n 0, 1) := by decide +kernel
theorem d_Rf_enter_34 : decode b_Rf_enter 34 = .ok (.getfield 51, 3) := by decide +kernel
theorem d_Rf_enter_37 : decode b_Rf_enter 37 = .ok (.iload_n 3, 1) := by decide +kernel
theorem d_Rf_enter_38 : decode b_Rf_enter 38 = .ok (.iconst 1, 1) := by decide +kernel
theorem d_Rf_enter_39 : decode b_Rf_enter 39 = .ok (.bastore, 1) := by decide +kernel
theorem d_Rf_enter_40 : decode b_Rf_enter 40 = .ok (.goto 69, 3) := by decide +kernel
theorem d_Rf_enter_43 : decode b_Rf_enter 43 = .ok (.aload_n 0, 1) := by decide +kernel
theorem d_Rf_enter_44 : decode b_Rf_enter 44 = .ok (.getfield 54, 3) := by decide +kernel
theorem d_Rf_enter_47 : decode b_Rf_enter 47 = .ok (.iload_n 2, 1) := by decide +kernel
theorem d_Rf_enter_48 : decode b_Rf_enter 48 = .ok (.aload_n 0, 1) := by decide +kernel
theorem d_Rf_enter_49 : decode b_Rf_enter 49 = .ok (.getfield 16, 3) := by decide +kernel
theorem d_Rf_enter_52 : decode b_Rf_enter 52 = .ok (.iload_n 3, 1) := by decide +kernel
theorem d_Rf_enter_53 : decode b_Rf_enter 53 = .ok (.iaload, 1) := by decide +kernel
theorem d_Rf_enter_54 : decode b_Rf_enter 54 = .ok (.iastore, 1) := by decide +kernel
theorem d_Rf_enter_55 : decode b_Rf_enter 55 = .ok (.iload_n 2, 1) := by decide +kernel
theorem d_Rf_enter_56 : decode b_Rf_enter 56 = .ok (.iconst 1, 1) := by decide +kernel
theorem d_Rf_enter_57 : decode b_Rf_enter 57 = .ok (.iadd, 1) := by decide +kernel
theorem d_Rf_enter_58 : decode b_Rf_enter 58 = .ok (.istore_n 2, 1) := by decide +kernel
theorem d_Rf_enter_59 : decode b_Rf_enter 59 = .ok (.aload_n 0, 1) := by decide +kernel
theorem d_Rf_enter_60 : decode b_Rf_enter 60 = .ok (.getfield 7, 3) := by decide +kernel
theorem d_Rf_enter_63 : decode b_Rf_enter 63 = .ok (.iload_n 3, 1) := by decide +kernel
theorem d_Rf_enter_64 : decode b_Rf_enter 64 = .ok (.iaload, 1) := by decide +kernel
theorem d_Rf_enter_65 : decode b_Rf_enter 65 = .ok (.iconst 5, 1) := by decide +kernel
theorem d_Rf_enter_66 : decode b_Rf_enter 66 = .ok (.if_icmp .eq 27, 3) := by decide +kernel
theorem d_Rf_enter_69 : decode b_Rf_enter 69 = .ok (.aload_n 0, 1) := by decide +kernel
theorem d_Rf_enter_70 : decode b_Rf_enter 70 = .ok (.getfield 7, 3) := by decide +kernel
theorem d_Rf_enter_73 : decode b_Rf_enter 73 = .ok (.iload_n 3, 1) := by decide +kernel
theorem d_Rf_enter_74 : decode b_Rf_enter 74 = .ok (.iaload, 1) := by decide +kernel
theorem d_Rf_enter_75 : decode b_Rf_enter 75 = .ok (.iconst 4, 1) := by decide +kernel
theorem d_Rf_enter_76 : decode b_Rf_enter 76 = .ok (.if_icmp .ne 33, 3) := by decide +kernel
theorem d_Rf_enter_79 : decode b_Rf_enter 79 = .ok (.aload_n 0, 1) := by decide +kernel
theorem d_Rf_enter_80 : decode b_Rf_enter 80 = .ok (.getfield 25, 3) := by decide +kernel
theorem d_Rf_enter_83 : decode b_Rf_enter 83 = .ok (.aload_n 0, 1) := by decide +kernel
theorem d_Rf_enter_84 : decode b_Rf_enter 84 = .ok (.getfield 16, 3) := by decide +kernel
theorem d_Rf_enter_87 : decode b_Rf_enter 87 = .ok (.iload_n 3, 1) := by decide +kernel
theorem d_Rf_enter_88 : decode b_Rf_enter 88 = .ok (.iaload, 1) := by decide +kernel
