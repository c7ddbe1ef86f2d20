theorem d_St_init_0 : decode c_St_init 0 = .ok (.aload_n 0, 1) := by decide +kernel
theorem d_St_init_1 : decode c_St_init 1 = .ok (.invokespecial 3, 3) := by decide +kernel
theorem d_St_init_4 : decode c_St_init 4 = .ok (.aload_n 0, 1) := by decide +kernel
theorem d_St_init_5 : decode c_St_init 5 = .ok (.new 9, 3) := by decide +kernel
theorem d_St_init_8 : decode c_St_init 8 = .ok (.dup, 1) := by decide +kernel
theorem d_St_init_9 : decode c_St_init 9 = .ok (.iconst 3, 1) := by decide +kernel
theorem d_St_init_10 : decode c_St_init 10 = .ok (.invokespecial 11, 3) := by decide +kernel
theorem d_St_init_13 : decode c_St_init 13 = .ok (.putfield 14, 3) := by decide +kernel
theorem d_St_init_16 : decode c_St_init 16 = .ok (.aload_n 0, 1) := by decide +kernel
theorem d_St_init_17 : decode c_St_init 17 = .ok (.new 9, 3) := by decide +kernel
theorem d_St_init_20 : decode c_St_init 20 = .ok (.dup, 1) := by decide +kernel
theorem d_St_init_21 : decode c_St_init 21 = .ok (.bipush 40, 2) := by decide +kernel
theorem d_St_init_23 : decode c_St_init 23 = .ok (.invokespecial 11, 3) := by decide +kernel
theorem d_St_init_26 : decode c_St_init 26 = .ok (.putfield 20, 3) := by decide +kernel
theorem d_St_init_29 : decode c_St_init 29 = .ok (.aload_n 0, 1) := by decide +kernel
theorem d_St_init_30 : decode c_St_init 30 = .ok (.new 9, 3) := by decide +kernel
theorem d_St_init_33 : decode c_St_init 33 = .ok (.dup, 1) := by decide +kernel
theorem d_St_init_34 : decode c_St_init 34 = .ok (.bipush 40, 2) := by decide +kernel
theorem d_St_init_36 : decode c_St_init 36 = .ok (.invokespecial 11, 3) := by decide +kernel
theorem d_St_init_39 : decode c_St_init 39 = .ok (.putfield 23, 3) := by decide +kernel
theorem d_St_init_42 : decode c_St_init 42 = .ok (.aload_n 0, 1) := by decide +kernel
theorem d_St_init_43 : decode c_St_init 43 = .ok (.new 9, 3) := by decide +kernel
theorem d_St_init_46 : decode c_St_init 46 = .ok (.dup, 1) := by decide +kernel
theorem d_St_init_47 : decode c_St_init 47 = .ok (.bipush 40, 2) := by decide +kernel
theorem d_St_init_49 : decode c_St_init 49 = .ok (.invokespecial 11, 3) := by decide +kernel
theorem d_St_init_52 : decode c_St_init 52 = .ok (.putfield 26, 3) := by decide +kernel
theorem d_St_init_55 : decode c_St_init 55 = .ok (.aload_n 0, 1) := by decide +kernel
theorem d_St_init_56 : decode c_St_init 56 = .ok (.new 9, 3) := by decide +kernel
theorem d_St_init_59 : decode c_St_init 59 = .ok (.dup, 1) := by decide +kernel
theorem d_St_init_60 : decode c_St_init 60 = .ok (.bipush 40, 2) := by decide +kernel
theorem d_St_init_62 : decode c_St_init 62 = .ok (.invokespecial 11, 3) := by decide +kernel
theorem d_St_init_65 : decode c_St_init 65 = .ok (.putfield 29, 3) := by decide +kernel
theorem d_St_init_68 : decode c_St_init 68 = .ok (.aload_n 0, 1) := by decide +kernel
theorem d_St_init_69 : decode c_St_init 69 = .ok (.bipush 6, 2) := by decide +kernel
theorem d_St_init_71 : decode c_St_init 71 = .ok (.anewarray 9, 3) := by decide +kernel
theorem d_St_init_74 : decode c_St_init 74 = .ok (.putfield 32, 3) := by decide +kernel
theorem d_St_init_77 : decode c_St_init 77 = .ok (.aload_n 0, 1) := by decide +kernel
theorem d_St_init_78 : decode c_St_init 78 = .ok (.new 9, 3) := by decide +kernel
theorem d_St_init_81 : decode c_St_init 81 = .ok (.dup, 1) := by decide +kernel
theorem d_St_init_82 : decode c_St_init 82 = .ok (.bipush 16, 2) := by decide +kernel
theorem d_St_init_84 : decode c_St_init 84 = .ok (.invokespecial 11, 3) := by decide +kernel
theorem d_St_init_87 : decode c_St_init 87 = .ok (.putfield 36, 3) := by decide +kernel
theorem d_St_init_90 : decode c_St_init 90 = .ok (.aload_n 0, 1) := by decide +kernel
theorem d_St_init_91 : decode c_St_init 91 = .ok (.new 9, 3) := by decide +kernel
theorem d_St_init_94 : decode c_St_init 94 = .ok (.dup, 1) := by decide +kernel
theorem d_St_init_95 : decode c_St_init 95 = .ok (.bipush 16, 2) := by decide +kernel
theorem d_St_init_97 : decode c_St_init 97 = .ok (.invokespecial 11, 3) := by decide +kernel
theorem d_St_init_100 : decode c_St_init 100 = .ok (.putfield 39, 3) := by decide +kernel
theorem d_St_init_103 : decode c_St_init 103 = .ok (.aload_n 0, 1) := by decide +kernel
theorem d_St_init_104 : decode c_St_init 104 = .ok (.new 9, 3) := by decide +kernel
theorem d_St_init_107 : decode c_St_init 107 = .ok (.dup, 1) := by decide +kernel
theorem d_St_init_108 : decode c_St_init 108 = .ok (.bipush 16, 2) := by decide +kernel
theorem d_St_init_110 : decode c_St_init 110 = .ok (.invokespecial 11, 3) := by decide +kernel
theorem d_St_init_113 : decode c_St_init 113 = .ok (.putfield 42, 3) := by decide +kernel
theorem d_St_init_116 : decode c_St_init 116 = .ok (.aload_n 0, 1) := by decide +kernel
theorem d_St_init_117 : decode c_St_init 117 = .ok (.new 9, 3) := by decide +kernel
theorem d_St_init_120 : decode c_St_init 120 = .ok (.dup, 1) := by decide +kernel
theorem d_St_init_121 : decode c_St_init 121 = .ok (.bipush 10, 2) := by decide +kernel
theorem d_St_init_123 : decode c_St_init 123 = .ok (.invokespecial 11, 3) := by decide +kernel
theorem d_St_init_126 : decode c_St_init 126 = .ok (.putfield 45, 3) := by decide +kernel
theorem d_St_init_129 : decode c_St_init 129 = .ok (.aload_n 0, 1) := by decide +kernel
theorem d_St_init_130 : decode c_St_init 130 = .ok (.new 9, 3) := by decide +kernel
theorem d_St_init_133 : decode c_St_init 133 = .ok (.dup, 1) := by decide +kernel
theorem d_St_init_134 : decode c_St_init 134 = .ok (.bipush 10, 2) := by decide +kernel
theorem d_St_init_136 : decode c_St_init 136 = .ok (.invokespecial 11, 3) := by decide +kernel
theorem d_St_init_139 : decode c_St_init 139 = .ok (.putfield 48, 3) := by decide +kernel
theorem d_St_init_142 : decode c_St_init 142 = .ok (.aload_n 0, 1) := by decide +kernel
theorem d_St_init_143 : decode c_St_init 143 = .ok (.new 9, 3) := by decide +kernel
theorem d_St_init_146 : decode c_St_init 146 = .ok (.dup, 1) := by decide +kernel
theorem d_St_init_147 : decode c_St_init 147 = .ok (.bipush 10, 2) := by decide +kernel
theorem d_St_init_149 : decode c_St_init 149 = .ok (.invokespecial 11, 3) := by decide +kernel
theorem d_St_init_152 : decode c_St_init 152 = .ok (.putfield 51, 3) := by decide +kernel
theorem d_St_init_155 : decode c_St_init 155 = .ok (.aload_n 0, 1) := by decide +kernel
theorem d_St_init_156 : decode c_St_init 156 = .ok (.getfield 14, 3) := by decide +kernel
theorem d_St_init_159 : decode c_St_init 159 = .ok (.bipush 30, 2) := by decide +kernel
theorem d_St_init_161 : decode c_St_init 161 = .ok (.invokevirtual 54, 3) := by decide +kernel
theorem d_St_init_164 : decode c_St_init 164 = .ok (.aload_n 0, 1) := by decide +kernel
theorem d_St_init_165 : decode c_St_init 165 = .ok (.getfield 14, 3) := by decide +kernel
theorem d_St_init_168 : decode c_St_init 168 = .ok (.bipush 10, 2) := by decide +kernel
theorem d_St_init_170 : decode c_St_init 170 = .ok (.invokevirtual 54, 3) := by decide +kernel
theorem d_St_init_173 : decode c_St_init 173 = .ok (.aload_n 0, 1) := by decide +kernel
theorem d_St_init_174 : decode c_St_init 174 = .ok (.getfield 14, 3) := by decide +kernel
theorem d_St_init_177 : decode c_St_init 177 = .ok (.iconst 3, 1) := by decide +kernel
theorem d_St_init_178 : decode c_St_init 178 = .ok (.invokevirtual 54, 3) := by decide +kernel
theorem d_St_init_181 : decode c_St_init 181 = .ok (.iconst 0, 1) := by decide +kernel
theorem d_St_init_182 : decode c_St_init 182 = .ok (.istore_n 1, 1) := by decide +kernel
theorem d_St_init_183 : decode c_St_init 183 = .ok (.iload_n 1, 1) := by decide +kernel
theorem d_St_init_184 : decode c_St_init 184 = .ok (.aload_n 0, 1) := by decide +kernel
theorem d_St_init_185 : decode c_St_init 185 = .ok (.getfield 32, 3) := by decide +kernel
theorem d_St_init_188 : decode c_St_init 188 = .ok (.arraylength, 1) := by decide +kernel
theorem d_St_init_189 : decode c_St_init 189 = .ok (.if_icmp .ge 24, 3) := by decide +kernel
theorem d_St_init_192 : decode c_St_init 192 = .ok (.aload_n 0, 1) := by decide +kernel
theorem d_St_init_193 : decode c_St_init 193 = .ok (.getfield 32, 3) := by decide +kernel
theorem d_St_init_196 : decode c_St_init 196 = .ok (.iload_n 1, 1) := by decide +kernel
theorem d_St_init_197 : decode c_St_init 197 = .ok (.new 9, 3) := by decide +kernel
theorem d_St_init_200 : decode c_St_init 200 = .ok (.dup, 1) := by decide +kernel
theorem d_St_init_201 : decode c_St_init 201 = .ok (.bipush 8, 2) := by decide +kernel
theorem d_St_init_203 : decode c_St_init 203 = .ok (.invokespecial 11, 3) := by decide +kernel
theorem d_St_init_206 : decode c_St_init 206 = .ok (.aastore, 1) := by decide +kernel
theorem d_St_init_207 : decode c_St_init 207 = .ok (.iinc 1 1, 3) := by decide +kernel
theorem d_St_init_210 : decode c_St_init 210 = .ok (.goto (-27), 3) := by decide +kernel
theorem d_St_init_213 : decode c_St_init 213 = .ok (.return_, 1) := by decide +kernel
theorem d_St_copy_0 : decode c_St_copy 0 = .ok (.aload_n 0, 1) := by decide +kernel
theorem d_St_copy_1 : decode c_St_copy 1 = .ok (.aload_n 1, 1) := by decide +kernel
theorem d_St_copy_2 : decode c_St_copy 2 = .ok (.getfield 57, 3) := by decide +kernel
theorem d_St_copy_5 : decode c_St_copy 5 = .ok (.putfield 57, 3) := by decide +kernel
theorem d_St_copy_8 : decode c_St_copy 8 = .ok (.aload_n 0, 1) := by decide +kernel
theorem d_St_copy_9 : decode c_St_copy 9 = .ok (.getfield 14, 3) := by decide +kernel
theorem d_St_copy_12 : decode c_St_copy 12 = .ok (.aload_n 1, 1) := by decide +kernel
theorem d_St_copy_13 : decode c_St_copy 13 = .ok (.getfield 14, 3) := by decide +kernel
theorem d_St_copy_16 : decode c_St_copy 16 = .ok (.invokevirtual 61, 3) := by decide +kernel
theorem d_St_copy_19 : decode c_St_copy 19 = .ok (.aload_n 0, 1) := by decide +kernel
theorem d_St_copy_20 : decode c_St_copy 20 = .ok (.getfield 20, 3) := by decide +kernel
theorem d_St_copy_23 : decode c_St_copy 23 = .ok (.aload_n 1, 1) := by decide +kernel
theorem d_St_copy_24 : decode c_St_copy 24 = .ok (.getfield 20, 3) := by decide +kernel
theorem d_St_copy_27 : decode c_St_copy 27 = .ok (.invokevirtual 61, 3) := by decide +kernel
theorem d_St_copy_30 : decode c_St_copy 30 = .ok (.aload_n 0, 1) := by decide +kernel
theorem d_St_copy_31 : decode c_St_copy 31 = .ok (.getfield 23, 3) := by decide +kernel
theorem d_St_copy_34 : decode c_St_copy 34 = .ok (.aload_n 1, 1) := by decide +kernel
theorem d_St_copy_35 : decode c_St_copy 35 = .ok (.getfield 23, 3) := by decide +kernel
theorem d_St_copy_38 : decode c_St_copy 38 = .ok (.invokevirtual 61, 3) := by decide +kernel
theorem d_St_copy_41 : decode c_St_copy 41 = .ok (.aload_n 0, 1) := by decide +kernel
theorem d_St_copy_42 : decode c_St_copy 42 = .ok (.getfield 26, 3) := by decide +kernel
theorem d_St_copy_45 : decode c_St_copy 45 = .ok (.aload_n 1, 1) := by decide +kernel
theorem d_St_copy_46 : decode c_St_copy 46 = .ok (.getfield 26, 3) := by decide +kernel
theorem d_St_copy_49 : decode c_St_copy 49 = .ok (.invokevirtual 61, 3) := by decide +kernel
theorem d_St_copy_52 : decode c_St_copy 52 = .ok (.aload_n 0, 1) := by decide +kernel
theorem d_St_copy_53 : decode c_St_copy 53 = .ok (.getfield 29, 3) := by decide +kernel
theorem d_St_copy_56 : decode c_St_copy 56 = .ok (.aload_n 1, 1) := by decide +kernel
theorem d_St_copy_57 : decode c_St_copy 57 = .ok (.getfield 29, 3) := by decide +kernel
theorem d_St_copy_60 : decode c_St_copy 60 = .ok (.invokevirtual 61, 3) := by decide +kernel
theorem d_St_copy_63 : decode c_St_copy 63 = .ok (.iconst 0, 1) := by decide +kernel
theorem d_St_copy_64 : decode c_St_copy 64 = .ok (.istore_n 2, 1) := by decide +kernel
theorem d_St_copy_65 : decode c_St_copy 65 = .ok (.iload_n 2, 1) := by decide +kernel
theorem d_St_copy_66 : decode c_St_copy 66 = .ok (.iconst 2, 1) := by decide +kernel
theorem d_St_copy_67 : decode c_St_copy 67 = .ok (.if_icmp .ge 37, 3) := by decide +kernel
theorem d_St_copy_70 : decode c_St_copy 70 = .ok (.iconst 0, 1) := by decide +kernel
theorem d_St_copy_71 : decode c_St_copy 71 = .ok (.istore_n 3, 1) := by decide +kernel
theorem d_St_copy_72 : decode c_St_copy 72 = .ok (.iload_n 3, 1) := by decide +kernel
theorem d_St_copy_73 : decode c_St_copy 73 = .ok (.iconst 3, 1) := by decide +kernel
theorem d_St_copy_74 : decode c_St_copy 74 = .ok (.if_icmp .ge 24, 3) := by decide +kernel
theorem d_St_copy_77 : decode c_St_copy 77 = .ok (.aload_n 0, 1) := by decide +kernel
theorem d_St_copy_78 : decode c_St_copy 78 = .ok (.iload_n 2, 1) := by decide +kernel
theorem d_St_copy_79 : decode c_St_copy 79 = .ok (.iload_n 3, 1) := by decide +kernel
theorem d_St_copy_80 : decode c_St_copy 80 = .ok (.invokevirtual 65, 3) := by decide +kernel
theorem d_St_copy_83 : decode c_St_copy 83 = .ok (.aload_n 1, 1) := by decide +kernel
theorem d_St_copy_84 : decode c_St_copy 84 = .ok (.iload_n 2, 1) := by decide +kernel
theorem d_St_copy_85 : decode c_St_copy 85 = .ok (.iload_n 3, 1) := by decide +kernel
theorem d_St_copy_86 : decode c_St_copy 86 = .ok (.invokevirtual 65, 3) := by decide +kernel
theorem d_St_copy_89 : decode c_St_copy 89 = .ok (.invokestatic 69, 3) := by decide +kernel
theorem d_St_copy_92 : decode c_St_copy 92 = .ok (.iinc 3 1, 3) := by decide +kernel
theorem d_St_copy_95 : decode c_St_copy 95 = .ok (.goto (-23), 3) := by decide +kernel
theorem d_St_copy_98 : decode c_St_copy 98 = .ok (.iinc 2 1, 3) := by decide +kernel
theorem d_St_copy_101 : decode c_St_copy 101 = .ok (.goto (-36), 3) := by decide +kernel
theorem d_St_copy_104 : decode c_St_copy 104 = .ok (.aload_n 0, 1) := by decide +kernel
theorem d_St_copy_105 : decode c_St_copy 105 = .ok (.getfield 36, 3) := by decide +kernel
theorem d_St_copy_108 : decode c_St_copy 108 = .ok (.aload_n 1, 1) := by decide +kernel
theorem d_St_copy_109 : decode c_St_copy 109 = .ok (.getfield 36, 3) := by decide +kernel
theorem d_St_copy_112 : decode c_St_copy 112 = .ok (.invokevirtual 61, 3) := by decide +kernel
theorem d_St_copy_115 : decode c_St_copy 115 = .ok (.aload_n 0, 1) := by decide +kernel
theorem d_St_copy_116 : decode c_St_copy 116 = .ok (.getfield 39, 3) := by decide +kernel
theorem d_St_copy_119 : decode c_St_copy 119 = .ok (.aload_n 1, 1) := by decide +kernel
theorem d_St_copy_120 : decode c_St_copy 120 = .ok (.getfield 39, 3) := by decide +kernel
theorem d_St_copy_123 : decode c_St_copy 123 = .ok (.invokevirtual 61, 3) := by decide +kernel
theorem d_St_copy_126 : decode c_St_copy 126 = .ok (.aload_n 0, 1) := by decide +kernel
theorem d_St_copy_127 : decode c_St_copy 127 = .ok (.getfield 42, 3) := by decide +kernel
theorem d_St_copy_130 : decode c_St_copy 130 = .ok (.aload_n 1, 1) := by decide +kernel
theorem d_St_copy_131 : decode c_St_copy 131 = .ok (.getfield 42, 3) := by decide +kernel
theorem d_St_copy_134 : decode c_St_copy 134 = .ok (.invokevirtual 61, 3) := by decide +kernel
theorem d_St_copy_137 : decode c_St_copy 137 = .ok (.aload_n 0, 1) := by decide +kernel
theorem d_St_copy_138 : decode c_St_copy 138 = .ok (.getfield 45, 3) := by decide +kernel
theorem d_St_copy_141 : decode c_St_copy 141 = .ok (.aload_n 1, 1) := by decide +kernel
theorem d_St_copy_142 : decode c_St_copy 142 = .ok (.getfield 45, 3) := by decide +kernel
theorem d_St_copy_145 : decode c_St_copy 145 = .ok (.invokevirtual 61, 3) := by decide +kernel
theorem d_St_copy_148 : decode c_St_copy 148 = .ok (.aload_n 0, 1) := by decide +kernel
theorem d_St_copy_149 : decode c_St_copy 149 = .ok (.getfield 48, 3) := by decide +kernel
theorem d_St_copy_152 : decode c_St_copy 152 = .ok (.aload_n 1, 1) := by decide +kernel
theorem d_St_copy_153 : decode c_St_copy 153 = .ok (.getfield 48, 3) := by decide +kernel
theorem d_St_copy_156 : decode c_St_copy 156 = .ok (.invokevirtual 61, 3) := by decide +kernel
theorem d_St_copy_159 : decode c_St_copy 159 = .ok (.aload_n 0, 1) := by decide +kernel
theorem d_St_copy_160 : decode c_St_copy 160 = .ok (.getfield 51, 3) := by decide +kernel
theorem d_St_copy_163 : decode c_St_copy 163 = .ok (.aload_n 1, 1) := by decide +kernel
theorem d_St_copy_164 : decode c_St_copy 164 = .ok (.getfield 51, 3) := by decide +kernel
theorem d_St_copy_167 : decode c_St_copy 167 = .ok (.invokevirtual 61, 3) := by decide +kernel
theorem d_St_copy_170 : decode c_St_copy 170 = .ok (.return_, 1) := by decide +kernel
theorem d_St_copyList_0 : decode c_St_copyList 0 = .ok (.aload_n 0, 1) := by decide +kernel
theorem d_St_copyList_1 : decode c_St_copyList 1 = .ok (.ifnull 12, 3) := by decide +kernel
theorem d_St_copyList_4 : decode c_St_copyList 4 = .ok (.aload_n 1, 1) := by decide +kernel
theorem d_St_copyList_5 : decode c_St_copyList 5 = .ok (.ifnull 8, 3) := by decide +kernel
theorem d_St_copyList_8 : decode c_St_copyList 8 = .ok (.aload_n 0, 1) := by decide +kernel
theorem d_St_copyList_9 : decode c_St_copyList 9 = .ok (.aload_n 1, 1) := by decide +kernel
theorem d_St_copyList_10 : decode c_St_copyList 10 = .ok (.invokevirtual 61, 3) := by decide +kernel
theorem d_St_copyList_13 : decode c_St_copyList 13 = .ok (.return_, 1) := by decide +kernel
theorem d_St_listOf_0 : decode c_St_listOf 0 = .ok (.iload_n 1, 1) := by decide +kernel
theorem d_St_listOf_1 : decode c_St_listOf 1 = .ok (.invokestatic 73, 3) := by decide +kernel
theorem d_St_listOf_4 : decode c_St_listOf 4 = .ok (.ifCond .eq 12, 3) := by decide +kernel
theorem d_St_listOf_7 : decode c_St_listOf 7 = .ok (.iload_n 2, 1) := by decide +kernel
theorem d_St_listOf_8 : decode c_St_listOf 8 = .ok (.ifCond .lt 8, 3) := by decide +kernel
theorem d_St_listOf_11 : decode c_St_listOf 11 = .ok (.iload_n 2, 1) := by decide +kernel
theorem d_St_listOf_12 : decode c_St_listOf 12 = .ok (.iconst 3, 1) := by decide +kernel
theorem d_St_listOf_13 : decode c_St_listOf 13 = .ok (.if_icmp .lt 5, 3) := by decide +kernel
theorem d_St_listOf_16 : decode c_St_listOf 16 = .ok (.aconst_null, 1) := by decide +kernel
theorem d_St_listOf_17 : decode c_St_listOf 17 = .ok (.areturn, 1) := by decide +kernel
theorem d_St_listOf_18 : decode c_St_listOf 18 = .ok (.iload_n 1, 1) := by decide +kernel
theorem d_St_listOf_19 : decode c_St_listOf 19 = .ok (.iconst 3, 1) := by decide +kernel
theorem d_St_listOf_20 : decode c_St_listOf 20 = .ok (.imul, 1) := by decide +kernel
theorem d_St_listOf_21 : decode c_St_listOf 21 = .ok (.iload_n 2, 1) := by decide +kernel
theorem d_St_listOf_22 : decode c_St_listOf 22 = .ok (.iadd, 1) := by decide +kernel
theorem d_St_listOf_23 : decode c_St_listOf 23 = .ok (.istore_n 3, 1) := by decide +kernel
theorem d_St_listOf_24 : decode c_St_listOf 24 = .ok (.iload_n 3, 1) := by decide +kernel
theorem d_St_listOf_25 : decode c_St_listOf 25 = .ok (.ifCond .lt 21, 3) := by decide +kernel
theorem d_St_listOf_28 : decode c_St_listOf 28 = .ok (.iload_n 3, 1) := by decide +kernel
theorem d_St_listOf_29 : decode c_St_listOf 29 = .ok (.aload_n 0, 1) := by decide +kernel
theorem d_St_listOf_30 : decode c_St_listOf 30 = .ok (.getfield 32, 3) := by decide +kernel
theorem d_St_listOf_33 : decode c_St_listOf 33 = .ok (.arraylength, 1) := by decide +kernel
theorem d_St_listOf_34 : decode c_St_listOf 34 = .ok (.if_icmp .ge 12, 3) := by decide +kernel
theorem d_St_listOf_37 : decode c_St_listOf 37 = .ok (.aload_n 0, 1) := by decide +kernel
theorem d_St_listOf_38 : decode c_St_listOf 38 = .ok (.getfield 32, 3) := by decide +kernel
theorem d_St_listOf_41 : decode c_St_listOf 41 = .ok (.iload_n 3, 1) := by decide +kernel
theorem d_St_listOf_42 : decode c_St_listOf 42 = .ok (.aaload, 1) := by decide +kernel
theorem d_St_listOf_43 : decode c_St_listOf 43 = .ok (.goto 4, 3) := by decide +kernel
theorem d_St_listOf_46 : decode c_St_listOf 46 = .ok (.aconst_null, 1) := by decide +kernel
theorem d_St_listOf_47 : decode c_St_listOf 47 = .ok (.areturn, 1) := by decide +kernel
theorem d_St_listOfYear_0 : decode c_St_listOfYear 0 = .ok (.aload_n 0, 1) := by decide +kernel
theorem d_St_listOfYear_1 : decode c_St_listOfYear 1 = .ok (.iload_n 1, 1) := by decide +kernel
theorem d_St_listOfYear_2 : decode c_St_listOfYear 2 = .ok (.aload_n 0, 1) := by decide +kernel
theorem d_St_listOfYear_3 : decode c_St_listOfYear 3 = .ok (.getfield 57, 3) := by decide +kernel
theorem d_St_listOfYear_6 : decode c_St_listOfYear 6 = .ok (.iload_n 2, 1) := by decide +kernel
theorem d_St_listOfYear_7 : decode c_St_listOfYear 7 = .ok (.iadd, 1) := by decide +kernel
theorem d_St_listOfYear_8 : decode c_St_listOfYear 8 = .ok (.iconst 3, 1) := by decide +kernel
theorem d_St_listOfYear_9 : decode c_St_listOfYear 9 = .ok (.irem, 1) := by decide +kernel
theorem d_St_listOfYear_10 : decode c_St_listOfYear 10 = .ok (.invokevirtual 65, 3) := by decide +kernel
theorem d_St_listOfYear_13 : decode c_St_listOfYear 13 = .ok (.areturn, 1) := by decide +kernel
theorem d_St_standsOn_0 : decode c_St_standsOn 0 = .ok (.iconst 0, 1) := by decide +kernel
theorem d_St_standsOn_1 : decode c_St_standsOn 1 = .ok (.istore_n 3, 1) := by decide +kernel
theorem d_St_standsOn_2 : decode c_St_standsOn 2 = .ok (.iload_n 3, 1) := by decide +kernel
theorem d_St_standsOn_3 : decode c_St_standsOn 3 = .ok (.iconst 3, 1) := by decide +kernel
theorem d_St_standsOn_4 : decode c_St_standsOn 4 = .ok (.if_icmp .ge 33, 3) := by decide +kernel
theorem d_St_standsOn_7 : decode c_St_standsOn 7 = .ok (.aload_n 0, 1) := by decide +kernel
theorem d_St_standsOn_8 : decode c_St_standsOn 8 = .ok (.iload_n 2, 1) := by decide +kernel
theorem d_St_standsOn_9 : decode c_St_standsOn 9 = .ok (.iload_n 3, 1) := by decide +kernel
theorem d_St_standsOn_10 : decode c_St_standsOn 10 = .ok (.invokevirtual 65, 3) := by decide +kernel
theorem d_St_standsOn_13 : decode c_St_standsOn 13 = .ok (.astore 4, 2) := by decide +kernel
theorem d_St_standsOn_15 : decode c_St_standsOn 15 = .ok (.aload 4, 2) := by decide +kernel
theorem d_St_standsOn_17 : decode c_St_standsOn 17 = .ok (.ifnull 14, 3) := by decide +kernel
theorem d_St_standsOn_20 : decode c_St_standsOn 20 = .ok (.aload 4, 2) := by decide +kernel
theorem d_St_standsOn_22 : decode c_St_standsOn 22 = .ok (.iload_n 1, 1) := by decide +kernel
theorem d_St_standsOn_23 : decode c_St_standsOn 23 = .ok (.invokevirtual 77, 3) := by decide +kernel
theorem d_St_standsOn_26 : decode c_St_standsOn 26 = .ok (.ifCond .eq 5, 3) := by decide +kernel
theorem d_St_standsOn_29 : decode c_St_standsOn 29 = .ok (.iconst 1, 1) := by decide +kernel
theorem d_St_standsOn_30 : decode c_St_standsOn 30 = .ok (.ireturn, 1) := by decide +kernel
theorem d_St_standsOn_31 : decode c_St_standsOn 31 = .ok (.iinc 3 1, 3) := by decide +kernel
theorem d_St_standsOn_34 : decode c_St_standsOn 34 = .ok (.goto (-32), 3) := by decide +kernel
theorem d_St_standsOn_37 : decode c_St_standsOn 37 = .ok (.iconst 0, 1) := by decide +kernel
theorem d_St_standsOn_38 : decode c_St_standsOn 38 = .ok (.ireturn, 1) := by decide +kernel
theorem d_St_coastsOf_0 : decode c_St_coastsOf 0 = .ok (.iconst 0, 1) := by decide +kernel
theorem d_St_coastsOf_1 : decode c_St_coastsOf 1 = .ok (.istore_n 2, 1) := by decide +kernel
theorem d_St_coastsOf_2 : decode c_St_coastsOf 2 = .ok (.iconst 0, 1) := by decide +kernel
theorem d_St_coastsOf_3 : decode c_St_coastsOf 3 = .ok (.istore_n 3, 1) := by decide +kernel
theorem d_St_coastsOf_4 : decode c_St_coastsOf 4 = .ok (.iload_n 3, 1) := by decide +kernel
theorem d_St_coastsOf_5 : decode c_St_coastsOf 5 = .ok (.iconst 2, 1) := by decide +kernel
theorem d_St_coastsOf_6 : decode c_St_coastsOf 6 = .ok (.if_icmp .ge 24, 3) := by decide +kernel
theorem d_St_coastsOf_9 : decode c_St_coastsOf 9 = .ok (.aload_n 0, 1) := by decide +kernel
theorem d_St_coastsOf_10 : decode c_St_coastsOf 10 = .ok (.iload_n 1, 1) := by decide +kernel
theorem d_St_coastsOf_11 : decode c_St_coastsOf 11 = .ok (.iload_n 3, 1) := by decide +kernel
theorem d_St_coastsOf_12 : decode c_St_coastsOf 12 = .ok (.invokevirtual 80, 3) := by decide +kernel
theorem d_St_coastsOf_15 : decode c_St_coastsOf 15 = .ok (.ifCond .eq 9, 3) := by decide +kernel
theorem d_St_coastsOf_18 : decode c_St_coastsOf 18 = .ok (.iload_n 2, 1) := by decide +kernel
theorem d_St_coastsOf_19 : decode c_St_coastsOf 19 = .ok (.iconst 1, 1) := by decide +kernel
theorem d_St_coastsOf_20 : decode c_St_coastsOf 20 = .ok (.iload_n 3, 1) := by decide +kernel
theorem d_St_coastsOf_21 : decode c_St_coastsOf 21 = .ok (.ishl, 1) := by decide +kernel
theorem d_St_coastsOf_22 : decode c_St_coastsOf 22 = .ok (.ior, 1) := by decide +kernel
theorem d_St_coastsOf_23 : decode c_St_coastsOf 23 = .ok (.istore_n 2, 1) := by decide +kernel
theorem d_St_coastsOf_24 : decode c_St_coastsOf 24 = .ok (.iinc 3 1, 3) := by decide +kernel
theorem d_St_coastsOf_27 : decode c_St_coastsOf 27 = .ok (.goto (-23), 3) := by decide +kernel
theorem d_St_coastsOf_30 : decode c_St_coastsOf 30 = .ok (.iload_n 2, 1) := by decide +kernel
theorem d_St_coastsOf_31 : decode c_St_coastsOf 31 = .ok (.ireturn, 1) := by decide +kernel
theorem d_St_mayJoin_0 : decode c_St_mayJoin 0 = .ok (.iconst 0, 1) := by decide +kernel
theorem d_St_mayJoin_1 : decode c_St_mayJoin 1 = .ok (.istore 4, 2) := by decide +kernel
theorem d_St_mayJoin_3 : decode c_St_mayJoin 3 = .ok (.iload 4, 2) := by decide +kernel
theorem d_St_mayJoin_5 : decode c_St_mayJoin 5 = .ok (.aload_n 1, 1) := by decide +kernel
theorem d_St_mayJoin_6 : decode c_St_mayJoin 6 = .ok (.invokevirtual 84, 3) := by decide +kernel
theorem d_St_mayJoin_9 : decode c_St_mayJoin 9 = .ok (.if_icmp .ge 83, 3) := by decide +kernel
theorem d_St_mayJoin_12 : decode c_St_mayJoin 12 = .ok (.aload_n 1, 1) := by decide +kernel
theorem d_St_mayJoin_13 : decode c_St_mayJoin 13 = .ok (.iload 4, 2) := by decide +kernel
theorem d_St_mayJoin_15 : decode c_St_mayJoin 15 = .ok (.invokevirtual 88, 3) := by decide +kernel
theorem d_St_mayJoin_18 : decode c_St_mayJoin 18 = .ok (.istore 5, 2) := by decide +kernel
theorem d_St_mayJoin_20 : decode c_St_mayJoin 20 = .ok (.aload_n 0, 1) := by decide +kernel
theorem d_St_mayJoin_21 : decode c_St_mayJoin 21 = .ok (.iload 5, 2) := by decide +kernel
theorem d_St_mayJoin_23 : decode c_St_mayJoin 23 = .ok (.iload_n 2, 1) := by decide +kernel
theorem d_St_mayJoin_24 : decode c_St_mayJoin 24 = .ok (.invokevirtual 92, 3) := by decide +kernel
theorem d_St_mayJoin_27 : decode c_St_mayJoin 27 = .ok (.ifCond .ne 13, 3) := by decide +kernel
theorem d_St_mayJoin_30 : decode c_St_mayJoin 30 = .ok (.aload_n 0, 1) := by decide +kernel
theorem d_St_mayJoin_31 : decode c_St_mayJoin 31 = .ok (.iload 5, 2) := by decide +kernel
theorem d_St_mayJoin_33 : decode c_St_mayJoin 33 = .ok (.aload_n 3, 1) := by decide +kernel
theorem d_St_mayJoin_34 : decode c_St_mayJoin 34 = .ok (.invokevirtual 95, 3) := by decide +kernel
theorem d_St_mayJoin_37 : decode c_St_mayJoin 37 = .ok (.ifCond .eq 5, 3) := by decide +kernel
theorem d_St_mayJoin_40 : decode c_St_mayJoin 40 = .ok (.iconst 0, 1) := by decide +kernel
theorem d_St_mayJoin_41 : decode c_St_mayJoin 41 = .ok (.ireturn, 1) := by decide +kernel
theorem d_St_mayJoin_42 : decode c_St_mayJoin 42 = .ok (.iconst 0, 1) := by decide +kernel
theorem d_St_mayJoin_43 : decode c_St_mayJoin 43 = .ok (.istore 6, 2) := by decide +kernel
theorem d_St_mayJoin_45 : decode c_St_mayJoin 45 = .ok (.iload 6, 2) := by decide +kernel
theorem d_St_mayJoin_47 : decode c_St_mayJoin 47 = .ok (.iload 4, 2) := by decide +kernel
theorem d_St_mayJoin_49 : decode c_St_mayJoin 49 = .ok (.if_icmp .ge 37, 3) := by decide +kernel
theorem d_St_mayJoin_52 : decode c_St_mayJoin 52 = .ok (.iload 5, 2) := by decide +kernel
theorem d_St_mayJoin_54 : decode c_St_mayJoin 54 = .ok (.aload_n 1, 1) := by decide +kernel
theorem d_St_mayJoin_55 : decode c_St_mayJoin 55 = .ok (.iload 6, 2) := by decide +kernel
theorem d_St_mayJoin_57 : decode c_St_mayJoin 57 = .ok (.invokevirtual 88, 3) := by decide +kernel
theorem d_St_mayJoin_60 : decode c_St_mayJoin 60 = .ok (.if_icmp .eq 18, 3) := by decide +kernel
theorem d_St_mayJoin_63 : decode c_St_mayJoin 63 = .ok (.aload_n 0, 1) := by decide +kernel
theorem d_St_mayJoin_64 : decode c_St_mayJoin 64 = .ok (.iload 5, 2) := by decide +kernel
theorem d_St_mayJoin_66 : decode c_St_mayJoin 66 = .ok (.aload_n 1, 1) := by decide +kernel
theorem d_St_mayJoin_67 : decode c_St_mayJoin 67 = .ok (.iload 6, 2) := by decide +kernel
theorem d_St_mayJoin_69 : decode c_St_mayJoin 69 = .ok (.invokevirtual 88, 3) := by decide +kernel
theorem d_St_mayJoin_72 : decode c_St_mayJoin 72 = .ok (.invokevirtual 99, 3) := by decide +kernel
theorem d_St_mayJoin_75 : decode c_St_mayJoin 75 = .ok (.ifCond .eq 5, 3) := by decide +kernel
theorem d_St_mayJoin_78 : decode c_St_mayJoin 78 = .ok (.iconst 0, 1) := by decide +kernel
theorem d_St_mayJoin_79 : decode c_St_mayJoin 79 = .ok (.ireturn, 1) := by decide +kernel
theorem d_St_mayJoin_80 : decode c_St_mayJoin 80 = .ok (.iinc 6 1, 3) := by decide +kernel
theorem d_St_mayJoin_83 : decode c_St_mayJoin 83 = .ok (.goto (-38), 3) := by decide +kernel
theorem d_St_mayJoin_86 : decode c_St_mayJoin 86 = .ok (.iinc 4 1, 3) := by decide +kernel
theorem d_St_mayJoin_89 : decode c_St_mayJoin 89 = .ok (.goto (-86), 3) := by decide +kernel
theorem d_St_mayJoin_92 : decode c_St_mayJoin 92 = .ok (.iconst 1, 1) := by decide +kernel
theorem d_St_mayJoin_93 : decode c_St_mayJoin 93 = .ok (.ireturn, 1) := by decide +kernel
theorem d_St_isTaken_0 : decode c_St_isTaken 0 = .ok (.aload_n 0, 1) := by decide +kernel
theorem d_St_isTaken_1 : decode c_St_isTaken 1 = .ok (.getfield 20, 3) := by decide +kernel
theorem d_St_isTaken_4 : decode c_St_isTaken 4 = .ok (.iload_n 1, 1) := by decide +kernel
theorem d_St_isTaken_5 : decode c_St_isTaken 5 = .ok (.invokevirtual 102, 3) := by decide +kernel
theorem d_St_isTaken_8 : decode c_St_isTaken 8 = .ok (.istore_n 3, 1) := by decide +kernel
theorem d_St_isTaken_9 : decode c_St_isTaken 9 = .ok (.iload_n 3, 1) := by decide +kernel
theorem d_St_isTaken_10 : decode c_St_isTaken 10 = .ok (.iconst (-1), 1) := by decide +kernel
theorem d_St_isTaken_11 : decode c_St_isTaken 11 = .ok (.if_icmp .eq 28, 3) := by decide +kernel
theorem d_St_isTaken_14 : decode c_St_isTaken 14 = .ok (.aload_n 0, 1) := by decide +kernel
theorem d_St_isTaken_15 : decode c_St_isTaken 15 = .ok (.getfield 23, 3) := by decide +kernel
theorem d_St_isTaken_18 : decode c_St_isTaken 18 = .ok (.iload_n 3, 1) := by decide +kernel
theorem d_St_isTaken_19 : decode c_St_isTaken 19 = .ok (.invokevirtual 88, 3) := by decide +kernel
theorem d_St_isTaken_22 : decode c_St_isTaken 22 = .ok (.iconst 1, 1) := by decide +kernel
theorem d_St_isTaken_23 : decode c_St_isTaken 23 = .ok (.if_icmp .eq 12, 3) := by decide +kernel
theorem d_St_isTaken_26 : decode c_St_isTaken 26 = .ok (.aload_n 0, 1) := by decide +kernel
theorem d_St_isTaken_27 : decode c_St_isTaken 27 = .ok (.iload_n 3, 1) := by decide +kernel
theorem d_St_isTaken_28 : decode c_St_isTaken 28 = .ok (.iload_n 2, 1) := by decide +kernel
theorem d_St_isTaken_29 : decode c_St_isTaken 29 = .ok (.invokevirtual 80, 3) := by decide +kernel
theorem d_St_isTaken_32 : decode c_St_isTaken 32 = .ok (.ifCond .eq 7, 3) := by decide +kernel
theorem d_St_isTaken_35 : decode c_St_isTaken 35 = .ok (.iconst 1, 1) := by decide +kernel
theorem d_St_isTaken_36 : decode c_St_isTaken 36 = .ok (.goto 4, 3) := by decide +kernel
theorem d_St_isTaken_39 : decode c_St_isTaken 39 = .ok (.iconst 0, 1) := by decide +kernel
theorem d_St_isTaken_40 : decode c_St_isTaken 40 = .ok (.ireturn, 1) := by decide +kernel
theorem d_St_isAlikeToListed_0 : decode c_St_isAlikeToListed 0 = .ok (.iconst 0, 1) := by decide +kernel
theorem d_St_isAlikeToListed_1 : decode c_St_isAlikeToListed 1 = .ok (.istore_n 3, 1) := by decide +kernel
theorem d_St_isAlikeToListed_2 : decode c_St_isAlikeToListed 2 = .ok (.iload_n 3, 1) := by decide +kernel
theorem d_St_isAlikeToListed_3 : decode c_St_isAlikeToListed 3 = .ok (.aload_n 2, 1) := by decide +kernel
theorem d_St_isAlikeToListed_4 : decode c_St_isAlikeToListed 4 = .ok (.invokevirtual 84, 3) := by decide +kernel
theorem d_St_isAlikeToListed_7 : decode c_St_isAlikeToListed 7 = .ok (.if_icmp .ge 31, 3) := by decide +kernel
theorem d_St_isAlikeToListed_10 : decode c_St_isAlikeToListed 10 = .ok (.aload_n 0, 1) := by decide +kernel
theorem d_St_isAlikeToListed_11 : decode c_St_isAlikeToListed 11 = .ok (.iload_n 1, 1) := by decide +kernel
theorem d_St_isAlikeToListed_12 : decode c_St_isAlikeToListed 12 = .ok (.aload_n 0, 1) := by decide +kernel
theorem d_St_isAlikeToListed_13 : decode c_St_isAlikeToListed 13 = .ok (.getfield 20, 3) := by decide +kernel
theorem d_St_isAlikeToListed_16 : decode c_St_isAlikeToListed 16 = .ok (.aload_n 2, 1) := by decide +kernel
theorem d_St_isAlikeToListed_17 : decode c_St_isAlikeToListed 17 = .ok (.iload_n 3, 1) := by decide +kernel
theorem d_St_isAlikeToListed_18 : decode c_St_isAlikeToListed 18 = .ok (.invokevirtual 88, 3) := by decide +kernel
theorem d_St_isAlikeToListed_21 : decode c_St_isAlikeToListed 21 = .ok (.invokevirtual 88, 3) := by decide +kernel
theorem d_St_isAlikeToListed_24 : decode c_St_isAlikeToListed 24 = .ok (.invokevirtual 99, 3) := by decide +kernel
theorem d_St_isAlikeToListed_27 : decode c_St_isAlikeToListed 27 = .ok (.ifCond .eq 5, 3) := by decide +kernel
theorem d_St_isAlikeToListed_30 : decode c_St_isAlikeToListed 30 = .ok (.iconst 1, 1) := by decide +kernel
theorem d_St_isAlikeToListed_31 : decode c_St_isAlikeToListed 31 = .ok (.ireturn, 1) := by decide +kernel
theorem d_St_isAlikeToListed_32 : decode c_St_isAlikeToListed 32 = .ok (.iinc 3 1, 3) := by decide +kernel
theorem d_St_isAlikeToListed_35 : decode c_St_isAlikeToListed 35 = .ok (.goto (-33), 3) := by decide +kernel
theorem d_St_isAlikeToListed_38 : decode c_St_isAlikeToListed 38 = .ok (.iconst 0, 1) := by decide +kernel
theorem d_St_isAlikeToListed_39 : decode c_St_isAlikeToListed 39 = .ok (.ireturn, 1) := by decide +kernel
theorem d_St_areAlike_0 : decode c_St_areAlike 0 = .ok (.iload_n 1, 1) := by decide +kernel
theorem d_St_areAlike_1 : decode c_St_areAlike 1 = .ok (.iload_n 2, 1) := by decide +kernel
theorem d_St_areAlike_2 : decode c_St_areAlike 2 = .ok (.aload_n 0, 1) := by decide +kernel
theorem d_St_areAlike_3 : decode c_St_areAlike 3 = .ok (.getfield 14, 3) := by decide +kernel
theorem d_St_areAlike_6 : decode c_St_areAlike 6 = .ok (.iconst 2, 1) := by decide +kernel
theorem d_St_areAlike_7 : decode c_St_areAlike 7 = .ok (.invokevirtual 88, 3) := by decide +kernel
theorem d_St_areAlike_10 : decode c_St_areAlike 10 = .ok (.invokestatic 105, 3) := by decide +kernel
theorem d_St_areAlike_13 : decode c_St_areAlike 13 = .ok (.ireturn, 1) := by decide +kernel
theorem d_St_alikeTo_0 : decode c_St_alikeTo 0 = .ok (.iconst 0, 1) := by decide +kernel
theorem d_St_alikeTo_1 : decode c_St_alikeTo 1 = .ok (.istore_n 2, 1) := by decide +kernel
theorem d_St_alikeTo_2 : decode c_St_alikeTo 2 = .ok (.iconst 0, 1) := by decide +kernel
theorem d_St_alikeTo_3 : decode c_St_alikeTo 3 = .ok (.istore_n 3, 1) := by decide +kernel
theorem d_St_alikeTo_4 : decode c_St_alikeTo 4 = .ok (.iload_n 3, 1) := by decide +kernel
theorem d_St_alikeTo_5 : decode c_St_alikeTo 5 = .ok (.aload_n 0, 1) := by decide +kernel
theorem d_St_alikeTo_6 : decode c_St_alikeTo 6 = .ok (.getfield 20, 3) := by decide +kernel
theorem d_St_alikeTo_9 : decode c_St_alikeTo 9 = .ok (.invokevirtual 84, 3) := by decide +kernel
theorem d_St_alikeTo_12 : decode c_St_alikeTo 12 = .ok (.if_icmp .ge 35, 3) := by decide +kernel
theorem d_St_alikeTo_15 : decode c_St_alikeTo 15 = .ok (.aload_n 0, 1) := by decide +kernel
theorem d_St_alikeTo_16 : decode c_St_alikeTo 16 = .ok (.aload_n 0, 1) := by decide +kernel
theorem d_St_alikeTo_17 : decode c_St_alikeTo 17 = .ok (.getfield 20, 3) := by decide +kernel
theorem d_St_alikeTo_20 : decode c_St_alikeTo 20 = .ok (.iload_n 1, 1) := by decide +kernel
theorem d_St_alikeTo_21 : decode c_St_alikeTo 21 = .ok (.invokevirtual 88, 3) := by decide +kernel
theorem d_St_alikeTo_24 : decode c_St_alikeTo 24 = .ok (.aload_n 0, 1) := by decide +kernel
theorem d_St_alikeTo_25 : decode c_St_alikeTo 25 = .ok (.getfield 20, 3) := by decide +kernel
theorem d_St_alikeTo_28 : decode c_St_alikeTo 28 = .ok (.iload_n 3, 1) := by decide +kernel
theorem d_St_alikeTo_29 : decode c_St_alikeTo 29 = .ok (.invokevirtual 88, 3) := by decide +kernel
theorem d_St_alikeTo_32 : decode c_St_alikeTo 32 = .ok (.invokevirtual 99, 3) := by decide +kernel
theorem d_St_alikeTo_35 : decode c_St_alikeTo 35 = .ok (.ifCond .eq 6, 3) := by decide +kernel
theorem d_St_alikeTo_38 : decode c_St_alikeTo 38 = .ok (.iinc 2 1, 3) := by decide +kernel
theorem d_St_alikeTo_41 : decode c_St_alikeTo 41 = .ok (.iinc 3 1, 3) := by decide +kernel
theorem d_St_alikeTo_44 : decode c_St_alikeTo 44 = .ok (.goto (-40), 3) := by decide +kernel
theorem d_St_alikeTo_47 : decode c_St_alikeTo 47 = .ok (.iload_n 2, 1) := by decide +kernel
theorem d_St_alikeTo_48 : decode c_St_alikeTo 48 = .ok (.ireturn, 1) := by decide +kernel
theorem d_St_beginningWith_0 : decode c_St_beginningWith 0 = .ok (.iconst 0, 1) := by decide +kernel
theorem d_St_beginningWith_1 : decode c_St_beginningWith 1 = .ok (.istore_n 2, 1) := by decide +kernel
theorem d_St_beginningWith_2 : decode c_St_beginningWith 2 = .ok (.iconst 0, 1) := by decide +kernel
theorem d_St_beginningWith_3 : decode c_St_beginningWith 3 = .ok (.istore_n 3, 1) := by decide +kernel
theorem d_St_beginningWith_4 : decode c_St_beginningWith 4 = .ok (.iload_n 3, 1) := by decide +kernel
theorem d_St_beginningWith_5 : decode c_St_beginningWith 5 = .ok (.aload_n 0, 1) := by decide +kernel
theorem d_St_beginningWith_6 : decode c_St_beginningWith 6 = .ok (.getfield 20, 3) := by decide +kernel
theorem d_St_beginningWith_9 : decode c_St_beginningWith 9 = .ok (.invokevirtual 84, 3) := by decide +kernel
theorem d_St_beginningWith_12 : decode c_St_beginningWith 12 = .ok (.if_icmp .ge 31, 3) := by decide +kernel
theorem d_St_beginningWith_15 : decode c_St_beginningWith 15 = .ok (.iload_n 1, 1) := by decide +kernel
theorem d_St_beginningWith_16 : decode c_St_beginningWith 16 = .ok (.aload_n 0, 1) := by decide +kernel
theorem d_St_beginningWith_17 : decode c_St_beginningWith 17 = .ok (.getfield 20, 3) := by decide +kernel
theorem d_St_beginningWith_20 : decode c_St_beginningWith 20 = .ok (.iload_n 3, 1) := by decide +kernel
theorem d_St_beginningWith_21 : decode c_St_beginningWith 21 = .ok (.invokevirtual 88, 3) := by decide +kernel
theorem d_St_beginningWith_24 : decode c_St_beginningWith 24 = .ok (.invokestatic 111, 3) := by decide +kernel
theorem d_St_beginningWith_27 : decode c_St_beginningWith 27 = .ok (.iload_n 1, 1) := by decide +kernel
theorem d_St_beginningWith_28 : decode c_St_beginningWith 28 = .ok (.invokestatic 115, 3) := by decide +kernel
theorem d_St_beginningWith_31 : decode c_St_beginningWith 31 = .ok (.if_icmp .ne 6, 3) := by decide +kernel
theorem d_St_beginningWith_34 : decode c_St_beginningWith 34 = .ok (.iinc 2 1, 3) := by decide +kernel
theorem d_St_beginningWith_37 : decode c_St_beginningWith 37 = .ok (.iinc 3 1, 3) := by decide +kernel
theorem d_St_beginningWith_40 : decode c_St_beginningWith 40 = .ok (.goto (-36), 3) := by decide +kernel
theorem d_St_beginningWith_43 : decode c_St_beginningWith 43 = .ok (.iload_n 2, 1) := by decide +kernel
theorem d_St_beginningWith_44 : decode c_St_beginningWith 44 = .ok (.ireturn, 1) := by decide +kernel
theorem d_St_rankOf_0 : decode c_St_rankOf 0 = .ok (.iconst 0, 1) := by decide +kernel
theorem d_St_rankOf_1 : decode c_St_rankOf 1 = .ok (.istore_n 2, 1) := by decide +kernel
theorem d_St_rankOf_2 : decode c_St_rankOf 2 = .ok (.iconst 0, 1) := by decide +kernel
theorem d_St_rankOf_3 : decode c_St_rankOf 3 = .ok (.istore_n 3, 1) := by decide +kernel
theorem d_St_rankOf_4 : decode c_St_rankOf 4 = .ok (.iload_n 3, 1) := by decide +kernel
theorem d_St_rankOf_5 : decode c_St_rankOf 5 = .ok (.aload_n 0, 1) := by decide +kernel
theorem d_St_rankOf_6 : decode c_St_rankOf 6 = .ok (.getfield 20, 3) := by decide +kernel
theorem d_St_rankOf_9 : decode c_St_rankOf 9 = .ok (.invokevirtual 84, 3) := by decide +kernel
theorem d_St_rankOf_12 : decode c_St_rankOf 12 = .ok (.if_icmp .ge 31, 3) := by decide +kernel
theorem d_St_rankOf_15 : decode c_St_rankOf 15 = .ok (.aload_n 0, 1) := by decide +kernel
theorem d_St_rankOf_16 : decode c_St_rankOf 16 = .ok (.getfield 20, 3) := by decide +kernel
theorem d_St_rankOf_19 : decode c_St_rankOf 19 = .ok (.iload_n 3, 1) := by decide +kernel
theorem d_St_rankOf_20 : decode c_St_rankOf 20 = .ok (.invokevirtual 88, 3) := by decide +kernel
theorem d_St_rankOf_23 : decode c_St_rankOf 23 = .ok (.aload_n 0, 1) := by decide +kernel
theorem d_St_rankOf_24 : decode c_St_rankOf 24 = .ok (.getfield 20, 3) := by decide +kernel
theorem d_St_rankOf_27 : decode c_St_rankOf 27 = .ok (.iload_n 1, 1) := by decide +kernel
theorem d_St_rankOf_28 : decode c_St_rankOf 28 = .ok (.invokevirtual 88, 3) := by decide +kernel
theorem d_St_rankOf_31 : decode c_St_rankOf 31 = .ok (.if_icmp .ge 6, 3) := by decide +kernel
theorem d_St_rankOf_34 : decode c_St_rankOf 34 = .ok (.iinc 2 1, 3) := by decide +kernel
theorem d_St_rankOf_37 : decode c_St_rankOf 37 = .ok (.iinc 3 1, 3) := by decide +kernel
theorem d_St_rankOf_40 : decode c_St_rankOf 40 = .ok (.goto (-36), 3) := by decide +kernel
theorem d_St_rankOf_43 : decode c_St_rankOf 43 = .ok (.iload_n 2, 1) := by decide +kernel
theorem d_St_rankOf_44 : decode c_St_rankOf 44 = .ok (.ireturn, 1) := by decide +kernel
theorem d_St_knownWith_0 : decode c_St_knownWith 0 = .ok (.aload_n 0, 1) := by decide +kernel
theorem d_St_knownWith_1 : decode c_St_knownWith 1 = .ok (.getfield 20, 3) := by decide +kernel
theorem d_St_knownWith_4 : decode c_St_knownWith 4 = .ok (.invokevirtual 84, 3) := by decide +kernel
theorem d_St_knownWith_7 : decode c_St_knownWith 7 = .ok (.istore_n 2, 1) := by decide +kernel
theorem d_St_knownWith_8 : decode c_St_knownWith 8 = .ok (.iconst 0, 1) := by decide +kernel
theorem d_St_knownWith_9 : decode c_St_knownWith 9 = .ok (.istore_n 3, 1) := by decide +kernel
theorem d_St_knownWith_10 : decode c_St_knownWith 10 = .ok (.iload_n 3, 1) := by decide +kernel
theorem d_St_knownWith_11 : decode c_St_knownWith 11 = .ok (.aload_n 1, 1) := by decide +kernel
theorem d_St_knownWith_12 : decode c_St_knownWith 12 = .ok (.invokevirtual 84, 3) := by decide +kernel
theorem d_St_knownWith_15 : decode c_St_knownWith 15 = .ok (.if_icmp .ge 27, 3) := by decide +kernel
theorem d_St_knownWith_18 : decode c_St_knownWith 18 = .ok (.aload_n 0, 1) := by decide +kernel
theorem d_St_knownWith_19 : decode c_St_knownWith 19 = .ok (.getfield 20, 3) := by decide +kernel
theorem d_St_knownWith_22 : decode c_St_knownWith 22 = .ok (.aload_n 1, 1) := by decide +kernel
theorem d_St_knownWith_23 : decode c_St_knownWith 23 = .ok (.iload_n 3, 1) := by decide +kernel
theorem d_St_knownWith_24 : decode c_St_knownWith 24 = .ok (.invokevirtual 88, 3) := by decide +kernel
theorem d_St_knownWith_27 : decode c_St_knownWith 27 = .ok (.invokevirtual 77, 3) := by decide +kernel
theorem d_St_knownWith_30 : decode c_St_knownWith 30 = .ok (.ifCond .ne 6, 3) := by decide +kernel
theorem d_St_knownWith_33 : decode c_St_knownWith 33 = .ok (.iinc 2 1, 3) := by decide +kernel
theorem d_St_knownWith_36 : decode c_St_knownWith 36 = .ok (.iinc 3 1, 3) := by decide +kernel
theorem d_St_knownWith_39 : decode c_St_knownWith 39 = .ok (.goto (-29), 3) := by decide +kernel
theorem d_St_knownWith_42 : decode c_St_knownWith 42 = .ok (.iload_n 2, 1) := by decide +kernel
theorem d_St_knownWith_43 : decode c_St_knownWith 43 = .ok (.ireturn, 1) := by decide +kernel
theorem d_St_learn_0 : decode c_St_learn 0 = .ok (.aload_n 0, 1) := by decide +kernel
theorem d_St_learn_1 : decode c_St_learn 1 = .ok (.getfield 20, 3) := by decide +kernel
theorem d_St_learn_4 : decode c_St_learn 4 = .ok (.iload_n 1, 1) := by decide +kernel
theorem d_St_learn_5 : decode c_St_learn 5 = .ok (.invokevirtual 102, 3) := by decide +kernel
theorem d_St_learn_8 : decode c_St_learn 8 = .ok (.istore_n 2, 1) := by decide +kernel
theorem d_St_learn_9 : decode c_St_learn 9 = .ok (.iload_n 2, 1) := by decide +kernel
theorem d_St_learn_10 : decode c_St_learn 10 = .ok (.iconst (-1), 1) := by decide +kernel
theorem d_St_learn_11 : decode c_St_learn 11 = .ok (.if_icmp .eq 5, 3) := by decide +kernel
theorem d_St_learn_14 : decode c_St_learn 14 = .ok (.iload_n 2, 1) := by decide +kernel
theorem d_St_learn_15 : decode c_St_learn 15 = .ok (.ireturn, 1) := by decide +kernel
theorem d_St_learn_16 : decode c_St_learn 16 = .ok (.aload_n 0, 1) := by decide +kernel
theorem d_St_learn_17 : decode c_St_learn 17 = .ok (.getfield 20, 3) := by decide +kernel
theorem d_St_learn_20 : decode c_St_learn 20 = .ok (.iload_n 1, 1) := by decide +kernel
theorem d_St_learn_21 : decode c_St_learn 21 = .ok (.invokevirtual 54, 3) := by decide +kernel
theorem d_St_learn_24 : decode c_St_learn 24 = .ok (.aload_n 0, 1) := by decide +kernel
theorem d_St_learn_25 : decode c_St_learn 25 = .ok (.getfield 23, 3) := by decide +kernel
theorem d_St_learn_28 : decode c_St_learn 28 = .ok (.iconst 0, 1) := by decide +kernel
theorem d_St_learn_29 : decode c_St_learn 29 = .ok (.invokevirtual 54, 3) := by decide +kernel
theorem d_St_learn_32 : decode c_St_learn 32 = .ok (.aload_n 0, 1) := by decide +kernel
theorem d_St_learn_33 : decode c_St_learn 33 = .ok (.getfield 26, 3) := by decide +kernel
theorem d_St_learn_36 : decode c_St_learn 36 = .ok (.iconst 0, 1) := by decide +kernel
theorem d_St_learn_37 : decode c_St_learn 37 = .ok (.invokevirtual 54, 3) := by decide +kernel
theorem d_St_learn_40 : decode c_St_learn 40 = .ok (.aload_n 0, 1) := by decide +kernel
theorem d_St_learn_41 : decode c_St_learn 41 = .ok (.getfield 29, 3) := by decide +kernel
theorem d_St_learn_44 : decode c_St_learn 44 = .ok (.iconst 0, 1) := by decide +kernel
theorem d_St_learn_45 : decode c_St_learn 45 = .ok (.invokevirtual 54, 3) := by decide +kernel
theorem d_St_learn_48 : decode c_St_learn 48 = .ok (.aload_n 0, 1) := by decide +kernel
theorem d_St_learn_49 : decode c_St_learn 49 = .ok (.getfield 20, 3) := by decide +kernel
theorem d_St_learn_52 : decode c_St_learn 52 = .ok (.invokevirtual 84, 3) := by decide +kernel
theorem d_St_learn_55 : decode c_St_learn 55 = .ok (.iconst 1, 1) := by decide +kernel
theorem d_St_learn_56 : decode c_St_learn 56 = .ok (.isub, 1) := by decide +kernel
theorem d_St_learn_57 : decode c_St_learn 57 = .ok (.ireturn, 1) := by decide +kernel
theorem d_St_wasGiven_0 : decode c_St_wasGiven 0 = .ok (.iconst 0, 1) := by decide +kernel
theorem d_St_wasGiven_1 : decode c_St_wasGiven 1 = .ok (.istore_n 3, 1) := by decide +kernel
theorem d_St_wasGiven_2 : decode c_St_wasGiven 2 = .ok (.iload_n 3, 1) := by decide +kernel
theorem d_St_wasGiven_3 : decode c_St_wasGiven 3 = .ok (.aload_n 0, 1) := by decide +kernel
theorem d_St_wasGiven_4 : decode c_St_wasGiven 4 = .ok (.getfield 36, 3) := by decide +kernel
theorem d_St_wasGiven_7 : decode c_St_wasGiven 7 = .ok (.invokevirtual 84, 3) := by decide +kernel
theorem d_St_wasGiven_10 : decode c_St_wasGiven 10 = .ok (.if_icmp .ge 35, 3) := by decide +kernel
theorem d_St_wasGiven_13 : decode c_St_wasGiven 13 = .ok (.aload_n 0, 1) := by decide +kernel
theorem d_St_wasGiven_14 : decode c_St_wasGiven 14 = .ok (.getfield 36, 3) := by decide +kernel
theorem d_St_wasGiven_17 : decode c_St_wasGiven 17 = .ok (.iload_n 3, 1) := by decide +kernel
theorem d_St_wasGiven_18 : decode c_St_wasGiven 18 = .ok (.invokevirtual 88, 3) := by decide +kernel
theorem d_St_wasGiven_21 : decode c_St_wasGiven 21 = .ok (.iload_n 1, 1) := by decide +kernel
theorem d_St_wasGiven_22 : decode c_St_wasGiven 22 = .ok (.if_icmp .ne 17, 3) := by decide +kernel
theorem d_St_wasGiven_25 : decode c_St_wasGiven 25 = .ok (.aload_n 0, 1) := by decide +kernel
theorem d_St_wasGiven_26 : decode c_St_wasGiven 26 = .ok (.getfield 39, 3) := by decide +kernel
theorem d_St_wasGiven_29 : decode c_St_wasGiven 29 = .ok (.iload_n 3, 1) := by decide +kernel
theorem d_St_wasGiven_30 : decode c_St_wasGiven 30 = .ok (.invokevirtual 88, 3) := by decide +kernel
theorem d_St_wasGiven_33 : decode c_St_wasGiven 33 = .ok (.iload_n 2, 1) := by decide +kernel
theorem d_St_wasGiven_34 : decode c_St_wasGiven 34 = .ok (.if_icmp .ne 5, 3) := by decide +kernel
theorem d_St_wasGiven_37 : decode c_St_wasGiven 37 = .ok (.iconst 1, 1) := by decide +kernel
theorem d_St_wasGiven_38 : decode c_St_wasGiven 38 = .ok (.ireturn, 1) := by decide +kernel
theorem d_St_wasGiven_39 : decode c_St_wasGiven 39 = .ok (.iinc 3 1, 3) := by decide +kernel
theorem d_St_wasGiven_42 : decode c_St_wasGiven 42 = .ok (.goto (-40), 3) := by decide +kernel
theorem d_St_wasGiven_45 : decode c_St_wasGiven 45 = .ok (.iconst 0, 1) := by decide +kernel
theorem d_St_wasGiven_46 : decode c_St_wasGiven 46 = .ok (.ireturn, 1) := by decide +kernel
theorem d_St_nextName_0 : decode c_St_nextName 0 = .ok (.aload_n 0, 1) := by decide +kernel
theorem d_St_nextName_1 : decode c_St_nextName 1 = .ok (.iload_n 1, 1) := by decide +kernel
theorem d_St_nextName_2 : decode c_St_nextName 2 = .ok (.iconst 0, 1) := by decide +kernel
theorem d_St_nextName_3 : decode c_St_nextName 3 = .ok (.invokevirtual 118, 3) := by decide +kernel
theorem d_St_nextName_6 : decode c_St_nextName 6 = .ok (.astore_n 2, 1) := by decide +kernel
theorem d_St_nextName_7 : decode c_St_nextName 7 = .ok (.aload_n 2, 1) := by decide +kernel
theorem d_St_nextName_8 : decode c_St_nextName 8 = .ok (.ifnonnull 6, 3) := by decide +kernel
theorem d_St_nextName_11 : decode c_St_nextName 11 = .ok (.bipush (-6), 2) := by decide +kernel
theorem d_St_nextName_13 : decode c_St_nextName 13 = .ok (.ireturn, 1) := by decide +kernel
theorem d_St_nextName_14 : decode c_St_nextName 14 = .ok (.iconst 0, 1) := by decide +kernel
theorem d_St_nextName_15 : decode c_St_nextName 15 = .ok (.istore_n 3, 1) := by decide +kernel
theorem d_St_nextName_16 : decode c_St_nextName 16 = .ok (.iload_n 3, 1) := by decide +kernel
theorem d_St_nextName_17 : decode c_St_nextName 17 = .ok (.aload_n 2, 1) := by decide +kernel
theorem d_St_nextName_18 : decode c_St_nextName 18 = .ok (.invokevirtual 84, 3) := by decide +kernel
theorem d_St_nextName_21 : decode c_St_nextName 21 = .ok (.if_icmp .ge 28, 3) := by decide +kernel
theorem d_St_nextName_24 : decode c_St_nextName 24 = .ok (.aload_n 0, 1) := by decide +kernel
theorem d_St_nextName_25 : decode c_St_nextName 25 = .ok (.aload_n 2, 1) := by decide +kernel
theorem d_St_nextName_26 : decode c_St_nextName 26 = .ok (.iload_n 3, 1) := by decide +kernel
theorem d_St_nextName_27 : decode c_St_nextName 27 = .ok (.invokevirtual 88, 3) := by decide +kernel
theorem d_St_nextName_30 : decode c_St_nextName 30 = .ok (.iload_n 1, 1) := by decide +kernel
theorem d_St_nextName_31 : decode c_St_nextName 31 = .ok (.invokevirtual 121, 3) := by decide +kernel
theorem d_St_nextName_34 : decode c_St_nextName 34 = .ok (.ifCond .ne 9, 3) := by decide +kernel
theorem d_St_nextName_37 : decode c_St_nextName 37 = .ok (.aload_n 2, 1) := by decide +kernel
theorem d_St_nextName_38 : decode c_St_nextName 38 = .ok (.iload_n 3, 1) := by decide +kernel
theorem d_St_nextName_39 : decode c_St_nextName 39 = .ok (.invokevirtual 88, 3) := by decide +kernel
theorem d_St_nextName_42 : decode c_St_nextName 42 = .ok (.ireturn, 1) := by decide +kernel
theorem d_St_nextName_43 : decode c_St_nextName 43 = .ok (.iinc 3 1, 3) := by decide +kernel
theorem d_St_nextName_46 : decode c_St_nextName 46 = .ok (.goto (-30), 3) := by decide +kernel
theorem d_St_nextName_49 : decode c_St_nextName 49 = .ok (.bipush (-6), 2) := by decide +kernel
theorem d_St_nextName_51 : decode c_St_nextName 51 = .ok (.ireturn, 1) := by decide +kernel
theorem d_St_namesLeft_0 : decode c_St_namesLeft 0 = .ok (.aload_n 0, 1) := by decide +kernel
theorem d_St_namesLeft_1 : decode c_St_namesLeft 1 = .ok (.iload_n 1, 1) := by decide +kernel
theorem d_St_namesLeft_2 : decode c_St_namesLeft 2 = .ok (.iload_n 2, 1) := by decide +kernel
theorem d_St_namesLeft_3 : decode c_St_namesLeft 3 = .ok (.invokevirtual 118, 3) := by decide +kernel
theorem d_St_namesLeft_6 : decode c_St_namesLeft 6 = .ok (.astore_n 3, 1) := by decide +kernel
theorem d_St_namesLeft_7 : decode c_St_namesLeft 7 = .ok (.aload_n 3, 1) := by decide +kernel
theorem d_St_namesLeft_8 : decode c_St_namesLeft 8 = .ok (.ifnonnull 5, 3) := by decide +kernel
theorem d_St_namesLeft_11 : decode c_St_namesLeft 11 = .ok (.iconst 0, 1) := by decide +kernel
theorem d_St_namesLeft_12 : decode c_St_namesLeft 12 = .ok (.ireturn, 1) := by decide +kernel
theorem d_St_namesLeft_13 : decode c_St_namesLeft 13 = .ok (.iconst 0, 1) := by decide +kernel
theorem d_St_namesLeft_14 : decode c_St_namesLeft 14 = .ok (.istore 4, 2) := by decide +kernel
theorem d_St_namesLeft_16 : decode c_St_namesLeft 16 = .ok (.iconst 0, 1) := by decide +kernel
theorem d_St_namesLeft_17 : decode c_St_namesLeft 17 = .ok (.istore 5, 2) := by decide +kernel
theorem d_St_namesLeft_19 : decode c_St_namesLeft 19 = .ok (.iload 5, 2) := by decide +kernel
theorem d_St_namesLeft_21 : decode c_St_namesLeft 21 = .ok (.aload_n 3, 1) := by decide +kernel
theorem d_St_namesLeft_22 : decode c_St_namesLeft 22 = .ok (.invokevirtual 84, 3) := by decide +kernel
theorem d_St_namesLeft_25 : decode c_St_namesLeft 25 = .ok (.if_icmp .ge 30, 3) := by decide +kernel
theorem d_St_namesLeft_28 : decode c_St_namesLeft 28 = .ok (.iload_n 2, 1) := by decide +kernel
theorem d_St_namesLeft_29 : decode c_St_namesLeft 29 = .ok (.ifCond .gt 17, 3) := by decide +kernel
theorem d_St_namesLeft_32 : decode c_St_namesLeft 32 = .ok (.aload_n 0, 1) := by decide +kernel
theorem d_St_namesLeft_33 : decode c_St_namesLeft 33 = .ok (.aload_n 3, 1) := by decide +kernel
theorem d_St_namesLeft_34 : decode c_St_namesLeft 34 = .ok (.iload 5, 2) := by decide +kernel
theorem d_St_namesLeft_36 : decode c_St_namesLeft 36 = .ok (.invokevirtual 88, 3) := by decide +kernel
theorem d_St_namesLeft_39 : decode c_St_namesLeft 39 = .ok (.iload_n 1, 1) := by decide +kernel
theorem d_St_namesLeft_40 : decode c_St_namesLeft 40 = .ok (.invokevirtual 121, 3) := by decide +kernel
theorem d_St_namesLeft_43 : decode c_St_namesLeft 43 = .ok (.ifCond .ne 6, 3) := by decide +kernel
theorem d_St_namesLeft_46 : decode c_St_namesLeft 46 = .ok (.iinc 4 1, 3) := by decide +kernel
theorem d_St_namesLeft_49 : decode c_St_namesLeft 49 = .ok (.iinc 5 1, 3) := by decide +kernel
theorem d_St_namesLeft_52 : decode c_St_namesLeft 52 = .ok (.goto (-33), 3) := by decide +kernel
theorem d_St_namesLeft_55 : decode c_St_namesLeft 55 = .ok (.iload 4, 2) := by decide +kernel
theorem d_St_namesLeft_57 : decode c_St_namesLeft 57 = .ok (.ireturn, 1) := by decide +kernel
theorem d_St_addStorm_0 : decode c_St_addStorm 0 = .ok (.aload_n 0, 1) := by decide +kernel
theorem d_St_addStorm_1 : decode c_St_addStorm 1 = .ok (.getfield 36, 3) := by decide +kernel
theorem d_St_addStorm_4 : decode c_St_addStorm 4 = .ok (.iload_n 1, 1) := by decide +kernel
theorem d_St_addStorm_5 : decode c_St_addStorm 5 = .ok (.invokevirtual 54, 3) := by decide +kernel
theorem d_St_addStorm_8 : decode c_St_addStorm 8 = .ok (.aload_n 0, 1) := by decide +kernel
theorem d_St_addStorm_9 : decode c_St_addStorm 9 = .ok (.getfield 39, 3) := by decide +kernel
theorem d_St_addStorm_12 : decode c_St_addStorm 12 = .ok (.iload_n 2, 1) := by decide +kernel
theorem d_St_addStorm_13 : decode c_St_addStorm 13 = .ok (.invokevirtual 54, 3) := by decide +kernel
theorem d_St_addStorm_16 : decode c_St_addStorm 16 = .ok (.aload_n 0, 1) := by decide +kernel
theorem d_St_addStorm_17 : decode c_St_addStorm 17 = .ok (.getfield 42, 3) := by decide +kernel
theorem d_St_addStorm_20 : decode c_St_addStorm 20 = .ok (.iconst 0, 1) := by decide +kernel
theorem d_St_addStorm_21 : decode c_St_addStorm 21 = .ok (.invokevirtual 54, 3) := by decide +kernel
theorem d_St_addStorm_24 : decode c_St_addStorm 24 = .ok (.aload_n 0, 1) := by decide +kernel
theorem d_St_addStorm_25 : decode c_St_addStorm 25 = .ok (.getfield 26, 3) := by decide +kernel
theorem d_St_addStorm_28 : decode c_St_addStorm 28 = .ok (.iload_n 1, 1) := by decide +kernel
theorem d_St_addStorm_29 : decode c_St_addStorm 29 = .ok (.iconst 1, 1) := by decide +kernel
theorem d_St_addStorm_30 : decode c_St_addStorm 30 = .ok (.invokevirtual 124, 3) := by decide +kernel
theorem d_St_addStorm_33 : decode c_St_addStorm 33 = .ok (.aload_n 0, 1) := by decide +kernel
theorem d_St_addStorm_34 : decode c_St_addStorm 34 = .ok (.getfield 36, 3) := by decide +kernel
theorem d_St_addStorm_37 : decode c_St_addStorm 37 = .ok (.invokevirtual 84, 3) := by decide +kernel
theorem d_St_addStorm_40 : decode c_St_addStorm 40 = .ok (.iconst 1, 1) := by decide +kernel
theorem d_St_addStorm_41 : decode c_St_addStorm 41 = .ok (.isub, 1) := by decide +kernel
theorem d_St_addStorm_42 : decode c_St_addStorm 42 = .ok (.ireturn, 1) := by decide +kernel
theorem d_St_twinOf_0 : decode c_St_twinOf 0 = .ok (.iconst 0, 1) := by decide +kernel
theorem d_St_twinOf_1 : decode c_St_twinOf 1 = .ok (.istore_n 2, 1) := by decide +kernel
theorem d_St_twinOf_2 : decode c_St_twinOf 2 = .ok (.iload_n 2, 1) := by decide +kernel
theorem d_St_twinOf_3 : decode c_St_twinOf 3 = .ok (.aload_n 0, 1) := by decide +kernel
theorem d_St_twinOf_4 : decode c_St_twinOf 4 = .ok (.getfield 36, 3) := by decide +kernel
theorem d_St_twinOf_7 : decode c_St_twinOf 7 = .ok (.invokevirtual 84, 3) := by decide +kernel
theorem d_St_twinOf_10 : decode c_St_twinOf 10 = .ok (.if_icmp .ge 35, 3) := by decide +kernel
theorem d_St_twinOf_13 : decode c_St_twinOf 13 = .ok (.iload_n 2, 1) := by decide +kernel
theorem d_St_twinOf_14 : decode c_St_twinOf 14 = .ok (.iload_n 1, 1) := by decide +kernel
theorem d_St_twinOf_15 : decode c_St_twinOf 15 = .ok (.if_icmp .eq 24, 3) := by decide +kernel
theorem d_St_twinOf_18 : decode c_St_twinOf 18 = .ok (.aload_n 0, 1) := by decide +kernel
theorem d_St_twinOf_19 : decode c_St_twinOf 19 = .ok (.getfield 36, 3) := by decide +kernel
theorem d_St_twinOf_22 : decode c_St_twinOf 22 = .ok (.iload_n 2, 1) := by decide +kernel
theorem d_St_twinOf_23 : decode c_St_twinOf 23 = .ok (.invokevirtual 88, 3) := by decide +kernel
theorem d_St_twinOf_26 : decode c_St_twinOf 26 = .ok (.aload_n 0, 1) := by decide +kernel
theorem d_St_twinOf_27 : decode c_St_twinOf 27 = .ok (.getfield 36, 3) := by decide +kernel
theorem d_St_twinOf_30 : decode c_St_twinOf 30 = .ok (.iload_n 1, 1) := by decide +kernel
theorem d_St_twinOf_31 : decode c_St_twinOf 31 = .ok (.invokevirtual 88, 3) := by decide +kernel
theorem d_St_twinOf_34 : decode c_St_twinOf 34 = .ok (.if_icmp .ne 5, 3) := by decide +kernel
theorem d_St_twinOf_37 : decode c_St_twinOf 37 = .ok (.iload_n 2, 1) := by decide +kernel
theorem d_St_twinOf_38 : decode c_St_twinOf 38 = .ok (.ireturn, 1) := by decide +kernel
theorem d_St_twinOf_39 : decode c_St_twinOf 39 = .ok (.iinc 2 1, 3) := by decide +kernel
theorem d_St_twinOf_42 : decode c_St_twinOf 42 = .ok (.goto (-40), 3) := by decide +kernel
theorem d_St_twinOf_45 : decode c_St_twinOf 45 = .ok (.bipush (-6), 2) := by decide +kernel
theorem d_St_twinOf_47 : decode c_St_twinOf 47 = .ok (.ireturn, 1) := by decide +kernel
theorem d_St_twins_0 : decode c_St_twins 0 = .ok (.iconst 0, 1) := by decide +kernel
theorem d_St_twins_1 : decode c_St_twins 1 = .ok (.istore_n 1, 1) := by decide +kernel
theorem d_St_twins_2 : decode c_St_twins 2 = .ok (.iconst 0, 1) := by decide +kernel
theorem d_St_twins_3 : decode c_St_twins 3 = .ok (.istore_n 2, 1) := by decide +kernel
theorem d_St_twins_4 : decode c_St_twins 4 = .ok (.iload_n 2, 1) := by decide +kernel
theorem d_St_twins_5 : decode c_St_twins 5 = .ok (.aload_n 0, 1) := by decide +kernel
theorem d_St_twins_6 : decode c_St_twins 6 = .ok (.getfield 36, 3) := by decide +kernel
theorem d_St_twins_9 : decode c_St_twins 9 = .ok (.invokevirtual 84, 3) := by decide +kernel
theorem d_St_twins_12 : decode c_St_twins 12 = .ok (.if_icmp .ge 21, 3) := by decide +kernel
theorem d_St_twins_15 : decode c_St_twins 15 = .ok (.aload_n 0, 1) := by decide +kernel
theorem d_St_twins_16 : decode c_St_twins 16 = .ok (.iload_n 2, 1) := by decide +kernel
theorem d_St_twins_17 : decode c_St_twins 17 = .ok (.invokevirtual 128, 3) := by decide +kernel
theorem d_St_twins_20 : decode c_St_twins 20 = .ok (.iload_n 2, 1) := by decide +kernel
theorem d_St_twins_21 : decode c_St_twins 21 = .ok (.if_icmp .le 6, 3) := by decide +kernel
theorem d_St_twins_24 : decode c_St_twins 24 = .ok (.iinc 1 1, 3) := by decide +kernel
theorem d_St_twins_27 : decode c_St_twins 27 = .ok (.iinc 2 1, 3) := by decide +kernel
theorem d_St_twins_30 : decode c_St_twins 30 = .ok (.goto (-26), 3) := by decide +kernel
theorem d_St_twins_33 : decode c_St_twins 33 = .ok (.iload_n 1, 1) := by decide +kernel
theorem d_St_twins_34 : decode c_St_twins 34 = .ok (.ireturn, 1) := by decide +kernel
theorem d_St_harmOfYear_0 : decode c_St_harmOfYear 0 = .ok (.iconst 0, 1) := by decide +kernel
theorem d_St_harmOfYear_1 : decode c_St_harmOfYear 1 = .ok (.istore_n 2, 1) := by decide +kernel
theorem d_St_harmOfYear_2 : decode c_St_harmOfYear 2 = .ok (.iconst 0, 1) := by decide +kernel
theorem d_St_harmOfYear_3 : decode c_St_harmOfYear 3 = .ok (.istore_n 3, 1) := by decide +kernel
theorem d_St_harmOfYear_4 : decode c_St_harmOfYear 4 = .ok (.iload_n 3, 1) := by decide +kernel
theorem d_St_harmOfYear_5 : decode c_St_harmOfYear 5 = .ok (.aload_n 0, 1) := by decide +kernel
theorem d_St_harmOfYear_6 : decode c_St_harmOfYear 6 = .ok (.getfield 36, 3) := by decide +kernel
theorem d_St_harmOfYear_9 : decode c_St_harmOfYear 9 = .ok (.invokevirtual 84, 3) := by decide +kernel
theorem d_St_harmOfYear_12 : decode c_St_harmOfYear 12 = .ok (.if_icmp .ge 32, 3) := by decide +kernel
theorem d_St_harmOfYear_15 : decode c_St_harmOfYear 15 = .ok (.aload_n 0, 1) := by decide +kernel
theorem d_St_harmOfYear_16 : decode c_St_harmOfYear 16 = .ok (.getfield 36, 3) := by decide +kernel
theorem d_St_harmOfYear_19 : decode c_St_harmOfYear 19 = .ok (.iload_n 3, 1) := by decide +kernel
theorem d_St_harmOfYear_20 : decode c_St_harmOfYear 20 = .ok (.invokevirtual 88, 3) := by decide +kernel
theorem d_St_harmOfYear_23 : decode c_St_harmOfYear 23 = .ok (.iload_n 1, 1) := by decide +kernel
theorem d_St_harmOfYear_24 : decode c_St_harmOfYear 24 = .ok (.if_icmp .ne 14, 3) := by decide +kernel
theorem d_St_harmOfYear_27 : decode c_St_harmOfYear 27 = .ok (.iload_n 2, 1) := by decide +kernel
theorem d_St_harmOfYear_28 : decode c_St_harmOfYear 28 = .ok (.aload_n 0, 1) := by decide +kernel
theorem d_St_harmOfYear_29 : decode c_St_harmOfYear 29 = .ok (.getfield 42, 3) := by decide +kernel
theorem d_St_harmOfYear_32 : decode c_St_harmOfYear 32 = .ok (.iload_n 3, 1) := by decide +kernel
theorem d_St_harmOfYear_33 : decode c_St_harmOfYear 33 = .ok (.invokevirtual 88, 3) := by decide +kernel
theorem d_St_harmOfYear_36 : decode c_St_harmOfYear 36 = .ok (.iadd, 1) := by decide +kernel
theorem d_St_harmOfYear_37 : decode c_St_harmOfYear 37 = .ok (.istore_n 2, 1) := by decide +kernel
theorem d_St_harmOfYear_38 : decode c_St_harmOfYear 38 = .ok (.iinc 3 1, 3) := by decide +kernel
theorem d_St_harmOfYear_41 : decode c_St_harmOfYear 41 = .ok (.goto (-37), 3) := by decide +kernel
theorem d_St_harmOfYear_44 : decode c_St_harmOfYear 44 = .ok (.iload_n 2, 1) := by decide +kernel
theorem d_St_harmOfYear_45 : decode c_St_harmOfYear 45 = .ok (.ireturn, 1) := by decide +kernel
theorem d_St_harmedBy_0 : decode c_St_harmedBy 0 = .ok (.iconst 0, 1) := by decide +kernel
theorem d_St_harmedBy_1 : decode c_St_harmedBy 1 = .ok (.istore_n 2, 1) := by decide +kernel
theorem d_St_harmedBy_2 : decode c_St_harmedBy 2 = .ok (.iconst 0, 1) := by decide +kernel
theorem d_St_harmedBy_3 : decode c_St_harmedBy 3 = .ok (.istore_n 3, 1) := by decide +kernel
theorem d_St_harmedBy_4 : decode c_St_harmedBy 4 = .ok (.iload_n 3, 1) := by decide +kernel
theorem d_St_harmedBy_5 : decode c_St_harmedBy 5 = .ok (.aload_n 0, 1) := by decide +kernel
theorem d_St_harmedBy_6 : decode c_St_harmedBy 6 = .ok (.getfield 20, 3) := by decide +kernel
theorem d_St_harmedBy_9 : decode c_St_harmedBy 9 = .ok (.invokevirtual 84, 3) := by decide +kernel
theorem d_St_harmedBy_12 : decode c_St_harmedBy 12 = .ok (.if_icmp .ge 21, 3) := by decide +kernel
theorem d_St_harmedBy_15 : decode c_St_harmedBy 15 = .ok (.aload_n 0, 1) := by decide +kernel
theorem d_St_harmedBy_16 : decode c_St_harmedBy 16 = .ok (.iload_n 3, 1) := by decide +kernel
theorem d_St_harmedBy_17 : decode c_St_harmedBy 17 = .ok (.invokevirtual 131, 3) := by decide +kernel
theorem d_St_harmedBy_20 : decode c_St_harmedBy 20 = .ok (.iload_n 1, 1) := by decide +kernel
theorem d_St_harmedBy_21 : decode c_St_harmedBy 21 = .ok (.if_icmp .lt 6, 3) := by decide +kernel
theorem d_St_harmedBy_24 : decode c_St_harmedBy 24 = .ok (.iinc 2 1, 3) := by decide +kernel
theorem d_St_harmedBy_27 : decode c_St_harmedBy 27 = .ok (.iinc 3 1, 3) := by decide +kernel
theorem d_St_harmedBy_30 : decode c_St_harmedBy 30 = .ok (.goto (-26), 3) := by decide +kernel
theorem d_St_harmedBy_33 : decode c_St_harmedBy 33 = .ok (.iload_n 2, 1) := by decide +kernel
theorem d_St_harmedBy_34 : decode c_St_harmedBy 34 = .ok (.ireturn, 1) := by decide +kernel
theorem d_St_oweApologies_0 : decode c_St_oweApologies 0 = .ok (.iconst 0, 1) := by decide +kernel
theorem d_St_oweApologies_1 : decode c_St_oweApologies 1 = .ok (.istore_n 1, 1) := by decide +kernel
theorem d_St_oweApologies_2 : decode c_St_oweApologies 2 = .ok (.iload_n 1, 1) := by decide +kernel
theorem d_St_oweApologies_3 : decode c_St_oweApologies 3 = .ok (.aload_n 0, 1) := by decide +kernel
theorem d_St_oweApologies_4 : decode c_St_oweApologies 4 = .ok (.getfield 45, 3) := by decide +kernel
theorem d_St_oweApologies_7 : decode c_St_oweApologies 7 = .ok (.invokevirtual 84, 3) := by decide +kernel
theorem d_St_oweApologies_10 : decode c_St_oweApologies 10 = .ok (.if_icmp .ge 41, 3) := by decide +kernel
theorem d_St_oweApologies_13 : decode c_St_oweApologies 13 = .ok (.aload_n 0, 1) := by decide +kernel
theorem d_St_oweApologies_14 : decode c_St_oweApologies 14 = .ok (.aload_n 0, 1) := by decide +kernel
theorem d_St_oweApologies_15 : decode c_St_oweApologies 15 = .ok (.getfield 45, 3) := by decide +kernel
theorem d_St_oweApologies_18 : decode c_St_oweApologies 18 = .ok (.iload_n 1, 1) := by decide +kernel
theorem d_St_oweApologies_19 : decode c_St_oweApologies 19 = .ok (.invokevirtual 88, 3) := by decide +kernel
theorem d_St_oweApologies_22 : decode c_St_oweApologies 22 = .ok (.invokevirtual 131, 3) := by decide +kernel
theorem d_St_oweApologies_25 : decode c_St_oweApologies 25 = .ok (.aload_n 0, 1) := by decide +kernel
theorem d_St_oweApologies_26 : decode c_St_oweApologies 26 = .ok (.getfield 14, 3) := by decide +kernel
theorem d_St_oweApologies_29 : decode c_St_oweApologies 29 = .ok (.iconst 1, 1) := by decide +kernel
theorem d_St_oweApologies_30 : decode c_St_oweApologies 30 = .ok (.invokevirtual 88, 3) := by decide +kernel
theorem d_St_oweApologies_33 : decode c_St_oweApologies 33 = .ok (.if_icmp .lt 12, 3) := by decide +kernel
theorem d_St_oweApologies_36 : decode c_St_oweApologies 36 = .ok (.aload_n 0, 1) := by decide +kernel
theorem d_St_oweApologies_37 : decode c_St_oweApologies 37 = .ok (.getfield 48, 3) := by decide +kernel
theorem d_St_oweApologies_40 : decode c_St_oweApologies 40 = .ok (.iload_n 1, 1) := by decide +kernel
theorem d_St_oweApologies_41 : decode c_St_oweApologies 41 = .ok (.iconst 1, 1) := by decide +kernel
theorem d_St_oweApologies_42 : decode c_St_oweApologies 42 = .ok (.invokevirtual 124, 3) := by decide +kernel
theorem d_St_oweApologies_45 : decode c_St_oweApologies 45 = .ok (.iinc 1 1, 3) := by decide +kernel
theorem d_St_oweApologies_48 : decode c_St_oweApologies 48 = .ok (.goto (-46), 3) := by decide +kernel
theorem d_St_oweApologies_51 : decode c_St_oweApologies 51 = .ok (.return_, 1) := by decide +kernel
theorem d_St_retireHarmed_0 : decode c_St_retireHarmed 0 = .ok (.iconst 0, 1) := by decide +kernel
theorem d_St_retireHarmed_1 : decode c_St_retireHarmed 1 = .ok (.istore_n 1, 1) := by decide +kernel
theorem d_St_retireHarmed_2 : decode c_St_retireHarmed 2 = .ok (.iconst 0, 1) := by decide +kernel
theorem d_St_retireHarmed_3 : decode c_St_retireHarmed 3 = .ok (.istore_n 2, 1) := by decide +kernel
theorem d_St_retireHarmed_4 : decode c_St_retireHarmed 4 = .ok (.iload_n 2, 1) := by decide +kernel
theorem d_St_retireHarmed_5 : decode c_St_retireHarmed 5 = .ok (.aload_n 0, 1) := by decide +kernel
theorem d_St_retireHarmed_6 : decode c_St_retireHarmed 6 = .ok (.getfield 20, 3) := by decide +kernel
theorem d_St_retireHarmed_9 : decode c_St_retireHarmed 9 = .ok (.invokevirtual 84, 3) := by decide +kernel
theorem d_St_retireHarmed_12 : decode c_St_retireHarmed 12 = .ok (.if_icmp .ge 33, 3) := by decide +kernel
theorem d_St_retireHarmed_15 : decode c_St_retireHarmed 15 = .ok (.aload_n 0, 1) := by decide +kernel
theorem d_St_retireHarmed_16 : decode c_St_retireHarmed 16 = .ok (.iload_n 2, 1) := by decide +kernel
theorem d_St_retireHarmed_17 : decode c_St_retireHarmed 17 = .ok (.invokevirtual 131, 3) := by decide +kernel
theorem d_St_retireHarmed_20 : decode c_St_retireHarmed 20 = .ok (.aload_n 0, 1) := by decide +kernel
theorem d_St_retireHarmed_21 : decode c_St_retireHarmed 21 = .ok (.getfield 14, 3) := by decide +kernel
theorem d_St_retireHarmed_24 : decode c_St_retireHarmed 24 = .ok (.iconst 0, 1) := by decide +kernel
theorem d_St_retireHarmed_25 : decode c_St_retireHarmed 25 = .ok (.invokevirtual 88, 3) := by decide +kernel
theorem d_St_retireHarmed_28 : decode c_St_retireHarmed 28 = .ok (.if_icmp .lt 11, 3) := by decide +kernel
theorem d_St_retireHarmed_31 : decode c_St_retireHarmed 31 = .ok (.aload_n 0, 1) := by decide +kernel
theorem d_St_retireHarmed_32 : decode c_St_retireHarmed 32 = .ok (.iload_n 2, 1) := by decide +kernel
theorem d_St_retireHarmed_33 : decode c_St_retireHarmed 33 = .ok (.invokevirtual 134, 3) := by decide +kernel
theorem d_St_retireHarmed_36 : decode c_St_retireHarmed 36 = .ok (.iinc 1 1, 3) := by decide +kernel
theorem d_St_retireHarmed_39 : decode c_St_retireHarmed 39 = .ok (.iinc 2 1, 3) := by decide +kernel
theorem d_St_retireHarmed_42 : decode c_St_retireHarmed 42 = .ok (.goto (-38), 3) := by decide +kernel
theorem d_St_retireHarmed_45 : decode c_St_retireHarmed 45 = .ok (.iload_n 1, 1) := by decide +kernel
theorem d_St_retireHarmed_46 : decode c_St_retireHarmed 46 = .ok (.ireturn, 1) := by decide +kernel
theorem d_St_retire_0 : decode c_St_retire 0 = .ok (.aload_n 0, 1) := by decide +kernel
theorem d_St_retire_1 : decode c_St_retire 1 = .ok (.getfield 23, 3) := by decide +kernel
theorem d_St_retire_4 : decode c_St_retire 4 = .ok (.iload_n 1, 1) := by decide +kernel
theorem d_St_retire_5 : decode c_St_retire 5 = .ok (.iconst 1, 1) := by decide +kernel
theorem d_St_retire_6 : decode c_St_retire 6 = .ok (.invokevirtual 137, 3) := by decide +kernel
theorem d_St_retire_9 : decode c_St_retire 9 = .ok (.iconst 0, 1) := by decide +kernel
theorem d_St_retire_10 : decode c_St_retire 10 = .ok (.istore_n 2, 1) := by decide +kernel
theorem d_St_retire_11 : decode c_St_retire 11 = .ok (.iload_n 2, 1) := by decide +kernel
theorem d_St_retire_12 : decode c_St_retire 12 = .ok (.iconst 2, 1) := by decide +kernel
theorem d_St_retire_13 : decode c_St_retire 13 = .ok (.if_icmp .ge 46, 3) := by decide +kernel
theorem d_St_retire_16 : decode c_St_retire 16 = .ok (.iconst 0, 1) := by decide +kernel
theorem d_St_retire_17 : decode c_St_retire 17 = .ok (.istore_n 3, 1) := by decide +kernel
theorem d_St_retire_18 : decode c_St_retire 18 = .ok (.iload_n 3, 1) := by decide +kernel
theorem d_St_retire_19 : decode c_St_retire 19 = .ok (.iconst 3, 1) := by decide +kernel
theorem d_St_retire_20 : decode c_St_retire 20 = .ok (.if_icmp .ge 33, 3) := by decide +kernel
theorem d_St_retire_23 : decode c_St_retire 23 = .ok (.aload_n 0, 1) := by decide +kernel
theorem d_St_retire_24 : decode c_St_retire 24 = .ok (.iload_n 2, 1) := by decide +kernel
theorem d_St_retire_25 : decode c_St_retire 25 = .ok (.iload_n 3, 1) := by decide +kernel
theorem d_St_retire_26 : decode c_St_retire 26 = .ok (.invokevirtual 65, 3) := by decide +kernel
theorem d_St_retire_29 : decode c_St_retire 29 = .ok (.astore 4, 2) := by decide +kernel
theorem d_St_retire_31 : decode c_St_retire 31 = .ok (.aload 4, 2) := by decide +kernel
theorem d_St_retire_33 : decode c_St_retire 33 = .ok (.ifnull 14, 3) := by decide +kernel
theorem d_St_retire_36 : decode c_St_retire 36 = .ok (.aload 4, 2) := by decide +kernel
theorem d_St_retire_38 : decode c_St_retire 38 = .ok (.aload 4, 2) := by decide +kernel
theorem d_St_retire_40 : decode c_St_retire 40 = .ok (.iload_n 1, 1) := by decide +kernel
theorem d_St_retire_41 : decode c_St_retire 41 = .ok (.invokevirtual 102, 3) := by decide +kernel
theorem d_St_retire_44 : decode c_St_retire 44 = .ok (.invokevirtual 140, 3) := by decide +kernel
theorem d_St_retire_47 : decode c_St_retire 47 = .ok (.iinc 3 1, 3) := by decide +kernel
theorem d_St_retire_50 : decode c_St_retire 50 = .ok (.goto (-32), 3) := by decide +kernel
theorem d_St_retire_53 : decode c_St_retire 53 = .ok (.iinc 2 1, 3) := by decide +kernel
theorem d_St_retire_56 : decode c_St_retire 56 = .ok (.goto (-45), 3) := by decide +kernel
theorem d_St_retire_59 : decode c_St_retire 59 = .ok (.return_, 1) := by decide +kernel
theorem d_St_beginNextYear_0 : decode c_St_beginNextYear 0 = .ok (.aload_n 0, 1) := by decide +kernel
theorem d_St_beginNextYear_1 : decode c_St_beginNextYear 1 = .ok (.getfield 36, 3) := by decide +kernel
theorem d_St_beginNextYear_4 : decode c_St_beginNextYear 4 = .ok (.invokevirtual 143, 3) := by decide +kernel
theorem d_St_beginNextYear_7 : decode c_St_beginNextYear 7 = .ok (.aload_n 0, 1) := by decide +kernel
theorem d_St_beginNextYear_8 : decode c_St_beginNextYear 8 = .ok (.getfield 39, 3) := by decide +kernel
theorem d_St_beginNextYear_11 : decode c_St_beginNextYear 11 = .ok (.invokevirtual 143, 3) := by decide +kernel
theorem d_St_beginNextYear_14 : decode c_St_beginNextYear 14 = .ok (.aload_n 0, 1) := by decide +kernel
theorem d_St_beginNextYear_15 : decode c_St_beginNextYear 15 = .ok (.getfield 42, 3) := by decide +kernel
theorem d_St_beginNextYear_18 : decode c_St_beginNextYear 18 = .ok (.invokevirtual 143, 3) := by decide +kernel
theorem d_St_beginNextYear_21 : decode c_St_beginNextYear 21 = .ok (.aload_n 0, 1) := by decide +kernel
theorem d_St_beginNextYear_22 : decode c_St_beginNextYear 22 = .ok (.dup, 1) := by decide +kernel
theorem d_St_beginNextYear_23 : decode c_St_beginNextYear 23 = .ok (.getfield 57, 3) := by decide +kernel
theorem d_St_beginNextYear_26 : decode c_St_beginNextYear 26 = .ok (.iconst 1, 1) := by decide +kernel
theorem d_St_beginNextYear_27 : decode c_St_beginNextYear 27 = .ok (.iadd, 1) := by decide +kernel
theorem d_St_beginNextYear_28 : decode c_St_beginNextYear 28 = .ok (.putfield 57, 3) := by decide +kernel
theorem d_St_beginNextYear_31 : decode c_St_beginNextYear 31 = .ok (.return_, 1) := by decide +kernel
theorem d_St_addNamesake_0 : decode c_St_addNamesake 0 = .ok (.aload_n 0, 1) := by decide +kernel
theorem d_St_addNamesake_1 : decode c_St_addNamesake 1 = .ok (.getfield 45, 3) := by decide +kernel
theorem d_St_addNamesake_4 : decode c_St_addNamesake 4 = .ok (.iload_n 1, 1) := by decide +kernel
theorem d_St_addNamesake_5 : decode c_St_addNamesake 5 = .ok (.invokevirtual 54, 3) := by decide +kernel
theorem d_St_addNamesake_8 : decode c_St_addNamesake 8 = .ok (.aload_n 0, 1) := by decide +kernel
theorem d_St_addNamesake_9 : decode c_St_addNamesake 9 = .ok (.getfield 48, 3) := by decide +kernel
theorem d_St_addNamesake_12 : decode c_St_addNamesake 12 = .ok (.iconst 0, 1) := by decide +kernel
theorem d_St_addNamesake_13 : decode c_St_addNamesake 13 = .ok (.invokevirtual 54, 3) := by decide +kernel
theorem d_St_addNamesake_16 : decode c_St_addNamesake 16 = .ok (.aload_n 0, 1) := by decide +kernel
theorem d_St_addNamesake_17 : decode c_St_addNamesake 17 = .ok (.getfield 51, 3) := by decide +kernel
theorem d_St_addNamesake_20 : decode c_St_addNamesake 20 = .ok (.iconst 0, 1) := by decide +kernel
theorem d_St_addNamesake_21 : decode c_St_addNamesake 21 = .ok (.invokevirtual 54, 3) := by decide +kernel
theorem d_St_addNamesake_24 : decode c_St_addNamesake 24 = .ok (.aload_n 0, 1) := by decide +kernel
theorem d_St_addNamesake_25 : decode c_St_addNamesake 25 = .ok (.getfield 45, 3) := by decide +kernel
theorem d_St_addNamesake_28 : decode c_St_addNamesake 28 = .ok (.invokevirtual 84, 3) := by decide +kernel
theorem d_St_addNamesake_31 : decode c_St_addNamesake 31 = .ok (.iconst 1, 1) := by decide +kernel
theorem d_St_addNamesake_32 : decode c_St_addNamesake 32 = .ok (.isub, 1) := by decide +kernel
theorem d_St_addNamesake_33 : decode c_St_addNamesake 33 = .ok (.ireturn, 1) := by decide +kernel
theorem d_St_namesakesOf_0 : decode c_St_namesakesOf 0 = .ok (.aload_n 0, 1) := by decide +kernel
theorem d_St_namesakesOf_1 : decode c_St_namesakesOf 1 = .ok (.getfield 45, 3) := by decide +kernel
theorem d_St_namesakesOf_4 : decode c_St_namesakesOf 4 = .ok (.iload_n 1, 1) := by decide +kernel
theorem d_St_namesakesOf_5 : decode c_St_namesakesOf 5 = .ok (.invokevirtual 146, 3) := by decide +kernel
theorem d_St_namesakesOf_8 : decode c_St_namesakesOf 8 = .ok (.ireturn, 1) := by decide +kernel
