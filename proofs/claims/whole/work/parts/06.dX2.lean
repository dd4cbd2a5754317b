theorem dX2_init_0 : decode cX2_init 0 = .ok (.aload_n 0, 1) := by decide +kernel
theorem dX2_init_1 : decode cX2_init 1 = .ok (.invokespecial 3, 3) := by decide +kernel
theorem dX2_init_4 : decode cX2_init 4 = .ok (.aload_n 0, 1) := by decide +kernel
theorem dX2_init_5 : decode cX2_init 5 = .ok (.bipush 50, 2) := by decide +kernel
theorem dX2_init_7 : decode cX2_init 7 = .ok (.putfield 9, 3) := by decide +kernel
theorem dX2_init_10 : decode cX2_init 10 = .ok (.aload_n 0, 1) := by decide +kernel
theorem dX2_init_11 : decode cX2_init 11 = .ok (.bipush 6, 2) := by decide +kernel
theorem dX2_init_13 : decode cX2_init 13 = .ok (.newarray .int, 2) := by decide +kernel
theorem dX2_init_15 : decode cX2_init 15 = .ok (.dup, 1) := by decide +kernel
theorem dX2_init_16 : decode cX2_init 16 = .ok (.iconst 0, 1) := by decide +kernel
theorem dX2_init_17 : decode cX2_init 17 = .ok (.bipush 60, 2) := by decide +kernel
theorem dX2_init_19 : decode cX2_init 19 = .ok (.iastore, 1) := by decide +kernel
theorem dX2_init_20 : decode cX2_init 20 = .ok (.dup, 1) := by decide +kernel
theorem dX2_init_21 : decode cX2_init 21 = .ok (.iconst 1, 1) := by decide +kernel
theorem dX2_init_22 : decode cX2_init 22 = .ok (.bipush 60, 2) := by decide +kernel
theorem dX2_init_24 : decode cX2_init 24 = .ok (.iastore, 1) := by decide +kernel
theorem dX2_init_25 : decode cX2_init 25 = .ok (.dup, 1) := by decide +kernel
theorem dX2_init_26 : decode cX2_init 26 = .ok (.iconst 2, 1) := by decide +kernel
theorem dX2_init_27 : decode cX2_init 27 = .ok (.bipush 60, 2) := by decide +kernel
theorem dX2_init_29 : decode cX2_init 29 = .ok (.iastore, 1) := by decide +kernel
theorem dX2_init_30 : decode cX2_init 30 = .ok (.dup, 1) := by decide +kernel
theorem dX2_init_31 : decode cX2_init 31 = .ok (.iconst 3, 1) := by decide +kernel
theorem dX2_init_32 : decode cX2_init 32 = .ok (.bipush 60, 2) := by decide +kernel
theorem dX2_init_34 : decode cX2_init 34 = .ok (.iastore, 1) := by decide +kernel
theorem dX2_init_35 : decode cX2_init 35 = .ok (.dup, 1) := by decide +kernel
theorem dX2_init_36 : decode cX2_init 36 = .ok (.iconst 4, 1) := by decide +kernel
theorem dX2_init_37 : decode cX2_init 37 = .ok (.bipush 60, 2) := by decide +kernel
theorem dX2_init_39 : decode cX2_init 39 = .ok (.iastore, 1) := by decide +kernel
theorem dX2_init_40 : decode cX2_init 40 = .ok (.dup, 1) := by decide +kernel
theorem dX2_init_41 : decode cX2_init 41 = .ok (.iconst 5, 1) := by decide +kernel
theorem dX2_init_42 : decode cX2_init 42 = .ok (.bipush 60, 2) := by decide +kernel
theorem dX2_init_44 : decode cX2_init 44 = .ok (.iastore, 1) := by decide +kernel
theorem dX2_init_45 : decode cX2_init 45 = .ok (.putfield 15, 3) := by decide +kernel
theorem dX2_init_48 : decode cX2_init 48 = .ok (.aload_n 0, 1) := by decide +kernel
theorem dX2_init_49 : decode cX2_init 49 = .ok (.bipush 6, 2) := by decide +kernel
theorem dX2_init_51 : decode cX2_init 51 = .ok (.newarray .int, 2) := by decide +kernel
theorem dX2_init_53 : decode cX2_init 53 = .ok (.putfield 19, 3) := by decide +kernel
theorem dX2_init_56 : decode cX2_init 56 = .ok (.aload_n 0, 1) := by decide +kernel
theorem dX2_init_57 : decode cX2_init 57 = .ok (.bipush 6, 2) := by decide +kernel
theorem dX2_init_59 : decode cX2_init 59 = .ok (.newarray .int, 2) := by decide +kernel
theorem dX2_init_61 : decode cX2_init 61 = .ok (.putfield 22, 3) := by decide +kernel
theorem dX2_init_64 : decode cX2_init 64 = .ok (.aload_n 0, 1) := by decide +kernel
theorem dX2_init_65 : decode cX2_init 65 = .ok (.iconst 5, 1) := by decide +kernel
theorem dX2_init_66 : decode cX2_init 66 = .ok (.newarray .int, 2) := by decide +kernel
theorem dX2_init_68 : decode cX2_init 68 = .ok (.putfield 25, 3) := by decide +kernel
theorem dX2_init_71 : decode cX2_init 71 = .ok (.aload_n 0, 1) := by decide +kernel
theorem dX2_init_72 : decode cX2_init 72 = .ok (.iconst 5, 1) := by decide +kernel
theorem dX2_init_73 : decode cX2_init 73 = .ok (.newarray .int, 2) := by decide +kernel
theorem dX2_init_75 : decode cX2_init 75 = .ok (.putfield 28, 3) := by decide +kernel
theorem dX2_init_78 : decode cX2_init 78 = .ok (.aload_n 0, 1) := by decide +kernel
theorem dX2_init_79 : decode cX2_init 79 = .ok (.iconst 5, 1) := by decide +kernel
theorem dX2_init_80 : decode cX2_init 80 = .ok (.newarray .int, 2) := by decide +kernel
theorem dX2_init_82 : decode cX2_init 82 = .ok (.putfield 31, 3) := by decide +kernel
theorem dX2_init_85 : decode cX2_init 85 = .ok (.aload_n 0, 1) := by decide +kernel
theorem dX2_init_86 : decode cX2_init 86 = .ok (.bipush 10, 2) := by decide +kernel
theorem dX2_init_88 : decode cX2_init 88 = .ok (.newarray .int, 2) := by decide +kernel
theorem dX2_init_90 : decode cX2_init 90 = .ok (.putfield 34, 3) := by decide +kernel
theorem dX2_init_93 : decode cX2_init 93 = .ok (.aload_n 0, 1) := by decide +kernel
theorem dX2_init_94 : decode cX2_init 94 = .ok (.bipush 10, 2) := by decide +kernel
theorem dX2_init_96 : decode cX2_init 96 = .ok (.newarray .int, 2) := by decide +kernel
theorem dX2_init_98 : decode cX2_init 98 = .ok (.putfield 37, 3) := by decide +kernel
theorem dX2_init_101 : decode cX2_init 101 = .ok (.aload_n 0, 1) := by decide +kernel
theorem dX2_init_102 : decode cX2_init 102 = .ok (.bipush 10, 2) := by decide +kernel
theorem dX2_init_104 : decode cX2_init 104 = .ok (.newarray .int, 2) := by decide +kernel
theorem dX2_init_106 : decode cX2_init 106 = .ok (.putfield 40, 3) := by decide +kernel
theorem dX2_init_109 : decode cX2_init 109 = .ok (.aload_n 0, 1) := by decide +kernel
theorem dX2_init_110 : decode cX2_init 110 = .ok (.bipush 10, 2) := by decide +kernel
theorem dX2_init_112 : decode cX2_init 112 = .ok (.newarray .int, 2) := by decide +kernel
theorem dX2_init_114 : decode cX2_init 114 = .ok (.dup, 1) := by decide +kernel
theorem dX2_init_115 : decode cX2_init 115 = .ok (.iconst 0, 1) := by decide +kernel
theorem dX2_init_116 : decode cX2_init 116 = .ok (.iconst (-1), 1) := by decide +kernel
theorem dX2_init_117 : decode cX2_init 117 = .ok (.iastore, 1) := by decide +kernel
theorem dX2_init_118 : decode cX2_init 118 = .ok (.dup, 1) := by decide +kernel
theorem dX2_init_119 : decode cX2_init 119 = .ok (.iconst 1, 1) := by decide +kernel
theorem dX2_init_120 : decode cX2_init 120 = .ok (.iconst (-1), 1) := by decide +kernel
theorem dX2_init_121 : decode cX2_init 121 = .ok (.iastore, 1) := by decide +kernel
theorem dX2_init_122 : decode cX2_init 122 = .ok (.dup, 1) := by decide +kernel
theorem dX2_init_123 : decode cX2_init 123 = .ok (.iconst 2, 1) := by decide +kernel
theorem dX2_init_124 : decode cX2_init 124 = .ok (.iconst (-1), 1) := by decide +kernel
theorem dX2_init_125 : decode cX2_init 125 = .ok (.iastore, 1) := by decide +kernel
theorem dX2_init_126 : decode cX2_init 126 = .ok (.dup, 1) := by decide +kernel
theorem dX2_init_127 : decode cX2_init 127 = .ok (.iconst 3, 1) := by decide +kernel
theorem dX2_init_128 : decode cX2_init 128 = .ok (.iconst (-1), 1) := by decide +kernel
theorem dX2_init_129 : decode cX2_init 129 = .ok (.iastore, 1) := by decide +kernel
theorem dX2_init_130 : decode cX2_init 130 = .ok (.dup, 1) := by decide +kernel
theorem dX2_init_131 : decode cX2_init 131 = .ok (.iconst 4, 1) := by decide +kernel
theorem dX2_init_132 : decode cX2_init 132 = .ok (.iconst (-1), 1) := by decide +kernel
theorem dX2_init_133 : decode cX2_init 133 = .ok (.iastore, 1) := by decide +kernel
theorem dX2_init_134 : decode cX2_init 134 = .ok (.dup, 1) := by decide +kernel
theorem dX2_init_135 : decode cX2_init 135 = .ok (.iconst 5, 1) := by decide +kernel
theorem dX2_init_136 : decode cX2_init 136 = .ok (.iconst (-1), 1) := by decide +kernel
theorem dX2_init_137 : decode cX2_init 137 = .ok (.iastore, 1) := by decide +kernel
theorem dX2_init_138 : decode cX2_init 138 = .ok (.dup, 1) := by decide +kernel
theorem dX2_init_139 : decode cX2_init 139 = .ok (.bipush 6, 2) := by decide +kernel
theorem dX2_init_141 : decode cX2_init 141 = .ok (.iconst (-1), 1) := by decide +kernel
theorem dX2_init_142 : decode cX2_init 142 = .ok (.iastore, 1) := by decide +kernel
theorem dX2_init_143 : decode cX2_init 143 = .ok (.dup, 1) := by decide +kernel
theorem dX2_init_144 : decode cX2_init 144 = .ok (.bipush 7, 2) := by decide +kernel
theorem dX2_init_146 : decode cX2_init 146 = .ok (.iconst (-1), 1) := by decide +kernel
theorem dX2_init_147 : decode cX2_init 147 = .ok (.iastore, 1) := by decide +kernel
theorem dX2_init_148 : decode cX2_init 148 = .ok (.dup, 1) := by decide +kernel
theorem dX2_init_149 : decode cX2_init 149 = .ok (.bipush 8, 2) := by decide +kernel
theorem dX2_init_151 : decode cX2_init 151 = .ok (.iconst (-1), 1) := by decide +kernel
theorem dX2_init_152 : decode cX2_init 152 = .ok (.iastore, 1) := by decide +kernel
theorem dX2_init_153 : decode cX2_init 153 = .ok (.dup, 1) := by decide +kernel
theorem dX2_init_154 : decode cX2_init 154 = .ok (.bipush 9, 2) := by decide +kernel
theorem dX2_init_156 : decode cX2_init 156 = .ok (.iconst (-1), 1) := by decide +kernel
theorem dX2_init_157 : decode cX2_init 157 = .ok (.iastore, 1) := by decide +kernel
theorem dX2_init_158 : decode cX2_init 158 = .ok (.putfield 43, 3) := by decide +kernel
theorem dX2_init_161 : decode cX2_init 161 = .ok (.return_, 1) := by decide +kernel
theorem dX2_copy_0 : decode cX2_copy 0 = .ok (.aload_n 0, 1) := by decide +kernel
theorem dX2_copy_1 : decode cX2_copy 1 = .ok (.iconst 0, 1) := by decide +kernel
theorem dX2_copy_2 : decode cX2_copy 2 = .ok (.aload_n 1, 1) := by decide +kernel
theorem dX2_copy_3 : decode cX2_copy 3 = .ok (.iconst 0, 1) := by decide +kernel
theorem dX2_copy_4 : decode cX2_copy 4 = .ok (.aload_n 0, 1) := by decide +kernel
theorem dX2_copy_5 : decode cX2_copy 5 = .ok (.arraylength, 1) := by decide +kernel
theorem dX2_copy_6 : decode cX2_copy 6 = .ok (.invokestatic 46, 3) := by decide +kernel
theorem dX2_copy_9 : decode cX2_copy 9 = .ok (.return_, 1) := by decide +kernel
set_option maxRecDepth 20000 in
theorem ggX2_become_X2_copy : GoodIn wsX2_become wsX2_copy := goodIn_r _ [18, 19, 20, 21, 22] (by decide +kernel) (by decide +kernel)
set_option maxRecDepth 20000 in
theorem gX2_become_X2_copy : GoodIn wsX2_become (va_wsS RX2 61 yX2_copy wsX2_copy) := goodIn_app (goodIn_of _ (by decide +kernel)) ggX2_become_X2_copy
theorem dX2_become_0 : decode cX2_become 0 = .ok (.aload_n 0, 1) := by decide +kernel
theorem dX2_become_1 : decode cX2_become 1 = .ok (.aload_n 1, 1) := by decide +kernel
theorem dX2_become_2 : decode cX2_become 2 = .ok (.getfield 52, 3) := by decide +kernel
theorem dX2_become_5 : decode cX2_become 5 = .ok (.putfield 52, 3) := by decide +kernel
theorem dX2_become_8 : decode cX2_become 8 = .ok (.aload_n 0, 1) := by decide +kernel
theorem dX2_become_9 : decode cX2_become 9 = .ok (.aload_n 1, 1) := by decide +kernel
theorem dX2_become_10 : decode cX2_become 10 = .ok (.getfield 9, 3) := by decide +kernel
theorem dX2_become_13 : decode cX2_become 13 = .ok (.putfield 9, 3) := by decide +kernel
theorem dX2_become_16 : decode cX2_become 16 = .ok (.aload_n 0, 1) := by decide +kernel
theorem dX2_become_17 : decode cX2_become 17 = .ok (.aload_n 1, 1) := by decide +kernel
theorem dX2_become_18 : decode cX2_become 18 = .ok (.getfield 55, 3) := by decide +kernel
theorem dX2_become_21 : decode cX2_become 21 = .ok (.putfield 55, 3) := by decide +kernel
theorem dX2_become_24 : decode cX2_become 24 = .ok (.aload_n 0, 1) := by decide +kernel
theorem dX2_become_25 : decode cX2_become 25 = .ok (.aload_n 1, 1) := by decide +kernel
theorem dX2_become_26 : decode cX2_become 26 = .ok (.getfield 58, 3) := by decide +kernel
theorem dX2_become_29 : decode cX2_become 29 = .ok (.putfield 58, 3) := by decide +kernel
theorem dX2_become_32 : decode cX2_become 32 = .ok (.aload_n 1, 1) := by decide +kernel
theorem dX2_become_33 : decode cX2_become 33 = .ok (.getfield 15, 3) := by decide +kernel
theorem dX2_become_36 : decode cX2_become 36 = .ok (.aload_n 0, 1) := by decide +kernel
theorem dX2_become_37 : decode cX2_become 37 = .ok (.getfield 15, 3) := by decide +kernel
theorem dX2_become_40 : decode cX2_become 40 = .ok (.invokestatic 61, 3) := by decide +kernel
theorem dX2_become_43 : decode cX2_become 43 = .ok (.aload_n 1, 1) := by decide +kernel
theorem dX2_become_44 : decode cX2_become 44 = .ok (.getfield 19, 3) := by decide +kernel
theorem dX2_become_47 : decode cX2_become 47 = .ok (.aload_n 0, 1) := by decide +kernel
theorem dX2_become_48 : decode cX2_become 48 = .ok (.getfield 19, 3) := by decide +kernel
theorem dX2_become_51 : decode cX2_become 51 = .ok (.invokestatic 61, 3) := by decide +kernel
theorem dX2_become_54 : decode cX2_become 54 = .ok (.aload_n 1, 1) := by decide +kernel
theorem dX2_become_55 : decode cX2_become 55 = .ok (.getfield 22, 3) := by decide +kernel
theorem dX2_become_58 : decode cX2_become 58 = .ok (.aload_n 0, 1) := by decide +kernel
theorem dX2_become_59 : decode cX2_become 59 = .ok (.getfield 22, 3) := by decide +kernel
theorem dX2_become_62 : decode cX2_become 62 = .ok (.invokestatic 61, 3) := by decide +kernel
theorem dX2_become_65 : decode cX2_become 65 = .ok (.aload_n 1, 1) := by decide +kernel
theorem dX2_become_66 : decode cX2_become 66 = .ok (.getfield 25, 3) := by decide +kernel
theorem dX2_become_69 : decode cX2_become 69 = .ok (.aload_n 0, 1) := by decide +kernel
theorem dX2_become_70 : decode cX2_become 70 = .ok (.getfield 25, 3) := by decide +kernel
theorem dX2_become_73 : decode cX2_become 73 = .ok (.invokestatic 61, 3) := by decide +kernel
theorem dX2_become_76 : decode cX2_become 76 = .ok (.aload_n 1, 1) := by decide +kernel
theorem dX2_become_77 : decode cX2_become 77 = .ok (.getfield 28, 3) := by decide +kernel
theorem dX2_become_80 : decode cX2_become 80 = .ok (.aload_n 0, 1) := by decide +kernel
theorem dX2_become_81 : decode cX2_become 81 = .ok (.getfield 28, 3) := by decide +kernel
theorem dX2_become_84 : decode cX2_become 84 = .ok (.invokestatic 61, 3) := by decide +kernel
theorem dX2_become_87 : decode cX2_become 87 = .ok (.aload_n 1, 1) := by decide +kernel
theorem dX2_become_88 : decode cX2_become 88 = .ok (.getfield 31, 3) := by decide +kernel
theorem dX2_become_91 : decode cX2_become 91 = .ok (.aload_n 0, 1) := by decide +kernel
theorem dX2_become_92 : decode cX2_become 92 = .ok (.getfield 31, 3) := by decide +kernel
theorem dX2_become_95 : decode cX2_become 95 = .ok (.invokestatic 61, 3) := by decide +kernel
theorem dX2_become_98 : decode cX2_become 98 = .ok (.aload_n 1, 1) := by decide +kernel
theorem dX2_become_99 : decode cX2_become 99 = .ok (.getfield 34, 3) := by decide +kernel
theorem dX2_become_102 : decode cX2_become 102 = .ok (.aload_n 0, 1) := by decide +kernel
theorem dX2_become_103 : decode cX2_become 103 = .ok (.getfield 34, 3) := by decide +kernel
theorem dX2_become_106 : decode cX2_become 106 = .ok (.invokestatic 61, 3) := by decide +kernel
theorem dX2_become_109 : decode cX2_become 109 = .ok (.aload_n 1, 1) := by decide +kernel
theorem dX2_become_110 : decode cX2_become 110 = .ok (.getfield 37, 3) := by decide +kernel
theorem dX2_become_113 : decode cX2_become 113 = .ok (.aload_n 0, 1) := by decide +kernel
theorem dX2_become_114 : decode cX2_become 114 = .ok (.getfield 37, 3) := by decide +kernel
theorem dX2_become_117 : decode cX2_become 117 = .ok (.invokestatic 61, 3) := by decide +kernel
theorem dX2_become_120 : decode cX2_become 120 = .ok (.aload_n 1, 1) := by decide +kernel
theorem dX2_become_121 : decode cX2_become 121 = .ok (.getfield 40, 3) := by decide +kernel
theorem dX2_become_124 : decode cX2_become 124 = .ok (.aload_n 0, 1) := by decide +kernel
theorem dX2_become_125 : decode cX2_become 125 = .ok (.getfield 40, 3) := by decide +kernel
theorem dX2_become_128 : decode cX2_become 128 = .ok (.invokestatic 61, 3) := by decide +kernel
theorem dX2_become_131 : decode cX2_become 131 = .ok (.aload_n 1, 1) := by decide +kernel
theorem dX2_become_132 : decode cX2_become 132 = .ok (.getfield 43, 3) := by decide +kernel
theorem dX2_become_135 : decode cX2_become 135 = .ok (.aload_n 0, 1) := by decide +kernel
theorem dX2_become_136 : decode cX2_become 136 = .ok (.getfield 43, 3) := by decide +kernel
theorem dX2_become_139 : decode cX2_become 139 = .ok (.invokestatic 61, 3) := by decide +kernel
theorem dX2_become_142 : decode cX2_become 142 = .ok (.aload_n 0, 1) := by decide +kernel
theorem dX2_become_143 : decode cX2_become 143 = .ok (.areturn, 1) := by decide +kernel
theorem dX2_pour_0 : decode cX2_pour 0 = .ok (.iload_n 2, 1) := by decide +kernel
theorem dX2_pour_1 : decode cX2_pour 1 = .ok (.istore_n 3, 1) := by decide +kernel
theorem dX2_pour_2 : decode cX2_pour 2 = .ok (.iload_n 1, 1) := by decide +kernel
theorem dX2_pour_3 : decode cX2_pour 3 = .ok (.istore 4, 2) := by decide +kernel
theorem dX2_pour_5 : decode cX2_pour 5 = .ok (.iload 4, 2) := by decide +kernel
theorem dX2_pour_7 : decode cX2_pour 7 = .ok (.ifCond .lt 61, 3) := by decide +kernel
theorem dX2_pour_10 : decode cX2_pour 10 = .ok (.iload_n 3, 1) := by decide +kernel
theorem dX2_pour_11 : decode cX2_pour 11 = .ok (.ifCond .le 57, 3) := by decide +kernel
theorem dX2_pour_14 : decode cX2_pour 14 = .ok (.aload_n 0, 1) := by decide +kernel
theorem dX2_pour_15 : decode cX2_pour 15 = .ok (.getfield 15, 3) := by decide +kernel
theorem dX2_pour_18 : decode cX2_pour 18 = .ok (.iload 4, 2) := by decide +kernel
theorem dX2_pour_20 : decode cX2_pour 20 = .ok (.dup2, 1) := by decide +kernel
theorem dX2_pour_21 : decode cX2_pour 21 = .ok (.iaload, 1) := by decide +kernel
theorem dX2_pour_22 : decode cX2_pour 22 = .ok (.iload_n 3, 1) := by decide +kernel
theorem dX2_pour_23 : decode cX2_pour 23 = .ok (.iadd, 1) := by decide +kernel
theorem dX2_pour_24 : decode cX2_pour 24 = .ok (.iastore, 1) := by decide +kernel
theorem dX2_pour_25 : decode cX2_pour 25 = .ok (.iconst 0, 1) := by decide +kernel
theorem dX2_pour_26 : decode cX2_pour 26 = .ok (.aload_n 0, 1) := by decide +kernel
theorem dX2_pour_27 : decode cX2_pour 27 = .ok (.getfield 15, 3) := by decide +kernel
theorem dX2_pour_30 : decode cX2_pour 30 = .ok (.iload 4, 2) := by decide +kernel
theorem dX2_pour_32 : decode cX2_pour 32 = .ok (.iaload, 1) := by decide +kernel
theorem dX2_pour_33 : decode cX2_pour 33 = .ok (.bipush 100, 2) := by decide +kernel
theorem dX2_pour_35 : decode cX2_pour 35 = .ok (.isub, 1) := by decide +kernel
theorem dX2_pour_36 : decode cX2_pour 36 = .ok (.invokestatic 65, 3) := by decide +kernel
theorem dX2_pour_39 : decode cX2_pour 39 = .ok (.istore_n 3, 1) := by decide +kernel
theorem dX2_pour_40 : decode cX2_pour 40 = .ok (.aload_n 0, 1) := by decide +kernel
theorem dX2_pour_41 : decode cX2_pour 41 = .ok (.getfield 15, 3) := by decide +kernel
theorem dX2_pour_44 : decode cX2_pour 44 = .ok (.iload 4, 2) := by decide +kernel
theorem dX2_pour_46 : decode cX2_pour 46 = .ok (.dup2, 1) := by decide +kernel
theorem dX2_pour_47 : decode cX2_pour 47 = .ok (.iaload, 1) := by decide +kernel
theorem dX2_pour_48 : decode cX2_pour 48 = .ok (.iload_n 3, 1) := by decide +kernel
theorem dX2_pour_49 : decode cX2_pour 49 = .ok (.isub, 1) := by decide +kernel
theorem dX2_pour_50 : decode cX2_pour 50 = .ok (.iastore, 1) := by decide +kernel
theorem dX2_pour_51 : decode cX2_pour 51 = .ok (.aload_n 0, 1) := by decide +kernel
theorem dX2_pour_52 : decode cX2_pour 52 = .ok (.getfield 19, 3) := by decide +kernel
theorem dX2_pour_55 : decode cX2_pour 55 = .ok (.iload 4, 2) := by decide +kernel
theorem dX2_pour_57 : decode cX2_pour 57 = .ok (.dup2, 1) := by decide +kernel
theorem dX2_pour_58 : decode cX2_pour 58 = .ok (.iaload, 1) := by decide +kernel
theorem dX2_pour_59 : decode cX2_pour 59 = .ok (.iload_n 3, 1) := by decide +kernel
theorem dX2_pour_60 : decode cX2_pour 60 = .ok (.iadd, 1) := by decide +kernel
theorem dX2_pour_61 : decode cX2_pour 61 = .ok (.iastore, 1) := by decide +kernel
theorem dX2_pour_62 : decode cX2_pour 62 = .ok (.iinc 4 (-1), 3) := by decide +kernel
theorem dX2_pour_65 : decode cX2_pour 65 = .ok (.goto (-60), 3) := by decide +kernel
theorem dX2_pour_68 : decode cX2_pour 68 = .ok (.aload_n 0, 1) := by decide +kernel
theorem dX2_pour_69 : decode cX2_pour 69 = .ok (.dup, 1) := by decide +kernel
theorem dX2_pour_70 : decode cX2_pour 70 = .ok (.getfield 58, 3) := by decide +kernel
theorem dX2_pour_73 : decode cX2_pour 73 = .ok (.iload_n 3, 1) := by decide +kernel
theorem dX2_pour_74 : decode cX2_pour 74 = .ok (.iadd, 1) := by decide +kernel
theorem dX2_pour_75 : decode cX2_pour 75 = .ok (.putfield 58, 3) := by decide +kernel
theorem dX2_pour_78 : decode cX2_pour 78 = .ok (.return_, 1) := by decide +kernel
theorem dX2_canFill_0 : decode cX2_canFill 0 = .ok (.aload_n 0, 1) := by decide +kernel
theorem dX2_canFill_1 : decode cX2_canFill 1 = .ok (.getfield 15, 3) := by decide +kernel
theorem dX2_canFill_4 : decode cX2_canFill 4 = .ok (.iload_n 1, 1) := by decide +kernel
theorem dX2_canFill_5 : decode cX2_canFill 5 = .ok (.iconst 1, 1) := by decide +kernel
theorem dX2_canFill_6 : decode cX2_canFill 6 = .ok (.iadd, 1) := by decide +kernel
theorem dX2_canFill_7 : decode cX2_canFill 7 = .ok (.iaload, 1) := by decide +kernel
theorem dX2_canFill_8 : decode cX2_canFill 8 = .ok (.bipush 32, 2) := by decide +kernel
theorem dX2_canFill_10 : decode cX2_canFill 10 = .ok (.if_icmp .lt 7, 3) := by decide +kernel
theorem dX2_canFill_13 : decode cX2_canFill 13 = .ok (.iconst 1, 1) := by decide +kernel
theorem dX2_canFill_14 : decode cX2_canFill 14 = .ok (.goto 4, 3) := by decide +kernel
theorem dX2_canFill_17 : decode cX2_canFill 17 = .ok (.iconst 0, 1) := by decide +kernel
theorem dX2_canFill_18 : decode cX2_canFill 18 = .ok (.ireturn, 1) := by decide +kernel
theorem dX2_fill_0 : decode cX2_fill 0 = .ok (.aload_n 0, 1) := by decide +kernel
theorem dX2_fill_1 : decode cX2_fill 1 = .ok (.getfield 15, 3) := by decide +kernel
theorem dX2_fill_4 : decode cX2_fill 4 = .ok (.iload_n 1, 1) := by decide +kernel
theorem dX2_fill_5 : decode cX2_fill 5 = .ok (.iconst 1, 1) := by decide +kernel
theorem dX2_fill_6 : decode cX2_fill 6 = .ok (.iadd, 1) := by decide +kernel
theorem dX2_fill_7 : decode cX2_fill 7 = .ok (.dup2, 1) := by decide +kernel
theorem dX2_fill_8 : decode cX2_fill 8 = .ok (.iaload, 1) := by decide +kernel
theorem dX2_fill_9 : decode cX2_fill 9 = .ok (.bipush 12, 2) := by decide +kernel
theorem dX2_fill_11 : decode cX2_fill 11 = .ok (.isub, 1) := by decide +kernel
theorem dX2_fill_12 : decode cX2_fill 12 = .ok (.iastore, 1) := by decide +kernel
theorem dX2_fill_13 : decode cX2_fill 13 = .ok (.aload_n 0, 1) := by decide +kernel
theorem dX2_fill_14 : decode cX2_fill 14 = .ok (.getfield 31, 3) := by decide +kernel
theorem dX2_fill_17 : decode cX2_fill 17 = .ok (.iload_n 1, 1) := by decide +kernel
theorem dX2_fill_18 : decode cX2_fill 18 = .ok (.dup2, 1) := by decide +kernel
theorem dX2_fill_19 : decode cX2_fill 19 = .ok (.iaload, 1) := by decide +kernel
theorem dX2_fill_20 : decode cX2_fill 20 = .ok (.bipush 12, 2) := by decide +kernel
theorem dX2_fill_22 : decode cX2_fill 22 = .ok (.iadd, 1) := by decide +kernel
theorem dX2_fill_23 : decode cX2_fill 23 = .ok (.iastore, 1) := by decide +kernel
theorem dX2_fill_24 : decode cX2_fill 24 = .ok (.aload_n 0, 1) := by decide +kernel
theorem dX2_fill_25 : decode cX2_fill 25 = .ok (.getfield 25, 3) := by decide +kernel
theorem dX2_fill_28 : decode cX2_fill 28 = .ok (.iload_n 1, 1) := by decide +kernel
theorem dX2_fill_29 : decode cX2_fill 29 = .ok (.iconst 1, 1) := by decide +kernel
theorem dX2_fill_30 : decode cX2_fill 30 = .ok (.iastore, 1) := by decide +kernel
theorem dX2_fill_31 : decode cX2_fill 31 = .ok (.return_, 1) := by decide +kernel
set_option maxRecDepth 20000 in
theorem ggX2_empty_X2_pour : GoodIn wsX2_empty wsX2_pour := goodIn_r _ [6, 7, 8, 9, 10, 11, 12, 13, 14, 15, 16, 17, 18, 19, 20, 21, 22, 23, 24, 25, 26, 27] (by decide +kernel) (by decide +kernel)
set_option maxRecDepth 20000 in
theorem gX2_empty_X2_pour : GoodIn wsX2_empty (wsV RX2 71 RX2 yX2_pour wsX2_pour) := goodIn_app (goodIn_of _ (by decide +kernel)) ggX2_empty_X2_pour
theorem dX2_empty_0 : decode cX2_empty 0 = .ok (.aload_n 0, 1) := by decide +kernel
theorem dX2_empty_1 : decode cX2_empty 1 = .ok (.getfield 25, 3) := by decide +kernel
theorem dX2_empty_4 : decode cX2_empty 4 = .ok (.iload_n 1, 1) := by decide +kernel
theorem dX2_empty_5 : decode cX2_empty 5 = .ok (.iconst 0, 1) := by decide +kernel
theorem dX2_empty_6 : decode cX2_empty 6 = .ok (.iastore, 1) := by decide +kernel
theorem dX2_empty_7 : decode cX2_empty 7 = .ok (.aload_n 0, 1) := by decide +kernel
theorem dX2_empty_8 : decode cX2_empty 8 = .ok (.iload_n 1, 1) := by decide +kernel
theorem dX2_empty_9 : decode cX2_empty 9 = .ok (.bipush 12, 2) := by decide +kernel
theorem dX2_empty_11 : decode cX2_empty 11 = .ok (.invokevirtual 71, 3) := by decide +kernel
theorem dX2_empty_14 : decode cX2_empty 14 = .ok (.return_, 1) := by decide +kernel
theorem dX2_allWater_0 : decode cX2_allWater 0 = .ok (.iconst 0, 1) := by decide +kernel
theorem dX2_allWater_1 : decode cX2_allWater 1 = .ok (.istore_n 1, 1) := by decide +kernel
theorem dX2_allWater_2 : decode cX2_allWater 2 = .ok (.aload_n 0, 1) := by decide +kernel
theorem dX2_allWater_3 : decode cX2_allWater 3 = .ok (.getfield 15, 3) := by decide +kernel
theorem dX2_allWater_6 : decode cX2_allWater 6 = .ok (.astore_n 2, 1) := by decide +kernel
theorem dX2_allWater_7 : decode cX2_allWater 7 = .ok (.aload_n 2, 1) := by decide +kernel
theorem dX2_allWater_8 : decode cX2_allWater 8 = .ok (.arraylength, 1) := by decide +kernel
theorem dX2_allWater_9 : decode cX2_allWater 9 = .ok (.istore_n 3, 1) := by decide +kernel
theorem dX2_allWater_10 : decode cX2_allWater 10 = .ok (.iconst 0, 1) := by decide +kernel
theorem dX2_allWater_11 : decode cX2_allWater 11 = .ok (.istore 4, 2) := by decide +kernel
theorem dX2_allWater_13 : decode cX2_allWater 13 = .ok (.iload 4, 2) := by decide +kernel
theorem dX2_allWater_15 : decode cX2_allWater 15 = .ok (.iload_n 3, 1) := by decide +kernel
theorem dX2_allWater_16 : decode cX2_allWater 16 = .ok (.if_icmp .ge 20, 3) := by decide +kernel
theorem dX2_allWater_19 : decode cX2_allWater 19 = .ok (.aload_n 2, 1) := by decide +kernel
theorem dX2_allWater_20 : decode cX2_allWater 20 = .ok (.iload 4, 2) := by decide +kernel
theorem dX2_allWater_22 : decode cX2_allWater 22 = .ok (.iaload, 1) := by decide +kernel
theorem dX2_allWater_23 : decode cX2_allWater 23 = .ok (.istore 5, 2) := by decide +kernel
theorem dX2_allWater_25 : decode cX2_allWater 25 = .ok (.iload_n 1, 1) := by decide +kernel
theorem dX2_allWater_26 : decode cX2_allWater 26 = .ok (.iload 5, 2) := by decide +kernel
theorem dX2_allWater_28 : decode cX2_allWater 28 = .ok (.iadd, 1) := by decide +kernel
theorem dX2_allWater_29 : decode cX2_allWater 29 = .ok (.istore_n 1, 1) := by decide +kernel
theorem dX2_allWater_30 : decode cX2_allWater 30 = .ok (.iinc 4 1, 3) := by decide +kernel
theorem dX2_allWater_33 : decode cX2_allWater 33 = .ok (.goto (-20), 3) := by decide +kernel
theorem dX2_allWater_36 : decode cX2_allWater 36 = .ok (.iload_n 1, 1) := by decide +kernel
theorem dX2_allWater_37 : decode cX2_allWater 37 = .ok (.ireturn, 1) := by decide +kernel
theorem dX2_fullOnes_0 : decode cX2_fullOnes 0 = .ok (.iconst 0, 1) := by decide +kernel
theorem dX2_fullOnes_1 : decode cX2_fullOnes 1 = .ok (.istore_n 1, 1) := by decide +kernel
theorem dX2_fullOnes_2 : decode cX2_fullOnes 2 = .ok (.aload_n 0, 1) := by decide +kernel
theorem dX2_fullOnes_3 : decode cX2_fullOnes 3 = .ok (.getfield 25, 3) := by decide +kernel
theorem dX2_fullOnes_6 : decode cX2_fullOnes 6 = .ok (.astore_n 2, 1) := by decide +kernel
theorem dX2_fullOnes_7 : decode cX2_fullOnes 7 = .ok (.aload_n 2, 1) := by decide +kernel
theorem dX2_fullOnes_8 : decode cX2_fullOnes 8 = .ok (.arraylength, 1) := by decide +kernel
theorem dX2_fullOnes_9 : decode cX2_fullOnes 9 = .ok (.istore_n 3, 1) := by decide +kernel
theorem dX2_fullOnes_10 : decode cX2_fullOnes 10 = .ok (.iconst 0, 1) := by decide +kernel
theorem dX2_fullOnes_11 : decode cX2_fullOnes 11 = .ok (.istore 4, 2) := by decide +kernel
theorem dX2_fullOnes_13 : decode cX2_fullOnes 13 = .ok (.iload 4, 2) := by decide +kernel
theorem dX2_fullOnes_15 : decode cX2_fullOnes 15 = .ok (.iload_n 3, 1) := by decide +kernel
theorem dX2_fullOnes_16 : decode cX2_fullOnes 16 = .ok (.if_icmp .ge 20, 3) := by decide +kernel
theorem dX2_fullOnes_19 : decode cX2_fullOnes 19 = .ok (.aload_n 2, 1) := by decide +kernel
theorem dX2_fullOnes_20 : decode cX2_fullOnes 20 = .ok (.iload 4, 2) := by decide +kernel
theorem dX2_fullOnes_22 : decode cX2_fullOnes 22 = .ok (.iaload, 1) := by decide +kernel
theorem dX2_fullOnes_23 : decode cX2_fullOnes 23 = .ok (.istore 5, 2) := by decide +kernel
theorem dX2_fullOnes_25 : decode cX2_fullOnes 25 = .ok (.iload_n 1, 1) := by decide +kernel
theorem dX2_fullOnes_26 : decode cX2_fullOnes 26 = .ok (.iload 5, 2) := by decide +kernel
theorem dX2_fullOnes_28 : decode cX2_fullOnes 28 = .ok (.iadd, 1) := by decide +kernel
theorem dX2_fullOnes_29 : decode cX2_fullOnes 29 = .ok (.istore_n 1, 1) := by decide +kernel
theorem dX2_fullOnes_30 : decode cX2_fullOnes 30 = .ok (.iinc 4 1, 3) := by decide +kernel
theorem dX2_fullOnes_33 : decode cX2_fullOnes 33 = .ok (.goto (-20), 3) := by decide +kernel
theorem dX2_fullOnes_36 : decode cX2_fullOnes 36 = .ok (.iload_n 1, 1) := by decide +kernel
theorem dX2_fullOnes_37 : decode cX2_fullOnes 37 = .ok (.ireturn, 1) := by decide +kernel
