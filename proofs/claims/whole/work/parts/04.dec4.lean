theorem dX4_init_0 : decode cX4_init 0 = .ok (.aload_n 0, 1) := by decide +kernel
theorem dX4_init_1 : decode cX4_init 1 = .ok (.invokespecial 3, 3) := by decide +kernel
theorem dX4_init_4 : decode cX4_init 4 = .ok (.aload_n 0, 1) := by decide +kernel
theorem dX4_init_5 : decode cX4_init 5 = .ok (.iconst 0, 1) := by decide +kernel
theorem dX4_init_6 : decode cX4_init 6 = .ok (.putfield 9, 3) := by decide +kernel
theorem dX4_init_9 : decode cX4_init 9 = .ok (.aload_n 0, 1) := by decide +kernel
theorem dX4_init_10 : decode cX4_init 10 = .ok (.iconst 0, 1) := by decide +kernel
theorem dX4_init_11 : decode cX4_init 11 = .ok (.putfield 15, 3) := by decide +kernel
theorem dX4_init_14 : decode cX4_init 14 = .ok (.aload_n 0, 1) := by decide +kernel
theorem dX4_init_15 : decode cX4_init 15 = .ok (.iconst 0, 1) := by decide +kernel
theorem dX4_init_16 : decode cX4_init 16 = .ok (.putfield 18, 3) := by decide +kernel
theorem dX4_init_19 : decode cX4_init 19 = .ok (.aload_n 0, 1) := by decide +kernel
theorem dX4_init_20 : decode cX4_init 20 = .ok (.iconst 0, 1) := by decide +kernel
theorem dX4_init_21 : decode cX4_init 21 = .ok (.putfield 21, 3) := by decide +kernel
theorem dX4_init_24 : decode cX4_init 24 = .ok (.aload_n 0, 1) := by decide +kernel
theorem dX4_init_25 : decode cX4_init 25 = .ok (.bipush 8, 2) := by decide +kernel
theorem dX4_init_27 : decode cX4_init 27 = .ok (.newarray .int, 2) := by decide +kernel
theorem dX4_init_29 : decode cX4_init 29 = .ok (.putfield 24, 3) := by decide +kernel
theorem dX4_init_32 : decode cX4_init 32 = .ok (.aload_n 0, 1) := by decide +kernel
theorem dX4_init_33 : decode cX4_init 33 = .ok (.bipush 8, 2) := by decide +kernel
theorem dX4_init_35 : decode cX4_init 35 = .ok (.newarray .int, 2) := by decide +kernel
theorem dX4_init_37 : decode cX4_init 37 = .ok (.putfield 28, 3) := by decide +kernel
theorem dX4_init_40 : decode cX4_init 40 = .ok (.aload_n 0, 1) := by decide +kernel
theorem dX4_init_41 : decode cX4_init 41 = .ok (.bipush 8, 2) := by decide +kernel
theorem dX4_init_43 : decode cX4_init 43 = .ok (.newarray .int, 2) := by decide +kernel
theorem dX4_init_45 : decode cX4_init 45 = .ok (.putfield 31, 3) := by decide +kernel
theorem dX4_init_48 : decode cX4_init 48 = .ok (.aload_n 0, 1) := by decide +kernel
theorem dX4_init_49 : decode cX4_init 49 = .ok (.bipush 8, 2) := by decide +kernel
theorem dX4_init_51 : decode cX4_init 51 = .ok (.newarray .int, 2) := by decide +kernel
theorem dX4_init_53 : decode cX4_init 53 = .ok (.putfield 34, 3) := by decide +kernel
theorem dX4_init_56 : decode cX4_init 56 = .ok (.aload_n 0, 1) := by decide +kernel
theorem dX4_init_57 : decode cX4_init 57 = .ok (.bipush 8, 2) := by decide +kernel
theorem dX4_init_59 : decode cX4_init 59 = .ok (.newarray .int, 2) := by decide +kernel
theorem dX4_init_61 : decode cX4_init 61 = .ok (.putfield 37, 3) := by decide +kernel
theorem dX4_init_64 : decode cX4_init 64 = .ok (.aload_n 0, 1) := by decide +kernel
theorem dX4_init_65 : decode cX4_init 65 = .ok (.bipush 6, 2) := by decide +kernel
theorem dX4_init_67 : decode cX4_init 67 = .ok (.newarray .int, 2) := by decide +kernel
theorem dX4_init_69 : decode cX4_init 69 = .ok (.putfield 40, 3) := by decide +kernel
theorem dX4_init_72 : decode cX4_init 72 = .ok (.aload_n 0, 1) := by decide +kernel
theorem dX4_init_73 : decode cX4_init 73 = .ok (.bipush 6, 2) := by decide +kernel
theorem dX4_init_75 : decode cX4_init 75 = .ok (.newarray .int, 2) := by decide +kernel
theorem dX4_init_77 : decode cX4_init 77 = .ok (.putfield 43, 3) := by decide +kernel
theorem dX4_init_80 : decode cX4_init 80 = .ok (.aload_n 0, 1) := by decide +kernel
theorem dX4_init_81 : decode cX4_init 81 = .ok (.bipush 40, 2) := by decide +kernel
theorem dX4_init_83 : decode cX4_init 83 = .ok (.newarray .int, 2) := by decide +kernel
theorem dX4_init_85 : decode cX4_init 85 = .ok (.putfield 46, 3) := by decide +kernel
theorem dX4_init_88 : decode cX4_init 88 = .ok (.aload_n 0, 1) := by decide +kernel
theorem dX4_init_89 : decode cX4_init 89 = .ok (.bipush 40, 2) := by decide +kernel
theorem dX4_init_91 : decode cX4_init 91 = .ok (.newarray .int, 2) := by decide +kernel
theorem dX4_init_93 : decode cX4_init 93 = .ok (.putfield 49, 3) := by decide +kernel
theorem dX4_init_96 : decode cX4_init 96 = .ok (.aload_n 0, 1) := by decide +kernel
theorem dX4_init_97 : decode cX4_init 97 = .ok (.bipush 40, 2) := by decide +kernel
theorem dX4_init_99 : decode cX4_init 99 = .ok (.newarray .int, 2) := by decide +kernel
theorem dX4_init_101 : decode cX4_init 101 = .ok (.putfield 52, 3) := by decide +kernel
theorem dX4_init_104 : decode cX4_init 104 = .ok (.aload_n 0, 1) := by decide +kernel
theorem dX4_init_105 : decode cX4_init 105 = .ok (.bipush 40, 2) := by decide +kernel
theorem dX4_init_107 : decode cX4_init 107 = .ok (.newarray .int, 2) := by decide +kernel
theorem dX4_init_109 : decode cX4_init 109 = .ok (.putfield 55, 3) := by decide +kernel
theorem dX4_init_112 : decode cX4_init 112 = .ok (.aload_n 0, 1) := by decide +kernel
theorem dX4_init_113 : decode cX4_init 113 = .ok (.bipush 40, 2) := by decide +kernel
theorem dX4_init_115 : decode cX4_init 115 = .ok (.newarray .int, 2) := by decide +kernel
theorem dX4_init_117 : decode cX4_init 117 = .ok (.putfield 58, 3) := by decide +kernel
theorem dX4_init_120 : decode cX4_init 120 = .ok (.aload_n 0, 1) := by decide +kernel
theorem dX4_init_121 : decode cX4_init 121 = .ok (.bipush 40, 2) := by decide +kernel
theorem dX4_init_123 : decode cX4_init 123 = .ok (.newarray .int, 2) := by decide +kernel
theorem dX4_init_125 : decode cX4_init 125 = .ok (.putfield 61, 3) := by decide +kernel
theorem dX4_init_128 : decode cX4_init 128 = .ok (.aload_n 0, 1) := by decide +kernel
theorem dX4_init_129 : decode cX4_init 129 = .ok (.bipush 40, 2) := by decide +kernel
theorem dX4_init_131 : decode cX4_init 131 = .ok (.newarray .int, 2) := by decide +kernel
theorem dX4_init_133 : decode cX4_init 133 = .ok (.putfield 64, 3) := by decide +kernel
theorem dX4_init_136 : decode cX4_init 136 = .ok (.aload_n 0, 1) := by decide +kernel
theorem dX4_init_137 : decode cX4_init 137 = .ok (.bipush 40, 2) := by decide +kernel
theorem dX4_init_139 : decode cX4_init 139 = .ok (.newarray .int, 2) := by decide +kernel
theorem dX4_init_141 : decode cX4_init 141 = .ok (.putfield 67, 3) := by decide +kernel
theorem dX4_init_144 : decode cX4_init 144 = .ok (.aload_n 0, 1) := by decide +kernel
theorem dX4_init_145 : decode cX4_init 145 = .ok (.invokevirtual 70, 3) := by decide +kernel
theorem dX4_init_148 : decode cX4_init 148 = .ok (.return_, 1) := by decide +kernel
theorem dX4_reset_0 : decode cX4_reset 0 = .ok (.aload_n 0, 1) := by decide +kernel
theorem dX4_reset_1 : decode cX4_reset 1 = .ok (.iconst 0, 1) := by decide +kernel
theorem dX4_reset_2 : decode cX4_reset 2 = .ok (.putfield 9, 3) := by decide +kernel
theorem dX4_reset_5 : decode cX4_reset 5 = .ok (.aload_n 0, 1) := by decide +kernel
theorem dX4_reset_6 : decode cX4_reset 6 = .ok (.iconst 0, 1) := by decide +kernel
theorem dX4_reset_7 : decode cX4_reset 7 = .ok (.putfield 15, 3) := by decide +kernel
theorem dX4_reset_10 : decode cX4_reset 10 = .ok (.aload_n 0, 1) := by decide +kernel
theorem dX4_reset_11 : decode cX4_reset 11 = .ok (.iconst 0, 1) := by decide +kernel
theorem dX4_reset_12 : decode cX4_reset 12 = .ok (.putfield 18, 3) := by decide +kernel
theorem dX4_reset_15 : decode cX4_reset 15 = .ok (.aload_n 0, 1) := by decide +kernel
theorem dX4_reset_16 : decode cX4_reset 16 = .ok (.iconst 0, 1) := by decide +kernel
theorem dX4_reset_17 : decode cX4_reset 17 = .ok (.putfield 21, 3) := by decide +kernel
theorem dX4_reset_20 : decode cX4_reset 20 = .ok (.aload_n 0, 1) := by decide +kernel
theorem dX4_reset_21 : decode cX4_reset 21 = .ok (.getfield 40, 3) := by decide +kernel
theorem dX4_reset_24 : decode cX4_reset 24 = .ok (.bipush 20, 2) := by decide +kernel
theorem dX4_reset_26 : decode cX4_reset 26 = .ok (.invokestatic 73, 3) := by decide +kernel
theorem dX4_reset_29 : decode cX4_reset 29 = .ok (.aload_n 0, 1) := by decide +kernel
theorem dX4_reset_30 : decode cX4_reset 30 = .ok (.getfield 43, 3) := by decide +kernel
theorem dX4_reset_33 : decode cX4_reset 33 = .ok (.bipush 30, 2) := by decide +kernel
theorem dX4_reset_35 : decode cX4_reset 35 = .ok (.invokestatic 73, 3) := by decide +kernel
theorem dX4_reset_38 : decode cX4_reset 38 = .ok (.return_, 1) := by decide +kernel
theorem dX4_copyFrom_0 : decode cX4_copyFrom 0 = .ok (.aload_n 0, 1) := by decide +kernel
theorem dX4_copyFrom_1 : decode cX4_copyFrom 1 = .ok (.aload_n 1, 1) := by decide +kernel
theorem dX4_copyFrom_2 : decode cX4_copyFrom 2 = .ok (.getfield 9, 3) := by decide +kernel
theorem dX4_copyFrom_5 : decode cX4_copyFrom 5 = .ok (.putfield 9, 3) := by decide +kernel
theorem dX4_copyFrom_8 : decode cX4_copyFrom 8 = .ok (.aload_n 0, 1) := by decide +kernel
theorem dX4_copyFrom_9 : decode cX4_copyFrom 9 = .ok (.aload_n 1, 1) := by decide +kernel
theorem dX4_copyFrom_10 : decode cX4_copyFrom 10 = .ok (.getfield 15, 3) := by decide +kernel
theorem dX4_copyFrom_13 : decode cX4_copyFrom 13 = .ok (.putfield 15, 3) := by decide +kernel
theorem dX4_copyFrom_16 : decode cX4_copyFrom 16 = .ok (.aload_n 0, 1) := by decide +kernel
theorem dX4_copyFrom_17 : decode cX4_copyFrom 17 = .ok (.aload_n 1, 1) := by decide +kernel
theorem dX4_copyFrom_18 : decode cX4_copyFrom 18 = .ok (.getfield 18, 3) := by decide +kernel
theorem dX4_copyFrom_21 : decode cX4_copyFrom 21 = .ok (.putfield 18, 3) := by decide +kernel
theorem dX4_copyFrom_24 : decode cX4_copyFrom 24 = .ok (.aload_n 0, 1) := by decide +kernel
theorem dX4_copyFrom_25 : decode cX4_copyFrom 25 = .ok (.aload_n 1, 1) := by decide +kernel
theorem dX4_copyFrom_26 : decode cX4_copyFrom 26 = .ok (.getfield 21, 3) := by decide +kernel
theorem dX4_copyFrom_29 : decode cX4_copyFrom 29 = .ok (.putfield 21, 3) := by decide +kernel
theorem dX4_copyFrom_32 : decode cX4_copyFrom 32 = .ok (.aload_n 1, 1) := by decide +kernel
theorem dX4_copyFrom_33 : decode cX4_copyFrom 33 = .ok (.getfield 24, 3) := by decide +kernel
theorem dX4_copyFrom_36 : decode cX4_copyFrom 36 = .ok (.aload_n 0, 1) := by decide +kernel
theorem dX4_copyFrom_37 : decode cX4_copyFrom 37 = .ok (.getfield 24, 3) := by decide +kernel
theorem dX4_copyFrom_40 : decode cX4_copyFrom 40 = .ok (.invokestatic 77, 3) := by decide +kernel
theorem dX4_copyFrom_43 : decode cX4_copyFrom 43 = .ok (.aload_n 1, 1) := by decide +kernel
theorem dX4_copyFrom_44 : decode cX4_copyFrom 44 = .ok (.getfield 28, 3) := by decide +kernel
theorem dX4_copyFrom_47 : decode cX4_copyFrom 47 = .ok (.aload_n 0, 1) := by decide +kernel
theorem dX4_copyFrom_48 : decode cX4_copyFrom 48 = .ok (.getfield 28, 3) := by decide +kernel
theorem dX4_copyFrom_51 : decode cX4_copyFrom 51 = .ok (.invokestatic 77, 3) := by decide +kernel
theorem dX4_copyFrom_54 : decode cX4_copyFrom 54 = .ok (.aload_n 1, 1) := by decide +kernel
theorem dX4_copyFrom_55 : decode cX4_copyFrom 55 = .ok (.getfield 31, 3) := by decide +kernel
theorem dX4_copyFrom_58 : decode cX4_copyFrom 58 = .ok (.aload_n 0, 1) := by decide +kernel
theorem dX4_copyFrom_59 : decode cX4_copyFrom 59 = .ok (.getfield 31, 3) := by decide +kernel
theorem dX4_copyFrom_62 : decode cX4_copyFrom 62 = .ok (.invokestatic 77, 3) := by decide +kernel
theorem dX4_copyFrom_65 : decode cX4_copyFrom 65 = .ok (.aload_n 1, 1) := by decide +kernel
theorem dX4_copyFrom_66 : decode cX4_copyFrom 66 = .ok (.getfield 34, 3) := by decide +kernel
theorem dX4_copyFrom_69 : decode cX4_copyFrom 69 = .ok (.aload_n 0, 1) := by decide +kernel
theorem dX4_copyFrom_70 : decode cX4_copyFrom 70 = .ok (.getfield 34, 3) := by decide +kernel
theorem dX4_copyFrom_73 : decode cX4_copyFrom 73 = .ok (.invokestatic 77, 3) := by decide +kernel
theorem dX4_copyFrom_76 : decode cX4_copyFrom 76 = .ok (.aload_n 1, 1) := by decide +kernel
theorem dX4_copyFrom_77 : decode cX4_copyFrom 77 = .ok (.getfield 37, 3) := by decide +kernel
theorem dX4_copyFrom_80 : decode cX4_copyFrom 80 = .ok (.aload_n 0, 1) := by decide +kernel
theorem dX4_copyFrom_81 : decode cX4_copyFrom 81 = .ok (.getfield 37, 3) := by decide +kernel
theorem dX4_copyFrom_84 : decode cX4_copyFrom 84 = .ok (.invokestatic 77, 3) := by decide +kernel
theorem dX4_copyFrom_87 : decode cX4_copyFrom 87 = .ok (.aload_n 1, 1) := by decide +kernel
theorem dX4_copyFrom_88 : decode cX4_copyFrom 88 = .ok (.getfield 40, 3) := by decide +kernel
theorem dX4_copyFrom_91 : decode cX4_copyFrom 91 = .ok (.aload_n 0, 1) := by decide +kernel
theorem dX4_copyFrom_92 : decode cX4_copyFrom 92 = .ok (.getfield 40, 3) := by decide +kernel
theorem dX4_copyFrom_95 : decode cX4_copyFrom 95 = .ok (.invokestatic 77, 3) := by decide +kernel
theorem dX4_copyFrom_98 : decode cX4_copyFrom 98 = .ok (.aload_n 1, 1) := by decide +kernel
theorem dX4_copyFrom_99 : decode cX4_copyFrom 99 = .ok (.getfield 43, 3) := by decide +kernel
theorem dX4_copyFrom_102 : decode cX4_copyFrom 102 = .ok (.aload_n 0, 1) := by decide +kernel
theorem dX4_copyFrom_103 : decode cX4_copyFrom 103 = .ok (.getfield 43, 3) := by decide +kernel
theorem dX4_copyFrom_106 : decode cX4_copyFrom 106 = .ok (.invokestatic 77, 3) := by decide +kernel
theorem dX4_copyFrom_109 : decode cX4_copyFrom 109 = .ok (.aload_n 1, 1) := by decide +kernel
theorem dX4_copyFrom_110 : decode cX4_copyFrom 110 = .ok (.getfield 46, 3) := by decide +kernel
theorem dX4_copyFrom_113 : decode cX4_copyFrom 113 = .ok (.aload_n 0, 1) := by decide +kernel
theorem dX4_copyFrom_114 : decode cX4_copyFrom 114 = .ok (.getfield 46, 3) := by decide +kernel
theorem dX4_copyFrom_117 : decode cX4_copyFrom 117 = .ok (.invokestatic 77, 3) := by decide +kernel
theorem dX4_copyFrom_120 : decode cX4_copyFrom 120 = .ok (.aload_n 1, 1) := by decide +kernel
theorem dX4_copyFrom_121 : decode cX4_copyFrom 121 = .ok (.getfield 49, 3) := by decide +kernel
theorem dX4_copyFrom_124 : decode cX4_copyFrom 124 = .ok (.aload_n 0, 1) := by decide +kernel
theorem dX4_copyFrom_125 : decode cX4_copyFrom 125 = .ok (.getfield 49, 3) := by decide +kernel
theorem dX4_copyFrom_128 : decode cX4_copyFrom 128 = .ok (.invokestatic 77, 3) := by decide +kernel
theorem dX4_copyFrom_131 : decode cX4_copyFrom 131 = .ok (.aload_n 1, 1) := by decide +kernel
theorem dX4_copyFrom_132 : decode cX4_copyFrom 132 = .ok (.getfield 52, 3) := by decide +kernel
theorem dX4_copyFrom_135 : decode cX4_copyFrom 135 = .ok (.aload_n 0, 1) := by decide +kernel
theorem dX4_copyFrom_136 : decode cX4_copyFrom 136 = .ok (.getfield 52, 3) := by decide +kernel
theorem dX4_copyFrom_139 : decode cX4_copyFrom 139 = .ok (.invokestatic 77, 3) := by decide +kernel
theorem dX4_copyFrom_142 : decode cX4_copyFrom 142 = .ok (.aload_n 1, 1) := by decide +kernel
theorem dX4_copyFrom_143 : decode cX4_copyFrom 143 = .ok (.getfield 55, 3) := by decide +kernel
theorem dX4_copyFrom_146 : decode cX4_copyFrom 146 = .ok (.aload_n 0, 1) := by decide +kernel
theorem dX4_copyFrom_147 : decode cX4_copyFrom 147 = .ok (.getfield 55, 3) := by decide +kernel
theorem dX4_copyFrom_150 : decode cX4_copyFrom 150 = .ok (.invokestatic 77, 3) := by decide +kernel
theorem dX4_copyFrom_153 : decode cX4_copyFrom 153 = .ok (.aload_n 1, 1) := by decide +kernel
theorem dX4_copyFrom_154 : decode cX4_copyFrom 154 = .ok (.getfield 58, 3) := by decide +kernel
theorem dX4_copyFrom_157 : decode cX4_copyFrom 157 = .ok (.aload_n 0, 1) := by decide +kernel
theorem dX4_copyFrom_158 : decode cX4_copyFrom 158 = .ok (.getfield 58, 3) := by decide +kernel
theorem dX4_copyFrom_161 : decode cX4_copyFrom 161 = .ok (.invokestatic 77, 3) := by decide +kernel
theorem dX4_copyFrom_164 : decode cX4_copyFrom 164 = .ok (.aload_n 1, 1) := by decide +kernel
theorem dX4_copyFrom_165 : decode cX4_copyFrom 165 = .ok (.getfield 61, 3) := by decide +kernel
theorem dX4_copyFrom_168 : decode cX4_copyFrom 168 = .ok (.aload_n 0, 1) := by decide +kernel
theorem dX4_copyFrom_169 : decode cX4_copyFrom 169 = .ok (.getfield 61, 3) := by decide +kernel
theorem dX4_copyFrom_172 : decode cX4_copyFrom 172 = .ok (.invokestatic 77, 3) := by decide +kernel
theorem dX4_copyFrom_175 : decode cX4_copyFrom 175 = .ok (.aload_n 1, 1) := by decide +kernel
theorem dX4_copyFrom_176 : decode cX4_copyFrom 176 = .ok (.getfield 64, 3) := by decide +kernel
theorem dX4_copyFrom_179 : decode cX4_copyFrom 179 = .ok (.aload_n 0, 1) := by decide +kernel
theorem dX4_copyFrom_180 : decode cX4_copyFrom 180 = .ok (.getfield 64, 3) := by decide +kernel
theorem dX4_copyFrom_183 : decode cX4_copyFrom 183 = .ok (.invokestatic 77, 3) := by decide +kernel
theorem dX4_copyFrom_186 : decode cX4_copyFrom 186 = .ok (.aload_n 1, 1) := by decide +kernel
theorem dX4_copyFrom_187 : decode cX4_copyFrom 187 = .ok (.getfield 67, 3) := by decide +kernel
theorem dX4_copyFrom_190 : decode cX4_copyFrom 190 = .ok (.aload_n 0, 1) := by decide +kernel
theorem dX4_copyFrom_191 : decode cX4_copyFrom 191 = .ok (.getfield 67, 3) := by decide +kernel
theorem dX4_copyFrom_194 : decode cX4_copyFrom 194 = .ok (.invokestatic 77, 3) := by decide +kernel
theorem dX4_copyFrom_197 : decode cX4_copyFrom 197 = .ok (.return_, 1) := by decide +kernel
theorem dX4_putTeacher_0 : decode cX4_putTeacher 0 = .ok (.aload_n 0, 1) := by decide +kernel
theorem dX4_putTeacher_1 : decode cX4_putTeacher 1 = .ok (.getfield 9, 3) := by decide +kernel
theorem dX4_putTeacher_4 : decode cX4_putTeacher 4 = .ok (.istore_n 3, 1) := by decide +kernel
theorem dX4_putTeacher_5 : decode cX4_putTeacher 5 = .ok (.aload_n 0, 1) := by decide +kernel
theorem dX4_putTeacher_6 : decode cX4_putTeacher 6 = .ok (.getfield 24, 3) := by decide +kernel
theorem dX4_putTeacher_9 : decode cX4_putTeacher 9 = .ok (.iload_n 3, 1) := by decide +kernel
theorem dX4_putTeacher_10 : decode cX4_putTeacher 10 = .ok (.iload_n 1, 1) := by decide +kernel
theorem dX4_putTeacher_11 : decode cX4_putTeacher 11 = .ok (.invokestatic 81, 3) := by decide +kernel
theorem dX4_putTeacher_14 : decode cX4_putTeacher 14 = .ok (.aload_n 0, 1) := by decide +kernel
theorem dX4_putTeacher_15 : decode cX4_putTeacher 15 = .ok (.getfield 28, 3) := by decide +kernel
theorem dX4_putTeacher_18 : decode cX4_putTeacher 18 = .ok (.iload_n 3, 1) := by decide +kernel
theorem dX4_putTeacher_19 : decode cX4_putTeacher 19 = .ok (.iload_n 2, 1) := by decide +kernel
theorem dX4_putTeacher_20 : decode cX4_putTeacher 20 = .ok (.invokestatic 81, 3) := by decide +kernel
theorem dX4_putTeacher_23 : decode cX4_putTeacher 23 = .ok (.aload_n 0, 1) := by decide +kernel
theorem dX4_putTeacher_24 : decode cX4_putTeacher 24 = .ok (.getfield 31, 3) := by decide +kernel
theorem dX4_putTeacher_27 : decode cX4_putTeacher 27 = .ok (.iload_n 3, 1) := by decide +kernel
theorem dX4_putTeacher_28 : decode cX4_putTeacher 28 = .ok (.iconst 2, 1) := by decide +kernel
theorem dX4_putTeacher_29 : decode cX4_putTeacher 29 = .ok (.invokestatic 81, 3) := by decide +kernel
theorem dX4_putTeacher_32 : decode cX4_putTeacher 32 = .ok (.aload_n 0, 1) := by decide +kernel
theorem dX4_putTeacher_33 : decode cX4_putTeacher 33 = .ok (.getfield 34, 3) := by decide +kernel
theorem dX4_putTeacher_36 : decode cX4_putTeacher 36 = .ok (.iload_n 3, 1) := by decide +kernel
theorem dX4_putTeacher_37 : decode cX4_putTeacher 37 = .ok (.iconst 0, 1) := by decide +kernel
theorem dX4_putTeacher_38 : decode cX4_putTeacher 38 = .ok (.invokestatic 81, 3) := by decide +kernel
theorem dX4_putTeacher_41 : decode cX4_putTeacher 41 = .ok (.aload_n 0, 1) := by decide +kernel
theorem dX4_putTeacher_42 : decode cX4_putTeacher 42 = .ok (.getfield 37, 3) := by decide +kernel
theorem dX4_putTeacher_45 : decode cX4_putTeacher 45 = .ok (.iload_n 3, 1) := by decide +kernel
theorem dX4_putTeacher_46 : decode cX4_putTeacher 46 = .ok (.iconst 0, 1) := by decide +kernel
theorem dX4_putTeacher_47 : decode cX4_putTeacher 47 = .ok (.invokestatic 81, 3) := by decide +kernel
theorem dX4_putTeacher_50 : decode cX4_putTeacher 50 = .ok (.aload_n 0, 1) := by decide +kernel
theorem dX4_putTeacher_51 : decode cX4_putTeacher 51 = .ok (.dup, 1) := by decide +kernel
theorem dX4_putTeacher_52 : decode cX4_putTeacher 52 = .ok (.getfield 9, 3) := by decide +kernel
theorem dX4_putTeacher_55 : decode cX4_putTeacher 55 = .ok (.iconst 1, 1) := by decide +kernel
theorem dX4_putTeacher_56 : decode cX4_putTeacher 56 = .ok (.iadd, 1) := by decide +kernel
theorem dX4_putTeacher_57 : decode cX4_putTeacher 57 = .ok (.putfield 9, 3) := by decide +kernel
theorem dX4_putTeacher_60 : decode cX4_putTeacher 60 = .ok (.iload_n 3, 1) := by decide +kernel
theorem dX4_putTeacher_61 : decode cX4_putTeacher 61 = .ok (.ireturn, 1) := by decide +kernel
theorem dX4_isAbsentIn_0 : decode cX4_isAbsentIn 0 = .ok (.aload_n 0, 1) := by decide +kernel
theorem dX4_isAbsentIn_1 : decode cX4_isAbsentIn 1 = .ok (.getfield 37, 3) := by decide +kernel
theorem dX4_isAbsentIn_4 : decode cX4_isAbsentIn 4 = .ok (.iload_n 1, 1) := by decide +kernel
theorem dX4_isAbsentIn_5 : decode cX4_isAbsentIn 5 = .ok (.invokestatic 85, 3) := by decide +kernel
theorem dX4_isAbsentIn_8 : decode cX4_isAbsentIn 8 = .ok (.iload_n 2, 1) := by decide +kernel
theorem dX4_isAbsentIn_9 : decode cX4_isAbsentIn 9 = .ok (.ishr, 1) := by decide +kernel
theorem dX4_isAbsentIn_10 : decode cX4_isAbsentIn 10 = .ok (.iconst 1, 1) := by decide +kernel
theorem dX4_isAbsentIn_11 : decode cX4_isAbsentIn 11 = .ok (.iand, 1) := by decide +kernel
theorem dX4_isAbsentIn_12 : decode cX4_isAbsentIn 12 = .ok (.ifCond .eq 7, 3) := by decide +kernel
theorem dX4_isAbsentIn_15 : decode cX4_isAbsentIn 15 = .ok (.iconst 1, 1) := by decide +kernel
theorem dX4_isAbsentIn_16 : decode cX4_isAbsentIn 16 = .ok (.goto 4, 3) := by decide +kernel
theorem dX4_isAbsentIn_19 : decode cX4_isAbsentIn 19 = .ok (.iconst 0, 1) := by decide +kernel
theorem dX4_isAbsentIn_20 : decode cX4_isAbsentIn 20 = .ok (.ireturn, 1) := by decide +kernel
theorem dX4_absentPeriods_0 : decode cX4_absentPeriods 0 = .ok (.aload_n 0, 1) := by decide +kernel
theorem dX4_absentPeriods_1 : decode cX4_absentPeriods 1 = .ok (.getfield 37, 3) := by decide +kernel
theorem dX4_absentPeriods_4 : decode cX4_absentPeriods 4 = .ok (.iload_n 1, 1) := by decide +kernel
theorem dX4_absentPeriods_5 : decode cX4_absentPeriods 5 = .ok (.invokestatic 85, 3) := by decide +kernel
theorem dX4_absentPeriods_8 : decode cX4_absentPeriods 8 = .ok (.iload_n 2, 1) := by decide +kernel
theorem dX4_absentPeriods_9 : decode cX4_absentPeriods 9 = .ok (.bipush 6, 2) := by decide +kernel
theorem dX4_absentPeriods_11 : decode cX4_absentPeriods 11 = .ok (.imul, 1) := by decide +kernel
theorem dX4_absentPeriods_12 : decode cX4_absentPeriods 12 = .ok (.ishr, 1) := by decide +kernel
theorem dX4_absentPeriods_13 : decode cX4_absentPeriods 13 = .ok (.bipush 63, 2) := by decide +kernel
theorem dX4_absentPeriods_15 : decode cX4_absentPeriods 15 = .ok (.iand, 1) := by decide +kernel
theorem dX4_absentPeriods_16 : decode cX4_absentPeriods 16 = .ok (.ireturn, 1) := by decide +kernel
theorem dX4_isFreeIn_0 : decode cX4_isFreeIn 0 = .ok (.aload_n 0, 1) := by decide +kernel
theorem dX4_isFreeIn_1 : decode cX4_isFreeIn 1 = .ok (.iload_n 1, 1) := by decide +kernel
theorem dX4_isFreeIn_2 : decode cX4_isFreeIn 2 = .ok (.iload_n 2, 1) := by decide +kernel
theorem dX4_isFreeIn_3 : decode cX4_isFreeIn 3 = .ok (.invokevirtual 89, 3) := by decide +kernel
theorem dX4_isFreeIn_6 : decode cX4_isFreeIn 6 = .ok (.ifCond .ne 35, 3) := by decide +kernel
theorem dX4_isFreeIn_9 : decode cX4_isFreeIn 9 = .ok (.aload_n 0, 1) := by decide +kernel
theorem dX4_isFreeIn_10 : decode cX4_isFreeIn 10 = .ok (.iload_n 2, 1) := by decide +kernel
theorem dX4_isFreeIn_11 : decode cX4_isFreeIn 11 = .ok (.aload_n 0, 1) := by decide +kernel
theorem dX4_isFreeIn_12 : decode cX4_isFreeIn 12 = .ok (.getfield 55, 3) := by decide +kernel
theorem dX4_isFreeIn_15 : decode cX4_isFreeIn 15 = .ok (.iload_n 1, 1) := by decide +kernel
theorem dX4_isFreeIn_16 : decode cX4_isFreeIn 16 = .ok (.invokevirtual 93, 3) := by decide +kernel
theorem dX4_isFreeIn_19 : decode cX4_isFreeIn 19 = .ok (.iconst (-1), 1) := by decide +kernel
theorem dX4_isFreeIn_20 : decode cX4_isFreeIn 20 = .ok (.if_icmp .ne 21, 3) := by decide +kernel
theorem dX4_isFreeIn_23 : decode cX4_isFreeIn 23 = .ok (.aload_n 0, 1) := by decide +kernel
theorem dX4_isFreeIn_24 : decode cX4_isFreeIn 24 = .ok (.iload_n 2, 1) := by decide +kernel
theorem dX4_isFreeIn_25 : decode cX4_isFreeIn 25 = .ok (.aload_n 0, 1) := by decide +kernel
theorem dX4_isFreeIn_26 : decode cX4_isFreeIn 26 = .ok (.getfield 61, 3) := by decide +kernel
theorem dX4_isFreeIn_29 : decode cX4_isFreeIn 29 = .ok (.iload_n 1, 1) := by decide +kernel
theorem dX4_isFreeIn_30 : decode cX4_isFreeIn 30 = .ok (.invokevirtual 93, 3) := by decide +kernel
theorem dX4_isFreeIn_33 : decode cX4_isFreeIn 33 = .ok (.iconst (-1), 1) := by decide +kernel
theorem dX4_isFreeIn_34 : decode cX4_isFreeIn 34 = .ok (.if_icmp .ne 7, 3) := by decide +kernel
theorem dX4_isFreeIn_37 : decode cX4_isFreeIn 37 = .ok (.iconst 1, 1) := by decide +kernel
theorem dX4_isFreeIn_38 : decode cX4_isFreeIn 38 = .ok (.goto 4, 3) := by decide +kernel
theorem dX4_isFreeIn_41 : decode cX4_isFreeIn 41 = .ok (.iconst 0, 1) := by decide +kernel
theorem dX4_isFreeIn_42 : decode cX4_isFreeIn 42 = .ok (.ireturn, 1) := by decide +kernel
theorem dX4_freePeriods_0 : decode cX4_freePeriods 0 = .ok (.iconst 0, 1) := by decide +kernel
theorem dX4_freePeriods_1 : decode cX4_freePeriods 1 = .ok (.istore_n 3, 1) := by decide +kernel
theorem dX4_freePeriods_2 : decode cX4_freePeriods 2 = .ok (.iconst 0, 1) := by decide +kernel
theorem dX4_freePeriods_3 : decode cX4_freePeriods 3 = .ok (.istore 4, 2) := by decide +kernel
theorem dX4_freePeriods_5 : decode cX4_freePeriods 5 = .ok (.iload 4, 2) := by decide +kernel
theorem dX4_freePeriods_7 : decode cX4_freePeriods 7 = .ok (.bipush 6, 2) := by decide +kernel
theorem dX4_freePeriods_9 : decode cX4_freePeriods 9 = .ok (.if_icmp .ge 31, 3) := by decide +kernel
theorem dX4_freePeriods_12 : decode cX4_freePeriods 12 = .ok (.aload_n 0, 1) := by decide +kernel
theorem dX4_freePeriods_13 : decode cX4_freePeriods 13 = .ok (.iload_n 1, 1) := by decide +kernel
theorem dX4_freePeriods_14 : decode cX4_freePeriods 14 = .ok (.iload_n 2, 1) := by decide +kernel
theorem dX4_freePeriods_15 : decode cX4_freePeriods 15 = .ok (.bipush 6, 2) := by decide +kernel
theorem dX4_freePeriods_17 : decode cX4_freePeriods 17 = .ok (.imul, 1) := by decide +kernel
theorem dX4_freePeriods_18 : decode cX4_freePeriods 18 = .ok (.iload 4, 2) := by decide +kernel
theorem dX4_freePeriods_20 : decode cX4_freePeriods 20 = .ok (.iadd, 1) := by decide +kernel
theorem dX4_freePeriods_21 : decode cX4_freePeriods 21 = .ok (.invokevirtual 97, 3) := by decide +kernel
theorem dX4_freePeriods_24 : decode cX4_freePeriods 24 = .ok (.ifCond .eq 10, 3) := by decide +kernel
theorem dX4_freePeriods_27 : decode cX4_freePeriods 27 = .ok (.iload_n 3, 1) := by decide +kernel
theorem dX4_freePeriods_28 : decode cX4_freePeriods 28 = .ok (.iconst 1, 1) := by decide +kernel
theorem dX4_freePeriods_29 : decode cX4_freePeriods 29 = .ok (.iload 4, 2) := by decide +kernel
theorem dX4_freePeriods_31 : decode cX4_freePeriods 31 = .ok (.ishl, 1) := by decide +kernel
theorem dX4_freePeriods_32 : decode cX4_freePeriods 32 = .ok (.ior, 1) := by decide +kernel
theorem dX4_freePeriods_33 : decode cX4_freePeriods 33 = .ok (.istore_n 3, 1) := by decide +kernel
theorem dX4_freePeriods_34 : decode cX4_freePeriods 34 = .ok (.iinc 4 1, 3) := by decide +kernel
theorem dX4_freePeriods_37 : decode cX4_freePeriods 37 = .ok (.goto (-32), 3) := by decide +kernel
theorem dX4_freePeriods_40 : decode cX4_freePeriods 40 = .ok (.iload_n 3, 1) := by decide +kernel
theorem dX4_freePeriods_41 : decode cX4_freePeriods 41 = .ok (.ireturn, 1) := by decide +kernel
theorem dX4_hasSubject_0 : decode cX4_hasSubject 0 = .ok (.aload_n 0, 1) := by decide +kernel
theorem dX4_hasSubject_1 : decode cX4_hasSubject 1 = .ok (.getfield 24, 3) := by decide +kernel
theorem dX4_hasSubject_4 : decode cX4_hasSubject 4 = .ok (.iload_n 1, 1) := by decide +kernel
theorem dX4_hasSubject_5 : decode cX4_hasSubject 5 = .ok (.invokestatic 85, 3) := by decide +kernel
theorem dX4_hasSubject_8 : decode cX4_hasSubject 8 = .ok (.iload_n 2, 1) := by decide +kernel
theorem dX4_hasSubject_9 : decode cX4_hasSubject 9 = .ok (.ishr, 1) := by decide +kernel
theorem dX4_hasSubject_10 : decode cX4_hasSubject 10 = .ok (.iconst 1, 1) := by decide +kernel
theorem dX4_hasSubject_11 : decode cX4_hasSubject 11 = .ok (.iand, 1) := by decide +kernel
theorem dX4_hasSubject_12 : decode cX4_hasSubject 12 = .ok (.ifCond .eq 7, 3) := by decide +kernel
theorem dX4_hasSubject_15 : decode cX4_hasSubject 15 = .ok (.iconst 1, 1) := by decide +kernel
theorem dX4_hasSubject_16 : decode cX4_hasSubject 16 = .ok (.goto 4, 3) := by decide +kernel
theorem dX4_hasSubject_19 : decode cX4_hasSubject 19 = .ok (.iconst 0, 1) := by decide +kernel
theorem dX4_hasSubject_20 : decode cX4_hasSubject 20 = .ok (.ireturn, 1) := by decide +kernel
theorem dX4_ownLessons_0 : decode cX4_ownLessons 0 = .ok (.iconst 0, 1) := by decide +kernel
theorem dX4_ownLessons_1 : decode cX4_ownLessons 1 = .ok (.istore_n 2, 1) := by decide +kernel
theorem dX4_ownLessons_2 : decode cX4_ownLessons 2 = .ok (.iconst 0, 1) := by decide +kernel
theorem dX4_ownLessons_3 : decode cX4_ownLessons 3 = .ok (.istore_n 3, 1) := by decide +kernel
theorem dX4_ownLessons_4 : decode cX4_ownLessons 4 = .ok (.iload_n 3, 1) := by decide +kernel
theorem dX4_ownLessons_5 : decode cX4_ownLessons 5 = .ok (.aload_n 0, 1) := by decide +kernel
theorem dX4_ownLessons_6 : decode cX4_ownLessons 6 = .ok (.getfield 15, 3) := by decide +kernel
theorem dX4_ownLessons_9 : decode cX4_ownLessons 9 = .ok (.if_icmp .ge 24, 3) := by decide +kernel
theorem dX4_ownLessons_12 : decode cX4_ownLessons 12 = .ok (.aload_n 0, 1) := by decide +kernel
theorem dX4_ownLessons_13 : decode cX4_ownLessons 13 = .ok (.getfield 55, 3) := by decide +kernel
theorem dX4_ownLessons_16 : decode cX4_ownLessons 16 = .ok (.iload_n 3, 1) := by decide +kernel
theorem dX4_ownLessons_17 : decode cX4_ownLessons 17 = .ok (.invokestatic 85, 3) := by decide +kernel
theorem dX4_ownLessons_20 : decode cX4_ownLessons 20 = .ok (.iload_n 1, 1) := by decide +kernel
theorem dX4_ownLessons_21 : decode cX4_ownLessons 21 = .ok (.if_icmp .ne 6, 3) := by decide +kernel
theorem dX4_ownLessons_24 : decode cX4_ownLessons 24 = .ok (.iinc 2 1, 3) := by decide +kernel
theorem dX4_ownLessons_27 : decode cX4_ownLessons 27 = .ok (.iinc 3 1, 3) := by decide +kernel
theorem dX4_ownLessons_30 : decode cX4_ownLessons 30 = .ok (.goto (-26), 3) := by decide +kernel
theorem dX4_ownLessons_33 : decode cX4_ownLessons 33 = .ok (.iload_n 2, 1) := by decide +kernel
theorem dX4_ownLessons_34 : decode cX4_ownLessons 34 = .ok (.ireturn, 1) := by decide +kernel
theorem dX4_untaughtLessons_0 : decode cX4_untaughtLessons 0 = .ok (.iconst 0, 1) := by decide +kernel
theorem dX4_untaughtLessons_1 : decode cX4_untaughtLessons 1 = .ok (.istore_n 2, 1) := by decide +kernel
theorem dX4_untaughtLessons_2 : decode cX4_untaughtLessons 2 = .ok (.iconst 0, 1) := by decide +kernel
theorem dX4_untaughtLessons_3 : decode cX4_untaughtLessons 3 = .ok (.istore_n 3, 1) := by decide +kernel
theorem dX4_untaughtLessons_4 : decode cX4_untaughtLessons 4 = .ok (.iload_n 3, 1) := by decide +kernel
theorem dX4_untaughtLessons_5 : decode cX4_untaughtLessons 5 = .ok (.aload_n 0, 1) := by decide +kernel
theorem dX4_untaughtLessons_6 : decode cX4_untaughtLessons 6 = .ok (.getfield 15, 3) := by decide +kernel
theorem dX4_untaughtLessons_9 : decode cX4_untaughtLessons 9 = .ok (.if_icmp .ge 32, 3) := by decide +kernel
theorem dX4_untaughtLessons_12 : decode cX4_untaughtLessons 12 = .ok (.aload_n 0, 1) := by decide +kernel
theorem dX4_untaughtLessons_13 : decode cX4_untaughtLessons 13 = .ok (.getfield 55, 3) := by decide +kernel
theorem dX4_untaughtLessons_16 : decode cX4_untaughtLessons 16 = .ok (.iload_n 3, 1) := by decide +kernel
theorem dX4_untaughtLessons_17 : decode cX4_untaughtLessons 17 = .ok (.invokestatic 85, 3) := by decide +kernel
theorem dX4_untaughtLessons_20 : decode cX4_untaughtLessons 20 = .ok (.iload_n 1, 1) := by decide +kernel
theorem dX4_untaughtLessons_21 : decode cX4_untaughtLessons 21 = .ok (.if_icmp .ne 14, 3) := by decide +kernel
theorem dX4_untaughtLessons_24 : decode cX4_untaughtLessons 24 = .ok (.aload_n 0, 1) := by decide +kernel
theorem dX4_untaughtLessons_25 : decode cX4_untaughtLessons 25 = .ok (.iload_n 3, 1) := by decide +kernel
theorem dX4_untaughtLessons_26 : decode cX4_untaughtLessons 26 = .ok (.invokevirtual 100, 3) := by decide +kernel
theorem dX4_untaughtLessons_29 : decode cX4_untaughtLessons 29 = .ok (.ifCond .eq 6, 3) := by decide +kernel
theorem dX4_untaughtLessons_32 : decode cX4_untaughtLessons 32 = .ok (.iinc 2 1, 3) := by decide +kernel
theorem dX4_untaughtLessons_35 : decode cX4_untaughtLessons 35 = .ok (.iinc 3 1, 3) := by decide +kernel
theorem dX4_untaughtLessons_38 : decode cX4_untaughtLessons 38 = .ok (.goto (-34), 3) := by decide +kernel
theorem dX4_untaughtLessons_41 : decode cX4_untaughtLessons 41 = .ok (.iload_n 2, 1) := by decide +kernel
theorem dX4_untaughtLessons_42 : decode cX4_untaughtLessons 42 = .ok (.ireturn, 1) := by decide +kernel
theorem dX4_coversOf_0 : decode cX4_coversOf 0 = .ok (.iconst 0, 1) := by decide +kernel
theorem dX4_coversOf_1 : decode cX4_coversOf 1 = .ok (.istore_n 2, 1) := by decide +kernel
theorem dX4_coversOf_2 : decode cX4_coversOf 2 = .ok (.iconst 0, 1) := by decide +kernel
theorem dX4_coversOf_3 : decode cX4_coversOf 3 = .ok (.istore_n 3, 1) := by decide +kernel
theorem dX4_coversOf_4 : decode cX4_coversOf 4 = .ok (.iload_n 3, 1) := by decide +kernel
theorem dX4_coversOf_5 : decode cX4_coversOf 5 = .ok (.iconst 5, 1) := by decide +kernel
theorem dX4_coversOf_6 : decode cX4_coversOf 6 = .ok (.if_icmp .ge 18, 3) := by decide +kernel
theorem dX4_coversOf_9 : decode cX4_coversOf 9 = .ok (.iload_n 2, 1) := by decide +kernel
theorem dX4_coversOf_10 : decode cX4_coversOf 10 = .ok (.aload_n 0, 1) := by decide +kernel
theorem dX4_coversOf_11 : decode cX4_coversOf 11 = .ok (.iload_n 1, 1) := by decide +kernel
theorem dX4_coversOf_12 : decode cX4_coversOf 12 = .ok (.iload_n 3, 1) := by decide +kernel
theorem dX4_coversOf_13 : decode cX4_coversOf 13 = .ok (.invokevirtual 104, 3) := by decide +kernel
theorem dX4_coversOf_16 : decode cX4_coversOf 16 = .ok (.iadd, 1) := by decide +kernel
theorem dX4_coversOf_17 : decode cX4_coversOf 17 = .ok (.istore_n 2, 1) := by decide +kernel
theorem dX4_coversOf_18 : decode cX4_coversOf 18 = .ok (.iinc 3 1, 3) := by decide +kernel
theorem dX4_coversOf_21 : decode cX4_coversOf 21 = .ok (.goto (-17), 3) := by decide +kernel
theorem dX4_coversOf_24 : decode cX4_coversOf 24 = .ok (.iload_n 2, 1) := by decide +kernel
theorem dX4_coversOf_25 : decode cX4_coversOf 25 = .ok (.ireturn, 1) := by decide +kernel
theorem dX4_coversOn_0 : decode cX4_coversOn 0 = .ok (.iconst 0, 1) := by decide +kernel
theorem dX4_coversOn_1 : decode cX4_coversOn 1 = .ok (.istore_n 3, 1) := by decide +kernel
theorem dX4_coversOn_2 : decode cX4_coversOn 2 = .ok (.iconst 0, 1) := by decide +kernel
theorem dX4_coversOn_3 : decode cX4_coversOn 3 = .ok (.istore 4, 2) := by decide +kernel
theorem dX4_coversOn_5 : decode cX4_coversOn 5 = .ok (.iload 4, 2) := by decide +kernel
theorem dX4_coversOn_7 : decode cX4_coversOn 7 = .ok (.aload_n 0, 1) := by decide +kernel
theorem dX4_coversOn_8 : decode cX4_coversOn 8 = .ok (.getfield 15, 3) := by decide +kernel
theorem dX4_coversOn_11 : decode cX4_coversOn 11 = .ok (.if_icmp .ge 35, 3) := by decide +kernel
theorem dX4_coversOn_14 : decode cX4_coversOn 14 = .ok (.aload_n 0, 1) := by decide +kernel
theorem dX4_coversOn_15 : decode cX4_coversOn 15 = .ok (.getfield 61, 3) := by decide +kernel
theorem dX4_coversOn_18 : decode cX4_coversOn 18 = .ok (.iload 4, 2) := by decide +kernel
theorem dX4_coversOn_20 : decode cX4_coversOn 20 = .ok (.invokestatic 85, 3) := by decide +kernel
theorem dX4_coversOn_23 : decode cX4_coversOn 23 = .ok (.iload_n 1, 1) := by decide +kernel
theorem dX4_coversOn_24 : decode cX4_coversOn 24 = .ok (.if_icmp .ne 16, 3) := by decide +kernel
theorem dX4_coversOn_27 : decode cX4_coversOn 27 = .ok (.aload_n 0, 1) := by decide +kernel
theorem dX4_coversOn_28 : decode cX4_coversOn 28 = .ok (.iload 4, 2) := by decide +kernel
theorem dX4_coversOn_30 : decode cX4_coversOn 30 = .ok (.invokevirtual 108, 3) := by decide +kernel
theorem dX4_coversOn_33 : decode cX4_coversOn 33 = .ok (.iload_n 2, 1) := by decide +kernel
theorem dX4_coversOn_34 : decode cX4_coversOn 34 = .ok (.if_icmp .ne 6, 3) := by decide +kernel
theorem dX4_coversOn_37 : decode cX4_coversOn 37 = .ok (.iinc 3 1, 3) := by decide +kernel
theorem dX4_coversOn_40 : decode cX4_coversOn 40 = .ok (.iinc 4 1, 3) := by decide +kernel
theorem dX4_coversOn_43 : decode cX4_coversOn 43 = .ok (.goto (-38), 3) := by decide +kernel
theorem dX4_coversOn_46 : decode cX4_coversOn 46 = .ok (.iload_n 3, 1) := by decide +kernel
theorem dX4_coversOn_47 : decode cX4_coversOn 47 = .ok (.ireturn, 1) := by decide +kernel
theorem dX4_addPoints_0 : decode cX4_addPoints 0 = .ok (.aload_n 0, 1) := by decide +kernel
theorem dX4_addPoints_1 : decode cX4_addPoints 1 = .ok (.getfield 34, 3) := by decide +kernel
theorem dX4_addPoints_4 : decode cX4_addPoints 4 = .ok (.iload_n 1, 1) := by decide +kernel
theorem dX4_addPoints_5 : decode cX4_addPoints 5 = .ok (.aload_n 0, 1) := by decide +kernel
theorem dX4_addPoints_6 : decode cX4_addPoints 6 = .ok (.getfield 34, 3) := by decide +kernel
theorem dX4_addPoints_9 : decode cX4_addPoints 9 = .ok (.iload_n 1, 1) := by decide +kernel
theorem dX4_addPoints_10 : decode cX4_addPoints 10 = .ok (.invokestatic 85, 3) := by decide +kernel
theorem dX4_addPoints_13 : decode cX4_addPoints 13 = .ok (.iload_n 2, 1) := by decide +kernel
theorem dX4_addPoints_14 : decode cX4_addPoints 14 = .ok (.iadd, 1) := by decide +kernel
theorem dX4_addPoints_15 : decode cX4_addPoints 15 = .ok (.invokestatic 81, 3) := by decide +kernel
theorem dX4_addPoints_18 : decode cX4_addPoints 18 = .ok (.return_, 1) := by decide +kernel
theorem dX4_shareFor_0 : decode cX4_shareFor 0 = .ok (.aload_n 0, 1) := by decide +kernel
theorem dX4_shareFor_1 : decode cX4_shareFor 1 = .ok (.getfield 28, 3) := by decide +kernel
theorem dX4_shareFor_4 : decode cX4_shareFor 4 = .ok (.iload_n 1, 1) := by decide +kernel
theorem dX4_shareFor_5 : decode cX4_shareFor 5 = .ok (.invokestatic 85, 3) := by decide +kernel
theorem dX4_shareFor_8 : decode cX4_shareFor 8 = .ok (.istore_n 3, 1) := by decide +kernel
theorem dX4_shareFor_9 : decode cX4_shareFor 9 = .ok (.iload_n 3, 1) := by decide +kernel
theorem dX4_shareFor_10 : decode cX4_shareFor 10 = .ok (.iconst 1, 1) := by decide +kernel
theorem dX4_shareFor_11 : decode cX4_shareFor 11 = .ok (.if_icmp .ge 7, 3) := by decide +kernel
theorem dX4_shareFor_14 : decode cX4_shareFor 14 = .ok (.iconst 0, 1) := by decide +kernel
theorem dX4_shareFor_15 : decode cX4_shareFor 15 = .ok (.goto 9, 3) := by decide +kernel
theorem dX4_shareFor_18 : decode cX4_shareFor 18 = .ok (.bipush 12, 2) := by decide +kernel
theorem dX4_shareFor_20 : decode cX4_shareFor 20 = .ok (.iload_n 2, 1) := by decide +kernel
theorem dX4_shareFor_21 : decode cX4_shareFor 21 = .ok (.imul, 1) := by decide +kernel
theorem dX4_shareFor_22 : decode cX4_shareFor 22 = .ok (.iload_n 3, 1) := by decide +kernel
theorem dX4_shareFor_23 : decode cX4_shareFor 23 = .ok (.idiv, 1) := by decide +kernel
theorem dX4_shareFor_24 : decode cX4_shareFor 24 = .ok (.ireturn, 1) := by decide +kernel
theorem dX4_shareOf_0 : decode cX4_shareOf 0 = .ok (.aload_n 0, 1) := by decide +kernel
theorem dX4_shareOf_1 : decode cX4_shareOf 1 = .ok (.iload_n 1, 1) := by decide +kernel
theorem dX4_shareOf_2 : decode cX4_shareOf 2 = .ok (.aload_n 0, 1) := by decide +kernel
theorem dX4_shareOf_3 : decode cX4_shareOf 3 = .ok (.getfield 34, 3) := by decide +kernel
theorem dX4_shareOf_6 : decode cX4_shareOf 6 = .ok (.iload_n 1, 1) := by decide +kernel
theorem dX4_shareOf_7 : decode cX4_shareOf 7 = .ok (.invokestatic 85, 3) := by decide +kernel
theorem dX4_shareOf_10 : decode cX4_shareOf 10 = .ok (.invokevirtual 111, 3) := by decide +kernel
theorem dX4_shareOf_13 : decode cX4_shareOf 13 = .ok (.ireturn, 1) := by decide +kernel
theorem dX4_extremeTeacher_0 : decode cX4_extremeTeacher 0 = .ok (.iconst 0, 1) := by decide +kernel
theorem dX4_extremeTeacher_1 : decode cX4_extremeTeacher 1 = .ok (.istore_n 2, 1) := by decide +kernel
theorem dX4_extremeTeacher_2 : decode cX4_extremeTeacher 2 = .ok (.iconst 1, 1) := by decide +kernel
theorem dX4_extremeTeacher_3 : decode cX4_extremeTeacher 3 = .ok (.istore_n 3, 1) := by decide +kernel
theorem dX4_extremeTeacher_4 : decode cX4_extremeTeacher 4 = .ok (.iload_n 3, 1) := by decide +kernel
theorem dX4_extremeTeacher_5 : decode cX4_extremeTeacher 5 = .ok (.aload_n 0, 1) := by decide +kernel
theorem dX4_extremeTeacher_6 : decode cX4_extremeTeacher 6 = .ok (.getfield 9, 3) := by decide +kernel
theorem dX4_extremeTeacher_9 : decode cX4_extremeTeacher 9 = .ok (.if_icmp .ge 41, 3) := by decide +kernel
theorem dX4_extremeTeacher_12 : decode cX4_extremeTeacher 12 = .ok (.aload_n 0, 1) := by decide +kernel
theorem dX4_extremeTeacher_13 : decode cX4_extremeTeacher 13 = .ok (.iload_n 3, 1) := by decide +kernel
theorem dX4_extremeTeacher_14 : decode cX4_extremeTeacher 14 = .ok (.invokevirtual 114, 3) := by decide +kernel
theorem dX4_extremeTeacher_17 : decode cX4_extremeTeacher 17 = .ok (.aload_n 0, 1) := by decide +kernel
theorem dX4_extremeTeacher_18 : decode cX4_extremeTeacher 18 = .ok (.iload_n 2, 1) := by decide +kernel
theorem dX4_extremeTeacher_19 : decode cX4_extremeTeacher 19 = .ok (.invokevirtual 114, 3) := by decide +kernel
theorem dX4_extremeTeacher_22 : decode cX4_extremeTeacher 22 = .ok (.isub, 1) := by decide +kernel
theorem dX4_extremeTeacher_23 : decode cX4_extremeTeacher 23 = .ok (.istore 4, 2) := by decide +kernel
theorem dX4_extremeTeacher_25 : decode cX4_extremeTeacher 25 = .ok (.iload_n 1, 1) := by decide +kernel
theorem dX4_extremeTeacher_26 : decode cX4_extremeTeacher 26 = .ok (.ifCond .eq 11, 3) := by decide +kernel
theorem dX4_extremeTeacher_29 : decode cX4_extremeTeacher 29 = .ok (.iload 4, 2) := by decide +kernel
theorem dX4_extremeTeacher_31 : decode cX4_extremeTeacher 31 = .ok (.ifCond .le 13, 3) := by decide +kernel
theorem dX4_extremeTeacher_34 : decode cX4_extremeTeacher 34 = .ok (.goto 8, 3) := by decide +kernel
theorem dX4_extremeTeacher_37 : decode cX4_extremeTeacher 37 = .ok (.iload 4, 2) := by decide +kernel
theorem dX4_extremeTeacher_39 : decode cX4_extremeTeacher 39 = .ok (.ifCond .ge 5, 3) := by decide +kernel
theorem dX4_extremeTeacher_42 : decode cX4_extremeTeacher 42 = .ok (.iload_n 3, 1) := by decide +kernel
theorem dX4_extremeTeacher_43 : decode cX4_extremeTeacher 43 = .ok (.istore_n 2, 1) := by decide +kernel
theorem dX4_extremeTeacher_44 : decode cX4_extremeTeacher 44 = .ok (.iinc 3 1, 3) := by decide +kernel
theorem dX4_extremeTeacher_47 : decode cX4_extremeTeacher 47 = .ok (.goto (-43), 3) := by decide +kernel
theorem dX4_extremeTeacher_50 : decode cX4_extremeTeacher 50 = .ok (.iload_n 2, 1) := by decide +kernel
theorem dX4_extremeTeacher_51 : decode cX4_extremeTeacher 51 = .ok (.ireturn, 1) := by decide +kernel
theorem dX4_pointsOfAll_0 : decode cX4_pointsOfAll 0 = .ok (.iconst 0, 1) := by decide +kernel
theorem dX4_pointsOfAll_1 : decode cX4_pointsOfAll 1 = .ok (.istore_n 2, 1) := by decide +kernel
theorem dX4_pointsOfAll_2 : decode cX4_pointsOfAll 2 = .ok (.iconst 0, 1) := by decide +kernel
theorem dX4_pointsOfAll_3 : decode cX4_pointsOfAll 3 = .ok (.istore_n 3, 1) := by decide +kernel
theorem dX4_pointsOfAll_4 : decode cX4_pointsOfAll 4 = .ok (.iload_n 3, 1) := by decide +kernel
theorem dX4_pointsOfAll_5 : decode cX4_pointsOfAll 5 = .ok (.aload_n 0, 1) := by decide +kernel
theorem dX4_pointsOfAll_6 : decode cX4_pointsOfAll 6 = .ok (.getfield 9, 3) := by decide +kernel
theorem dX4_pointsOfAll_9 : decode cX4_pointsOfAll 9 = .ok (.if_icmp .ge 28, 3) := by decide +kernel
theorem dX4_pointsOfAll_12 : decode cX4_pointsOfAll 12 = .ok (.iload_n 1, 1) := by decide +kernel
theorem dX4_pointsOfAll_13 : decode cX4_pointsOfAll 13 = .ok (.iload_n 3, 1) := by decide +kernel
theorem dX4_pointsOfAll_14 : decode cX4_pointsOfAll 14 = .ok (.ishr, 1) := by decide +kernel
theorem dX4_pointsOfAll_15 : decode cX4_pointsOfAll 15 = .ok (.iconst 1, 1) := by decide +kernel
theorem dX4_pointsOfAll_16 : decode cX4_pointsOfAll 16 = .ok (.iand, 1) := by decide +kernel
theorem dX4_pointsOfAll_17 : decode cX4_pointsOfAll 17 = .ok (.ifCond .eq 14, 3) := by decide +kernel
theorem dX4_pointsOfAll_20 : decode cX4_pointsOfAll 20 = .ok (.iload_n 2, 1) := by decide +kernel
theorem dX4_pointsOfAll_21 : decode cX4_pointsOfAll 21 = .ok (.aload_n 0, 1) := by decide +kernel
theorem dX4_pointsOfAll_22 : decode cX4_pointsOfAll 22 = .ok (.getfield 34, 3) := by decide +kernel
theorem dX4_pointsOfAll_25 : decode cX4_pointsOfAll 25 = .ok (.iload_n 3, 1) := by decide +kernel
theorem dX4_pointsOfAll_26 : decode cX4_pointsOfAll 26 = .ok (.invokestatic 85, 3) := by decide +kernel
theorem dX4_pointsOfAll_29 : decode cX4_pointsOfAll 29 = .ok (.iadd, 1) := by decide +kernel
theorem dX4_pointsOfAll_30 : decode cX4_pointsOfAll 30 = .ok (.istore_n 2, 1) := by decide +kernel
theorem dX4_pointsOfAll_31 : decode cX4_pointsOfAll 31 = .ok (.iinc 3 1, 3) := by decide +kernel
theorem dX4_pointsOfAll_34 : decode cX4_pointsOfAll 34 = .ok (.goto (-30), 3) := by decide +kernel
theorem dX4_pointsOfAll_37 : decode cX4_pointsOfAll 37 = .ok (.iload_n 2, 1) := by decide +kernel
theorem dX4_pointsOfAll_38 : decode cX4_pointsOfAll 38 = .ok (.ireturn, 1) := by decide +kernel
theorem dX4_pointsFor_0 : decode cX4_pointsFor 0 = .ok (.aload_n 0, 1) := by decide +kernel
theorem dX4_pointsFor_1 : decode cX4_pointsFor 1 = .ok (.getfield 46, 3) := by decide +kernel
theorem dX4_pointsFor_4 : decode cX4_pointsFor 4 = .ok (.iload_n 1, 1) := by decide +kernel
theorem dX4_pointsFor_5 : decode cX4_pointsFor 5 = .ok (.invokestatic 85, 3) := by decide +kernel
theorem dX4_pointsFor_8 : decode cX4_pointsFor 8 = .ok (.bipush 6, 2) := by decide +kernel
theorem dX4_pointsFor_10 : decode cX4_pointsFor 10 = .ok (.irem, 1) := by decide +kernel
theorem dX4_pointsFor_11 : decode cX4_pointsFor 11 = .ok (.istore_n 3, 1) := by decide +kernel
theorem dX4_pointsFor_12 : decode cX4_pointsFor 12 = .ok (.iload_n 3, 1) := by decide +kernel
theorem dX4_pointsFor_13 : decode cX4_pointsFor 13 = .ok (.iconst 3, 1) := by decide +kernel
theorem dX4_pointsFor_14 : decode cX4_pointsFor 14 = .ok (.if_icmp .ge 7, 3) := by decide +kernel
theorem dX4_pointsFor_17 : decode cX4_pointsFor 17 = .ok (.iconst 2, 1) := by decide +kernel
theorem dX4_pointsFor_18 : decode cX4_pointsFor 18 = .ok (.goto 13, 3) := by decide +kernel
theorem dX4_pointsFor_21 : decode cX4_pointsFor 21 = .ok (.iload_n 3, 1) := by decide +kernel
theorem dX4_pointsFor_22 : decode cX4_pointsFor 22 = .ok (.iconst 5, 1) := by decide +kernel
theorem dX4_pointsFor_23 : decode cX4_pointsFor 23 = .ok (.if_icmp .ge 7, 3) := by decide +kernel
theorem dX4_pointsFor_26 : decode cX4_pointsFor 26 = .ok (.iconst 3, 1) := by decide +kernel
theorem dX4_pointsFor_27 : decode cX4_pointsFor 27 = .ok (.goto 4, 3) := by decide +kernel
theorem dX4_pointsFor_30 : decode cX4_pointsFor 30 = .ok (.iconst 4, 1) := by decide +kernel
theorem dX4_pointsFor_31 : decode cX4_pointsFor 31 = .ok (.istore 4, 2) := by decide +kernel
theorem dX4_pointsFor_33 : decode cX4_pointsFor 33 = .ok (.aload_n 0, 1) := by decide +kernel
theorem dX4_pointsFor_34 : decode cX4_pointsFor 34 = .ok (.iload_n 2, 1) := by decide +kernel
theorem dX4_pointsFor_35 : decode cX4_pointsFor 35 = .ok (.aload_n 0, 1) := by decide +kernel
theorem dX4_pointsFor_36 : decode cX4_pointsFor 36 = .ok (.getfield 52, 3) := by decide +kernel
theorem dX4_pointsFor_39 : decode cX4_pointsFor 39 = .ok (.iload_n 1, 1) := by decide +kernel
theorem dX4_pointsFor_40 : decode cX4_pointsFor 40 = .ok (.invokestatic 85, 3) := by decide +kernel
theorem dX4_pointsFor_43 : decode cX4_pointsFor 43 = .ok (.invokevirtual 117, 3) := by decide +kernel
theorem dX4_pointsFor_46 : decode cX4_pointsFor 46 = .ok (.ifCond .eq 8, 3) := by decide +kernel
theorem dX4_pointsFor_49 : decode cX4_pointsFor 49 = .ok (.iload 4, 2) := by decide +kernel
theorem dX4_pointsFor_51 : decode cX4_pointsFor 51 = .ok (.goto 7, 3) := by decide +kernel
theorem dX4_pointsFor_54 : decode cX4_pointsFor 54 = .ok (.iload 4, 2) := by decide +kernel
theorem dX4_pointsFor_56 : decode cX4_pointsFor 56 = .ok (.iconst 2, 1) := by decide +kernel
theorem dX4_pointsFor_57 : decode cX4_pointsFor 57 = .ok (.iadd, 1) := by decide +kernel
theorem dX4_pointsFor_58 : decode cX4_pointsFor 58 = .ok (.ireturn, 1) := by decide +kernel
theorem dX4_pointsFoundAnew_0 : decode cX4_pointsFoundAnew 0 = .ok (.iconst 0, 1) := by decide +kernel
theorem dX4_pointsFoundAnew_1 : decode cX4_pointsFoundAnew 1 = .ok (.istore_n 2, 1) := by decide +kernel
theorem dX4_pointsFoundAnew_2 : decode cX4_pointsFoundAnew 2 = .ok (.iconst 0, 1) := by decide +kernel
theorem dX4_pointsFoundAnew_3 : decode cX4_pointsFoundAnew 3 = .ok (.istore_n 3, 1) := by decide +kernel
theorem dX4_pointsFoundAnew_4 : decode cX4_pointsFoundAnew 4 = .ok (.iload_n 3, 1) := by decide +kernel
theorem dX4_pointsFoundAnew_5 : decode cX4_pointsFoundAnew 5 = .ok (.aload_n 0, 1) := by decide +kernel
theorem dX4_pointsFoundAnew_6 : decode cX4_pointsFoundAnew 6 = .ok (.getfield 15, 3) := by decide +kernel
theorem dX4_pointsFoundAnew_9 : decode cX4_pointsFoundAnew 9 = .ok (.if_icmp .ge 97, 3) := by decide +kernel
theorem dX4_pointsFoundAnew_12 : decode cX4_pointsFoundAnew 12 = .ok (.aload_n 0, 1) := by decide +kernel
theorem dX4_pointsFoundAnew_13 : decode cX4_pointsFoundAnew 13 = .ok (.iload_n 3, 1) := by decide +kernel
theorem dX4_pointsFoundAnew_14 : decode cX4_pointsFoundAnew 14 = .ok (.invokevirtual 100, 3) := by decide +kernel
theorem dX4_pointsFoundAnew_17 : decode cX4_pointsFoundAnew 17 = .ok (.istore 4, 2) := by decide +kernel
theorem dX4_pointsFoundAnew_19 : decode cX4_pointsFoundAnew 19 = .ok (.iload 4, 2) := by decide +kernel
theorem dX4_pointsFoundAnew_21 : decode cX4_pointsFoundAnew 21 = .ok (.iconst 1, 1) := by decide +kernel
theorem dX4_pointsFoundAnew_22 : decode cX4_pointsFoundAnew 22 = .ok (.if_icmp .ne 24, 3) := by decide +kernel
theorem dX4_pointsFoundAnew_25 : decode cX4_pointsFoundAnew 25 = .ok (.aload_n 0, 1) := by decide +kernel
theorem dX4_pointsFoundAnew_26 : decode cX4_pointsFoundAnew 26 = .ok (.getfield 61, 3) := by decide +kernel
theorem dX4_pointsFoundAnew_29 : decode cX4_pointsFoundAnew 29 = .ok (.iload_n 3, 1) := by decide +kernel
theorem dX4_pointsFoundAnew_30 : decode cX4_pointsFoundAnew 30 = .ok (.invokestatic 85, 3) := by decide +kernel
theorem dX4_pointsFoundAnew_33 : decode cX4_pointsFoundAnew 33 = .ok (.iload_n 1, 1) := by decide +kernel
theorem dX4_pointsFoundAnew_34 : decode cX4_pointsFoundAnew 34 = .ok (.if_icmp .ne 12, 3) := by decide +kernel
theorem dX4_pointsFoundAnew_37 : decode cX4_pointsFoundAnew 37 = .ok (.iload_n 2, 1) := by decide +kernel
theorem dX4_pointsFoundAnew_38 : decode cX4_pointsFoundAnew 38 = .ok (.aload_n 0, 1) := by decide +kernel
theorem dX4_pointsFoundAnew_39 : decode cX4_pointsFoundAnew 39 = .ok (.iload_n 3, 1) := by decide +kernel
theorem dX4_pointsFoundAnew_40 : decode cX4_pointsFoundAnew 40 = .ok (.iload_n 1, 1) := by decide +kernel
theorem dX4_pointsFoundAnew_41 : decode cX4_pointsFoundAnew 41 = .ok (.invokevirtual 120, 3) := by decide +kernel
theorem dX4_pointsFoundAnew_44 : decode cX4_pointsFoundAnew 44 = .ok (.iadd, 1) := by decide +kernel
theorem dX4_pointsFoundAnew_45 : decode cX4_pointsFoundAnew 45 = .ok (.istore_n 2, 1) := by decide +kernel
theorem dX4_pointsFoundAnew_46 : decode cX4_pointsFoundAnew 46 = .ok (.iload 4, 2) := by decide +kernel
theorem dX4_pointsFoundAnew_48 : decode cX4_pointsFoundAnew 48 = .ok (.iconst 2, 1) := by decide +kernel
theorem dX4_pointsFoundAnew_49 : decode cX4_pointsFoundAnew 49 = .ok (.if_icmp .ne 51, 3) := by decide +kernel
theorem dX4_pointsFoundAnew_52 : decode cX4_pointsFoundAnew 52 = .ok (.iload_n 2, 1) := by decide +kernel
theorem dX4_pointsFoundAnew_53 : decode cX4_pointsFoundAnew 53 = .ok (.aload_n 0, 1) := by decide +kernel
theorem dX4_pointsFoundAnew_54 : decode cX4_pointsFoundAnew 54 = .ok (.aload_n 0, 1) := by decide +kernel
theorem dX4_pointsFoundAnew_55 : decode cX4_pointsFoundAnew 55 = .ok (.getfield 64, 3) := by decide +kernel
theorem dX4_pointsFoundAnew_58 : decode cX4_pointsFoundAnew 58 = .ok (.iload_n 3, 1) := by decide +kernel
theorem dX4_pointsFoundAnew_59 : decode cX4_pointsFoundAnew 59 = .ok (.invokestatic 85, 3) := by decide +kernel
theorem dX4_pointsFoundAnew_62 : decode cX4_pointsFoundAnew 62 = .ok (.invokevirtual 123, 3) := by decide +kernel
theorem dX4_pointsFoundAnew_65 : decode cX4_pointsFoundAnew 65 = .ok (.iload_n 1, 1) := by decide +kernel
theorem dX4_pointsFoundAnew_66 : decode cX4_pointsFoundAnew 66 = .ok (.if_icmp .ne 7, 3) := by decide +kernel
theorem dX4_pointsFoundAnew_69 : decode cX4_pointsFoundAnew 69 = .ok (.iconst 1, 1) := by decide +kernel
theorem dX4_pointsFoundAnew_70 : decode cX4_pointsFoundAnew 70 = .ok (.goto 4, 3) := by decide +kernel
theorem dX4_pointsFoundAnew_73 : decode cX4_pointsFoundAnew 73 = .ok (.iconst 0, 1) := by decide +kernel
theorem dX4_pointsFoundAnew_74 : decode cX4_pointsFoundAnew 74 = .ok (.iadd, 1) := by decide +kernel
theorem dX4_pointsFoundAnew_75 : decode cX4_pointsFoundAnew 75 = .ok (.istore_n 2, 1) := by decide +kernel
theorem dX4_pointsFoundAnew_76 : decode cX4_pointsFoundAnew 76 = .ok (.iload_n 2, 1) := by decide +kernel
theorem dX4_pointsFoundAnew_77 : decode cX4_pointsFoundAnew 77 = .ok (.aload_n 0, 1) := by decide +kernel
theorem dX4_pointsFoundAnew_78 : decode cX4_pointsFoundAnew 78 = .ok (.aload_n 0, 1) := by decide +kernel
theorem dX4_pointsFoundAnew_79 : decode cX4_pointsFoundAnew 79 = .ok (.getfield 67, 3) := by decide +kernel
theorem dX4_pointsFoundAnew_82 : decode cX4_pointsFoundAnew 82 = .ok (.iload_n 3, 1) := by decide +kernel
theorem dX4_pointsFoundAnew_83 : decode cX4_pointsFoundAnew 83 = .ok (.invokestatic 85, 3) := by decide +kernel
theorem dX4_pointsFoundAnew_86 : decode cX4_pointsFoundAnew 86 = .ok (.invokevirtual 123, 3) := by decide +kernel
theorem dX4_pointsFoundAnew_89 : decode cX4_pointsFoundAnew 89 = .ok (.iload_n 1, 1) := by decide +kernel
theorem dX4_pointsFoundAnew_90 : decode cX4_pointsFoundAnew 90 = .ok (.if_icmp .ne 7, 3) := by decide +kernel
theorem dX4_pointsFoundAnew_93 : decode cX4_pointsFoundAnew 93 = .ok (.iconst 1, 1) := by decide +kernel
theorem dX4_pointsFoundAnew_94 : decode cX4_pointsFoundAnew 94 = .ok (.goto 4, 3) := by decide +kernel
theorem dX4_pointsFoundAnew_97 : decode cX4_pointsFoundAnew 97 = .ok (.iconst 0, 1) := by decide +kernel
theorem dX4_pointsFoundAnew_98 : decode cX4_pointsFoundAnew 98 = .ok (.iadd, 1) := by decide +kernel
theorem dX4_pointsFoundAnew_99 : decode cX4_pointsFoundAnew 99 = .ok (.istore_n 2, 1) := by decide +kernel
theorem dX4_pointsFoundAnew_100 : decode cX4_pointsFoundAnew 100 = .ok (.iinc 3 1, 3) := by decide +kernel
theorem dX4_pointsFoundAnew_103 : decode cX4_pointsFoundAnew 103 = .ok (.goto (-99), 3) := by decide +kernel
theorem dX4_pointsFoundAnew_106 : decode cX4_pointsFoundAnew 106 = .ok (.iload_n 2, 1) := by decide +kernel
theorem dX4_pointsFoundAnew_107 : decode cX4_pointsFoundAnew 107 = .ok (.ireturn, 1) := by decide +kernel
theorem dX4_faultOfLesson_0 : decode cX4_faultOfLesson 0 = .ok (.iload_n 1, 1) := by decide +kernel
theorem dX4_faultOfLesson_1 : decode cX4_faultOfLesson 1 = .ok (.iconst 0, 1) := by decide +kernel
theorem dX4_faultOfLesson_2 : decode cX4_faultOfLesson 2 = .ok (.bipush 29, 2) := by decide +kernel
theorem dX4_faultOfLesson_4 : decode cX4_faultOfLesson 4 = .ok (.invokestatic 126, 3) := by decide +kernel
theorem dX4_faultOfLesson_7 : decode cX4_faultOfLesson 7 = .ok (.ifCond .eq 46, 3) := by decide +kernel
theorem dX4_faultOfLesson_10 : decode cX4_faultOfLesson 10 = .ok (.iload_n 2, 1) := by decide +kernel
theorem dX4_faultOfLesson_11 : decode cX4_faultOfLesson 11 = .ok (.iconst 0, 1) := by decide +kernel
theorem dX4_faultOfLesson_12 : decode cX4_faultOfLesson 12 = .ok (.iconst 5, 1) := by decide +kernel
theorem dX4_faultOfLesson_13 : decode cX4_faultOfLesson 13 = .ok (.invokestatic 126, 3) := by decide +kernel
theorem dX4_faultOfLesson_16 : decode cX4_faultOfLesson 16 = .ok (.ifCond .eq 37, 3) := by decide +kernel
theorem dX4_faultOfLesson_19 : decode cX4_faultOfLesson 19 = .ok (.iload_n 3, 1) := by decide +kernel
theorem dX4_faultOfLesson_20 : decode cX4_faultOfLesson 20 = .ok (.iconst 0, 1) := by decide +kernel
theorem dX4_faultOfLesson_21 : decode cX4_faultOfLesson 21 = .ok (.iconst 5, 1) := by decide +kernel
theorem dX4_faultOfLesson_22 : decode cX4_faultOfLesson 22 = .ok (.invokestatic 126, 3) := by decide +kernel
theorem dX4_faultOfLesson_25 : decode cX4_faultOfLesson 25 = .ok (.ifCond .eq 28, 3) := by decide +kernel
theorem dX4_faultOfLesson_28 : decode cX4_faultOfLesson 28 = .ok (.iload 4, 2) := by decide +kernel
theorem dX4_faultOfLesson_30 : decode cX4_faultOfLesson 30 = .ok (.iconst 0, 1) := by decide +kernel
theorem dX4_faultOfLesson_31 : decode cX4_faultOfLesson 31 = .ok (.aload_n 0, 1) := by decide +kernel
theorem dX4_faultOfLesson_32 : decode cX4_faultOfLesson 32 = .ok (.getfield 9, 3) := by decide +kernel
theorem dX4_faultOfLesson_35 : decode cX4_faultOfLesson 35 = .ok (.iconst 1, 1) := by decide +kernel
theorem dX4_faultOfLesson_36 : decode cX4_faultOfLesson 36 = .ok (.isub, 1) := by decide +kernel
theorem dX4_faultOfLesson_37 : decode cX4_faultOfLesson 37 = .ok (.invokestatic 126, 3) := by decide +kernel
theorem dX4_faultOfLesson_40 : decode cX4_faultOfLesson 40 = .ok (.ifCond .eq 13, 3) := by decide +kernel
theorem dX4_faultOfLesson_43 : decode cX4_faultOfLesson 43 = .ok (.iload 5, 2) := by decide +kernel
theorem dX4_faultOfLesson_45 : decode cX4_faultOfLesson 45 = .ok (.iconst 0, 1) := by decide +kernel
theorem dX4_faultOfLesson_46 : decode cX4_faultOfLesson 46 = .ok (.iconst 5, 1) := by decide +kernel
theorem dX4_faultOfLesson_47 : decode cX4_faultOfLesson 47 = .ok (.invokestatic 126, 3) := by decide +kernel
theorem dX4_faultOfLesson_50 : decode cX4_faultOfLesson 50 = .ok (.ifCond .ne 5, 3) := by decide +kernel
theorem dX4_faultOfLesson_53 : decode cX4_faultOfLesson 53 = .ok (.iconst 1, 1) := by decide +kernel
theorem dX4_faultOfLesson_54 : decode cX4_faultOfLesson 54 = .ok (.ireturn, 1) := by decide +kernel
theorem dX4_faultOfLesson_55 : decode cX4_faultOfLesson 55 = .ok (.aload_n 0, 1) := by decide +kernel
theorem dX4_faultOfLesson_56 : decode cX4_faultOfLesson 56 = .ok (.iload_n 1, 1) := by decide +kernel
theorem dX4_faultOfLesson_57 : decode cX4_faultOfLesson 57 = .ok (.aload_n 0, 1) := by decide +kernel
theorem dX4_faultOfLesson_58 : decode cX4_faultOfLesson 58 = .ok (.getfield 49, 3) := by decide +kernel
theorem dX4_faultOfLesson_61 : decode cX4_faultOfLesson 61 = .ok (.iload_n 2, 1) := by decide +kernel
theorem dX4_faultOfLesson_62 : decode cX4_faultOfLesson 62 = .ok (.invokevirtual 93, 3) := by decide +kernel
theorem dX4_faultOfLesson_65 : decode cX4_faultOfLesson 65 = .ok (.iconst (-1), 1) := by decide +kernel
theorem dX4_faultOfLesson_66 : decode cX4_faultOfLesson 66 = .ok (.if_icmp .ne 68, 3) := by decide +kernel
theorem dX4_faultOfLesson_69 : decode cX4_faultOfLesson 69 = .ok (.aload_n 0, 1) := by decide +kernel
theorem dX4_faultOfLesson_70 : decode cX4_faultOfLesson 70 = .ok (.iload_n 1, 1) := by decide +kernel
theorem dX4_faultOfLesson_71 : decode cX4_faultOfLesson 71 = .ok (.aload_n 0, 1) := by decide +kernel
theorem dX4_faultOfLesson_72 : decode cX4_faultOfLesson 72 = .ok (.getfield 55, 3) := by decide +kernel
theorem dX4_faultOfLesson_75 : decode cX4_faultOfLesson 75 = .ok (.iload 4, 2) := by decide +kernel
theorem dX4_faultOfLesson_77 : decode cX4_faultOfLesson 77 = .ok (.invokevirtual 93, 3) := by decide +kernel
theorem dX4_faultOfLesson_80 : decode cX4_faultOfLesson 80 = .ok (.iconst (-1), 1) := by decide +kernel
theorem dX4_faultOfLesson_81 : decode cX4_faultOfLesson 81 = .ok (.if_icmp .ne 53, 3) := by decide +kernel
theorem dX4_faultOfLesson_84 : decode cX4_faultOfLesson 84 = .ok (.aload_n 0, 1) := by decide +kernel
theorem dX4_faultOfLesson_85 : decode cX4_faultOfLesson 85 = .ok (.iload_n 1, 1) := by decide +kernel
theorem dX4_faultOfLesson_86 : decode cX4_faultOfLesson 86 = .ok (.aload_n 0, 1) := by decide +kernel
theorem dX4_faultOfLesson_87 : decode cX4_faultOfLesson 87 = .ok (.getfield 58, 3) := by decide +kernel
theorem dX4_faultOfLesson_90 : decode cX4_faultOfLesson 90 = .ok (.iload 5, 2) := by decide +kernel
theorem dX4_faultOfLesson_92 : decode cX4_faultOfLesson 92 = .ok (.invokevirtual 93, 3) := by decide +kernel
theorem dX4_faultOfLesson_95 : decode cX4_faultOfLesson 95 = .ok (.iconst (-1), 1) := by decide +kernel
theorem dX4_faultOfLesson_96 : decode cX4_faultOfLesson 96 = .ok (.if_icmp .ne 38, 3) := by decide +kernel
theorem dX4_faultOfLesson_99 : decode cX4_faultOfLesson 99 = .ok (.aload_n 0, 1) := by decide +kernel
theorem dX4_faultOfLesson_100 : decode cX4_faultOfLesson 100 = .ok (.iload_n 1, 1) := by decide +kernel
theorem dX4_faultOfLesson_101 : decode cX4_faultOfLesson 101 = .ok (.aload_n 0, 1) := by decide +kernel
theorem dX4_faultOfLesson_102 : decode cX4_faultOfLesson 102 = .ok (.getfield 61, 3) := by decide +kernel
theorem dX4_faultOfLesson_105 : decode cX4_faultOfLesson 105 = .ok (.iload 4, 2) := by decide +kernel
theorem dX4_faultOfLesson_107 : decode cX4_faultOfLesson 107 = .ok (.invokevirtual 93, 3) := by decide +kernel
theorem dX4_faultOfLesson_110 : decode cX4_faultOfLesson 110 = .ok (.iconst (-1), 1) := by decide +kernel
theorem dX4_faultOfLesson_111 : decode cX4_faultOfLesson 111 = .ok (.if_icmp .ne 23, 3) := by decide +kernel
theorem dX4_faultOfLesson_114 : decode cX4_faultOfLesson 114 = .ok (.aload_n 0, 1) := by decide +kernel
theorem dX4_faultOfLesson_115 : decode cX4_faultOfLesson 115 = .ok (.getfield 40, 3) := by decide +kernel
theorem dX4_faultOfLesson_118 : decode cX4_faultOfLesson 118 = .ok (.iload_n 2, 1) := by decide +kernel
theorem dX4_faultOfLesson_119 : decode cX4_faultOfLesson 119 = .ok (.invokestatic 85, 3) := by decide +kernel
theorem dX4_faultOfLesson_122 : decode cX4_faultOfLesson 122 = .ok (.aload_n 0, 1) := by decide +kernel
theorem dX4_faultOfLesson_123 : decode cX4_faultOfLesson 123 = .ok (.getfield 43, 3) := by decide +kernel
theorem dX4_faultOfLesson_126 : decode cX4_faultOfLesson 126 = .ok (.iload 5, 2) := by decide +kernel
theorem dX4_faultOfLesson_128 : decode cX4_faultOfLesson 128 = .ok (.invokestatic 85, 3) := by decide +kernel
theorem dX4_faultOfLesson_131 : decode cX4_faultOfLesson 131 = .ok (.if_icmp .le 5, 3) := by decide +kernel
theorem dX4_faultOfLesson_134 : decode cX4_faultOfLesson 134 = .ok (.iconst 2, 1) := by decide +kernel
theorem dX4_faultOfLesson_135 : decode cX4_faultOfLesson 135 = .ok (.ireturn, 1) := by decide +kernel
theorem dX4_faultOfLesson_136 : decode cX4_faultOfLesson 136 = .ok (.aload_n 0, 1) := by decide +kernel
theorem dX4_faultOfLesson_137 : decode cX4_faultOfLesson 137 = .ok (.getfield 15, 3) := by decide +kernel
theorem dX4_faultOfLesson_140 : decode cX4_faultOfLesson 140 = .ok (.bipush 40, 2) := by decide +kernel
theorem dX4_faultOfLesson_142 : decode cX4_faultOfLesson 142 = .ok (.if_icmp .lt 7, 3) := by decide +kernel
theorem dX4_faultOfLesson_145 : decode cX4_faultOfLesson 145 = .ok (.iconst 3, 1) := by decide +kernel
theorem dX4_faultOfLesson_146 : decode cX4_faultOfLesson 146 = .ok (.goto 4, 3) := by decide +kernel
theorem dX4_faultOfLesson_149 : decode cX4_faultOfLesson 149 = .ok (.iconst 0, 1) := by decide +kernel
theorem dX4_faultOfLesson_150 : decode cX4_faultOfLesson 150 = .ok (.ireturn, 1) := by decide +kernel
theorem dX4_putLesson_0 : decode cX4_putLesson 0 = .ok (.aload_n 0, 1) := by decide +kernel
theorem dX4_putLesson_1 : decode cX4_putLesson 1 = .ok (.getfield 15, 3) := by decide +kernel
theorem dX4_putLesson_4 : decode cX4_putLesson 4 = .ok (.istore 6, 2) := by decide +kernel
theorem dX4_putLesson_6 : decode cX4_putLesson 6 = .ok (.aload_n 0, 1) := by decide +kernel
theorem dX4_putLesson_7 : decode cX4_putLesson 7 = .ok (.getfield 46, 3) := by decide +kernel
theorem dX4_putLesson_10 : decode cX4_putLesson 10 = .ok (.iload 6, 2) := by decide +kernel
theorem dX4_putLesson_12 : decode cX4_putLesson 12 = .ok (.iload_n 1, 1) := by decide +kernel
theorem dX4_putLesson_13 : decode cX4_putLesson 13 = .ok (.invokestatic 81, 3) := by decide +kernel
theorem dX4_putLesson_16 : decode cX4_putLesson 16 = .ok (.aload_n 0, 1) := by decide +kernel
theorem dX4_putLesson_17 : decode cX4_putLesson 17 = .ok (.getfield 49, 3) := by decide +kernel
theorem dX4_putLesson_20 : decode cX4_putLesson 20 = .ok (.iload 6, 2) := by decide +kernel
theorem dX4_putLesson_22 : decode cX4_putLesson 22 = .ok (.iload_n 2, 1) := by decide +kernel
theorem dX4_putLesson_23 : decode cX4_putLesson 23 = .ok (.invokestatic 81, 3) := by decide +kernel
theorem dX4_putLesson_26 : decode cX4_putLesson 26 = .ok (.aload_n 0, 1) := by decide +kernel
theorem dX4_putLesson_27 : decode cX4_putLesson 27 = .ok (.getfield 52, 3) := by decide +kernel
theorem dX4_putLesson_30 : decode cX4_putLesson 30 = .ok (.iload 6, 2) := by decide +kernel
theorem dX4_putLesson_32 : decode cX4_putLesson 32 = .ok (.iload_n 3, 1) := by decide +kernel
theorem dX4_putLesson_33 : decode cX4_putLesson 33 = .ok (.invokestatic 81, 3) := by decide +kernel
theorem dX4_putLesson_36 : decode cX4_putLesson 36 = .ok (.aload_n 0, 1) := by decide +kernel
theorem dX4_putLesson_37 : decode cX4_putLesson 37 = .ok (.getfield 55, 3) := by decide +kernel
theorem dX4_putLesson_40 : decode cX4_putLesson 40 = .ok (.iload 6, 2) := by decide +kernel
theorem dX4_putLesson_42 : decode cX4_putLesson 42 = .ok (.iload 4, 2) := by decide +kernel
theorem dX4_putLesson_44 : decode cX4_putLesson 44 = .ok (.invokestatic 81, 3) := by decide +kernel
theorem dX4_putLesson_47 : decode cX4_putLesson 47 = .ok (.aload_n 0, 1) := by decide +kernel
theorem dX4_putLesson_48 : decode cX4_putLesson 48 = .ok (.getfield 58, 3) := by decide +kernel
theorem dX4_putLesson_51 : decode cX4_putLesson 51 = .ok (.iload 6, 2) := by decide +kernel
theorem dX4_putLesson_53 : decode cX4_putLesson 53 = .ok (.iload 5, 2) := by decide +kernel
theorem dX4_putLesson_55 : decode cX4_putLesson 55 = .ok (.invokestatic 81, 3) := by decide +kernel
theorem dX4_putLesson_58 : decode cX4_putLesson 58 = .ok (.aload_n 0, 1) := by decide +kernel
theorem dX4_putLesson_59 : decode cX4_putLesson 59 = .ok (.getfield 61, 3) := by decide +kernel
theorem dX4_putLesson_62 : decode cX4_putLesson 62 = .ok (.iload 6, 2) := by decide +kernel
theorem dX4_putLesson_64 : decode cX4_putLesson 64 = .ok (.iconst (-1), 1) := by decide +kernel
theorem dX4_putLesson_65 : decode cX4_putLesson 65 = .ok (.invokestatic 81, 3) := by decide +kernel
theorem dX4_putLesson_68 : decode cX4_putLesson 68 = .ok (.aload_n 0, 1) := by decide +kernel
theorem dX4_putLesson_69 : decode cX4_putLesson 69 = .ok (.getfield 64, 3) := by decide +kernel
theorem dX4_putLesson_72 : decode cX4_putLesson 72 = .ok (.iload 6, 2) := by decide +kernel
theorem dX4_putLesson_74 : decode cX4_putLesson 74 = .ok (.iconst (-1), 1) := by decide +kernel
theorem dX4_putLesson_75 : decode cX4_putLesson 75 = .ok (.invokestatic 81, 3) := by decide +kernel
theorem dX4_putLesson_78 : decode cX4_putLesson 78 = .ok (.aload_n 0, 1) := by decide +kernel
theorem dX4_putLesson_79 : decode cX4_putLesson 79 = .ok (.getfield 67, 3) := by decide +kernel
theorem dX4_putLesson_82 : decode cX4_putLesson 82 = .ok (.iload 6, 2) := by decide +kernel
theorem dX4_putLesson_84 : decode cX4_putLesson 84 = .ok (.iconst (-1), 1) := by decide +kernel
theorem dX4_putLesson_85 : decode cX4_putLesson 85 = .ok (.invokestatic 81, 3) := by decide +kernel
theorem dX4_putLesson_88 : decode cX4_putLesson 88 = .ok (.aload_n 0, 1) := by decide +kernel
theorem dX4_putLesson_89 : decode cX4_putLesson 89 = .ok (.dup, 1) := by decide +kernel
theorem dX4_putLesson_90 : decode cX4_putLesson 90 = .ok (.getfield 15, 3) := by decide +kernel
theorem dX4_putLesson_93 : decode cX4_putLesson 93 = .ok (.iconst 1, 1) := by decide +kernel
theorem dX4_putLesson_94 : decode cX4_putLesson 94 = .ok (.iadd, 1) := by decide +kernel
theorem dX4_putLesson_95 : decode cX4_putLesson 95 = .ok (.putfield 15, 3) := by decide +kernel
theorem dX4_putLesson_98 : decode cX4_putLesson 98 = .ok (.iload 6, 2) := by decide +kernel
theorem dX4_putLesson_100 : decode cX4_putLesson 100 = .ok (.ireturn, 1) := by decide +kernel
theorem dX4_dropLesson_0 : decode cX4_dropLesson 0 = .ok (.aload_n 0, 1) := by decide +kernel
theorem dX4_dropLesson_1 : decode cX4_dropLesson 1 = .ok (.iload_n 1, 1) := by decide +kernel
theorem dX4_dropLesson_2 : decode cX4_dropLesson 2 = .ok (.invokevirtual 130, 3) := by decide +kernel
theorem dX4_dropLesson_5 : decode cX4_dropLesson 5 = .ok (.pop, 1) := by decide +kernel
theorem dX4_dropLesson_6 : decode cX4_dropLesson 6 = .ok (.aload_n 0, 1) := by decide +kernel
theorem dX4_dropLesson_7 : decode cX4_dropLesson 7 = .ok (.getfield 46, 3) := by decide +kernel
theorem dX4_dropLesson_10 : decode cX4_dropLesson 10 = .ok (.iload_n 1, 1) := by decide +kernel
theorem dX4_dropLesson_11 : decode cX4_dropLesson 11 = .ok (.invokestatic 133, 3) := by decide +kernel
theorem dX4_dropLesson_14 : decode cX4_dropLesson 14 = .ok (.aload_n 0, 1) := by decide +kernel
theorem dX4_dropLesson_15 : decode cX4_dropLesson 15 = .ok (.getfield 49, 3) := by decide +kernel
theorem dX4_dropLesson_18 : decode cX4_dropLesson 18 = .ok (.iload_n 1, 1) := by decide +kernel
theorem dX4_dropLesson_19 : decode cX4_dropLesson 19 = .ok (.invokestatic 133, 3) := by decide +kernel
theorem dX4_dropLesson_22 : decode cX4_dropLesson 22 = .ok (.aload_n 0, 1) := by decide +kernel
theorem dX4_dropLesson_23 : decode cX4_dropLesson 23 = .ok (.getfield 52, 3) := by decide +kernel
theorem dX4_dropLesson_26 : decode cX4_dropLesson 26 = .ok (.iload_n 1, 1) := by decide +kernel
theorem dX4_dropLesson_27 : decode cX4_dropLesson 27 = .ok (.invokestatic 133, 3) := by decide +kernel
theorem dX4_dropLesson_30 : decode cX4_dropLesson 30 = .ok (.aload_n 0, 1) := by decide +kernel
theorem dX4_dropLesson_31 : decode cX4_dropLesson 31 = .ok (.getfield 55, 3) := by decide +kernel
theorem dX4_dropLesson_34 : decode cX4_dropLesson 34 = .ok (.iload_n 1, 1) := by decide +kernel
theorem dX4_dropLesson_35 : decode cX4_dropLesson 35 = .ok (.invokestatic 133, 3) := by decide +kernel
theorem dX4_dropLesson_38 : decode cX4_dropLesson 38 = .ok (.aload_n 0, 1) := by decide +kernel
theorem dX4_dropLesson_39 : decode cX4_dropLesson 39 = .ok (.getfield 58, 3) := by decide +kernel
theorem dX4_dropLesson_42 : decode cX4_dropLesson 42 = .ok (.iload_n 1, 1) := by decide +kernel
theorem dX4_dropLesson_43 : decode cX4_dropLesson 43 = .ok (.invokestatic 133, 3) := by decide +kernel
theorem dX4_dropLesson_46 : decode cX4_dropLesson 46 = .ok (.aload_n 0, 1) := by decide +kernel
theorem dX4_dropLesson_47 : decode cX4_dropLesson 47 = .ok (.getfield 61, 3) := by decide +kernel
theorem dX4_dropLesson_50 : decode cX4_dropLesson 50 = .ok (.iload_n 1, 1) := by decide +kernel
theorem dX4_dropLesson_51 : decode cX4_dropLesson 51 = .ok (.invokestatic 133, 3) := by decide +kernel
theorem dX4_dropLesson_54 : decode cX4_dropLesson 54 = .ok (.aload_n 0, 1) := by decide +kernel
theorem dX4_dropLesson_55 : decode cX4_dropLesson 55 = .ok (.getfield 64, 3) := by decide +kernel
theorem dX4_dropLesson_58 : decode cX4_dropLesson 58 = .ok (.iload_n 1, 1) := by decide +kernel
theorem dX4_dropLesson_59 : decode cX4_dropLesson 59 = .ok (.invokestatic 133, 3) := by decide +kernel
theorem dX4_dropLesson_62 : decode cX4_dropLesson 62 = .ok (.aload_n 0, 1) := by decide +kernel
theorem dX4_dropLesson_63 : decode cX4_dropLesson 63 = .ok (.getfield 67, 3) := by decide +kernel
theorem dX4_dropLesson_66 : decode cX4_dropLesson 66 = .ok (.iload_n 1, 1) := by decide +kernel
theorem dX4_dropLesson_67 : decode cX4_dropLesson 67 = .ok (.invokestatic 133, 3) := by decide +kernel
theorem dX4_dropLesson_70 : decode cX4_dropLesson 70 = .ok (.aload_n 0, 1) := by decide +kernel
theorem dX4_dropLesson_71 : decode cX4_dropLesson 71 = .ok (.dup, 1) := by decide +kernel
theorem dX4_dropLesson_72 : decode cX4_dropLesson 72 = .ok (.getfield 15, 3) := by decide +kernel
theorem dX4_dropLesson_75 : decode cX4_dropLesson 75 = .ok (.iconst 1, 1) := by decide +kernel
theorem dX4_dropLesson_76 : decode cX4_dropLesson 76 = .ok (.isub, 1) := by decide +kernel
theorem dX4_dropLesson_77 : decode cX4_dropLesson 77 = .ok (.putfield 15, 3) := by decide +kernel
theorem dX4_dropLesson_80 : decode cX4_dropLesson 80 = .ok (.aload_n 0, 1) := by decide +kernel
theorem dX4_dropLesson_81 : decode cX4_dropLesson 81 = .ok (.aload_n 0, 1) := by decide +kernel
theorem dX4_dropLesson_82 : decode cX4_dropLesson 82 = .ok (.getfield 64, 3) := by decide +kernel
theorem dX4_dropLesson_85 : decode cX4_dropLesson 85 = .ok (.iload_n 1, 1) := by decide +kernel
theorem dX4_dropLesson_86 : decode cX4_dropLesson 86 = .ok (.invokevirtual 136, 3) := by decide +kernel
theorem dX4_dropLesson_89 : decode cX4_dropLesson 89 = .ok (.aload_n 0, 1) := by decide +kernel
theorem dX4_dropLesson_90 : decode cX4_dropLesson 90 = .ok (.aload_n 0, 1) := by decide +kernel
theorem dX4_dropLesson_91 : decode cX4_dropLesson 91 = .ok (.getfield 67, 3) := by decide +kernel
theorem dX4_dropLesson_94 : decode cX4_dropLesson 94 = .ok (.iload_n 1, 1) := by decide +kernel
theorem dX4_dropLesson_95 : decode cX4_dropLesson 95 = .ok (.invokevirtual 136, 3) := by decide +kernel
theorem dX4_dropLesson_98 : decode cX4_dropLesson 98 = .ok (.return_, 1) := by decide +kernel
theorem dX4_moveHosts_0 : decode cX4_moveHosts 0 = .ok (.iconst 0, 1) := by decide +kernel
theorem dX4_moveHosts_1 : decode cX4_moveHosts 1 = .ok (.istore_n 3, 1) := by decide +kernel
theorem dX4_moveHosts_2 : decode cX4_moveHosts 2 = .ok (.iload_n 3, 1) := by decide +kernel
theorem dX4_moveHosts_3 : decode cX4_moveHosts 3 = .ok (.aload_n 0, 1) := by decide +kernel
theorem dX4_moveHosts_4 : decode cX4_moveHosts 4 = .ok (.getfield 15, 3) := by decide +kernel
theorem dX4_moveHosts_7 : decode cX4_moveHosts 7 = .ok (.if_icmp .ge 30, 3) := by decide +kernel
theorem dX4_moveHosts_10 : decode cX4_moveHosts 10 = .ok (.aload_n 1, 1) := by decide +kernel
theorem dX4_moveHosts_11 : decode cX4_moveHosts 11 = .ok (.iload_n 3, 1) := by decide +kernel
theorem dX4_moveHosts_12 : decode cX4_moveHosts 12 = .ok (.invokestatic 85, 3) := by decide +kernel
theorem dX4_moveHosts_15 : decode cX4_moveHosts 15 = .ok (.iload_n 2, 1) := by decide +kernel
theorem dX4_moveHosts_16 : decode cX4_moveHosts 16 = .ok (.if_icmp .le 15, 3) := by decide +kernel
theorem dX4_moveHosts_19 : decode cX4_moveHosts 19 = .ok (.aload_n 1, 1) := by decide +kernel
theorem dX4_moveHosts_20 : decode cX4_moveHosts 20 = .ok (.iload_n 3, 1) := by decide +kernel
theorem dX4_moveHosts_21 : decode cX4_moveHosts 21 = .ok (.aload_n 1, 1) := by decide +kernel
theorem dX4_moveHosts_22 : decode cX4_moveHosts 22 = .ok (.iload_n 3, 1) := by decide +kernel
theorem dX4_moveHosts_23 : decode cX4_moveHosts 23 = .ok (.invokestatic 85, 3) := by decide +kernel
theorem dX4_moveHosts_26 : decode cX4_moveHosts 26 = .ok (.iconst 1, 1) := by decide +kernel
theorem dX4_moveHosts_27 : decode cX4_moveHosts 27 = .ok (.isub, 1) := by decide +kernel
theorem dX4_moveHosts_28 : decode cX4_moveHosts 28 = .ok (.invokestatic 81, 3) := by decide +kernel
theorem dX4_moveHosts_31 : decode cX4_moveHosts 31 = .ok (.iinc 3 1, 3) := by decide +kernel
theorem dX4_moveHosts_34 : decode cX4_moveHosts 34 = .ok (.goto (-32), 3) := by decide +kernel
theorem dX4_moveHosts_37 : decode cX4_moveHosts 37 = .ok (.return_, 1) := by decide +kernel
theorem dX4_lessonIn_0 : decode cX4_lessonIn 0 = .ok (.iconst 0, 1) := by decide +kernel
theorem dX4_lessonIn_1 : decode cX4_lessonIn 1 = .ok (.istore 4, 2) := by decide +kernel
theorem dX4_lessonIn_3 : decode cX4_lessonIn 3 = .ok (.iload 4, 2) := by decide +kernel
theorem dX4_lessonIn_5 : decode cX4_lessonIn 5 = .ok (.aload_n 0, 1) := by decide +kernel
theorem dX4_lessonIn_6 : decode cX4_lessonIn 6 = .ok (.getfield 15, 3) := by decide +kernel
theorem dX4_lessonIn_9 : decode cX4_lessonIn 9 = .ok (.if_icmp .ge 35, 3) := by decide +kernel
theorem dX4_lessonIn_12 : decode cX4_lessonIn 12 = .ok (.aload_n 0, 1) := by decide +kernel
theorem dX4_lessonIn_13 : decode cX4_lessonIn 13 = .ok (.getfield 46, 3) := by decide +kernel
theorem dX4_lessonIn_16 : decode cX4_lessonIn 16 = .ok (.iload 4, 2) := by decide +kernel
theorem dX4_lessonIn_18 : decode cX4_lessonIn 18 = .ok (.invokestatic 85, 3) := by decide +kernel
theorem dX4_lessonIn_21 : decode cX4_lessonIn 21 = .ok (.iload_n 1, 1) := by decide +kernel
theorem dX4_lessonIn_22 : decode cX4_lessonIn 22 = .ok (.if_icmp .ne 16, 3) := by decide +kernel
theorem dX4_lessonIn_25 : decode cX4_lessonIn 25 = .ok (.aload_n 2, 1) := by decide +kernel
theorem dX4_lessonIn_26 : decode cX4_lessonIn 26 = .ok (.iload 4, 2) := by decide +kernel
theorem dX4_lessonIn_28 : decode cX4_lessonIn 28 = .ok (.invokestatic 85, 3) := by decide +kernel
theorem dX4_lessonIn_31 : decode cX4_lessonIn 31 = .ok (.iload_n 3, 1) := by decide +kernel
theorem dX4_lessonIn_32 : decode cX4_lessonIn 32 = .ok (.if_icmp .ne 6, 3) := by decide +kernel
theorem dX4_lessonIn_35 : decode cX4_lessonIn 35 = .ok (.iload 4, 2) := by decide +kernel
theorem dX4_lessonIn_37 : decode cX4_lessonIn 37 = .ok (.ireturn, 1) := by decide +kernel
theorem dX4_lessonIn_38 : decode cX4_lessonIn 38 = .ok (.iinc 4 1, 3) := by decide +kernel
theorem dX4_lessonIn_41 : decode cX4_lessonIn 41 = .ok (.goto (-38), 3) := by decide +kernel
theorem dX4_lessonIn_44 : decode cX4_lessonIn 44 = .ok (.iconst (-1), 1) := by decide +kernel
theorem dX4_lessonIn_45 : decode cX4_lessonIn 45 = .ok (.ireturn, 1) := by decide +kernel
theorem dX4_dayOf_0 : decode cX4_dayOf 0 = .ok (.aload_n 0, 1) := by decide +kernel
theorem dX4_dayOf_1 : decode cX4_dayOf 1 = .ok (.getfield 46, 3) := by decide +kernel
theorem dX4_dayOf_4 : decode cX4_dayOf 4 = .ok (.iload_n 1, 1) := by decide +kernel
theorem dX4_dayOf_5 : decode cX4_dayOf 5 = .ok (.invokestatic 85, 3) := by decide +kernel
theorem dX4_dayOf_8 : decode cX4_dayOf 8 = .ok (.bipush 6, 2) := by decide +kernel
theorem dX4_dayOf_10 : decode cX4_dayOf 10 = .ok (.idiv, 1) := by decide +kernel
theorem dX4_dayOf_11 : decode cX4_dayOf 11 = .ok (.ireturn, 1) := by decide +kernel
theorem dX4_actingOf_0 : decode cX4_actingOf 0 = .ok (.aload_n 0, 1) := by decide +kernel
theorem dX4_actingOf_1 : decode cX4_actingOf 1 = .ok (.getfield 55, 3) := by decide +kernel
theorem dX4_actingOf_4 : decode cX4_actingOf 4 = .ok (.iload_n 1, 1) := by decide +kernel
theorem dX4_actingOf_5 : decode cX4_actingOf 5 = .ok (.invokestatic 85, 3) := by decide +kernel
theorem dX4_actingOf_8 : decode cX4_actingOf 8 = .ok (.istore_n 2, 1) := by decide +kernel
theorem dX4_actingOf_9 : decode cX4_actingOf 9 = .ok (.aload_n 0, 1) := by decide +kernel
theorem dX4_actingOf_10 : decode cX4_actingOf 10 = .ok (.getfield 37, 3) := by decide +kernel
theorem dX4_actingOf_13 : decode cX4_actingOf 13 = .ok (.iload_n 2, 1) := by decide +kernel
theorem dX4_actingOf_14 : decode cX4_actingOf 14 = .ok (.invokestatic 85, 3) := by decide +kernel
theorem dX4_actingOf_17 : decode cX4_actingOf 17 = .ok (.aload_n 0, 1) := by decide +kernel
theorem dX4_actingOf_18 : decode cX4_actingOf 18 = .ok (.getfield 46, 3) := by decide +kernel
theorem dX4_actingOf_21 : decode cX4_actingOf 21 = .ok (.iload_n 1, 1) := by decide +kernel
theorem dX4_actingOf_22 : decode cX4_actingOf 22 = .ok (.invokestatic 85, 3) := by decide +kernel
theorem dX4_actingOf_25 : decode cX4_actingOf 25 = .ok (.ishr, 1) := by decide +kernel
theorem dX4_actingOf_26 : decode cX4_actingOf 26 = .ok (.iconst 1, 1) := by decide +kernel
theorem dX4_actingOf_27 : decode cX4_actingOf 27 = .ok (.iand, 1) := by decide +kernel
theorem dX4_actingOf_28 : decode cX4_actingOf 28 = .ok (.ifCond .ne 7, 3) := by decide +kernel
theorem dX4_actingOf_31 : decode cX4_actingOf 31 = .ok (.iconst 1, 1) := by decide +kernel
theorem dX4_actingOf_32 : decode cX4_actingOf 32 = .ok (.goto 4, 3) := by decide +kernel
theorem dX4_actingOf_35 : decode cX4_actingOf 35 = .ok (.iconst 0, 1) := by decide +kernel
theorem dX4_actingOf_36 : decode cX4_actingOf 36 = .ok (.istore_n 3, 1) := by decide +kernel
theorem dX4_actingOf_37 : decode cX4_actingOf 37 = .ok (.iload_n 3, 1) := by decide +kernel
theorem dX4_actingOf_38 : decode cX4_actingOf 38 = .ok (.ifCond .eq 7, 3) := by decide +kernel
theorem dX4_actingOf_41 : decode cX4_actingOf 41 = .ok (.iload_n 2, 1) := by decide +kernel
theorem dX4_actingOf_42 : decode cX4_actingOf 42 = .ok (.goto 11, 3) := by decide +kernel
theorem dX4_actingOf_45 : decode cX4_actingOf 45 = .ok (.aload_n 0, 1) := by decide +kernel
theorem dX4_actingOf_46 : decode cX4_actingOf 46 = .ok (.getfield 61, 3) := by decide +kernel
theorem dX4_actingOf_49 : decode cX4_actingOf 49 = .ok (.iload_n 1, 1) := by decide +kernel
theorem dX4_actingOf_50 : decode cX4_actingOf 50 = .ok (.invokestatic 85, 3) := by decide +kernel
theorem dX4_actingOf_53 : decode cX4_actingOf 53 = .ok (.ireturn, 1) := by decide +kernel
theorem dX4_stateOf_0 : decode cX4_stateOf 0 = .ok (.aload_n 0, 1) := by decide +kernel
theorem dX4_stateOf_1 : decode cX4_stateOf 1 = .ok (.iload_n 1, 1) := by decide +kernel
theorem dX4_stateOf_2 : decode cX4_stateOf 2 = .ok (.invokevirtual 123, 3) := by decide +kernel
theorem dX4_stateOf_5 : decode cX4_stateOf 5 = .ok (.istore_n 2, 1) := by decide +kernel
theorem dX4_stateOf_6 : decode cX4_stateOf 6 = .ok (.iload_n 2, 1) := by decide +kernel
theorem dX4_stateOf_7 : decode cX4_stateOf 7 = .ok (.iconst (-1), 1) := by decide +kernel
theorem dX4_stateOf_8 : decode cX4_stateOf 8 = .ok (.if_icmp .eq 21, 3) := by decide +kernel
theorem dX4_stateOf_11 : decode cX4_stateOf 11 = .ok (.iload_n 2, 1) := by decide +kernel
theorem dX4_stateOf_12 : decode cX4_stateOf 12 = .ok (.aload_n 0, 1) := by decide +kernel
theorem dX4_stateOf_13 : decode cX4_stateOf 13 = .ok (.getfield 55, 3) := by decide +kernel
theorem dX4_stateOf_16 : decode cX4_stateOf 16 = .ok (.iload_n 1, 1) := by decide +kernel
theorem dX4_stateOf_17 : decode cX4_stateOf 17 = .ok (.invokestatic 85, 3) := by decide +kernel
theorem dX4_stateOf_20 : decode cX4_stateOf 20 = .ok (.if_icmp .ne 7, 3) := by decide +kernel
theorem dX4_stateOf_23 : decode cX4_stateOf 23 = .ok (.iconst 0, 1) := by decide +kernel
theorem dX4_stateOf_24 : decode cX4_stateOf 24 = .ok (.goto 4, 3) := by decide +kernel
theorem dX4_stateOf_27 : decode cX4_stateOf 27 = .ok (.iconst 1, 1) := by decide +kernel
theorem dX4_stateOf_28 : decode cX4_stateOf 28 = .ok (.ireturn, 1) := by decide +kernel
theorem dX4_stateOf_29 : decode cX4_stateOf 29 = .ok (.aload_n 0, 1) := by decide +kernel
theorem dX4_stateOf_30 : decode cX4_stateOf 30 = .ok (.getfield 64, 3) := by decide +kernel
theorem dX4_stateOf_33 : decode cX4_stateOf 33 = .ok (.iload_n 1, 1) := by decide +kernel
theorem dX4_stateOf_34 : decode cX4_stateOf 34 = .ok (.invokestatic 85, 3) := by decide +kernel
theorem dX4_stateOf_37 : decode cX4_stateOf 37 = .ok (.iconst (-1), 1) := by decide +kernel
theorem dX4_stateOf_38 : decode cX4_stateOf 38 = .ok (.if_icmp .eq 7, 3) := by decide +kernel
theorem dX4_stateOf_41 : decode cX4_stateOf 41 = .ok (.iconst 2, 1) := by decide +kernel
theorem dX4_stateOf_42 : decode cX4_stateOf 42 = .ok (.goto 4, 3) := by decide +kernel
theorem dX4_stateOf_45 : decode cX4_stateOf 45 = .ok (.iconst 3, 1) := by decide +kernel
theorem dX4_stateOf_46 : decode cX4_stateOf 46 = .ok (.ireturn, 1) := by decide +kernel
theorem dX4_lessonsIn_0 : decode cX4_lessonsIn 0 = .ok (.iconst 0, 1) := by decide +kernel
theorem dX4_lessonsIn_1 : decode cX4_lessonsIn 1 = .ok (.istore_n 2, 1) := by decide +kernel
theorem dX4_lessonsIn_2 : decode cX4_lessonsIn 2 = .ok (.iconst 0, 1) := by decide +kernel
theorem dX4_lessonsIn_3 : decode cX4_lessonsIn 3 = .ok (.istore_n 3, 1) := by decide +kernel
theorem dX4_lessonsIn_4 : decode cX4_lessonsIn 4 = .ok (.iload_n 3, 1) := by decide +kernel
theorem dX4_lessonsIn_5 : decode cX4_lessonsIn 5 = .ok (.aload_n 0, 1) := by decide +kernel
theorem dX4_lessonsIn_6 : decode cX4_lessonsIn 6 = .ok (.getfield 15, 3) := by decide +kernel
theorem dX4_lessonsIn_9 : decode cX4_lessonsIn 9 = .ok (.if_icmp .ge 21, 3) := by decide +kernel
theorem dX4_lessonsIn_12 : decode cX4_lessonsIn 12 = .ok (.aload_n 0, 1) := by decide +kernel
theorem dX4_lessonsIn_13 : decode cX4_lessonsIn 13 = .ok (.iload_n 3, 1) := by decide +kernel
theorem dX4_lessonsIn_14 : decode cX4_lessonsIn 14 = .ok (.invokevirtual 100, 3) := by decide +kernel
theorem dX4_lessonsIn_17 : decode cX4_lessonsIn 17 = .ok (.iload_n 1, 1) := by decide +kernel
theorem dX4_lessonsIn_18 : decode cX4_lessonsIn 18 = .ok (.if_icmp .ne 6, 3) := by decide +kernel
theorem dX4_lessonsIn_21 : decode cX4_lessonsIn 21 = .ok (.iinc 2 1, 3) := by decide +kernel
theorem dX4_lessonsIn_24 : decode cX4_lessonsIn 24 = .ok (.iinc 3 1, 3) := by decide +kernel
theorem dX4_lessonsIn_27 : decode cX4_lessonsIn 27 = .ok (.goto (-23), 3) := by decide +kernel
theorem dX4_lessonsIn_30 : decode cX4_lessonsIn 30 = .ok (.iload_n 2, 1) := by decide +kernel
theorem dX4_lessonsIn_31 : decode cX4_lessonsIn 31 = .ok (.ireturn, 1) := by decide +kernel
theorem dX4_lostLessons_0 : decode cX4_lostLessons 0 = .ok (.iconst 0, 1) := by decide +kernel
theorem dX4_lostLessons_1 : decode cX4_lostLessons 1 = .ok (.istore_n 2, 1) := by decide +kernel
theorem dX4_lostLessons_2 : decode cX4_lostLessons 2 = .ok (.iconst 0, 1) := by decide +kernel
theorem dX4_lostLessons_3 : decode cX4_lostLessons 3 = .ok (.istore_n 3, 1) := by decide +kernel
theorem dX4_lostLessons_4 : decode cX4_lostLessons 4 = .ok (.iload_n 3, 1) := by decide +kernel
theorem dX4_lostLessons_5 : decode cX4_lostLessons 5 = .ok (.aload_n 0, 1) := by decide +kernel
theorem dX4_lostLessons_6 : decode cX4_lostLessons 6 = .ok (.getfield 15, 3) := by decide +kernel
theorem dX4_lostLessons_9 : decode cX4_lostLessons 9 = .ok (.if_icmp .ge 43, 3) := by decide +kernel
theorem dX4_lostLessons_12 : decode cX4_lostLessons 12 = .ok (.aload_n 0, 1) := by decide +kernel
theorem dX4_lostLessons_13 : decode cX4_lostLessons 13 = .ok (.iload_n 3, 1) := by decide +kernel
theorem dX4_lostLessons_14 : decode cX4_lostLessons 14 = .ok (.invokevirtual 100, 3) := by decide +kernel
theorem dX4_lostLessons_17 : decode cX4_lostLessons 17 = .ok (.istore 4, 2) := by decide +kernel
theorem dX4_lostLessons_19 : decode cX4_lostLessons 19 = .ok (.aload_n 0, 1) := by decide +kernel
theorem dX4_lostLessons_20 : decode cX4_lostLessons 20 = .ok (.getfield 49, 3) := by decide +kernel
theorem dX4_lostLessons_23 : decode cX4_lostLessons 23 = .ok (.iload_n 3, 1) := by decide +kernel
theorem dX4_lostLessons_24 : decode cX4_lostLessons 24 = .ok (.invokestatic 85, 3) := by decide +kernel
theorem dX4_lostLessons_27 : decode cX4_lostLessons 27 = .ok (.iload_n 1, 1) := by decide +kernel
theorem dX4_lostLessons_28 : decode cX4_lostLessons 28 = .ok (.if_icmp .ne 18, 3) := by decide +kernel
theorem dX4_lostLessons_31 : decode cX4_lostLessons 31 = .ok (.iload 4, 2) := by decide +kernel
theorem dX4_lostLessons_33 : decode cX4_lostLessons 33 = .ok (.iconst 3, 1) := by decide +kernel
theorem dX4_lostLessons_34 : decode cX4_lostLessons 34 = .ok (.if_icmp .eq 9, 3) := by decide +kernel
theorem dX4_lostLessons_37 : decode cX4_lostLessons 37 = .ok (.iload 4, 2) := by decide +kernel
theorem dX4_lostLessons_39 : decode cX4_lostLessons 39 = .ok (.iconst 2, 1) := by decide +kernel
theorem dX4_lostLessons_40 : decode cX4_lostLessons 40 = .ok (.if_icmp .ne 6, 3) := by decide +kernel
theorem dX4_lostLessons_43 : decode cX4_lostLessons 43 = .ok (.iinc 2 1, 3) := by decide +kernel
theorem dX4_lostLessons_46 : decode cX4_lostLessons 46 = .ok (.iinc 3 1, 3) := by decide +kernel
theorem dX4_lostLessons_49 : decode cX4_lostLessons 49 = .ok (.goto (-45), 3) := by decide +kernel
theorem dX4_lostLessons_52 : decode cX4_lostLessons 52 = .ok (.iload_n 2, 1) := by decide +kernel
theorem dX4_lostLessons_53 : decode cX4_lostLessons 53 = .ok (.ireturn, 1) := by decide +kernel
theorem dX4_openCount_0 : decode cX4_openCount 0 = .ok (.iconst 0, 1) := by decide +kernel
theorem dX4_openCount_1 : decode cX4_openCount 1 = .ok (.istore_n 2, 1) := by decide +kernel
theorem dX4_openCount_2 : decode cX4_openCount 2 = .ok (.iconst 0, 1) := by decide +kernel
theorem dX4_openCount_3 : decode cX4_openCount 3 = .ok (.istore_n 3, 1) := by decide +kernel
theorem dX4_openCount_4 : decode cX4_openCount 4 = .ok (.iload_n 3, 1) := by decide +kernel
theorem dX4_openCount_5 : decode cX4_openCount 5 = .ok (.aload_n 0, 1) := by decide +kernel
theorem dX4_openCount_6 : decode cX4_openCount 6 = .ok (.getfield 15, 3) := by decide +kernel
theorem dX4_openCount_9 : decode cX4_openCount 9 = .ok (.if_icmp .ge 30, 3) := by decide +kernel
theorem dX4_openCount_12 : decode cX4_openCount 12 = .ok (.aload_n 0, 1) := by decide +kernel
theorem dX4_openCount_13 : decode cX4_openCount 13 = .ok (.iload_n 3, 1) := by decide +kernel
theorem dX4_openCount_14 : decode cX4_openCount 14 = .ok (.invokevirtual 108, 3) := by decide +kernel
theorem dX4_openCount_17 : decode cX4_openCount 17 = .ok (.iload_n 1, 1) := by decide +kernel
theorem dX4_openCount_18 : decode cX4_openCount 18 = .ok (.if_icmp .ne 15, 3) := by decide +kernel
theorem dX4_openCount_21 : decode cX4_openCount 21 = .ok (.aload_n 0, 1) := by decide +kernel
theorem dX4_openCount_22 : decode cX4_openCount 22 = .ok (.iload_n 3, 1) := by decide +kernel
theorem dX4_openCount_23 : decode cX4_openCount 23 = .ok (.invokevirtual 100, 3) := by decide +kernel
theorem dX4_openCount_26 : decode cX4_openCount 26 = .ok (.iconst 3, 1) := by decide +kernel
theorem dX4_openCount_27 : decode cX4_openCount 27 = .ok (.if_icmp .ne 6, 3) := by decide +kernel
theorem dX4_openCount_30 : decode cX4_openCount 30 = .ok (.iinc 2 1, 3) := by decide +kernel
theorem dX4_openCount_33 : decode cX4_openCount 33 = .ok (.iinc 3 1, 3) := by decide +kernel
theorem dX4_openCount_36 : decode cX4_openCount 36 = .ok (.goto (-32), 3) := by decide +kernel
theorem dX4_openCount_39 : decode cX4_openCount 39 = .ok (.iload_n 2, 1) := by decide +kernel
theorem dX4_openCount_40 : decode cX4_openCount 40 = .ok (.ireturn, 1) := by decide +kernel
theorem dX4_openAt_0 : decode cX4_openAt 0 = .ok (.iconst 0, 1) := by decide +kernel
theorem dX4_openAt_1 : decode cX4_openAt 1 = .ok (.istore_n 3, 1) := by decide +kernel
theorem dX4_openAt_2 : decode cX4_openAt 2 = .ok (.iconst 0, 1) := by decide +kernel
theorem dX4_openAt_3 : decode cX4_openAt 3 = .ok (.istore 4, 2) := by decide +kernel
theorem dX4_openAt_5 : decode cX4_openAt 5 = .ok (.iload 4, 2) := by decide +kernel
theorem dX4_openAt_7 : decode cX4_openAt 7 = .ok (.bipush 6, 2) := by decide +kernel
theorem dX4_openAt_9 : decode cX4_openAt 9 = .ok (.if_icmp .ge 54, 3) := by decide +kernel
theorem dX4_openAt_12 : decode cX4_openAt 12 = .ok (.iconst 0, 1) := by decide +kernel
theorem dX4_openAt_13 : decode cX4_openAt 13 = .ok (.istore 5, 2) := by decide +kernel
theorem dX4_openAt_15 : decode cX4_openAt 15 = .ok (.iload 5, 2) := by decide +kernel
theorem dX4_openAt_17 : decode cX4_openAt 17 = .ok (.aload_n 0, 1) := by decide +kernel
theorem dX4_openAt_18 : decode cX4_openAt 18 = .ok (.getfield 15, 3) := by decide +kernel
theorem dX4_openAt_21 : decode cX4_openAt 21 = .ok (.if_icmp .ge 36, 3) := by decide +kernel
theorem dX4_openAt_24 : decode cX4_openAt 24 = .ok (.aload_n 0, 1) := by decide +kernel
theorem dX4_openAt_25 : decode cX4_openAt 25 = .ok (.iload 5, 2) := by decide +kernel
theorem dX4_openAt_27 : decode cX4_openAt 27 = .ok (.iload_n 1, 1) := by decide +kernel
theorem dX4_openAt_28 : decode cX4_openAt 28 = .ok (.bipush 6, 2) := by decide +kernel
theorem dX4_openAt_30 : decode cX4_openAt 30 = .ok (.imul, 1) := by decide +kernel
theorem dX4_openAt_31 : decode cX4_openAt 31 = .ok (.iload 4, 2) := by decide +kernel
theorem dX4_openAt_33 : decode cX4_openAt 33 = .ok (.iadd, 1) := by decide +kernel
theorem dX4_openAt_34 : decode cX4_openAt 34 = .ok (.invokevirtual 139, 3) := by decide +kernel
theorem dX4_openAt_37 : decode cX4_openAt 37 = .ok (.ifCond .eq 14, 3) := by decide +kernel
theorem dX4_openAt_40 : decode cX4_openAt 40 = .ok (.iload_n 3, 1) := by decide +kernel
theorem dX4_openAt_41 : decode cX4_openAt 41 = .ok (.iload_n 2, 1) := by decide +kernel
theorem dX4_openAt_42 : decode cX4_openAt 42 = .ok (.if_icmp .ne 6, 3) := by decide +kernel
theorem dX4_openAt_45 : decode cX4_openAt 45 = .ok (.iload 5, 2) := by decide +kernel
theorem dX4_openAt_47 : decode cX4_openAt 47 = .ok (.ireturn, 1) := by decide +kernel
theorem dX4_openAt_48 : decode cX4_openAt 48 = .ok (.iinc 3 1, 3) := by decide +kernel
theorem dX4_openAt_51 : decode cX4_openAt 51 = .ok (.iinc 5 1, 3) := by decide +kernel
theorem dX4_openAt_54 : decode cX4_openAt 54 = .ok (.goto (-39), 3) := by decide +kernel
theorem dX4_openAt_57 : decode cX4_openAt 57 = .ok (.iinc 4 1, 3) := by decide +kernel
theorem dX4_openAt_60 : decode cX4_openAt 60 = .ok (.goto (-55), 3) := by decide +kernel
theorem dX4_openAt_63 : decode cX4_openAt 63 = .ok (.iconst (-1), 1) := by decide +kernel
theorem dX4_openAt_64 : decode cX4_openAt 64 = .ok (.ireturn, 1) := by decide +kernel
theorem dX4_isOpenIn_0 : decode cX4_isOpenIn 0 = .ok (.aload_n 0, 1) := by decide +kernel
theorem dX4_isOpenIn_1 : decode cX4_isOpenIn 1 = .ok (.getfield 46, 3) := by decide +kernel
theorem dX4_isOpenIn_4 : decode cX4_isOpenIn 4 = .ok (.iload_n 1, 1) := by decide +kernel
theorem dX4_isOpenIn_5 : decode cX4_isOpenIn 5 = .ok (.invokestatic 85, 3) := by decide +kernel
theorem dX4_isOpenIn_8 : decode cX4_isOpenIn 8 = .ok (.iload_n 2, 1) := by decide +kernel
theorem dX4_isOpenIn_9 : decode cX4_isOpenIn 9 = .ok (.if_icmp .ne 16, 3) := by decide +kernel
theorem dX4_isOpenIn_12 : decode cX4_isOpenIn 12 = .ok (.aload_n 0, 1) := by decide +kernel
theorem dX4_isOpenIn_13 : decode cX4_isOpenIn 13 = .ok (.iload_n 1, 1) := by decide +kernel
theorem dX4_isOpenIn_14 : decode cX4_isOpenIn 14 = .ok (.invokevirtual 100, 3) := by decide +kernel
theorem dX4_isOpenIn_17 : decode cX4_isOpenIn 17 = .ok (.iconst 3, 1) := by decide +kernel
theorem dX4_isOpenIn_18 : decode cX4_isOpenIn 18 = .ok (.if_icmp .ne 7, 3) := by decide +kernel
theorem dX4_isOpenIn_21 : decode cX4_isOpenIn 21 = .ok (.iconst 1, 1) := by decide +kernel
theorem dX4_isOpenIn_22 : decode cX4_isOpenIn 22 = .ok (.goto 4, 3) := by decide +kernel
theorem dX4_isOpenIn_25 : decode cX4_isOpenIn 25 = .ok (.iconst 0, 1) := by decide +kernel
theorem dX4_isOpenIn_26 : decode cX4_isOpenIn 26 = .ok (.ireturn, 1) := by decide +kernel
theorem dX4_areTogether_0 : decode cX4_areTogether 0 = .ok (.aload_n 0, 1) := by decide +kernel
theorem dX4_areTogether_1 : decode cX4_areTogether 1 = .ok (.getfield 46, 3) := by decide +kernel
theorem dX4_areTogether_4 : decode cX4_areTogether 4 = .ok (.iload_n 1, 1) := by decide +kernel
theorem dX4_areTogether_5 : decode cX4_areTogether 5 = .ok (.invokestatic 85, 3) := by decide +kernel
theorem dX4_areTogether_8 : decode cX4_areTogether 8 = .ok (.aload_n 0, 1) := by decide +kernel
theorem dX4_areTogether_9 : decode cX4_areTogether 9 = .ok (.getfield 46, 3) := by decide +kernel
theorem dX4_areTogether_12 : decode cX4_areTogether 12 = .ok (.iload_n 2, 1) := by decide +kernel
theorem dX4_areTogether_13 : decode cX4_areTogether 13 = .ok (.invokestatic 85, 3) := by decide +kernel
theorem dX4_areTogether_16 : decode cX4_areTogether 16 = .ok (.if_icmp .ne 7, 3) := by decide +kernel
theorem dX4_areTogether_19 : decode cX4_areTogether 19 = .ok (.iconst 1, 1) := by decide +kernel
theorem dX4_areTogether_20 : decode cX4_areTogether 20 = .ok (.goto 4, 3) := by decide +kernel
theorem dX4_areTogether_23 : decode cX4_areTogether 23 = .ok (.iconst 0, 1) := by decide +kernel
theorem dX4_areTogether_24 : decode cX4_areTogether 24 = .ok (.ireturn, 1) := by decide +kernel
theorem dX4_sizeOf_0 : decode cX4_sizeOf 0 = .ok (.aload_n 0, 1) := by decide +kernel
theorem dX4_sizeOf_1 : decode cX4_sizeOf 1 = .ok (.getfield 40, 3) := by decide +kernel
theorem dX4_sizeOf_4 : decode cX4_sizeOf 4 = .ok (.aload_n 0, 1) := by decide +kernel
theorem dX4_sizeOf_5 : decode cX4_sizeOf 5 = .ok (.getfield 49, 3) := by decide +kernel
theorem dX4_sizeOf_8 : decode cX4_sizeOf 8 = .ok (.iload_n 1, 1) := by decide +kernel
theorem dX4_sizeOf_9 : decode cX4_sizeOf 9 = .ok (.invokestatic 85, 3) := by decide +kernel
theorem dX4_sizeOf_12 : decode cX4_sizeOf 12 = .ok (.invokestatic 85, 3) := by decide +kernel
theorem dX4_sizeOf_15 : decode cX4_sizeOf 15 = .ok (.ireturn, 1) := by decide +kernel
theorem dX4_capacityOf_0 : decode cX4_capacityOf 0 = .ok (.aload_n 0, 1) := by decide +kernel
theorem dX4_capacityOf_1 : decode cX4_capacityOf 1 = .ok (.getfield 43, 3) := by decide +kernel
theorem dX4_capacityOf_4 : decode cX4_capacityOf 4 = .ok (.aload_n 0, 1) := by decide +kernel
theorem dX4_capacityOf_5 : decode cX4_capacityOf 5 = .ok (.getfield 58, 3) := by decide +kernel
theorem dX4_capacityOf_8 : decode cX4_capacityOf 8 = .ok (.iload_n 1, 1) := by decide +kernel
theorem dX4_capacityOf_9 : decode cX4_capacityOf 9 = .ok (.invokestatic 85, 3) := by decide +kernel
theorem dX4_capacityOf_12 : decode cX4_capacityOf 12 = .ok (.invokestatic 85, 3) := by decide +kernel
theorem dX4_capacityOf_15 : decode cX4_capacityOf 15 = .ok (.ireturn, 1) := by decide +kernel
theorem dX4_firstPart_0 : decode cX4_firstPart 0 = .ok (.aload_n 0, 1) := by decide +kernel
theorem dX4_firstPart_1 : decode cX4_firstPart 1 = .ok (.iload_n 1, 1) := by decide +kernel
theorem dX4_firstPart_2 : decode cX4_firstPart 2 = .ok (.invokevirtual 142, 3) := by decide +kernel
theorem dX4_firstPart_5 : decode cX4_firstPart 5 = .ok (.iconst 1, 1) := by decide +kernel
theorem dX4_firstPart_6 : decode cX4_firstPart 6 = .ok (.iadd, 1) := by decide +kernel
theorem dX4_firstPart_7 : decode cX4_firstPart 7 = .ok (.iconst 2, 1) := by decide +kernel
theorem dX4_firstPart_8 : decode cX4_firstPart 8 = .ok (.idiv, 1) := by decide +kernel
theorem dX4_firstPart_9 : decode cX4_firstPart 9 = .ok (.ireturn, 1) := by decide +kernel
theorem dX4_secondPart_0 : decode cX4_secondPart 0 = .ok (.aload_n 0, 1) := by decide +kernel
theorem dX4_secondPart_1 : decode cX4_secondPart 1 = .ok (.iload_n 1, 1) := by decide +kernel
theorem dX4_secondPart_2 : decode cX4_secondPart 2 = .ok (.invokevirtual 142, 3) := by decide +kernel
theorem dX4_secondPart_5 : decode cX4_secondPart 5 = .ok (.iconst 2, 1) := by decide +kernel
theorem dX4_secondPart_6 : decode cX4_secondPart 6 = .ok (.idiv, 1) := by decide +kernel
theorem dX4_secondPart_7 : decode cX4_secondPart 7 = .ok (.ireturn, 1) := by decide +kernel
theorem dX4_guestsOf_0 : decode cX4_guestsOf 0 = .ok (.iconst 0, 1) := by decide +kernel
theorem dX4_guestsOf_1 : decode cX4_guestsOf 1 = .ok (.istore_n 2, 1) := by decide +kernel
theorem dX4_guestsOf_2 : decode cX4_guestsOf 2 = .ok (.iconst 0, 1) := by decide +kernel
theorem dX4_guestsOf_3 : decode cX4_guestsOf 3 = .ok (.istore_n 3, 1) := by decide +kernel
theorem dX4_guestsOf_4 : decode cX4_guestsOf 4 = .ok (.iload_n 3, 1) := by decide +kernel
theorem dX4_guestsOf_5 : decode cX4_guestsOf 5 = .ok (.aload_n 0, 1) := by decide +kernel
theorem dX4_guestsOf_6 : decode cX4_guestsOf 6 = .ok (.getfield 15, 3) := by decide +kernel
theorem dX4_guestsOf_9 : decode cX4_guestsOf 9 = .ok (.if_icmp .ge 49, 3) := by decide +kernel
theorem dX4_guestsOf_12 : decode cX4_guestsOf 12 = .ok (.aload_n 0, 1) := by decide +kernel
theorem dX4_guestsOf_13 : decode cX4_guestsOf 13 = .ok (.getfield 64, 3) := by decide +kernel
theorem dX4_guestsOf_16 : decode cX4_guestsOf 16 = .ok (.iload_n 3, 1) := by decide +kernel
theorem dX4_guestsOf_17 : decode cX4_guestsOf 17 = .ok (.invokestatic 85, 3) := by decide +kernel
theorem dX4_guestsOf_20 : decode cX4_guestsOf 20 = .ok (.iload_n 1, 1) := by decide +kernel
theorem dX4_guestsOf_21 : decode cX4_guestsOf 21 = .ok (.if_icmp .ne 11, 3) := by decide +kernel
theorem dX4_guestsOf_24 : decode cX4_guestsOf 24 = .ok (.iload_n 2, 1) := by decide +kernel
theorem dX4_guestsOf_25 : decode cX4_guestsOf 25 = .ok (.aload_n 0, 1) := by decide +kernel
theorem dX4_guestsOf_26 : decode cX4_guestsOf 26 = .ok (.iload_n 3, 1) := by decide +kernel
theorem dX4_guestsOf_27 : decode cX4_guestsOf 27 = .ok (.invokevirtual 145, 3) := by decide +kernel
theorem dX4_guestsOf_30 : decode cX4_guestsOf 30 = .ok (.iadd, 1) := by decide +kernel
theorem dX4_guestsOf_31 : decode cX4_guestsOf 31 = .ok (.istore_n 2, 1) := by decide +kernel
theorem dX4_guestsOf_32 : decode cX4_guestsOf 32 = .ok (.aload_n 0, 1) := by decide +kernel
theorem dX4_guestsOf_33 : decode cX4_guestsOf 33 = .ok (.getfield 67, 3) := by decide +kernel
theorem dX4_guestsOf_36 : decode cX4_guestsOf 36 = .ok (.iload_n 3, 1) := by decide +kernel
theorem dX4_guestsOf_37 : decode cX4_guestsOf 37 = .ok (.invokestatic 85, 3) := by decide +kernel
theorem dX4_guestsOf_40 : decode cX4_guestsOf 40 = .ok (.iload_n 1, 1) := by decide +kernel
theorem dX4_guestsOf_41 : decode cX4_guestsOf 41 = .ok (.if_icmp .ne 11, 3) := by decide +kernel
theorem dX4_guestsOf_44 : decode cX4_guestsOf 44 = .ok (.iload_n 2, 1) := by decide +kernel
theorem dX4_guestsOf_45 : decode cX4_guestsOf 45 = .ok (.aload_n 0, 1) := by decide +kernel
theorem dX4_guestsOf_46 : decode cX4_guestsOf 46 = .ok (.iload_n 3, 1) := by decide +kernel
theorem dX4_guestsOf_47 : decode cX4_guestsOf 47 = .ok (.invokevirtual 148, 3) := by decide +kernel
theorem dX4_guestsOf_50 : decode cX4_guestsOf 50 = .ok (.iadd, 1) := by decide +kernel
theorem dX4_guestsOf_51 : decode cX4_guestsOf 51 = .ok (.istore_n 2, 1) := by decide +kernel
theorem dX4_guestsOf_52 : decode cX4_guestsOf 52 = .ok (.iinc 3 1, 3) := by decide +kernel
theorem dX4_guestsOf_55 : decode cX4_guestsOf 55 = .ok (.goto (-51), 3) := by decide +kernel
theorem dX4_guestsOf_58 : decode cX4_guestsOf 58 = .ok (.iload_n 2, 1) := by decide +kernel
theorem dX4_guestsOf_59 : decode cX4_guestsOf 59 = .ok (.ireturn, 1) := by decide +kernel
theorem dX4_loadOf_0 : decode cX4_loadOf 0 = .ok (.aload_n 0, 1) := by decide +kernel
theorem dX4_loadOf_1 : decode cX4_loadOf 1 = .ok (.iload_n 1, 1) := by decide +kernel
theorem dX4_loadOf_2 : decode cX4_loadOf 2 = .ok (.invokevirtual 142, 3) := by decide +kernel
theorem dX4_loadOf_5 : decode cX4_loadOf 5 = .ok (.aload_n 0, 1) := by decide +kernel
theorem dX4_loadOf_6 : decode cX4_loadOf 6 = .ok (.iload_n 1, 1) := by decide +kernel
theorem dX4_loadOf_7 : decode cX4_loadOf 7 = .ok (.invokevirtual 151, 3) := by decide +kernel
theorem dX4_loadOf_10 : decode cX4_loadOf 10 = .ok (.iadd, 1) := by decide +kernel
theorem dX4_loadOf_11 : decode cX4_loadOf 11 = .ok (.ireturn, 1) := by decide +kernel
theorem dX4_canHost_0 : decode cX4_canHost 0 = .ok (.aload_n 0, 1) := by decide +kernel
theorem dX4_canHost_1 : decode cX4_canHost 1 = .ok (.iload_n 1, 1) := by decide +kernel
theorem dX4_canHost_2 : decode cX4_canHost 2 = .ok (.invokevirtual 123, 3) := by decide +kernel
theorem dX4_canHost_5 : decode cX4_canHost 5 = .ok (.iconst (-1), 1) := by decide +kernel
theorem dX4_canHost_6 : decode cX4_canHost 6 = .ok (.if_icmp .eq 22, 3) := by decide +kernel
theorem dX4_canHost_9 : decode cX4_canHost 9 = .ok (.aload_n 0, 1) := by decide +kernel
theorem dX4_canHost_10 : decode cX4_canHost 10 = .ok (.iload_n 1, 1) := by decide +kernel
theorem dX4_canHost_11 : decode cX4_canHost 11 = .ok (.invokevirtual 154, 3) := by decide +kernel
theorem dX4_canHost_14 : decode cX4_canHost 14 = .ok (.iload_n 2, 1) := by decide +kernel
theorem dX4_canHost_15 : decode cX4_canHost 15 = .ok (.iadd, 1) := by decide +kernel
theorem dX4_canHost_16 : decode cX4_canHost 16 = .ok (.aload_n 0, 1) := by decide +kernel
theorem dX4_canHost_17 : decode cX4_canHost 17 = .ok (.iload_n 1, 1) := by decide +kernel
theorem dX4_canHost_18 : decode cX4_canHost 18 = .ok (.invokevirtual 157, 3) := by decide +kernel
theorem dX4_canHost_21 : decode cX4_canHost 21 = .ok (.if_icmp .gt 7, 3) := by decide +kernel
theorem dX4_canHost_24 : decode cX4_canHost 24 = .ok (.iconst 1, 1) := by decide +kernel
theorem dX4_canHost_25 : decode cX4_canHost 25 = .ok (.goto 4, 3) := by decide +kernel
theorem dX4_canHost_28 : decode cX4_canHost 28 = .ok (.iconst 0, 1) := by decide +kernel
theorem dX4_canHost_29 : decode cX4_canHost 29 = .ok (.ireturn, 1) := by decide +kernel
theorem dX4_allowsSize_0 : decode cX4_allowsSize 0 = .ok (.iconst 0, 1) := by decide +kernel
theorem dX4_allowsSize_1 : decode cX4_allowsSize 1 = .ok (.istore_n 3, 1) := by decide +kernel
theorem dX4_allowsSize_2 : decode cX4_allowsSize 2 = .ok (.iload_n 3, 1) := by decide +kernel
theorem dX4_allowsSize_3 : decode cX4_allowsSize 3 = .ok (.aload_n 0, 1) := by decide +kernel
theorem dX4_allowsSize_4 : decode cX4_allowsSize 4 = .ok (.getfield 15, 3) := by decide +kernel
theorem dX4_allowsSize_7 : decode cX4_allowsSize 7 = .ok (.if_icmp .ge 47, 3) := by decide +kernel
theorem dX4_allowsSize_10 : decode cX4_allowsSize 10 = .ok (.aload_n 0, 1) := by decide +kernel
theorem dX4_allowsSize_11 : decode cX4_allowsSize 11 = .ok (.getfield 49, 3) := by decide +kernel
theorem dX4_allowsSize_14 : decode cX4_allowsSize 14 = .ok (.iload_n 3, 1) := by decide +kernel
theorem dX4_allowsSize_15 : decode cX4_allowsSize 15 = .ok (.invokestatic 85, 3) := by decide +kernel
theorem dX4_allowsSize_18 : decode cX4_allowsSize 18 = .ok (.iload_n 1, 1) := by decide +kernel
theorem dX4_allowsSize_19 : decode cX4_allowsSize 19 = .ok (.if_icmp .ne 29, 3) := by decide +kernel
theorem dX4_allowsSize_22 : decode cX4_allowsSize 22 = .ok (.aload_n 0, 1) := by decide +kernel
theorem dX4_allowsSize_23 : decode cX4_allowsSize 23 = .ok (.iload_n 3, 1) := by decide +kernel
theorem dX4_allowsSize_24 : decode cX4_allowsSize 24 = .ok (.invokevirtual 100, 3) := by decide +kernel
theorem dX4_allowsSize_27 : decode cX4_allowsSize 27 = .ok (.iconst 2, 1) := by decide +kernel
theorem dX4_allowsSize_28 : decode cX4_allowsSize 28 = .ok (.if_icmp .eq 18, 3) := by decide +kernel
theorem dX4_allowsSize_31 : decode cX4_allowsSize 31 = .ok (.iload_n 2, 1) := by decide +kernel
theorem dX4_allowsSize_32 : decode cX4_allowsSize 32 = .ok (.aload_n 0, 1) := by decide +kernel
theorem dX4_allowsSize_33 : decode cX4_allowsSize 33 = .ok (.iload_n 3, 1) := by decide +kernel
theorem dX4_allowsSize_34 : decode cX4_allowsSize 34 = .ok (.invokevirtual 151, 3) := by decide +kernel
theorem dX4_allowsSize_37 : decode cX4_allowsSize 37 = .ok (.iadd, 1) := by decide +kernel
theorem dX4_allowsSize_38 : decode cX4_allowsSize 38 = .ok (.aload_n 0, 1) := by decide +kernel
theorem dX4_allowsSize_39 : decode cX4_allowsSize 39 = .ok (.iload_n 3, 1) := by decide +kernel
theorem dX4_allowsSize_40 : decode cX4_allowsSize 40 = .ok (.invokevirtual 157, 3) := by decide +kernel
theorem dX4_allowsSize_43 : decode cX4_allowsSize 43 = .ok (.if_icmp .le 5, 3) := by decide +kernel
theorem dX4_allowsSize_46 : decode cX4_allowsSize 46 = .ok (.iconst 0, 1) := by decide +kernel
theorem dX4_allowsSize_47 : decode cX4_allowsSize 47 = .ok (.ireturn, 1) := by decide +kernel
theorem dX4_allowsSize_48 : decode cX4_allowsSize 48 = .ok (.iinc 3 1, 3) := by decide +kernel
theorem dX4_allowsSize_51 : decode cX4_allowsSize 51 = .ok (.goto (-49), 3) := by decide +kernel
theorem dX4_allowsSize_54 : decode cX4_allowsSize 54 = .ok (.iconst 1, 1) := by decide +kernel
theorem dX4_allowsSize_55 : decode cX4_allowsSize 55 = .ok (.ireturn, 1) := by decide +kernel
theorem dX4_allowsCapacity_0 : decode cX4_allowsCapacity 0 = .ok (.iconst 0, 1) := by decide +kernel
theorem dX4_allowsCapacity_1 : decode cX4_allowsCapacity 1 = .ok (.istore_n 3, 1) := by decide +kernel
theorem dX4_allowsCapacity_2 : decode cX4_allowsCapacity 2 = .ok (.iload_n 3, 1) := by decide +kernel
theorem dX4_allowsCapacity_3 : decode cX4_allowsCapacity 3 = .ok (.aload_n 0, 1) := by decide +kernel
theorem dX4_allowsCapacity_4 : decode cX4_allowsCapacity 4 = .ok (.getfield 15, 3) := by decide +kernel
theorem dX4_allowsCapacity_7 : decode cX4_allowsCapacity 7 = .ok (.if_icmp .ge 32, 3) := by decide +kernel
theorem dX4_allowsCapacity_10 : decode cX4_allowsCapacity 10 = .ok (.aload_n 0, 1) := by decide +kernel
theorem dX4_allowsCapacity_11 : decode cX4_allowsCapacity 11 = .ok (.getfield 58, 3) := by decide +kernel
theorem dX4_allowsCapacity_14 : decode cX4_allowsCapacity 14 = .ok (.iload_n 3, 1) := by decide +kernel
theorem dX4_allowsCapacity_15 : decode cX4_allowsCapacity 15 = .ok (.invokestatic 85, 3) := by decide +kernel
theorem dX4_allowsCapacity_18 : decode cX4_allowsCapacity 18 = .ok (.iload_n 1, 1) := by decide +kernel
theorem dX4_allowsCapacity_19 : decode cX4_allowsCapacity 19 = .ok (.if_icmp .ne 14, 3) := by decide +kernel
theorem dX4_allowsCapacity_22 : decode cX4_allowsCapacity 22 = .ok (.aload_n 0, 1) := by decide +kernel
theorem dX4_allowsCapacity_23 : decode cX4_allowsCapacity 23 = .ok (.iload_n 3, 1) := by decide +kernel
theorem dX4_allowsCapacity_24 : decode cX4_allowsCapacity 24 = .ok (.invokevirtual 154, 3) := by decide +kernel
theorem dX4_allowsCapacity_27 : decode cX4_allowsCapacity 27 = .ok (.iload_n 2, 1) := by decide +kernel
theorem dX4_allowsCapacity_28 : decode cX4_allowsCapacity 28 = .ok (.if_icmp .le 5, 3) := by decide +kernel
theorem dX4_allowsCapacity_31 : decode cX4_allowsCapacity 31 = .ok (.iconst 0, 1) := by decide +kernel
theorem dX4_allowsCapacity_32 : decode cX4_allowsCapacity 32 = .ok (.ireturn, 1) := by decide +kernel
theorem dX4_allowsCapacity_33 : decode cX4_allowsCapacity 33 = .ok (.iinc 3 1, 3) := by decide +kernel
theorem dX4_allowsCapacity_36 : decode cX4_allowsCapacity 36 = .ok (.goto (-34), 3) := by decide +kernel
theorem dX4_allowsCapacity_39 : decode cX4_allowsCapacity 39 = .ok (.iconst 1, 1) := by decide +kernel
theorem dX4_allowsCapacity_40 : decode cX4_allowsCapacity 40 = .ok (.ireturn, 1) := by decide +kernel
theorem dX4_allowsRoom_0 : decode cX4_allowsRoom 0 = .ok (.aload_n 0, 1) := by decide +kernel
theorem dX4_allowsRoom_1 : decode cX4_allowsRoom 1 = .ok (.aload_n 0, 1) := by decide +kernel
theorem dX4_allowsRoom_2 : decode cX4_allowsRoom 2 = .ok (.getfield 46, 3) := by decide +kernel
theorem dX4_allowsRoom_5 : decode cX4_allowsRoom 5 = .ok (.iload_n 1, 1) := by decide +kernel
theorem dX4_allowsRoom_6 : decode cX4_allowsRoom 6 = .ok (.invokestatic 85, 3) := by decide +kernel
theorem dX4_allowsRoom_9 : decode cX4_allowsRoom 9 = .ok (.aload_n 0, 1) := by decide +kernel
theorem dX4_allowsRoom_10 : decode cX4_allowsRoom 10 = .ok (.getfield 58, 3) := by decide +kernel
theorem dX4_allowsRoom_13 : decode cX4_allowsRoom 13 = .ok (.iload_n 2, 1) := by decide +kernel
theorem dX4_allowsRoom_14 : decode cX4_allowsRoom 14 = .ok (.invokevirtual 93, 3) := by decide +kernel
theorem dX4_allowsRoom_17 : decode cX4_allowsRoom 17 = .ok (.istore_n 3, 1) := by decide +kernel
theorem dX4_allowsRoom_18 : decode cX4_allowsRoom 18 = .ok (.iload_n 3, 1) := by decide +kernel
theorem dX4_allowsRoom_19 : decode cX4_allowsRoom 19 = .ok (.iconst (-1), 1) := by decide +kernel
theorem dX4_allowsRoom_20 : decode cX4_allowsRoom 20 = .ok (.if_icmp .eq 8, 3) := by decide +kernel
theorem dX4_allowsRoom_23 : decode cX4_allowsRoom 23 = .ok (.iload_n 3, 1) := by decide +kernel
theorem dX4_allowsRoom_24 : decode cX4_allowsRoom 24 = .ok (.iload_n 1, 1) := by decide +kernel
theorem dX4_allowsRoom_25 : decode cX4_allowsRoom 25 = .ok (.if_icmp .ne 23, 3) := by decide +kernel
theorem dX4_allowsRoom_28 : decode cX4_allowsRoom 28 = .ok (.aload_n 0, 1) := by decide +kernel
theorem dX4_allowsRoom_29 : decode cX4_allowsRoom 29 = .ok (.iload_n 1, 1) := by decide +kernel
theorem dX4_allowsRoom_30 : decode cX4_allowsRoom 30 = .ok (.invokevirtual 154, 3) := by decide +kernel
theorem dX4_allowsRoom_33 : decode cX4_allowsRoom 33 = .ok (.aload_n 0, 1) := by decide +kernel
theorem dX4_allowsRoom_34 : decode cX4_allowsRoom 34 = .ok (.getfield 43, 3) := by decide +kernel
theorem dX4_allowsRoom_37 : decode cX4_allowsRoom 37 = .ok (.iload_n 2, 1) := by decide +kernel
theorem dX4_allowsRoom_38 : decode cX4_allowsRoom 38 = .ok (.invokestatic 85, 3) := by decide +kernel
theorem dX4_allowsRoom_41 : decode cX4_allowsRoom 41 = .ok (.if_icmp .gt 7, 3) := by decide +kernel
theorem dX4_allowsRoom_44 : decode cX4_allowsRoom 44 = .ok (.iconst 1, 1) := by decide +kernel
theorem dX4_allowsRoom_45 : decode cX4_allowsRoom 45 = .ok (.goto 4, 3) := by decide +kernel
theorem dX4_allowsRoom_48 : decode cX4_allowsRoom 48 = .ok (.iconst 0, 1) := by decide +kernel
theorem dX4_allowsRoom_49 : decode cX4_allowsRoom 49 = .ok (.ireturn, 1) := by decide +kernel
theorem dX4_roomsFreeIn_0 : decode cX4_roomsFreeIn 0 = .ok (.iconst 0, 1) := by decide +kernel
theorem dX4_roomsFreeIn_1 : decode cX4_roomsFreeIn 1 = .ok (.istore_n 2, 1) := by decide +kernel
theorem dX4_roomsFreeIn_2 : decode cX4_roomsFreeIn 2 = .ok (.iconst 0, 1) := by decide +kernel
theorem dX4_roomsFreeIn_3 : decode cX4_roomsFreeIn 3 = .ok (.istore_n 3, 1) := by decide +kernel
theorem dX4_roomsFreeIn_4 : decode cX4_roomsFreeIn 4 = .ok (.iload_n 3, 1) := by decide +kernel
theorem dX4_roomsFreeIn_5 : decode cX4_roomsFreeIn 5 = .ok (.bipush 6, 2) := by decide +kernel
theorem dX4_roomsFreeIn_7 : decode cX4_roomsFreeIn 7 = .ok (.if_icmp .ge 29, 3) := by decide +kernel
theorem dX4_roomsFreeIn_10 : decode cX4_roomsFreeIn 10 = .ok (.aload_n 0, 1) := by decide +kernel
theorem dX4_roomsFreeIn_11 : decode cX4_roomsFreeIn 11 = .ok (.iload_n 1, 1) := by decide +kernel
theorem dX4_roomsFreeIn_12 : decode cX4_roomsFreeIn 12 = .ok (.aload_n 0, 1) := by decide +kernel
theorem dX4_roomsFreeIn_13 : decode cX4_roomsFreeIn 13 = .ok (.getfield 58, 3) := by decide +kernel
theorem dX4_roomsFreeIn_16 : decode cX4_roomsFreeIn 16 = .ok (.iload_n 3, 1) := by decide +kernel
theorem dX4_roomsFreeIn_17 : decode cX4_roomsFreeIn 17 = .ok (.invokevirtual 93, 3) := by decide +kernel
theorem dX4_roomsFreeIn_20 : decode cX4_roomsFreeIn 20 = .ok (.iconst (-1), 1) := by decide +kernel
theorem dX4_roomsFreeIn_21 : decode cX4_roomsFreeIn 21 = .ok (.if_icmp .ne 9, 3) := by decide +kernel
theorem dX4_roomsFreeIn_24 : decode cX4_roomsFreeIn 24 = .ok (.iload_n 2, 1) := by decide +kernel
theorem dX4_roomsFreeIn_25 : decode cX4_roomsFreeIn 25 = .ok (.iconst 1, 1) := by decide +kernel
theorem dX4_roomsFreeIn_26 : decode cX4_roomsFreeIn 26 = .ok (.iload_n 3, 1) := by decide +kernel
theorem dX4_roomsFreeIn_27 : decode cX4_roomsFreeIn 27 = .ok (.ishl, 1) := by decide +kernel
theorem dX4_roomsFreeIn_28 : decode cX4_roomsFreeIn 28 = .ok (.ior, 1) := by decide +kernel
theorem dX4_roomsFreeIn_29 : decode cX4_roomsFreeIn 29 = .ok (.istore_n 2, 1) := by decide +kernel
theorem dX4_roomsFreeIn_30 : decode cX4_roomsFreeIn 30 = .ok (.iinc 3 1, 3) := by decide +kernel
theorem dX4_roomsFreeIn_33 : decode cX4_roomsFreeIn 33 = .ok (.goto (-29), 3) := by decide +kernel
theorem dX4_roomsFreeIn_36 : decode cX4_roomsFreeIn 36 = .ok (.iload_n 2, 1) := by decide +kernel
theorem dX4_roomsFreeIn_37 : decode cX4_roomsFreeIn 37 = .ok (.ireturn, 1) := by decide +kernel
theorem dX4_reasonAgainst_0 : decode cX4_reasonAgainst 0 = .ok (.aload_n 0, 1) := by decide +kernel
theorem dX4_reasonAgainst_1 : decode cX4_reasonAgainst 1 = .ok (.getfield 46, 3) := by decide +kernel
theorem dX4_reasonAgainst_4 : decode cX4_reasonAgainst 4 = .ok (.iload_n 1, 1) := by decide +kernel
theorem dX4_reasonAgainst_5 : decode cX4_reasonAgainst 5 = .ok (.invokestatic 85, 3) := by decide +kernel
theorem dX4_reasonAgainst_8 : decode cX4_reasonAgainst 8 = .ok (.istore_n 3, 1) := by decide +kernel
theorem dX4_reasonAgainst_9 : decode cX4_reasonAgainst 9 = .ok (.aload_n 0, 1) := by decide +kernel
theorem dX4_reasonAgainst_10 : decode cX4_reasonAgainst 10 = .ok (.getfield 55, 3) := by decide +kernel
theorem dX4_reasonAgainst_13 : decode cX4_reasonAgainst 13 = .ok (.iload_n 1, 1) := by decide +kernel
theorem dX4_reasonAgainst_14 : decode cX4_reasonAgainst 14 = .ok (.invokestatic 85, 3) := by decide +kernel
theorem dX4_reasonAgainst_17 : decode cX4_reasonAgainst 17 = .ok (.iload_n 2, 1) := by decide +kernel
theorem dX4_reasonAgainst_18 : decode cX4_reasonAgainst 18 = .ok (.if_icmp .ne 5, 3) := by decide +kernel
theorem dX4_reasonAgainst_21 : decode cX4_reasonAgainst 21 = .ok (.iconst 1, 1) := by decide +kernel
theorem dX4_reasonAgainst_22 : decode cX4_reasonAgainst 22 = .ok (.ireturn, 1) := by decide +kernel
theorem dX4_reasonAgainst_23 : decode cX4_reasonAgainst 23 = .ok (.aload_n 0, 1) := by decide +kernel
theorem dX4_reasonAgainst_24 : decode cX4_reasonAgainst 24 = .ok (.iload_n 2, 1) := by decide +kernel
theorem dX4_reasonAgainst_25 : decode cX4_reasonAgainst 25 = .ok (.iload_n 3, 1) := by decide +kernel
theorem dX4_reasonAgainst_26 : decode cX4_reasonAgainst 26 = .ok (.invokevirtual 89, 3) := by decide +kernel
theorem dX4_reasonAgainst_29 : decode cX4_reasonAgainst 29 = .ok (.ifCond .eq 5, 3) := by decide +kernel
theorem dX4_reasonAgainst_32 : decode cX4_reasonAgainst 32 = .ok (.iconst 2, 1) := by decide +kernel
theorem dX4_reasonAgainst_33 : decode cX4_reasonAgainst 33 = .ok (.ireturn, 1) := by decide +kernel
theorem dX4_reasonAgainst_34 : decode cX4_reasonAgainst 34 = .ok (.aload_n 0, 1) := by decide +kernel
theorem dX4_reasonAgainst_35 : decode cX4_reasonAgainst 35 = .ok (.iload_n 3, 1) := by decide +kernel
theorem dX4_reasonAgainst_36 : decode cX4_reasonAgainst 36 = .ok (.aload_n 0, 1) := by decide +kernel
theorem dX4_reasonAgainst_37 : decode cX4_reasonAgainst 37 = .ok (.getfield 55, 3) := by decide +kernel
theorem dX4_reasonAgainst_40 : decode cX4_reasonAgainst 40 = .ok (.iload_n 2, 1) := by decide +kernel
theorem dX4_reasonAgainst_41 : decode cX4_reasonAgainst 41 = .ok (.invokevirtual 93, 3) := by decide +kernel
theorem dX4_reasonAgainst_44 : decode cX4_reasonAgainst 44 = .ok (.iconst (-1), 1) := by decide +kernel
theorem dX4_reasonAgainst_45 : decode cX4_reasonAgainst 45 = .ok (.if_icmp .eq 5, 3) := by decide +kernel
theorem dX4_reasonAgainst_48 : decode cX4_reasonAgainst 48 = .ok (.iconst 3, 1) := by decide +kernel
theorem dX4_reasonAgainst_49 : decode cX4_reasonAgainst 49 = .ok (.ireturn, 1) := by decide +kernel
theorem dX4_reasonAgainst_50 : decode cX4_reasonAgainst 50 = .ok (.aload_n 0, 1) := by decide +kernel
theorem dX4_reasonAgainst_51 : decode cX4_reasonAgainst 51 = .ok (.iload_n 3, 1) := by decide +kernel
theorem dX4_reasonAgainst_52 : decode cX4_reasonAgainst 52 = .ok (.aload_n 0, 1) := by decide +kernel
theorem dX4_reasonAgainst_53 : decode cX4_reasonAgainst 53 = .ok (.getfield 61, 3) := by decide +kernel
theorem dX4_reasonAgainst_56 : decode cX4_reasonAgainst 56 = .ok (.iload_n 2, 1) := by decide +kernel
theorem dX4_reasonAgainst_57 : decode cX4_reasonAgainst 57 = .ok (.invokevirtual 93, 3) := by decide +kernel
theorem dX4_reasonAgainst_60 : decode cX4_reasonAgainst 60 = .ok (.iconst (-1), 1) := by decide +kernel
theorem dX4_reasonAgainst_61 : decode cX4_reasonAgainst 61 = .ok (.if_icmp .eq 5, 3) := by decide +kernel
theorem dX4_reasonAgainst_64 : decode cX4_reasonAgainst 64 = .ok (.iconst 4, 1) := by decide +kernel
theorem dX4_reasonAgainst_65 : decode cX4_reasonAgainst 65 = .ok (.ireturn, 1) := by decide +kernel
theorem dX4_reasonAgainst_66 : decode cX4_reasonAgainst 66 = .ok (.aload_n 0, 1) := by decide +kernel
theorem dX4_reasonAgainst_67 : decode cX4_reasonAgainst 67 = .ok (.iload_n 2, 1) := by decide +kernel
theorem dX4_reasonAgainst_68 : decode cX4_reasonAgainst 68 = .ok (.aload_n 0, 1) := by decide +kernel
theorem dX4_reasonAgainst_69 : decode cX4_reasonAgainst 69 = .ok (.iload_n 1, 1) := by decide +kernel
theorem dX4_reasonAgainst_70 : decode cX4_reasonAgainst 70 = .ok (.invokevirtual 108, 3) := by decide +kernel
theorem dX4_reasonAgainst_73 : decode cX4_reasonAgainst 73 = .ok (.invokevirtual 104, 3) := by decide +kernel
theorem dX4_reasonAgainst_76 : decode cX4_reasonAgainst 76 = .ok (.aload_n 0, 1) := by decide +kernel
theorem dX4_reasonAgainst_77 : decode cX4_reasonAgainst 77 = .ok (.getfield 31, 3) := by decide +kernel
theorem dX4_reasonAgainst_80 : decode cX4_reasonAgainst 80 = .ok (.iload_n 2, 1) := by decide +kernel
theorem dX4_reasonAgainst_81 : decode cX4_reasonAgainst 81 = .ok (.invokestatic 85, 3) := by decide +kernel
theorem dX4_reasonAgainst_84 : decode cX4_reasonAgainst 84 = .ok (.if_icmp .lt 7, 3) := by decide +kernel
theorem dX4_reasonAgainst_87 : decode cX4_reasonAgainst 87 = .ok (.iconst 5, 1) := by decide +kernel
theorem dX4_reasonAgainst_88 : decode cX4_reasonAgainst 88 = .ok (.goto 4, 3) := by decide +kernel
theorem dX4_reasonAgainst_91 : decode cX4_reasonAgainst 91 = .ok (.iconst 0, 1) := by decide +kernel
theorem dX4_reasonAgainst_92 : decode cX4_reasonAgainst 92 = .ok (.ireturn, 1) := by decide +kernel
theorem dX4_bestFor_0 : decode cX4_bestFor 0 = .ok (.iconst (-1), 1) := by decide +kernel
theorem dX4_bestFor_1 : decode cX4_bestFor 1 = .ok (.istore_n 2, 1) := by decide +kernel
theorem dX4_bestFor_2 : decode cX4_bestFor 2 = .ok (.iconst 0, 1) := by decide +kernel
theorem dX4_bestFor_3 : decode cX4_bestFor 3 = .ok (.istore_n 3, 1) := by decide +kernel
theorem dX4_bestFor_4 : decode cX4_bestFor 4 = .ok (.iload_n 3, 1) := by decide +kernel
theorem dX4_bestFor_5 : decode cX4_bestFor 5 = .ok (.aload_n 0, 1) := by decide +kernel
theorem dX4_bestFor_6 : decode cX4_bestFor 6 = .ok (.getfield 9, 3) := by decide +kernel
theorem dX4_bestFor_9 : decode cX4_bestFor 9 = .ok (.if_icmp .ge 35, 3) := by decide +kernel
theorem dX4_bestFor_12 : decode cX4_bestFor 12 = .ok (.aload_n 0, 1) := by decide +kernel
theorem dX4_bestFor_13 : decode cX4_bestFor 13 = .ok (.iload_n 1, 1) := by decide +kernel
theorem dX4_bestFor_14 : decode cX4_bestFor 14 = .ok (.iload_n 3, 1) := by decide +kernel
theorem dX4_bestFor_15 : decode cX4_bestFor 15 = .ok (.invokevirtual 160, 3) := by decide +kernel
theorem dX4_bestFor_18 : decode cX4_bestFor 18 = .ok (.ifCond .ne 20, 3) := by decide +kernel
theorem dX4_bestFor_21 : decode cX4_bestFor 21 = .ok (.iload_n 2, 1) := by decide +kernel
theorem dX4_bestFor_22 : decode cX4_bestFor 22 = .ok (.iconst (-1), 1) := by decide +kernel
theorem dX4_bestFor_23 : decode cX4_bestFor 23 = .ok (.if_icmp .eq 13, 3) := by decide +kernel
theorem dX4_bestFor_26 : decode cX4_bestFor 26 = .ok (.aload_n 0, 1) := by decide +kernel
theorem dX4_bestFor_27 : decode cX4_bestFor 27 = .ok (.iload_n 1, 1) := by decide +kernel
theorem dX4_bestFor_28 : decode cX4_bestFor 28 = .ok (.iload_n 3, 1) := by decide +kernel
theorem dX4_bestFor_29 : decode cX4_bestFor 29 = .ok (.iload_n 2, 1) := by decide +kernel
theorem dX4_bestFor_30 : decode cX4_bestFor 30 = .ok (.invokevirtual 163, 3) := by decide +kernel
theorem dX4_bestFor_33 : decode cX4_bestFor 33 = .ok (.ifCond .eq 5, 3) := by decide +kernel
theorem dX4_bestFor_36 : decode cX4_bestFor 36 = .ok (.iload_n 3, 1) := by decide +kernel
theorem dX4_bestFor_37 : decode cX4_bestFor 37 = .ok (.istore_n 2, 1) := by decide +kernel
theorem dX4_bestFor_38 : decode cX4_bestFor 38 = .ok (.iinc 3 1, 3) := by decide +kernel
theorem dX4_bestFor_41 : decode cX4_bestFor 41 = .ok (.goto (-37), 3) := by decide +kernel
theorem dX4_bestFor_44 : decode cX4_bestFor 44 = .ok (.iload_n 2, 1) := by decide +kernel
theorem dX4_bestFor_45 : decode cX4_bestFor 45 = .ok (.ireturn, 1) := by decide +kernel
theorem dX4_isBetterFor_0 : decode cX4_isBetterFor 0 = .ok (.aload_n 0, 1) := by decide +kernel
theorem dX4_isBetterFor_1 : decode cX4_isBetterFor 1 = .ok (.iload_n 2, 1) := by decide +kernel
theorem dX4_isBetterFor_2 : decode cX4_isBetterFor 2 = .ok (.aload_n 0, 1) := by decide +kernel
theorem dX4_isBetterFor_3 : decode cX4_isBetterFor 3 = .ok (.getfield 52, 3) := by decide +kernel
theorem dX4_isBetterFor_6 : decode cX4_isBetterFor 6 = .ok (.iload_n 1, 1) := by decide +kernel
theorem dX4_isBetterFor_7 : decode cX4_isBetterFor 7 = .ok (.invokestatic 85, 3) := by decide +kernel
theorem dX4_isBetterFor_10 : decode cX4_isBetterFor 10 = .ok (.invokevirtual 117, 3) := by decide +kernel
theorem dX4_isBetterFor_13 : decode cX4_isBetterFor 13 = .ok (.istore 4, 2) := by decide +kernel
theorem dX4_isBetterFor_15 : decode cX4_isBetterFor 15 = .ok (.iload 4, 2) := by decide +kernel
theorem dX4_isBetterFor_17 : decode cX4_isBetterFor 17 = .ok (.aload_n 0, 1) := by decide +kernel
theorem dX4_isBetterFor_18 : decode cX4_isBetterFor 18 = .ok (.iload_n 3, 1) := by decide +kernel
theorem dX4_isBetterFor_19 : decode cX4_isBetterFor 19 = .ok (.aload_n 0, 1) := by decide +kernel
theorem dX4_isBetterFor_20 : decode cX4_isBetterFor 20 = .ok (.getfield 52, 3) := by decide +kernel
theorem dX4_isBetterFor_23 : decode cX4_isBetterFor 23 = .ok (.iload_n 1, 1) := by decide +kernel
theorem dX4_isBetterFor_24 : decode cX4_isBetterFor 24 = .ok (.invokestatic 85, 3) := by decide +kernel
theorem dX4_isBetterFor_27 : decode cX4_isBetterFor 27 = .ok (.invokevirtual 117, 3) := by decide +kernel
theorem dX4_isBetterFor_30 : decode cX4_isBetterFor 30 = .ok (.if_icmp .eq 6, 3) := by decide +kernel
theorem dX4_isBetterFor_33 : decode cX4_isBetterFor 33 = .ok (.iload 4, 2) := by decide +kernel
theorem dX4_isBetterFor_35 : decode cX4_isBetterFor 35 = .ok (.ireturn, 1) := by decide +kernel
theorem dX4_isBetterFor_36 : decode cX4_isBetterFor 36 = .ok (.aload_n 0, 1) := by decide +kernel
theorem dX4_isBetterFor_37 : decode cX4_isBetterFor 37 = .ok (.iload_n 1, 1) := by decide +kernel
theorem dX4_isBetterFor_38 : decode cX4_isBetterFor 38 = .ok (.iload_n 2, 1) := by decide +kernel
theorem dX4_isBetterFor_39 : decode cX4_isBetterFor 39 = .ok (.invokevirtual 166, 3) := by decide +kernel
theorem dX4_isBetterFor_42 : decode cX4_isBetterFor 42 = .ok (.aload_n 0, 1) := by decide +kernel
theorem dX4_isBetterFor_43 : decode cX4_isBetterFor 43 = .ok (.iload_n 1, 1) := by decide +kernel
theorem dX4_isBetterFor_44 : decode cX4_isBetterFor 44 = .ok (.iload_n 3, 1) := by decide +kernel
theorem dX4_isBetterFor_45 : decode cX4_isBetterFor 45 = .ok (.invokevirtual 166, 3) := by decide +kernel
theorem dX4_isBetterFor_48 : decode cX4_isBetterFor 48 = .ok (.if_icmp .ge 7, 3) := by decide +kernel
theorem dX4_isBetterFor_51 : decode cX4_isBetterFor 51 = .ok (.iconst 1, 1) := by decide +kernel
theorem dX4_isBetterFor_52 : decode cX4_isBetterFor 52 = .ok (.goto 4, 3) := by decide +kernel
theorem dX4_isBetterFor_55 : decode cX4_isBetterFor 55 = .ok (.iconst 0, 1) := by decide +kernel
theorem dX4_isBetterFor_56 : decode cX4_isBetterFor 56 = .ok (.ireturn, 1) := by decide +kernel
theorem dX4_shareWith_0 : decode cX4_shareWith 0 = .ok (.aload_n 0, 1) := by decide +kernel
theorem dX4_shareWith_1 : decode cX4_shareWith 1 = .ok (.iload_n 2, 1) := by decide +kernel
theorem dX4_shareWith_2 : decode cX4_shareWith 2 = .ok (.aload_n 0, 1) := by decide +kernel
theorem dX4_shareWith_3 : decode cX4_shareWith 3 = .ok (.getfield 34, 3) := by decide +kernel
theorem dX4_shareWith_6 : decode cX4_shareWith 6 = .ok (.iload_n 2, 1) := by decide +kernel
theorem dX4_shareWith_7 : decode cX4_shareWith 7 = .ok (.invokestatic 85, 3) := by decide +kernel
theorem dX4_shareWith_10 : decode cX4_shareWith 10 = .ok (.aload_n 0, 1) := by decide +kernel
theorem dX4_shareWith_11 : decode cX4_shareWith 11 = .ok (.iload_n 1, 1) := by decide +kernel
theorem dX4_shareWith_12 : decode cX4_shareWith 12 = .ok (.iload_n 2, 1) := by decide +kernel
theorem dX4_shareWith_13 : decode cX4_shareWith 13 = .ok (.invokevirtual 120, 3) := by decide +kernel
theorem dX4_shareWith_16 : decode cX4_shareWith 16 = .ok (.iadd, 1) := by decide +kernel
theorem dX4_shareWith_17 : decode cX4_shareWith 17 = .ok (.invokevirtual 111, 3) := by decide +kernel
theorem dX4_shareWith_20 : decode cX4_shareWith 20 = .ok (.ireturn, 1) := by decide +kernel
theorem dX4_beginCover_0 : decode cX4_beginCover 0 = .ok (.aload_n 0, 1) := by decide +kernel
theorem dX4_beginCover_1 : decode cX4_beginCover 1 = .ok (.getfield 61, 3) := by decide +kernel
theorem dX4_beginCover_4 : decode cX4_beginCover 4 = .ok (.iload_n 1, 1) := by decide +kernel
theorem dX4_beginCover_5 : decode cX4_beginCover 5 = .ok (.iload_n 2, 1) := by decide +kernel
theorem dX4_beginCover_6 : decode cX4_beginCover 6 = .ok (.invokestatic 81, 3) := by decide +kernel
theorem dX4_beginCover_9 : decode cX4_beginCover 9 = .ok (.aload_n 0, 1) := by decide +kernel
theorem dX4_beginCover_10 : decode cX4_beginCover 10 = .ok (.iload_n 2, 1) := by decide +kernel
theorem dX4_beginCover_11 : decode cX4_beginCover 11 = .ok (.aload_n 0, 1) := by decide +kernel
theorem dX4_beginCover_12 : decode cX4_beginCover 12 = .ok (.iload_n 1, 1) := by decide +kernel
theorem dX4_beginCover_13 : decode cX4_beginCover 13 = .ok (.iload_n 2, 1) := by decide +kernel
theorem dX4_beginCover_14 : decode cX4_beginCover 14 = .ok (.invokevirtual 120, 3) := by decide +kernel
theorem dX4_beginCover_17 : decode cX4_beginCover 17 = .ok (.invokevirtual 169, 3) := by decide +kernel
theorem dX4_beginCover_20 : decode cX4_beginCover 20 = .ok (.return_, 1) := by decide +kernel
theorem dX4_endCover_0 : decode cX4_endCover 0 = .ok (.aload_n 0, 1) := by decide +kernel
theorem dX4_endCover_1 : decode cX4_endCover 1 = .ok (.getfield 61, 3) := by decide +kernel
theorem dX4_endCover_4 : decode cX4_endCover 4 = .ok (.iload_n 1, 1) := by decide +kernel
theorem dX4_endCover_5 : decode cX4_endCover 5 = .ok (.invokestatic 85, 3) := by decide +kernel
theorem dX4_endCover_8 : decode cX4_endCover 8 = .ok (.istore_n 2, 1) := by decide +kernel
theorem dX4_endCover_9 : decode cX4_endCover 9 = .ok (.iload_n 2, 1) := by decide +kernel
theorem dX4_endCover_10 : decode cX4_endCover 10 = .ok (.iconst (-1), 1) := by decide +kernel
theorem dX4_endCover_11 : decode cX4_endCover 11 = .ok (.if_icmp .ne 5, 3) := by decide +kernel
theorem dX4_endCover_14 : decode cX4_endCover 14 = .ok (.iconst 0, 1) := by decide +kernel
theorem dX4_endCover_15 : decode cX4_endCover 15 = .ok (.ireturn, 1) := by decide +kernel
theorem dX4_endCover_16 : decode cX4_endCover 16 = .ok (.aload_n 0, 1) := by decide +kernel
theorem dX4_endCover_17 : decode cX4_endCover 17 = .ok (.iload_n 2, 1) := by decide +kernel
theorem dX4_endCover_18 : decode cX4_endCover 18 = .ok (.aload_n 0, 1) := by decide +kernel
theorem dX4_endCover_19 : decode cX4_endCover 19 = .ok (.iload_n 1, 1) := by decide +kernel
theorem dX4_endCover_20 : decode cX4_endCover 20 = .ok (.iload_n 2, 1) := by decide +kernel
theorem dX4_endCover_21 : decode cX4_endCover 21 = .ok (.invokevirtual 120, 3) := by decide +kernel
theorem dX4_endCover_24 : decode cX4_endCover 24 = .ok (.ineg, 1) := by decide +kernel
theorem dX4_endCover_25 : decode cX4_endCover 25 = .ok (.invokevirtual 169, 3) := by decide +kernel
theorem dX4_endCover_28 : decode cX4_endCover 28 = .ok (.aload_n 0, 1) := by decide +kernel
theorem dX4_endCover_29 : decode cX4_endCover 29 = .ok (.getfield 61, 3) := by decide +kernel
theorem dX4_endCover_32 : decode cX4_endCover 32 = .ok (.iload_n 1, 1) := by decide +kernel
theorem dX4_endCover_33 : decode cX4_endCover 33 = .ok (.iconst (-1), 1) := by decide +kernel
theorem dX4_endCover_34 : decode cX4_endCover 34 = .ok (.invokestatic 81, 3) := by decide +kernel
theorem dX4_endCover_37 : decode cX4_endCover 37 = .ok (.iconst 1, 1) := by decide +kernel
theorem dX4_endCover_38 : decode cX4_endCover 38 = .ok (.ireturn, 1) := by decide +kernel
theorem dX4_coverOpenLessons_0 : decode cX4_coverOpenLessons 0 = .ok (.iconst 0, 1) := by decide +kernel
theorem dX4_coverOpenLessons_1 : decode cX4_coverOpenLessons 1 = .ok (.istore_n 2, 1) := by decide +kernel
theorem dX4_coverOpenLessons_2 : decode cX4_coverOpenLessons 2 = .ok (.iconst 0, 1) := by decide +kernel
theorem dX4_coverOpenLessons_3 : decode cX4_coverOpenLessons 3 = .ok (.istore_n 3, 1) := by decide +kernel
theorem dX4_coverOpenLessons_4 : decode cX4_coverOpenLessons 4 = .ok (.iload_n 3, 1) := by decide +kernel
theorem dX4_coverOpenLessons_5 : decode cX4_coverOpenLessons 5 = .ok (.bipush 6, 2) := by decide +kernel
theorem dX4_coverOpenLessons_7 : decode cX4_coverOpenLessons 7 = .ok (.if_icmp .ge 71, 3) := by decide +kernel
theorem dX4_coverOpenLessons_10 : decode cX4_coverOpenLessons 10 = .ok (.iconst 0, 1) := by decide +kernel
theorem dX4_coverOpenLessons_11 : decode cX4_coverOpenLessons 11 = .ok (.istore 4, 2) := by decide +kernel
theorem dX4_coverOpenLessons_13 : decode cX4_coverOpenLessons 13 = .ok (.iload 4, 2) := by decide +kernel
theorem dX4_coverOpenLessons_15 : decode cX4_coverOpenLessons 15 = .ok (.aload_n 0, 1) := by decide +kernel
theorem dX4_coverOpenLessons_16 : decode cX4_coverOpenLessons 16 = .ok (.getfield 15, 3) := by decide +kernel
theorem dX4_coverOpenLessons_19 : decode cX4_coverOpenLessons 19 = .ok (.if_icmp .ge 53, 3) := by decide +kernel
theorem dX4_coverOpenLessons_22 : decode cX4_coverOpenLessons 22 = .ok (.aload_n 0, 1) := by decide +kernel
theorem dX4_coverOpenLessons_23 : decode cX4_coverOpenLessons 23 = .ok (.iload 4, 2) := by decide +kernel
theorem dX4_coverOpenLessons_25 : decode cX4_coverOpenLessons 25 = .ok (.iload_n 1, 1) := by decide +kernel
theorem dX4_coverOpenLessons_26 : decode cX4_coverOpenLessons 26 = .ok (.bipush 6, 2) := by decide +kernel
theorem dX4_coverOpenLessons_28 : decode cX4_coverOpenLessons 28 = .ok (.imul, 1) := by decide +kernel
theorem dX4_coverOpenLessons_29 : decode cX4_coverOpenLessons 29 = .ok (.iload_n 3, 1) := by decide +kernel
theorem dX4_coverOpenLessons_30 : decode cX4_coverOpenLessons 30 = .ok (.iadd, 1) := by decide +kernel
theorem dX4_coverOpenLessons_31 : decode cX4_coverOpenLessons 31 = .ok (.invokevirtual 139, 3) := by decide +kernel
theorem dX4_coverOpenLessons_34 : decode cX4_coverOpenLessons 34 = .ok (.ifCond .eq 12, 3) := by decide +kernel
theorem dX4_coverOpenLessons_37 : decode cX4_coverOpenLessons 37 = .ok (.aload_n 0, 1) := by decide +kernel
theorem dX4_coverOpenLessons_38 : decode cX4_coverOpenLessons 38 = .ok (.iload 4, 2) := by decide +kernel
theorem dX4_coverOpenLessons_40 : decode cX4_coverOpenLessons 40 = .ok (.invokevirtual 173, 3) := by decide +kernel
theorem dX4_coverOpenLessons_43 : decode cX4_coverOpenLessons 43 = .ok (.goto 4, 3) := by decide +kernel
theorem dX4_coverOpenLessons_46 : decode cX4_coverOpenLessons 46 = .ok (.iconst (-1), 1) := by decide +kernel
theorem dX4_coverOpenLessons_47 : decode cX4_coverOpenLessons 47 = .ok (.istore 5, 2) := by decide +kernel
theorem dX4_coverOpenLessons_49 : decode cX4_coverOpenLessons 49 = .ok (.iload 5, 2) := by decide +kernel
theorem dX4_coverOpenLessons_51 : decode cX4_coverOpenLessons 51 = .ok (.iconst (-1), 1) := by decide +kernel
theorem dX4_coverOpenLessons_52 : decode cX4_coverOpenLessons 52 = .ok (.if_icmp .eq 14, 3) := by decide +kernel
theorem dX4_coverOpenLessons_55 : decode cX4_coverOpenLessons 55 = .ok (.aload_n 0, 1) := by decide +kernel
theorem dX4_coverOpenLessons_56 : decode cX4_coverOpenLessons 56 = .ok (.iload 4, 2) := by decide +kernel
theorem dX4_coverOpenLessons_58 : decode cX4_coverOpenLessons 58 = .ok (.iload 5, 2) := by decide +kernel
theorem dX4_coverOpenLessons_60 : decode cX4_coverOpenLessons 60 = .ok (.invokevirtual 176, 3) := by decide +kernel
theorem dX4_coverOpenLessons_63 : decode cX4_coverOpenLessons 63 = .ok (.iinc 2 1, 3) := by decide +kernel
theorem dX4_coverOpenLessons_66 : decode cX4_coverOpenLessons 66 = .ok (.iinc 4 1, 3) := by decide +kernel
theorem dX4_coverOpenLessons_69 : decode cX4_coverOpenLessons 69 = .ok (.goto (-56), 3) := by decide +kernel
theorem dX4_coverOpenLessons_72 : decode cX4_coverOpenLessons 72 = .ok (.iinc 3 1, 3) := by decide +kernel
theorem dX4_coverOpenLessons_75 : decode cX4_coverOpenLessons 75 = .ok (.goto (-71), 3) := by decide +kernel
theorem dX4_coverOpenLessons_78 : decode cX4_coverOpenLessons 78 = .ok (.iload_n 2, 1) := by decide +kernel
theorem dX4_coverOpenLessons_79 : decode cX4_coverOpenLessons 79 = .ok (.ireturn, 1) := by decide +kernel
theorem dX4_beginSplit_0 : decode cX4_beginSplit 0 = .ok (.aload_n 0, 1) := by decide +kernel
theorem dX4_beginSplit_1 : decode cX4_beginSplit 1 = .ok (.getfield 64, 3) := by decide +kernel
theorem dX4_beginSplit_4 : decode cX4_beginSplit 4 = .ok (.iload_n 1, 1) := by decide +kernel
theorem dX4_beginSplit_5 : decode cX4_beginSplit 5 = .ok (.iload_n 2, 1) := by decide +kernel
theorem dX4_beginSplit_6 : decode cX4_beginSplit 6 = .ok (.invokestatic 81, 3) := by decide +kernel
theorem dX4_beginSplit_9 : decode cX4_beginSplit 9 = .ok (.aload_n 0, 1) := by decide +kernel
theorem dX4_beginSplit_10 : decode cX4_beginSplit 10 = .ok (.getfield 67, 3) := by decide +kernel
theorem dX4_beginSplit_13 : decode cX4_beginSplit 13 = .ok (.iload_n 1, 1) := by decide +kernel
theorem dX4_beginSplit_14 : decode cX4_beginSplit 14 = .ok (.iload_n 3, 1) := by decide +kernel
theorem dX4_beginSplit_15 : decode cX4_beginSplit 15 = .ok (.invokestatic 81, 3) := by decide +kernel
theorem dX4_beginSplit_18 : decode cX4_beginSplit 18 = .ok (.aload_n 0, 1) := by decide +kernel
theorem dX4_beginSplit_19 : decode cX4_beginSplit 19 = .ok (.aload_n 0, 1) := by decide +kernel
theorem dX4_beginSplit_20 : decode cX4_beginSplit 20 = .ok (.iload_n 2, 1) := by decide +kernel
theorem dX4_beginSplit_21 : decode cX4_beginSplit 21 = .ok (.invokevirtual 123, 3) := by decide +kernel
theorem dX4_beginSplit_24 : decode cX4_beginSplit 24 = .ok (.iconst 1, 1) := by decide +kernel
theorem dX4_beginSplit_25 : decode cX4_beginSplit 25 = .ok (.invokevirtual 169, 3) := by decide +kernel
theorem dX4_beginSplit_28 : decode cX4_beginSplit 28 = .ok (.aload_n 0, 1) := by decide +kernel
theorem dX4_beginSplit_29 : decode cX4_beginSplit 29 = .ok (.aload_n 0, 1) := by decide +kernel
theorem dX4_beginSplit_30 : decode cX4_beginSplit 30 = .ok (.iload_n 3, 1) := by decide +kernel
theorem dX4_beginSplit_31 : decode cX4_beginSplit 31 = .ok (.invokevirtual 123, 3) := by decide +kernel
theorem dX4_beginSplit_34 : decode cX4_beginSplit 34 = .ok (.iconst 1, 1) := by decide +kernel
theorem dX4_beginSplit_35 : decode cX4_beginSplit 35 = .ok (.invokevirtual 169, 3) := by decide +kernel
theorem dX4_beginSplit_38 : decode cX4_beginSplit 38 = .ok (.return_, 1) := by decide +kernel
theorem dX4_endSplit_0 : decode cX4_endSplit 0 = .ok (.aload_n 0, 1) := by decide +kernel
theorem dX4_endSplit_1 : decode cX4_endSplit 1 = .ok (.aload_n 0, 1) := by decide +kernel
theorem dX4_endSplit_2 : decode cX4_endSplit 2 = .ok (.aload_n 0, 1) := by decide +kernel
theorem dX4_endSplit_3 : decode cX4_endSplit 3 = .ok (.getfield 64, 3) := by decide +kernel
theorem dX4_endSplit_6 : decode cX4_endSplit 6 = .ok (.iload_n 1, 1) := by decide +kernel
theorem dX4_endSplit_7 : decode cX4_endSplit 7 = .ok (.invokestatic 85, 3) := by decide +kernel
theorem dX4_endSplit_10 : decode cX4_endSplit 10 = .ok (.invokevirtual 123, 3) := by decide +kernel
theorem dX4_endSplit_13 : decode cX4_endSplit 13 = .ok (.iconst (-1), 1) := by decide +kernel
theorem dX4_endSplit_14 : decode cX4_endSplit 14 = .ok (.invokevirtual 169, 3) := by decide +kernel
theorem dX4_endSplit_17 : decode cX4_endSplit 17 = .ok (.aload_n 0, 1) := by decide +kernel
theorem dX4_endSplit_18 : decode cX4_endSplit 18 = .ok (.aload_n 0, 1) := by decide +kernel
theorem dX4_endSplit_19 : decode cX4_endSplit 19 = .ok (.aload_n 0, 1) := by decide +kernel
theorem dX4_endSplit_20 : decode cX4_endSplit 20 = .ok (.getfield 67, 3) := by decide +kernel
theorem dX4_endSplit_23 : decode cX4_endSplit 23 = .ok (.iload_n 1, 1) := by decide +kernel
theorem dX4_endSplit_24 : decode cX4_endSplit 24 = .ok (.invokestatic 85, 3) := by decide +kernel
theorem dX4_endSplit_27 : decode cX4_endSplit 27 = .ok (.invokevirtual 123, 3) := by decide +kernel
theorem dX4_endSplit_30 : decode cX4_endSplit 30 = .ok (.iconst (-1), 1) := by decide +kernel
theorem dX4_endSplit_31 : decode cX4_endSplit 31 = .ok (.invokevirtual 169, 3) := by decide +kernel
theorem dX4_endSplit_34 : decode cX4_endSplit 34 = .ok (.aload_n 0, 1) := by decide +kernel
theorem dX4_endSplit_35 : decode cX4_endSplit 35 = .ok (.getfield 64, 3) := by decide +kernel
theorem dX4_endSplit_38 : decode cX4_endSplit 38 = .ok (.iload_n 1, 1) := by decide +kernel
theorem dX4_endSplit_39 : decode cX4_endSplit 39 = .ok (.iconst (-1), 1) := by decide +kernel
theorem dX4_endSplit_40 : decode cX4_endSplit 40 = .ok (.invokestatic 81, 3) := by decide +kernel
theorem dX4_endSplit_43 : decode cX4_endSplit 43 = .ok (.aload_n 0, 1) := by decide +kernel
theorem dX4_endSplit_44 : decode cX4_endSplit 44 = .ok (.getfield 67, 3) := by decide +kernel
theorem dX4_endSplit_47 : decode cX4_endSplit 47 = .ok (.iload_n 1, 1) := by decide +kernel
theorem dX4_endSplit_48 : decode cX4_endSplit 48 = .ok (.iconst (-1), 1) := by decide +kernel
theorem dX4_endSplit_49 : decode cX4_endSplit 49 = .ok (.invokestatic 81, 3) := by decide +kernel
theorem dX4_endSplit_52 : decode cX4_endSplit 52 = .ok (.return_, 1) := by decide +kernel
theorem dX4_endSplitsWith_0 : decode cX4_endSplitsWith 0 = .ok (.iconst 0, 1) := by decide +kernel
theorem dX4_endSplitsWith_1 : decode cX4_endSplitsWith 1 = .ok (.istore_n 2, 1) := by decide +kernel
theorem dX4_endSplitsWith_2 : decode cX4_endSplitsWith 2 = .ok (.iconst 0, 1) := by decide +kernel
theorem dX4_endSplitsWith_3 : decode cX4_endSplitsWith 3 = .ok (.istore_n 3, 1) := by decide +kernel
theorem dX4_endSplitsWith_4 : decode cX4_endSplitsWith 4 = .ok (.iload_n 3, 1) := by decide +kernel
theorem dX4_endSplitsWith_5 : decode cX4_endSplitsWith 5 = .ok (.aload_n 0, 1) := by decide +kernel
theorem dX4_endSplitsWith_6 : decode cX4_endSplitsWith 6 = .ok (.getfield 15, 3) := by decide +kernel
theorem dX4_endSplitsWith_9 : decode cX4_endSplitsWith 9 = .ok (.if_icmp .ge 26, 3) := by decide +kernel
theorem dX4_endSplitsWith_12 : decode cX4_endSplitsWith 12 = .ok (.aload_n 0, 1) := by decide +kernel
theorem dX4_endSplitsWith_13 : decode cX4_endSplitsWith 13 = .ok (.iload_n 3, 1) := by decide +kernel
theorem dX4_endSplitsWith_14 : decode cX4_endSplitsWith 14 = .ok (.iload_n 1, 1) := by decide +kernel
theorem dX4_endSplitsWith_15 : decode cX4_endSplitsWith 15 = .ok (.invokevirtual 179, 3) := by decide +kernel
theorem dX4_endSplitsWith_18 : decode cX4_endSplitsWith 18 = .ok (.ifCond .eq 11, 3) := by decide +kernel
theorem dX4_endSplitsWith_21 : decode cX4_endSplitsWith 21 = .ok (.aload_n 0, 1) := by decide +kernel
theorem dX4_endSplitsWith_22 : decode cX4_endSplitsWith 22 = .ok (.iload_n 3, 1) := by decide +kernel
theorem dX4_endSplitsWith_23 : decode cX4_endSplitsWith 23 = .ok (.invokevirtual 182, 3) := by decide +kernel
theorem dX4_endSplitsWith_26 : decode cX4_endSplitsWith 26 = .ok (.iinc 2 1, 3) := by decide +kernel
theorem dX4_endSplitsWith_29 : decode cX4_endSplitsWith 29 = .ok (.iinc 3 1, 3) := by decide +kernel
theorem dX4_endSplitsWith_32 : decode cX4_endSplitsWith 32 = .ok (.goto (-28), 3) := by decide +kernel
theorem dX4_endSplitsWith_35 : decode cX4_endSplitsWith 35 = .ok (.aload_n 0, 1) := by decide +kernel
theorem dX4_endSplitsWith_36 : decode cX4_endSplitsWith 36 = .ok (.dup, 1) := by decide +kernel
theorem dX4_endSplitsWith_37 : decode cX4_endSplitsWith 37 = .ok (.getfield 21, 3) := by decide +kernel
theorem dX4_endSplitsWith_40 : decode cX4_endSplitsWith 40 = .ok (.iload_n 2, 1) := by decide +kernel
theorem dX4_endSplitsWith_41 : decode cX4_endSplitsWith 41 = .ok (.iadd, 1) := by decide +kernel
theorem dX4_endSplitsWith_42 : decode cX4_endSplitsWith 42 = .ok (.putfield 21, 3) := by decide +kernel
theorem dX4_endSplitsWith_45 : decode cX4_endSplitsWith 45 = .ok (.iload_n 2, 1) := by decide +kernel
theorem dX4_endSplitsWith_46 : decode cX4_endSplitsWith 46 = .ok (.ireturn, 1) := by decide +kernel
theorem dX4_isSplitWith_0 : decode cX4_isSplitWith 0 = .ok (.aload_n 0, 1) := by decide +kernel
theorem dX4_isSplitWith_1 : decode cX4_isSplitWith 1 = .ok (.getfield 64, 3) := by decide +kernel
theorem dX4_isSplitWith_4 : decode cX4_isSplitWith 4 = .ok (.iload_n 1, 1) := by decide +kernel
theorem dX4_isSplitWith_5 : decode cX4_isSplitWith 5 = .ok (.invokestatic 85, 3) := by decide +kernel
theorem dX4_isSplitWith_8 : decode cX4_isSplitWith 8 = .ok (.istore_n 3, 1) := by decide +kernel
theorem dX4_isSplitWith_9 : decode cX4_isSplitWith 9 = .ok (.iload_n 3, 1) := by decide +kernel
theorem dX4_isSplitWith_10 : decode cX4_isSplitWith 10 = .ok (.iconst (-1), 1) := by decide +kernel
theorem dX4_isSplitWith_11 : decode cX4_isSplitWith 11 = .ok (.if_icmp .eq 29, 3) := by decide +kernel
theorem dX4_isSplitWith_14 : decode cX4_isSplitWith 14 = .ok (.iload_n 1, 1) := by decide +kernel
theorem dX4_isSplitWith_15 : decode cX4_isSplitWith 15 = .ok (.iload_n 2, 1) := by decide +kernel
theorem dX4_isSplitWith_16 : decode cX4_isSplitWith 16 = .ok (.if_icmp .eq 20, 3) := by decide +kernel
theorem dX4_isSplitWith_19 : decode cX4_isSplitWith 19 = .ok (.iload_n 3, 1) := by decide +kernel
theorem dX4_isSplitWith_20 : decode cX4_isSplitWith 20 = .ok (.iload_n 2, 1) := by decide +kernel
theorem dX4_isSplitWith_21 : decode cX4_isSplitWith 21 = .ok (.if_icmp .eq 15, 3) := by decide +kernel
theorem dX4_isSplitWith_24 : decode cX4_isSplitWith 24 = .ok (.aload_n 0, 1) := by decide +kernel
theorem dX4_isSplitWith_25 : decode cX4_isSplitWith 25 = .ok (.getfield 67, 3) := by decide +kernel
theorem dX4_isSplitWith_28 : decode cX4_isSplitWith 28 = .ok (.iload_n 1, 1) := by decide +kernel
theorem dX4_isSplitWith_29 : decode cX4_isSplitWith 29 = .ok (.invokestatic 85, 3) := by decide +kernel
theorem dX4_isSplitWith_32 : decode cX4_isSplitWith 32 = .ok (.iload_n 2, 1) := by decide +kernel
theorem dX4_isSplitWith_33 : decode cX4_isSplitWith 33 = .ok (.if_icmp .ne 7, 3) := by decide +kernel
theorem dX4_isSplitWith_36 : decode cX4_isSplitWith 36 = .ok (.iconst 1, 1) := by decide +kernel
theorem dX4_isSplitWith_37 : decode cX4_isSplitWith 37 = .ok (.goto 4, 3) := by decide +kernel
theorem dX4_isSplitWith_40 : decode cX4_isSplitWith 40 = .ok (.iconst 0, 1) := by decide +kernel
theorem dX4_isSplitWith_41 : decode cX4_isSplitWith 41 = .ok (.ireturn, 1) := by decide +kernel
theorem dX4_endAllWith_0 : decode cX4_endAllWith 0 = .ok (.aload_n 0, 1) := by decide +kernel
theorem dX4_endAllWith_1 : decode cX4_endAllWith 1 = .ok (.iload_n 1, 1) := by decide +kernel
theorem dX4_endAllWith_2 : decode cX4_endAllWith 2 = .ok (.invokevirtual 186, 3) := by decide +kernel
theorem dX4_endAllWith_5 : decode cX4_endAllWith 5 = .ok (.istore_n 2, 1) := by decide +kernel
theorem dX4_endAllWith_6 : decode cX4_endAllWith 6 = .ok (.aload_n 0, 1) := by decide +kernel
theorem dX4_endAllWith_7 : decode cX4_endAllWith 7 = .ok (.iload_n 1, 1) := by decide +kernel
theorem dX4_endAllWith_8 : decode cX4_endAllWith 8 = .ok (.invokevirtual 189, 3) := by decide +kernel
theorem dX4_endAllWith_11 : decode cX4_endAllWith 11 = .ok (.istore_n 3, 1) := by decide +kernel
theorem dX4_endAllWith_12 : decode cX4_endAllWith 12 = .ok (.aload_n 0, 1) := by decide +kernel
theorem dX4_endAllWith_13 : decode cX4_endAllWith 13 = .ok (.dup, 1) := by decide +kernel
theorem dX4_endAllWith_14 : decode cX4_endAllWith 14 = .ok (.getfield 18, 3) := by decide +kernel
theorem dX4_endAllWith_17 : decode cX4_endAllWith 17 = .ok (.iload_n 3, 1) := by decide +kernel
theorem dX4_endAllWith_18 : decode cX4_endAllWith 18 = .ok (.iadd, 1) := by decide +kernel
theorem dX4_endAllWith_19 : decode cX4_endAllWith 19 = .ok (.putfield 18, 3) := by decide +kernel
theorem dX4_endAllWith_22 : decode cX4_endAllWith 22 = .ok (.iload_n 2, 1) := by decide +kernel
theorem dX4_endAllWith_23 : decode cX4_endAllWith 23 = .ok (.iload_n 3, 1) := by decide +kernel
theorem dX4_endAllWith_24 : decode cX4_endAllWith 24 = .ok (.iadd, 1) := by decide +kernel
theorem dX4_endAllWith_25 : decode cX4_endAllWith 25 = .ok (.ireturn, 1) := by decide +kernel
theorem dX4_turnAbsence_0 : decode cX4_turnAbsence 0 = .ok (.iconst 0, 1) := by decide +kernel
theorem dX4_turnAbsence_1 : decode cX4_turnAbsence 1 = .ok (.istore_n 3, 1) := by decide +kernel
theorem dX4_turnAbsence_2 : decode cX4_turnAbsence 2 = .ok (.aload_n 0, 1) := by decide +kernel
theorem dX4_turnAbsence_3 : decode cX4_turnAbsence 3 = .ok (.iload_n 2, 1) := by decide +kernel
theorem dX4_turnAbsence_4 : decode cX4_turnAbsence 4 = .ok (.aload_n 0, 1) := by decide +kernel
theorem dX4_turnAbsence_5 : decode cX4_turnAbsence 5 = .ok (.getfield 55, 3) := by decide +kernel
theorem dX4_turnAbsence_8 : decode cX4_turnAbsence 8 = .ok (.iload_n 1, 1) := by decide +kernel
theorem dX4_turnAbsence_9 : decode cX4_turnAbsence 9 = .ok (.invokevirtual 93, 3) := by decide +kernel
theorem dX4_turnAbsence_12 : decode cX4_turnAbsence 12 = .ok (.istore 4, 2) := by decide +kernel
theorem dX4_turnAbsence_14 : decode cX4_turnAbsence 14 = .ok (.iload 4, 2) := by decide +kernel
theorem dX4_turnAbsence_16 : decode cX4_turnAbsence 16 = .ok (.iconst (-1), 1) := by decide +kernel
theorem dX4_turnAbsence_17 : decode cX4_turnAbsence 17 = .ok (.if_icmp .eq 12, 3) := by decide +kernel
theorem dX4_turnAbsence_20 : decode cX4_turnAbsence 20 = .ok (.iload_n 3, 1) := by decide +kernel
theorem dX4_turnAbsence_21 : decode cX4_turnAbsence 21 = .ok (.aload_n 0, 1) := by decide +kernel
theorem dX4_turnAbsence_22 : decode cX4_turnAbsence 22 = .ok (.iload 4, 2) := by decide +kernel
theorem dX4_turnAbsence_24 : decode cX4_turnAbsence 24 = .ok (.invokevirtual 130, 3) := by decide +kernel
theorem dX4_turnAbsence_27 : decode cX4_turnAbsence 27 = .ok (.iadd, 1) := by decide +kernel
theorem dX4_turnAbsence_28 : decode cX4_turnAbsence 28 = .ok (.istore_n 3, 1) := by decide +kernel
theorem dX4_turnAbsence_29 : decode cX4_turnAbsence 29 = .ok (.aload_n 0, 1) := by decide +kernel
theorem dX4_turnAbsence_30 : decode cX4_turnAbsence 30 = .ok (.iload_n 2, 1) := by decide +kernel
theorem dX4_turnAbsence_31 : decode cX4_turnAbsence 31 = .ok (.aload_n 0, 1) := by decide +kernel
theorem dX4_turnAbsence_32 : decode cX4_turnAbsence 32 = .ok (.getfield 61, 3) := by decide +kernel
theorem dX4_turnAbsence_35 : decode cX4_turnAbsence 35 = .ok (.iload_n 1, 1) := by decide +kernel
theorem dX4_turnAbsence_36 : decode cX4_turnAbsence 36 = .ok (.invokevirtual 93, 3) := by decide +kernel
theorem dX4_turnAbsence_39 : decode cX4_turnAbsence 39 = .ok (.istore 5, 2) := by decide +kernel
theorem dX4_turnAbsence_41 : decode cX4_turnAbsence 41 = .ok (.iload 5, 2) := by decide +kernel
theorem dX4_turnAbsence_43 : decode cX4_turnAbsence 43 = .ok (.iconst (-1), 1) := by decide +kernel
theorem dX4_turnAbsence_44 : decode cX4_turnAbsence 44 = .ok (.if_icmp .eq 12, 3) := by decide +kernel
theorem dX4_turnAbsence_47 : decode cX4_turnAbsence 47 = .ok (.iload_n 3, 1) := by decide +kernel
theorem dX4_turnAbsence_48 : decode cX4_turnAbsence 48 = .ok (.aload_n 0, 1) := by decide +kernel
theorem dX4_turnAbsence_49 : decode cX4_turnAbsence 49 = .ok (.iload 5, 2) := by decide +kernel
theorem dX4_turnAbsence_51 : decode cX4_turnAbsence 51 = .ok (.invokevirtual 130, 3) := by decide +kernel
theorem dX4_turnAbsence_54 : decode cX4_turnAbsence 54 = .ok (.iadd, 1) := by decide +kernel
theorem dX4_turnAbsence_55 : decode cX4_turnAbsence 55 = .ok (.istore_n 3, 1) := by decide +kernel
theorem dX4_turnAbsence_56 : decode cX4_turnAbsence 56 = .ok (.aload_n 0, 1) := by decide +kernel
theorem dX4_turnAbsence_57 : decode cX4_turnAbsence 57 = .ok (.getfield 37, 3) := by decide +kernel
theorem dX4_turnAbsence_60 : decode cX4_turnAbsence 60 = .ok (.iload_n 1, 1) := by decide +kernel
theorem dX4_turnAbsence_61 : decode cX4_turnAbsence 61 = .ok (.aload_n 0, 1) := by decide +kernel
theorem dX4_turnAbsence_62 : decode cX4_turnAbsence 62 = .ok (.getfield 37, 3) := by decide +kernel
theorem dX4_turnAbsence_65 : decode cX4_turnAbsence 65 = .ok (.iload_n 1, 1) := by decide +kernel
theorem dX4_turnAbsence_66 : decode cX4_turnAbsence 66 = .ok (.invokestatic 85, 3) := by decide +kernel
theorem dX4_turnAbsence_69 : decode cX4_turnAbsence 69 = .ok (.iconst 1, 1) := by decide +kernel
theorem dX4_turnAbsence_70 : decode cX4_turnAbsence 70 = .ok (.iload_n 2, 1) := by decide +kernel
theorem dX4_turnAbsence_71 : decode cX4_turnAbsence 71 = .ok (.ishl, 1) := by decide +kernel
theorem dX4_turnAbsence_72 : decode cX4_turnAbsence 72 = .ok (.ixor, 1) := by decide +kernel
theorem dX4_turnAbsence_73 : decode cX4_turnAbsence 73 = .ok (.invokestatic 81, 3) := by decide +kernel
theorem dX4_turnAbsence_76 : decode cX4_turnAbsence 76 = .ok (.iload_n 3, 1) := by decide +kernel
theorem dX4_turnAbsence_77 : decode cX4_turnAbsence 77 = .ok (.ireturn, 1) := by decide +kernel
