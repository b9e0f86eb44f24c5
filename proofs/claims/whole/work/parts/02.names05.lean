theorem dX9_empty_26 : decode cX9_empty 26 = .ok (.istore_n 1, 1) := by decide +kernel
theorem dX9_empty_27 : decode cX9_empty 27 = .ok (.iload_n 1, 1) := by decide +kernel
theorem dX9_empty_28 : decode cX9_empty 28 = .ok (.bipush 8, 2) := by decide +kernel
theorem dX9_empty_30 : decode cX9_empty 30 = .ok (.if_icmp .ge 16, 3) := by decide +kernel
theorem dX9_empty_33 : decode cX9_empty 33 = .ok (.aload_n 0, 1) := by decide +kernel
theorem dX9_empty_34 : decode cX9_empty 34 = .ok (.getfield 21, 3) := by decide +kernel
theorem dX9_empty_37 : decode cX9_empty 37 = .ok (.iload_n 1, 1) := by decide +kernel
theorem dX9_empty_38 : decode cX9_empty 38 = .ok (.iconst 0, 1) := by decide +kernel
theorem dX9_empty_39 : decode cX9_empty 39 = .ok (.iastore, 1) := by decide +kernel
theorem dX9_empty_40 : decode cX9_empty 40 = .ok (.iinc 1 1, 3) := by decide +kernel
theorem dX9_empty_43 : decode cX9_empty 43 = .ok (.goto (-16), 3) := by decide +kernel
theorem dX9_empty_46 : decode cX9_empty 46 = .ok (.return_, 1) := by decide +kernel
theorem dX9_copyFrom_0 : decode cX9_copyFrom 0 = .ok (.aload_n 1, 1) := by decide +kernel
theorem dX9_copyFrom_1 : decode cX9_copyFrom 1 = .ok (.getfield 9, 3) := by decide +kernel
theorem dX9_copyFrom_4 : decode cX9_copyFrom 4 = .ok (.iconst 0, 1) := by decide +kernel
theorem dX9_copyFrom_5 : decode cX9_copyFrom 5 = .ok (.aload_n 0, 1) := by decide +kernel
theorem dX9_copyFrom_6 : decode cX9_copyFrom 6 = .ok (.getfield 9, 3) := by decide +kernel
theorem dX9_copyFrom_9 : decode cX9_copyFrom 9 = .ok (.iconst 0, 1) := by decide +kernel
theorem dX9_copyFrom_10 : decode cX9_copyFrom 10 = .ok (.bipush 10, 2) := by decide +kernel
theorem dX9_copyFrom_12 : decode cX9_copyFrom 12 = .ok (.invokestatic 55, 3) := by decide +kernel
theorem dX9_copyFrom_15 : decode cX9_copyFrom 15 = .ok (.aload_n 1, 1) := by decide +kernel
theorem dX9_copyFrom_16 : decode cX9_copyFrom 16 = .ok (.getfield 15, 3) := by decide +kernel
theorem dX9_copyFrom_19 : decode cX9_copyFrom 19 = .ok (.iconst 0, 1) := by decide +kernel
theorem dX9_copyFrom_20 : decode cX9_copyFrom 20 = .ok (.aload_n 0, 1) := by decide +kernel
theorem dX9_copyFrom_21 : decode cX9_copyFrom 21 = .ok (.getfield 15, 3) := by decide +kernel
theorem dX9_copyFrom_24 : decode cX9_copyFrom 24 = .ok (.iconst 0, 1) := by decide +kernel
theorem dX9_copyFrom_25 : decode cX9_copyFrom 25 = .ok (.bipush 10, 2) := by decide +kernel
theorem dX9_copyFrom_27 : decode cX9_copyFrom 27 = .ok (.invokestatic 55, 3) := by decide +kernel
theorem dX9_copyFrom_30 : decode cX9_copyFrom 30 = .ok (.aload_n 1, 1) := by decide +kernel
theorem dX9_copyFrom_31 : decode cX9_copyFrom 31 = .ok (.getfield 18, 3) := by decide +kernel
theorem dX9_copyFrom_34 : decode cX9_copyFrom 34 = .ok (.iconst 0, 1) := by decide +kernel
theorem dX9_copyFrom_35 : decode cX9_copyFrom 35 = .ok (.aload_n 0, 1) := by decide +kernel
theorem dX9_copyFrom_36 : decode cX9_copyFrom 36 = .ok (.getfield 18, 3) := by decide +kernel
theorem dX9_copyFrom_39 : decode cX9_copyFrom 39 = .ok (.iconst 0, 1) := by decide +kernel
theorem dX9_copyFrom_40 : decode cX9_copyFrom 40 = .ok (.bipush 10, 2) := by decide +kernel
theorem dX9_copyFrom_42 : decode cX9_copyFrom 42 = .ok (.invokestatic 55, 3) := by decide +kernel
theorem dX9_copyFrom_45 : decode cX9_copyFrom 45 = .ok (.aload_n 0, 1) := by decide +kernel
theorem dX9_copyFrom_46 : decode cX9_copyFrom 46 = .ok (.aload_n 1, 1) := by decide +kernel
theorem dX9_copyFrom_47 : decode cX9_copyFrom 47 = .ok (.getfield 39, 3) := by decide +kernel
theorem dX9_copyFrom_50 : decode cX9_copyFrom 50 = .ok (.putfield 39, 3) := by decide +kernel
theorem dX9_copyFrom_53 : decode cX9_copyFrom 53 = .ok (.aload_n 1, 1) := by decide +kernel
theorem dX9_copyFrom_54 : decode cX9_copyFrom 54 = .ok (.getfield 21, 3) := by decide +kernel
theorem dX9_copyFrom_57 : decode cX9_copyFrom 57 = .ok (.iconst 0, 1) := by decide +kernel
theorem dX9_copyFrom_58 : decode cX9_copyFrom 58 = .ok (.aload_n 0, 1) := by decide +kernel
theorem dX9_copyFrom_59 : decode cX9_copyFrom 59 = .ok (.getfield 21, 3) := by decide +kernel
theorem dX9_copyFrom_62 : decode cX9_copyFrom 62 = .ok (.iconst 0, 1) := by decide +kernel
theorem dX9_copyFrom_63 : decode cX9_copyFrom 63 = .ok (.bipush 8, 2) := by decide +kernel
theorem dX9_copyFrom_65 : decode cX9_copyFrom 65 = .ok (.invokestatic 55, 3) := by decide +kernel
theorem dX9_copyFrom_68 : decode cX9_copyFrom 68 = .ok (.aload_n 1, 1) := by decide +kernel
theorem dX9_copyFrom_69 : decode cX9_copyFrom 69 = .ok (.getfield 24, 3) := by decide +kernel
theorem dX9_copyFrom_72 : decode cX9_copyFrom 72 = .ok (.iconst 0, 1) := by decide +kernel
theorem dX9_copyFrom_73 : decode cX9_copyFrom 73 = .ok (.aload_n 0, 1) := by decide +kernel
theorem dX9_copyFrom_74 : decode cX9_copyFrom 74 = .ok (.getfield 24, 3) := by decide +kernel
theorem dX9_copyFrom_77 : decode cX9_copyFrom 77 = .ok (.iconst 0, 1) := by decide +kernel
theorem dX9_copyFrom_78 : decode cX9_copyFrom 78 = .ok (.iconst 5, 1) := by decide +kernel
theorem dX9_copyFrom_79 : decode cX9_copyFrom 79 = .ok (.invokestatic 55, 3) := by decide +kernel
theorem dX9_copyFrom_82 : decode cX9_copyFrom 82 = .ok (.aload_n 1, 1) := by decide +kernel
theorem dX9_copyFrom_83 : decode cX9_copyFrom 83 = .ok (.getfield 27, 3) := by decide +kernel
theorem dX9_copyFrom_86 : decode cX9_copyFrom 86 = .ok (.iconst 0, 1) := by decide +kernel
theorem dX9_copyFrom_87 : decode cX9_copyFrom 87 = .ok (.aload_n 0, 1) := by decide +kernel
theorem dX9_copyFrom_88 : decode cX9_copyFrom 88 = .ok (.getfield 27, 3) := by decide +kernel
theorem dX9_copyFrom_91 : decode cX9_copyFrom 91 = .ok (.iconst 0, 1) := by decide +kernel
theorem dX9_copyFrom_92 : decode cX9_copyFrom 92 = .ok (.iconst 5, 1) := by decide +kernel
theorem dX9_copyFrom_93 : decode cX9_copyFrom 93 = .ok (.invokestatic 55, 3) := by decide +kernel
theorem dX9_copyFrom_96 : decode cX9_copyFrom 96 = .ok (.aload_n 0, 1) := by decide +kernel
theorem dX9_copyFrom_97 : decode cX9_copyFrom 97 = .ok (.aload_n 1, 1) := by decide +kernel
theorem dX9_copyFrom_98 : decode cX9_copyFrom 98 = .ok (.getfield 43, 3) := by decide +kernel
theorem dX9_copyFrom_101 : decode cX9_copyFrom 101 = .ok (.putfield 43, 3) := by decide +kernel
theorem dX9_copyFrom_104 : decode cX9_copyFrom 104 = .ok (.aload_n 0, 1) := by decide +kernel
theorem dX9_copyFrom_105 : decode cX9_copyFrom 105 = .ok (.aload_n 1, 1) := by decide +kernel
theorem dX9_copyFrom_106 : decode cX9_copyFrom 106 = .ok (.getfield 46, 3) := by decide +kernel
theorem dX9_copyFrom_109 : decode cX9_copyFrom 109 = .ok (.putfield 46, 3) := by decide +kernel
theorem dX9_copyFrom_112 : decode cX9_copyFrom 112 = .ok (.aload_n 1, 1) := by decide +kernel
theorem dX9_copyFrom_113 : decode cX9_copyFrom 113 = .ok (.getfield 30, 3) := by decide +kernel
theorem dX9_copyFrom_116 : decode cX9_copyFrom 116 = .ok (.iconst 0, 1) := by decide +kernel
theorem dX9_copyFrom_117 : decode cX9_copyFrom 117 = .ok (.aload_n 0, 1) := by decide +kernel
theorem dX9_copyFrom_118 : decode cX9_copyFrom 118 = .ok (.getfield 30, 3) := by decide +kernel
theorem dX9_copyFrom_121 : decode cX9_copyFrom 121 = .ok (.iconst 0, 1) := by decide +kernel
theorem dX9_copyFrom_122 : decode cX9_copyFrom 122 = .ok (.bipush 8, 2) := by decide +kernel
theorem dX9_copyFrom_124 : decode cX9_copyFrom 124 = .ok (.invokestatic 55, 3) := by decide +kernel
theorem dX9_copyFrom_127 : decode cX9_copyFrom 127 = .ok (.aload_n 0, 1) := by decide +kernel
theorem dX9_copyFrom_128 : decode cX9_copyFrom 128 = .ok (.aload_n 1, 1) := by decide +kernel
theorem dX9_copyFrom_129 : decode cX9_copyFrom 129 = .ok (.getfield 49, 3) := by decide +kernel
theorem dX9_copyFrom_132 : decode cX9_copyFrom 132 = .ok (.putfield 49, 3) := by decide +kernel
theorem dX9_copyFrom_135 : decode cX9_copyFrom 135 = .ok (.aload_n 1, 1) := by decide +kernel
theorem dX9_copyFrom_136 : decode cX9_copyFrom 136 = .ok (.getfield 33, 3) := by decide +kernel
theorem dX9_copyFrom_139 : decode cX9_copyFrom 139 = .ok (.iconst 0, 1) := by decide +kernel
theorem dX9_copyFrom_140 : decode cX9_copyFrom 140 = .ok (.aload_n 0, 1) := by decide +kernel
theorem dX9_copyFrom_141 : decode cX9_copyFrom 141 = .ok (.getfield 33, 3) := by decide +kernel
theorem dX9_copyFrom_144 : decode cX9_copyFrom 144 = .ok (.iconst 0, 1) := by decide +kernel
theorem dX9_copyFrom_145 : decode cX9_copyFrom 145 = .ok (.bipush 6, 2) := by decide +kernel
theorem dX9_copyFrom_147 : decode cX9_copyFrom 147 = .ok (.invokestatic 55, 3) := by decide +kernel
theorem dX9_copyFrom_150 : decode cX9_copyFrom 150 = .ok (.aload_n 1, 1) := by decide +kernel
theorem dX9_copyFrom_151 : decode cX9_copyFrom 151 = .ok (.getfield 36, 3) := by decide +kernel
theorem dX9_copyFrom_154 : decode cX9_copyFrom 154 = .ok (.iconst 0, 1) := by decide +kernel
theorem dX9_copyFrom_155 : decode cX9_copyFrom 155 = .ok (.aload_n 0, 1) := by decide +kernel
theorem dX9_copyFrom_156 : decode cX9_copyFrom 156 = .ok (.getfield 36, 3) := by decide +kernel
theorem dX9_copyFrom_159 : decode cX9_copyFrom 159 = .ok (.iconst 0, 1) := by decide +kernel
theorem dX9_copyFrom_160 : decode cX9_copyFrom 160 = .ok (.bipush 6, 2) := by decide +kernel
theorem dX9_copyFrom_162 : decode cX9_copyFrom 162 = .ok (.invokestatic 55, 3) := by decide +kernel
theorem dX9_copyFrom_165 : decode cX9_copyFrom 165 = .ok (.aload_n 0, 1) := by decide +kernel
theorem dX9_copyFrom_166 : decode cX9_copyFrom 166 = .ok (.aload_n 1, 1) := by decide +kernel
theorem dX9_copyFrom_167 : decode cX9_copyFrom 167 = .ok (.getfield 52, 3) := by decide +kernel
theorem dX9_copyFrom_170 : decode cX9_copyFrom 170 = .ok (.putfield 52, 3) := by decide +kernel
theorem dX9_copyFrom_173 : decode cX9_copyFrom 173 = .ok (.return_, 1) := by decide +kernel
theorem dX9_addWord_0 : decode cX9_addWord 0 = .ok (.aload_n 0, 1) := by decide +kernel
theorem dX9_addWord_1 : decode cX9_addWord 1 = .ok (.getfield 39, 3) := by decide +kernel
theorem dX9_addWord_4 : decode cX9_addWord 4 = .ok (.bipush 10, 2) := by decide +kernel
theorem dX9_addWord_6 : decode cX9_addWord 6 = .ok (.if_icmp .lt 6, 3) := by decide +kernel
theorem dX9_addWord_9 : decode cX9_addWord 9 = .ok (.bipush (-4), 2) := by decide +kernel
theorem dX9_addWord_11 : decode cX9_addWord 11 = .ok (.ireturn, 1) := by decide +kernel
theorem dX9_addWord_12 : decode cX9_addWord 12 = .ok (.aload_n 0, 1) := by decide +kernel
theorem dX9_addWord_13 : decode cX9_addWord 13 = .ok (.getfield 9, 3) := by decide +kernel
theorem dX9_addWord_16 : decode cX9_addWord 16 = .ok (.aload_n 0, 1) := by decide +kernel
theorem dX9_addWord_17 : decode cX9_addWord 17 = .ok (.getfield 39, 3) := by decide +kernel
theorem dX9_addWord_20 : decode cX9_addWord 20 = .ok (.iload_n 1, 1) := by decide +kernel
theorem dX9_addWord_21 : decode cX9_addWord 21 = .ok (.iastore, 1) := by decide +kernel
theorem dX9_addWord_22 : decode cX9_addWord 22 = .ok (.aload_n 0, 1) := by decide +kernel
theorem dX9_addWord_23 : decode cX9_addWord 23 = .ok (.getfield 15, 3) := by decide +kernel
theorem dX9_addWord_26 : decode cX9_addWord 26 = .ok (.aload_n 0, 1) := by decide +kernel
theorem dX9_addWord_27 : decode cX9_addWord 27 = .ok (.getfield 39, 3) := by decide +kernel
theorem dX9_addWord_30 : decode cX9_addWord 30 = .ok (.iload_n 2, 1) := by decide +kernel
theorem dX9_addWord_31 : decode cX9_addWord 31 = .ok (.iastore, 1) := by decide +kernel
theorem dX9_addWord_32 : decode cX9_addWord 32 = .ok (.aload_n 0, 1) := by decide +kernel
theorem dX9_addWord_33 : decode cX9_addWord 33 = .ok (.getfield 18, 3) := by decide +kernel
theorem dX9_addWord_36 : decode cX9_addWord 36 = .ok (.aload_n 0, 1) := by decide +kernel
theorem dX9_addWord_37 : decode cX9_addWord 37 = .ok (.getfield 39, 3) := by decide +kernel
theorem dX9_addWord_40 : decode cX9_addWord 40 = .ok (.iload_n 3, 1) := by decide +kernel
theorem dX9_addWord_41 : decode cX9_addWord 41 = .ok (.iastore, 1) := by decide +kernel
theorem dX9_addWord_42 : decode cX9_addWord 42 = .ok (.aload_n 0, 1) := by decide +kernel
theorem dX9_addWord_43 : decode cX9_addWord 43 = .ok (.iconst 0, 1) := by decide +kernel
theorem dX9_addWord_44 : decode cX9_addWord 44 = .ok (.putfield 49, 3) := by decide +kernel
theorem dX9_addWord_47 : decode cX9_addWord 47 = .ok (.aload_n 0, 1) := by decide +kernel
theorem dX9_addWord_48 : decode cX9_addWord 48 = .ok (.dup, 1) := by decide +kernel
theorem dX9_addWord_49 : decode cX9_addWord 49 = .ok (.getfield 39, 3) := by decide +kernel
theorem dX9_addWord_52 : decode cX9_addWord 52 = .ok (.dup_x1, 1) := by decide +kernel
theorem dX9_addWord_53 : decode cX9_addWord 53 = .ok (.iconst 1, 1) := by decide +kernel
theorem dX9_addWord_54 : decode cX9_addWord 54 = .ok (.iadd, 1) := by decide +kernel
theorem dX9_addWord_55 : decode cX9_addWord 55 = .ok (.putfield 39, 3) := by decide +kernel
theorem dX9_addWord_58 : decode cX9_addWord 58 = .ok (.ireturn, 1) := by decide +kernel
theorem dX9_addPerson_0 : decode cX9_addPerson 0 = .ok (.aload_n 0, 1) := by decide +kernel
theorem dX9_addPerson_1 : decode cX9_addPerson 1 = .ok (.getfield 43, 3) := by decide +kernel
theorem dX9_addPerson_4 : decode cX9_addPerson 4 = .ok (.iconst 5, 1) := by decide +kernel
theorem dX9_addPerson_5 : decode cX9_addPerson 5 = .ok (.if_icmp .lt 6, 3) := by decide +kernel
theorem dX9_addPerson_8 : decode cX9_addPerson 8 = .ok (.bipush (-4), 2) := by decide +kernel
theorem dX9_addPerson_10 : decode cX9_addPerson 10 = .ok (.ireturn, 1) := by decide +kernel
theorem dX9_addPerson_11 : decode cX9_addPerson 11 = .ok (.aload_n 0, 1) := by decide +kernel
theorem dX9_addPerson_12 : decode cX9_addPerson 12 = .ok (.getfield 24, 3) := by decide +kernel
theorem dX9_addPerson_15 : decode cX9_addPerson 15 = .ok (.aload_n 0, 1) := by decide +kernel
theorem dX9_addPerson_16 : decode cX9_addPerson 16 = .ok (.getfield 43, 3) := by decide +kernel
theorem dX9_addPerson_19 : decode cX9_addPerson 19 = .ok (.iload_n 1, 1) := by decide +kernel
theorem dX9_addPerson_20 : decode cX9_addPerson 20 = .ok (.iastore, 1) := by decide +kernel
theorem dX9_addPerson_21 : decode cX9_addPerson 21 = .ok (.aload_n 0, 1) := by decide +kernel
theorem dX9_addPerson_22 : decode cX9_addPerson 22 = .ok (.getfield 27, 3) := by decide +kernel
theorem dX9_addPerson_25 : decode cX9_addPerson 25 = .ok (.aload_n 0, 1) := by decide +kernel
theorem dX9_addPerson_26 : decode cX9_addPerson 26 = .ok (.getfield 43, 3) := by decide +kernel
theorem dX9_addPerson_29 : decode cX9_addPerson 29 = .ok (.iload_n 2, 1) := by decide +kernel
theorem dX9_addPerson_30 : decode cX9_addPerson 30 = .ok (.iastore, 1) := by decide +kernel
theorem dX9_addPerson_31 : decode cX9_addPerson 31 = .ok (.aload_n 0, 1) := by decide +kernel
theorem dX9_addPerson_32 : decode cX9_addPerson 32 = .ok (.dup, 1) := by decide +kernel
theorem dX9_addPerson_33 : decode cX9_addPerson 33 = .ok (.getfield 43, 3) := by decide +kernel
theorem dX9_addPerson_36 : decode cX9_addPerson 36 = .ok (.dup_x1, 1) := by decide +kernel
theorem dX9_addPerson_37 : decode cX9_addPerson 37 = .ok (.iconst 1, 1) := by decide +kernel
theorem dX9_addPerson_38 : decode cX9_addPerson 38 = .ok (.iadd, 1) := by decide +kernel
theorem dX9_addPerson_39 : decode cX9_addPerson 39 = .ok (.putfield 43, 3) := by decide +kernel
theorem dX9_addPerson_42 : decode cX9_addPerson 42 = .ok (.ireturn, 1) := by decide +kernel
theorem dX9_addHeard_0 : decode cX9_addHeard 0 = .ok (.aload_n 0, 1) := by decide +kernel
theorem dX9_addHeard_1 : decode cX9_addHeard 1 = .ok (.getfield 52, 3) := by decide +kernel
theorem dX9_addHeard_4 : decode cX9_addHeard 4 = .ok (.bipush 6, 2) := by decide +kernel
theorem dX9_addHeard_6 : decode cX9_addHeard 6 = .ok (.if_icmp .lt 6, 3) := by decide +kernel
theorem dX9_addHeard_9 : decode cX9_addHeard 9 = .ok (.bipush (-4), 2) := by decide +kernel
theorem dX9_addHeard_11 : decode cX9_addHeard 11 = .ok (.ireturn, 1) := by decide +kernel
theorem dX9_addHeard_12 : decode cX9_addHeard 12 = .ok (.aload_n 0, 1) := by decide +kernel
theorem dX9_addHeard_13 : decode cX9_addHeard 13 = .ok (.getfield 33, 3) := by decide +kernel
theorem dX9_addHeard_16 : decode cX9_addHeard 16 = .ok (.aload_n 0, 1) := by decide +kernel
theorem dX9_addHeard_17 : decode cX9_addHeard 17 = .ok (.getfield 52, 3) := by decide +kernel
theorem dX9_addHeard_20 : decode cX9_addHeard 20 = .ok (.iload_n 1, 1) := by decide +kernel
theorem dX9_addHeard_21 : decode cX9_addHeard 21 = .ok (.iastore, 1) := by decide +kernel
theorem dX9_addHeard_22 : decode cX9_addHeard 22 = .ok (.aload_n 0, 1) := by decide +kernel
theorem dX9_addHeard_23 : decode cX9_addHeard 23 = .ok (.getfield 36, 3) := by decide +kernel
theorem dX9_addHeard_26 : decode cX9_addHeard 26 = .ok (.aload_n 0, 1) := by decide +kernel
theorem dX9_addHeard_27 : decode cX9_addHeard 27 = .ok (.getfield 52, 3) := by decide +kernel
theorem dX9_addHeard_30 : decode cX9_addHeard 30 = .ok (.iload_n 2, 1) := by decide +kernel
theorem dX9_addHeard_31 : decode cX9_addHeard 31 = .ok (.iastore, 1) := by decide +kernel
theorem dX9_addHeard_32 : decode cX9_addHeard 32 = .ok (.aload_n 0, 1) := by decide +kernel
theorem dX9_addHeard_33 : decode cX9_addHeard 33 = .ok (.dup, 1) := by decide +kernel
theorem dX9_addHeard_34 : decode cX9_addHeard 34 = .ok (.getfield 52, 3) := by decide +kernel
theorem dX9_addHeard_37 : decode cX9_addHeard 37 = .ok (.iconst 1, 1) := by decide +kernel
theorem dX9_addHeard_38 : decode cX9_addHeard 38 = .ok (.iadd, 1) := by decide +kernel
theorem dX9_addHeard_39 : decode cX9_addHeard 39 = .ok (.dup_x1, 1) := by decide +kernel
theorem dX9_addHeard_40 : decode cX9_addHeard 40 = .ok (.putfield 52, 3) := by decide +kernel
theorem dX9_addHeard_43 : decode cX9_addHeard 43 = .ok (.ireturn, 1) := by decide +kernel
theorem dX9_areAlike_0 : decode cX9_areAlike 0 = .ok (.aload_n 0, 1) := by decide +kernel
theorem dX9_areAlike_1 : decode cX9_areAlike 1 = .ok (.getfield 21, 3) := by decide +kernel
theorem dX9_areAlike_4 : decode cX9_areAlike 4 = .ok (.iload_n 1, 1) := by decide +kernel
theorem dX9_areAlike_5 : decode cX9_areAlike 5 = .ok (.iaload, 1) := by decide +kernel
theorem dX9_areAlike_6 : decode cX9_areAlike 6 = .ok (.iload_n 2, 1) := by decide +kernel
theorem dX9_areAlike_7 : decode cX9_areAlike 7 = .ok (.ishr, 1) := by decide +kernel
theorem dX9_areAlike_8 : decode cX9_areAlike 8 = .ok (.iconst 1, 1) := by decide +kernel
theorem dX9_areAlike_9 : decode cX9_areAlike 9 = .ok (.iand, 1) := by decide +kernel
theorem dX9_areAlike_10 : decode cX9_areAlike 10 = .ok (.iconst 1, 1) := by decide +kernel
theorem dX9_areAlike_11 : decode cX9_areAlike 11 = .ok (.if_icmp .ne 7, 3) := by decide +kernel
theorem dX9_areAlike_14 : decode cX9_areAlike 14 = .ok (.iconst 1, 1) := by decide +kernel
theorem dX9_areAlike_15 : decode cX9_areAlike 15 = .ok (.goto 4, 3) := by decide +kernel
theorem dX9_areAlike_18 : decode cX9_areAlike 18 = .ok (.iconst 0, 1) := by decide +kernel
theorem dX9_areAlike_19 : decode cX9_areAlike 19 = .ok (.ireturn, 1) := by decide +kernel
theorem dX9_setAlike_0 : decode cX9_setAlike 0 = .ok (.iload_n 3, 1) := by decide +kernel
theorem dX9_setAlike_1 : decode cX9_setAlike 1 = .ok (.ifCond .eq 30, 3) := by decide +kernel
theorem dX9_setAlike_4 : decode cX9_setAlike 4 = .ok (.aload_n 0, 1) := by decide +kernel
theorem dX9_setAlike_5 : decode cX9_setAlike 5 = .ok (.getfield 21, 3) := by decide +kernel
theorem dX9_setAlike_8 : decode cX9_setAlike 8 = .ok (.iload_n 1, 1) := by decide +kernel
theorem dX9_setAlike_9 : decode cX9_setAlike 9 = .ok (.dup2, 1) := by decide +kernel
theorem dX9_setAlike_10 : decode cX9_setAlike 10 = .ok (.iaload, 1) := by decide +kernel
theorem dX9_setAlike_11 : decode cX9_setAlike 11 = .ok (.iconst 1, 1) := by decide +kernel
theorem dX9_setAlike_12 : decode cX9_setAlike 12 = .ok (.iload_n 2, 1) := by decide +kernel
theorem dX9_setAlike_13 : decode cX9_setAlike 13 = .ok (.ishl, 1) := by decide +kernel
theorem dX9_setAlike_14 : decode cX9_setAlike 14 = .ok (.ior, 1) := by decide +kernel
theorem dX9_setAlike_15 : decode cX9_setAlike 15 = .ok (.iastore, 1) := by decide +kernel
theorem dX9_setAlike_16 : decode cX9_setAlike 16 = .ok (.aload_n 0, 1) := by decide +kernel
theorem dX9_setAlike_17 : decode cX9_setAlike 17 = .ok (.getfield 21, 3) := by decide +kernel
theorem dX9_setAlike_20 : decode cX9_setAlike 20 = .ok (.iload_n 2, 1) := by decide +kernel
theorem dX9_setAlike_21 : decode cX9_setAlike 21 = .ok (.dup2, 1) := by decide +kernel
theorem dX9_setAlike_22 : decode cX9_setAlike 22 = .ok (.iaload, 1) := by decide +kernel
theorem dX9_setAlike_23 : decode cX9_setAlike 23 = .ok (.iconst 1, 1) := by decide +kernel
theorem dX9_setAlike_24 : decode cX9_setAlike 24 = .ok (.iload_n 1, 1) := by decide +kernel
theorem dX9_setAlike_25 : decode cX9_setAlike 25 = .ok (.ishl, 1) := by decide +kernel
theorem dX9_setAlike_26 : decode cX9_setAlike 26 = .ok (.ior, 1) := by decide +kernel
theorem dX9_setAlike_27 : decode cX9_setAlike 27 = .ok (.iastore, 1) := by decide +kernel
theorem dX9_setAlike_28 : decode cX9_setAlike 28 = .ok (.goto 31, 3) := by decide +kernel
theorem dX9_setAlike_31 : decode cX9_setAlike 31 = .ok (.aload_n 0, 1) := by decide +kernel
theorem dX9_setAlike_32 : decode cX9_setAlike 32 = .ok (.getfield 21, 3) := by decide +kernel
theorem dX9_setAlike_35 : decode cX9_setAlike 35 = .ok (.iload_n 1, 1) := by decide +kernel
theorem dX9_setAlike_36 : decode cX9_setAlike 36 = .ok (.dup2, 1) := by decide +kernel
theorem dX9_setAlike_37 : decode cX9_setAlike 37 = .ok (.iaload, 1) := by decide +kernel
theorem dX9_setAlike_38 : decode cX9_setAlike 38 = .ok (.iconst 1, 1) := by decide +kernel
theorem dX9_setAlike_39 : decode cX9_setAlike 39 = .ok (.iload_n 2, 1) := by decide +kernel
theorem dX9_setAlike_40 : decode cX9_setAlike 40 = .ok (.ishl, 1) := by decide +kernel
theorem dX9_setAlike_41 : decode cX9_setAlike 41 = .ok (.iconst (-1), 1) := by decide +kernel
theorem dX9_setAlike_42 : decode cX9_setAlike 42 = .ok (.ixor, 1) := by decide +kernel
theorem dX9_setAlike_43 : decode cX9_setAlike 43 = .ok (.iand, 1) := by decide +kernel
theorem dX9_setAlike_44 : decode cX9_setAlike 44 = .ok (.iastore, 1) := by decide +kernel
theorem dX9_setAlike_45 : decode cX9_setAlike 45 = .ok (.aload_n 0, 1) := by decide +kernel
theorem dX9_setAlike_46 : decode cX9_setAlike 46 = .ok (.getfield 21, 3) := by decide +kernel
theorem dX9_setAlike_49 : decode cX9_setAlike 49 = .ok (.iload_n 2, 1) := by decide +kernel
theorem dX9_setAlike_50 : decode cX9_setAlike 50 = .ok (.dup2, 1) := by decide +kernel
theorem dX9_setAlike_51 : decode cX9_setAlike 51 = .ok (.iaload, 1) := by decide +kernel
theorem dX9_setAlike_52 : decode cX9_setAlike 52 = .ok (.iconst 1, 1) := by decide +kernel
theorem dX9_setAlike_53 : decode cX9_setAlike 53 = .ok (.iload_n 1, 1) := by decide +kernel
theorem dX9_setAlike_54 : decode cX9_setAlike 54 = .ok (.ishl, 1) := by decide +kernel
theorem dX9_setAlike_55 : decode cX9_setAlike 55 = .ok (.iconst (-1), 1) := by decide +kernel
theorem dX9_setAlike_56 : decode cX9_setAlike 56 = .ok (.ixor, 1) := by decide +kernel
theorem dX9_setAlike_57 : decode cX9_setAlike 57 = .ok (.iand, 1) := by decide +kernel
theorem dX9_setAlike_58 : decode cX9_setAlike 58 = .ok (.iastore, 1) := by decide +kernel
theorem dX9_setAlike_59 : decode cX9_setAlike 59 = .ok (.return_, 1) := by decide +kernel
set_option maxRecDepth 20000 in
theorem ggX9_alikePairs_J6_bitCount_0f7a4 : GoodIn wsX9_alikePairs wsJ6_bitCount_0f7a4 := goodIn_r _ [5, 6, 7, 8] (by decide +kernel) (by decide +kernel)
set_option maxRecDepth 20000 in
theorem gX9_alikePairs_J6_bitCount_0f7a4 : GoodIn wsX9_alikePairs (va_wsS RX9 61 yJ6_bitCount_0f7a4 wsJ6_bitCount_0f7a4) := goodIn_app (goodIn_of _ (by decide +kernel)) ggX9_alikePairs_J6_bitCount_0f7a4
theorem dX9_alikePairs_0 : decode cX9_alikePairs 0 = .ok (.iconst 0, 1) := by decide +kernel
theorem dX9_alikePairs_1 : decode cX9_alikePairs 1 = .ok (.istore_n 1, 1) := by decide +kernel
theorem dX9_alikePairs_2 : decode cX9_alikePairs 2 = .ok (.iconst 0, 1) := by decide +kernel
theorem dX9_alikePairs_3 : decode cX9_alikePairs 3 = .ok (.istore_n 2, 1) := by decide +kernel
theorem dX9_alikePairs_4 : decode cX9_alikePairs 4 = .ok (.iload_n 2, 1) := by decide +kernel
theorem dX9_alikePairs_5 : decode cX9_alikePairs 5 = .ok (.bipush 8, 2) := by decide +kernel
theorem dX9_alikePairs_7 : decode cX9_alikePairs 7 = .ok (.if_icmp .ge 21, 3) := by decide +kernel
theorem dX9_alikePairs_10 : decode cX9_alikePairs 10 = .ok (.iload_n 1, 1) := by decide +kernel
theorem dX9_alikePairs_11 : decode cX9_alikePairs 11 = .ok (.aload_n 0, 1) := by decide +kernel
theorem dX9_alikePairs_12 : decode cX9_alikePairs 12 = .ok (.getfield 21, 3) := by decide +kernel
theorem dX9_alikePairs_15 : decode cX9_alikePairs 15 = .ok (.iload_n 2, 1) := by decide +kernel
theorem dX9_alikePairs_16 : decode cX9_alikePairs 16 = .ok (.iaload, 1) := by decide +kernel
theorem dX9_alikePairs_17 : decode cX9_alikePairs 17 = .ok (.invokestatic 61, 3) := by decide +kernel
theorem dX9_alikePairs_20 : decode cX9_alikePairs 20 = .ok (.iadd, 1) := by decide +kernel
theorem dX9_alikePairs_21 : decode cX9_alikePairs 21 = .ok (.istore_n 1, 1) := by decide +kernel
theorem dX9_alikePairs_22 : decode cX9_alikePairs 22 = .ok (.iinc 2 1, 3) := by decide +kernel
theorem dX9_alikePairs_25 : decode cX9_alikePairs 25 = .ok (.goto (-21), 3) := by decide +kernel
theorem dX9_alikePairs_28 : decode cX9_alikePairs 28 = .ok (.iload_n 1, 1) := by decide +kernel
theorem dX9_alikePairs_29 : decode cX9_alikePairs 29 = .ok (.iconst 2, 1) := by decide +kernel
theorem dX9_alikePairs_30 : decode cX9_alikePairs 30 = .ok (.idiv, 1) := by decide +kernel
theorem dX9_alikePairs_31 : decode cX9_alikePairs 31 = .ok (.ireturn, 1) := by decide +kernel
theorem dX9_say_0 : decode cX9_say 0 = .ok (.aload_n 0, 1) := by decide +kernel
theorem dX9_say_1 : decode cX9_say 1 = .ok (.getfield 49, 3) := by decide +kernel
theorem dX9_say_4 : decode cX9_say 4 = .ok (.bipush 8, 2) := by decide +kernel
theorem dX9_say_6 : decode cX9_say 6 = .ok (.if_icmp .ne 28, 3) := by decide +kernel
theorem dX9_say_9 : decode cX9_say 9 = .ok (.aload_n 0, 1) := by decide +kernel
theorem dX9_say_10 : decode cX9_say 10 = .ok (.getfield 30, 3) := by decide +kernel
theorem dX9_say_13 : decode cX9_say 13 = .ok (.iconst 1, 1) := by decide +kernel
theorem dX9_say_14 : decode cX9_say 14 = .ok (.aload_n 0, 1) := by decide +kernel
theorem dX9_say_15 : decode cX9_say 15 = .ok (.getfield 30, 3) := by decide +kernel
theorem dX9_say_18 : decode cX9_say 18 = .ok (.iconst 0, 1) := by decide +kernel
theorem dX9_say_19 : decode cX9_say 19 = .ok (.bipush 7, 2) := by decide +kernel
theorem dX9_say_21 : decode cX9_say 21 = .ok (.invokestatic 55, 3) := by decide +kernel
theorem dX9_say_24 : decode cX9_say 24 = .ok (.aload_n 0, 1) := by decide +kernel
theorem dX9_say_25 : decode cX9_say 25 = .ok (.dup, 1) := by decide +kernel
theorem dX9_say_26 : decode cX9_say 26 = .ok (.getfield 49, 3) := by decide +kernel
theorem dX9_say_29 : decode cX9_say 29 = .ok (.iconst 1, 1) := by decide +kernel
theorem dX9_say_30 : decode cX9_say 30 = .ok (.isub, 1) := by decide +kernel
theorem dX9_say_31 : decode cX9_say 31 = .ok (.putfield 49, 3) := by decide +kernel
theorem dX9_say_34 : decode cX9_say 34 = .ok (.aload_n 0, 1) := by decide +kernel
theorem dX9_say_35 : decode cX9_say 35 = .ok (.getfield 30, 3) := by decide +kernel
theorem dX9_say_38 : decode cX9_say 38 = .ok (.aload_n 0, 1) := by decide +kernel
theorem dX9_say_39 : decode cX9_say 39 = .ok (.getfield 49, 3) := by decide +kernel
theorem dX9_say_42 : decode cX9_say 42 = .ok (.aload_n 0, 1) := by decide +kernel
theorem dX9_say_43 : decode cX9_say 43 = .ok (.getfield 46, 3) := by decide +kernel
theorem dX9_say_46 : decode cX9_say 46 = .ok (.iastore, 1) := by decide +kernel
theorem dX9_say_47 : decode cX9_say 47 = .ok (.aload_n 0, 1) := by decide +kernel
theorem dX9_say_48 : decode cX9_say 48 = .ok (.dup, 1) := by decide +kernel
theorem dX9_say_49 : decode cX9_say 49 = .ok (.getfield 49, 3) := by decide +kernel
theorem dX9_say_52 : decode cX9_say 52 = .ok (.iconst 1, 1) := by decide +kernel
theorem dX9_say_53 : decode cX9_say 53 = .ok (.iadd, 1) := by decide +kernel
theorem dX9_say_54 : decode cX9_say 54 = .ok (.putfield 49, 3) := by decide +kernel
theorem dX9_say_57 : decode cX9_say 57 = .ok (.aload_n 0, 1) := by decide +kernel
theorem dX9_say_58 : decode cX9_say 58 = .ok (.dup, 1) := by decide +kernel
theorem dX9_say_59 : decode cX9_say 59 = .ok (.getfield 46, 3) := by decide +kernel
theorem dX9_say_62 : decode cX9_say 62 = .ok (.iconst 1, 1) := by decide +kernel
theorem dX9_say_63 : decode cX9_say 63 = .ok (.iload_n 1, 1) := by decide +kernel
theorem dX9_say_64 : decode cX9_say 64 = .ok (.ishl, 1) := by decide +kernel
theorem dX9_say_65 : decode cX9_say 65 = .ok (.ior, 1) := by decide +kernel
theorem dX9_say_66 : decode cX9_say 66 = .ok (.putfield 46, 3) := by decide +kernel
theorem dX9_say_69 : decode cX9_say 69 = .ok (.return_, 1) := by decide +kernel
theorem dX9_takeBack_0 : decode cX9_takeBack 0 = .ok (.aload_n 0, 1) := by decide +kernel
theorem dX9_takeBack_1 : decode cX9_takeBack 1 = .ok (.getfield 49, 3) := by decide +kernel
theorem dX9_takeBack_4 : decode cX9_takeBack 4 = .ok (.ifCond .le 26, 3) := by decide +kernel
theorem dX9_takeBack_7 : decode cX9_takeBack 7 = .ok (.aload_n 0, 1) := by decide +kernel
theorem dX9_takeBack_8 : decode cX9_takeBack 8 = .ok (.dup, 1) := by decide +kernel
theorem dX9_takeBack_9 : decode cX9_takeBack 9 = .ok (.getfield 49, 3) := by decide +kernel
theorem dX9_takeBack_12 : decode cX9_takeBack 12 = .ok (.iconst 1, 1) := by decide +kernel
theorem dX9_takeBack_13 : decode cX9_takeBack 13 = .ok (.isub, 1) := by decide +kernel
theorem dX9_takeBack_14 : decode cX9_takeBack 14 = .ok (.putfield 49, 3) := by decide +kernel
theorem dX9_takeBack_17 : decode cX9_takeBack 17 = .ok (.aload_n 0, 1) := by decide +kernel
theorem dX9_takeBack_18 : decode cX9_takeBack 18 = .ok (.aload_n 0, 1) := by decide +kernel
theorem dX9_takeBack_19 : decode cX9_takeBack 19 = .ok (.getfield 30, 3) := by decide +kernel
theorem dX9_takeBack_22 : decode cX9_takeBack 22 = .ok (.aload_n 0, 1) := by decide +kernel
theorem dX9_takeBack_23 : decode cX9_takeBack 23 = .ok (.getfield 49, 3) := by decide +kernel
theorem dX9_takeBack_26 : decode cX9_takeBack 26 = .ok (.iaload, 1) := by decide +kernel
theorem dX9_takeBack_27 : decode cX9_takeBack 27 = .ok (.putfield 46, 3) := by decide +kernel
theorem dX9_takeBack_30 : decode cX9_takeBack 30 = .ok (.return_, 1) := by decide +kernel
theorem dX9_wordsEnding_0 : decode cX9_wordsEnding 0 = .ok (.iconst 0, 1) := by decide +kernel
theorem dX9_wordsEnding_1 : decode cX9_wordsEnding 1 = .ok (.istore_n 2, 1) := by decide +kernel
theorem dX9_wordsEnding_2 : decode cX9_wordsEnding 2 = .ok (.iconst 0, 1) := by decide +kernel
theorem dX9_wordsEnding_3 : decode cX9_wordsEnding 3 = .ok (.istore_n 3, 1) := by decide +kernel
theorem dX9_wordsEnding_4 : decode cX9_wordsEnding 4 = .ok (.iload_n 3, 1) := by decide +kernel
theorem dX9_wordsEnding_5 : decode cX9_wordsEnding 5 = .ok (.aload_n 0, 1) := by decide +kernel
theorem dX9_wordsEnding_6 : decode cX9_wordsEnding 6 = .ok (.getfield 39, 3) := by decide +kernel
theorem dX9_wordsEnding_9 : decode cX9_wordsEnding 9 = .ok (.if_icmp .ge 24, 3) := by decide +kernel
theorem dX9_wordsEnding_12 : decode cX9_wordsEnding 12 = .ok (.iload_n 2, 1) := by decide +kernel
theorem dX9_wordsEnding_13 : decode cX9_wordsEnding 13 = .ok (.iload_n 1, 1) := by decide +kernel
theorem dX9_wordsEnding_14 : decode cX9_wordsEnding 14 = .ok (.aload_n 0, 1) := by decide +kernel
theorem dX9_wordsEnding_15 : decode cX9_wordsEnding 15 = .ok (.getfield 9, 3) := by decide +kernel
theorem dX9_wordsEnding_18 : decode cX9_wordsEnding 18 = .ok (.iload_n 3, 1) := by decide +kernel
theorem dX9_wordsEnding_19 : decode cX9_wordsEnding 19 = .ok (.iaload, 1) := by decide +kernel
theorem dX9_wordsEnding_20 : decode cX9_wordsEnding 20 = .ok (.ishr, 1) := by decide +kernel
theorem dX9_wordsEnding_21 : decode cX9_wordsEnding 21 = .ok (.iconst 1, 1) := by decide +kernel
theorem dX9_wordsEnding_22 : decode cX9_wordsEnding 22 = .ok (.iand, 1) := by decide +kernel
theorem dX9_wordsEnding_23 : decode cX9_wordsEnding 23 = .ok (.iload_n 3, 1) := by decide +kernel
theorem dX9_wordsEnding_24 : decode cX9_wordsEnding 24 = .ok (.ishl, 1) := by decide +kernel
theorem dX9_wordsEnding_25 : decode cX9_wordsEnding 25 = .ok (.ior, 1) := by decide +kernel
theorem dX9_wordsEnding_26 : decode cX9_wordsEnding 26 = .ok (.istore_n 2, 1) := by decide +kernel
theorem dX9_wordsEnding_27 : decode cX9_wordsEnding 27 = .ok (.iinc 3 1, 3) := by decide +kernel
theorem dX9_wordsEnding_30 : decode cX9_wordsEnding 30 = .ok (.goto (-26), 3) := by decide +kernel
theorem dX9_wordsEnding_33 : decode cX9_wordsEnding 33 = .ok (.iload_n 2, 1) := by decide +kernel
theorem dX9_wordsEnding_34 : decode cX9_wordsEnding 34 = .ok (.ireturn, 1) := by decide +kernel
theorem dX9_wordsMeaning_0 : decode cX9_wordsMeaning 0 = .ok (.iconst 0, 1) := by decide +kernel
theorem dX9_wordsMeaning_1 : decode cX9_wordsMeaning 1 = .ok (.istore_n 2, 1) := by decide +kernel
theorem dX9_wordsMeaning_2 : decode cX9_wordsMeaning 2 = .ok (.iconst 0, 1) := by decide +kernel
theorem dX9_wordsMeaning_3 : decode cX9_wordsMeaning 3 = .ok (.istore_n 3, 1) := by decide +kernel
theorem dX9_wordsMeaning_4 : decode cX9_wordsMeaning 4 = .ok (.iload_n 3, 1) := by decide +kernel
theorem dX9_wordsMeaning_5 : decode cX9_wordsMeaning 5 = .ok (.aload_n 0, 1) := by decide +kernel
theorem dX9_wordsMeaning_6 : decode cX9_wordsMeaning 6 = .ok (.getfield 39, 3) := by decide +kernel
theorem dX9_wordsMeaning_9 : decode cX9_wordsMeaning 9 = .ok (.if_icmp .ge 25, 3) := by decide +kernel
theorem dX9_wordsMeaning_12 : decode cX9_wordsMeaning 12 = .ok (.aload_n 0, 1) := by decide +kernel
theorem dX9_wordsMeaning_13 : decode cX9_wordsMeaning 13 = .ok (.getfield 15, 3) := by decide +kernel
theorem dX9_wordsMeaning_16 : decode cX9_wordsMeaning 16 = .ok (.iload_n 3, 1) := by decide +kernel
theorem dX9_wordsMeaning_17 : decode cX9_wordsMeaning 17 = .ok (.iaload, 1) := by decide +kernel
theorem dX9_wordsMeaning_18 : decode cX9_wordsMeaning 18 = .ok (.iload_n 1, 1) := by decide +kernel
theorem dX9_wordsMeaning_19 : decode cX9_wordsMeaning 19 = .ok (.if_icmp .ne 9, 3) := by decide +kernel
theorem dX9_wordsMeaning_22 : decode cX9_wordsMeaning 22 = .ok (.iload_n 2, 1) := by decide +kernel
theorem dX9_wordsMeaning_23 : decode cX9_wordsMeaning 23 = .ok (.iconst 1, 1) := by decide +kernel
theorem dX9_wordsMeaning_24 : decode cX9_wordsMeaning 24 = .ok (.iload_n 3, 1) := by decide +kernel
theorem dX9_wordsMeaning_25 : decode cX9_wordsMeaning 25 = .ok (.ishl, 1) := by decide +kernel
theorem dX9_wordsMeaning_26 : decode cX9_wordsMeaning 26 = .ok (.ior, 1) := by decide +kernel
theorem dX9_wordsMeaning_27 : decode cX9_wordsMeaning 27 = .ok (.istore_n 2, 1) := by decide +kernel
theorem dX9_wordsMeaning_28 : decode cX9_wordsMeaning 28 = .ok (.iinc 3 1, 3) := by decide +kernel
theorem dX9_wordsMeaning_31 : decode cX9_wordsMeaning 31 = .ok (.goto (-27), 3) := by decide +kernel
theorem dX9_wordsMeaning_34 : decode cX9_wordsMeaning 34 = .ok (.iload_n 2, 1) := by decide +kernel
theorem dX9_wordsMeaning_35 : decode cX9_wordsMeaning 35 = .ok (.ireturn, 1) := by decide +kernel
theorem dX9_meaningsOf_0 : decode cX9_meaningsOf 0 = .ok (.iconst 0, 1) := by decide +kernel
theorem dX9_meaningsOf_1 : decode cX9_meaningsOf 1 = .ok (.istore_n 2, 1) := by decide +kernel
theorem dX9_meaningsOf_2 : decode cX9_meaningsOf 2 = .ok (.iconst 0, 1) := by decide +kernel
theorem dX9_meaningsOf_3 : decode cX9_meaningsOf 3 = .ok (.istore_n 3, 1) := by decide +kernel
theorem dX9_meaningsOf_4 : decode cX9_meaningsOf 4 = .ok (.iload_n 3, 1) := by decide +kernel
theorem dX9_meaningsOf_5 : decode cX9_meaningsOf 5 = .ok (.aload_n 0, 1) := by decide +kernel
theorem dX9_meaningsOf_6 : decode cX9_meaningsOf 6 = .ok (.getfield 39, 3) := by decide +kernel
theorem dX9_meaningsOf_9 : decode cX9_meaningsOf 9 = .ok (.if_icmp .ge 29, 3) := by decide +kernel
theorem dX9_meaningsOf_12 : decode cX9_meaningsOf 12 = .ok (.iload_n 1, 1) := by decide +kernel
theorem dX9_meaningsOf_13 : decode cX9_meaningsOf 13 = .ok (.iload_n 3, 1) := by decide +kernel
theorem dX9_meaningsOf_14 : decode cX9_meaningsOf 14 = .ok (.ishr, 1) := by decide +kernel
theorem dX9_meaningsOf_15 : decode cX9_meaningsOf 15 = .ok (.iconst 1, 1) := by decide +kernel
theorem dX9_meaningsOf_16 : decode cX9_meaningsOf 16 = .ok (.iand, 1) := by decide +kernel
theorem dX9_meaningsOf_17 : decode cX9_meaningsOf 17 = .ok (.iconst 1, 1) := by decide +kernel
theorem dX9_meaningsOf_18 : decode cX9_meaningsOf 18 = .ok (.if_icmp .ne 14, 3) := by decide +kernel
theorem dX9_meaningsOf_21 : decode cX9_meaningsOf 21 = .ok (.iload_n 2, 1) := by decide +kernel
theorem dX9_meaningsOf_22 : decode cX9_meaningsOf 22 = .ok (.iconst 1, 1) := by decide +kernel
theorem dX9_meaningsOf_23 : decode cX9_meaningsOf 23 = .ok (.aload_n 0, 1) := by decide +kernel
theorem dX9_meaningsOf_24 : decode cX9_meaningsOf 24 = .ok (.getfield 15, 3) := by decide +kernel
theorem dX9_meaningsOf_27 : decode cX9_meaningsOf 27 = .ok (.iload_n 3, 1) := by decide +kernel
theorem dX9_meaningsOf_28 : decode cX9_meaningsOf 28 = .ok (.iaload, 1) := by decide +kernel
theorem dX9_meaningsOf_29 : decode cX9_meaningsOf 29 = .ok (.ishl, 1) := by decide +kernel
theorem dX9_meaningsOf_30 : decode cX9_meaningsOf 30 = .ok (.ior, 1) := by decide +kernel
theorem dX9_meaningsOf_31 : decode cX9_meaningsOf 31 = .ok (.istore_n 2, 1) := by decide +kernel
theorem dX9_meaningsOf_32 : decode cX9_meaningsOf 32 = .ok (.iinc 3 1, 3) := by decide +kernel
theorem dX9_meaningsOf_35 : decode cX9_meaningsOf 35 = .ok (.goto (-31), 3) := by decide +kernel
theorem dX9_meaningsOf_38 : decode cX9_meaningsOf 38 = .ok (.iload_n 2, 1) := by decide +kernel
theorem dX9_meaningsOf_39 : decode cX9_meaningsOf 39 = .ok (.ireturn, 1) := by decide +kernel
theorem dX9_costOf_0 : decode cX9_costOf 0 = .ok (.iconst 0, 1) := by decide +kernel
theorem dX9_costOf_1 : decode cX9_costOf 1 = .ok (.istore_n 2, 1) := by decide +kernel
theorem dX9_costOf_2 : decode cX9_costOf 2 = .ok (.iconst 0, 1) := by decide +kernel
theorem dX9_costOf_3 : decode cX9_costOf 3 = .ok (.istore_n 3, 1) := by decide +kernel
theorem dX9_costOf_4 : decode cX9_costOf 4 = .ok (.iload_n 3, 1) := by decide +kernel
theorem dX9_costOf_5 : decode cX9_costOf 5 = .ok (.aload_n 0, 1) := by decide +kernel
theorem dX9_costOf_6 : decode cX9_costOf 6 = .ok (.getfield 39, 3) := by decide +kernel
theorem dX9_costOf_9 : decode cX9_costOf 9 = .ok (.if_icmp .ge 27, 3) := by decide +kernel
theorem dX9_costOf_12 : decode cX9_costOf 12 = .ok (.iload_n 1, 1) := by decide +kernel
theorem dX9_costOf_13 : decode cX9_costOf 13 = .ok (.iload_n 3, 1) := by decide +kernel
theorem dX9_costOf_14 : decode cX9_costOf 14 = .ok (.ishr, 1) := by decide +kernel
theorem dX9_costOf_15 : decode cX9_costOf 15 = .ok (.iconst 1, 1) := by decide +kernel
theorem dX9_costOf_16 : decode cX9_costOf 16 = .ok (.iand, 1) := by decide +kernel
theorem dX9_costOf_17 : decode cX9_costOf 17 = .ok (.iconst 1, 1) := by decide +kernel
theorem dX9_costOf_18 : decode cX9_costOf 18 = .ok (.if_icmp .ne 12, 3) := by decide +kernel
theorem dX9_costOf_21 : decode cX9_costOf 21 = .ok (.iload_n 2, 1) := by decide +kernel
theorem dX9_costOf_22 : decode cX9_costOf 22 = .ok (.aload_n 0, 1) := by decide +kernel
theorem dX9_costOf_23 : decode cX9_costOf 23 = .ok (.getfield 18, 3) := by decide +kernel
theorem dX9_costOf_26 : decode cX9_costOf 26 = .ok (.iload_n 3, 1) := by decide +kernel
theorem dX9_costOf_27 : decode cX9_costOf 27 = .ok (.iaload, 1) := by decide +kernel
theorem dX9_costOf_28 : decode cX9_costOf 28 = .ok (.iadd, 1) := by decide +kernel
theorem dX9_costOf_29 : decode cX9_costOf 29 = .ok (.istore_n 2, 1) := by decide +kernel
theorem dX9_costOf_30 : decode cX9_costOf 30 = .ok (.iinc 3 1, 3) := by decide +kernel
theorem dX9_costOf_33 : decode cX9_costOf 33 = .ok (.goto (-29), 3) := by decide +kernel
theorem dX9_costOf_36 : decode cX9_costOf 36 = .ok (.iload_n 2, 1) := by decide +kernel
theorem dX9_costOf_37 : decode cX9_costOf 37 = .ok (.ireturn, 1) := by decide +kernel
theorem dX9_firstOf_0 : decode cX9_firstOf 0 = .ok (.iconst (-1), 1) := by decide +kernel
theorem dX9_firstOf_1 : decode cX9_firstOf 1 = .ok (.istore_n 3, 1) := by decide +kernel
theorem dX9_firstOf_2 : decode cX9_firstOf 2 = .ok (.iconst 0, 1) := by decide +kernel
theorem dX9_firstOf_3 : decode cX9_firstOf 3 = .ok (.istore 4, 2) := by decide +kernel
theorem dX9_firstOf_5 : decode cX9_firstOf 5 = .ok (.iload 4, 2) := by decide +kernel
theorem dX9_firstOf_7 : decode cX9_firstOf 7 = .ok (.aload_n 0, 1) := by decide +kernel
theorem dX9_firstOf_8 : decode cX9_firstOf 8 = .ok (.getfield 39, 3) := by decide +kernel
theorem dX9_firstOf_11 : decode cX9_firstOf 11 = .ok (.if_icmp .ge 41, 3) := by decide +kernel
theorem dX9_firstOf_14 : decode cX9_firstOf 14 = .ok (.iload_n 1, 1) := by decide +kernel
theorem dX9_firstOf_15 : decode cX9_firstOf 15 = .ok (.iload 4, 2) := by decide +kernel
theorem dX9_firstOf_17 : decode cX9_firstOf 17 = .ok (.ishr, 1) := by decide +kernel
