theorem wd_1232 : (Cond.methodLink RX12 (14 : Nat) objectInit) ∈ TB := tw 1232 (by decide +kernel) (by decide +kernel)
theorem wd_1390 : (Jvm.Cond.arrayClass Jvm.ClassFile.FieldType.boolean) ∈ TB := tw 1390 (by decide +kernel) (by decide +kernel)
theorem wd_784 : (Jvm.Cond.arrayClass Jvm.ClassFile.FieldType.byte) ∈ TB := tw 784 (by decide +kernel) (by decide +kernel)
theorem dX12_init_0g : (decode cX12_init 0 = .ok (.aload_n 0, 1)) ∧ (decode cX12_init 1 = .ok (.invokespecial 14, 3)) ∧ (decode cX12_init 4 = .ok (.aload_n 0, 1)) ∧ (decode cX12_init 5 = .ok (.bipush 7, 2)) ∧ (decode cX12_init 7 = .ok (.newarray .int, 2)) ∧ (decode cX12_init 9 = .ok (.putfield 7, 3)) ∧ (decode cX12_init 12 = .ok (.aload_n 0, 1)) ∧ (decode cX12_init 13 = .ok (.sipush 5123, 3)) ∧ (decode cX12_init 16 = .ok (.newarray .int, 2)) ∧ (decode cX12_init 18 = .ok (.putfield 20, 3)) := by decide +kernel
theorem dX12_init_0 : decode cX12_init 0 = .ok (.aload_n 0, 1) := dX12_init_0g.1
theorem dX12_init_1 : decode cX12_init 1 = .ok (.invokespecial 14, 3) := dX12_init_0g.2.1
theorem dX12_init_4 : decode cX12_init 4 = .ok (.aload_n 0, 1) := dX12_init_0g.2.2.1
theorem dX12_init_5 : decode cX12_init 5 = .ok (.bipush 7, 2) := dX12_init_0g.2.2.2.1
theorem dX12_init_7 : decode cX12_init 7 = .ok (.newarray .int, 2) := dX12_init_0g.2.2.2.2.1
theorem dX12_init_9 : decode cX12_init 9 = .ok (.putfield 7, 3) := dX12_init_0g.2.2.2.2.2.1
theorem dX12_init_12 : decode cX12_init 12 = .ok (.aload_n 0, 1) := dX12_init_0g.2.2.2.2.2.2.1
theorem dX12_init_13 : decode cX12_init 13 = .ok (.sipush 5123, 3) := dX12_init_0g.2.2.2.2.2.2.2.1
theorem dX12_init_16 : decode cX12_init 16 = .ok (.newarray .int, 2) := dX12_init_0g.2.2.2.2.2.2.2.2.1
theorem dX12_init_18 : decode cX12_init 18 = .ok (.putfield 20, 3) := dX12_init_0g.2.2.2.2.2.2.2.2.2
theorem dX12_init_21g : (decode cX12_init 21 = .ok (.aload_n 0, 1)) ∧ (decode cX12_init 22 = .ok (.sipush 10246, 3)) ∧ (decode cX12_init 25 = .ok (.newarray .int, 2)) ∧ (decode cX12_init 27 = .ok (.putfield 23, 3)) ∧ (decode cX12_init 30 = .ok (.aload_n 0, 1)) ∧ (decode cX12_init 31 = .ok (.iconst 2, 1)) ∧ (decode cX12_init 32 = .ok (.newarray .boolean, 2)) ∧ (decode cX12_init 34 = .ok (.putfield 26, 3)) ∧ (decode cX12_init 37 = .ok (.aload_n 0, 1)) ∧ (decode cX12_init 38 = .ok (.bipush 89, 2)) := by decide +kernel
theorem dX12_init_21 : decode cX12_init 21 = .ok (.aload_n 0, 1) := dX12_init_21g.1
theorem dX12_init_22 : decode cX12_init 22 = .ok (.sipush 10246, 3) := dX12_init_21g.2.1
theorem dX12_init_25 : decode cX12_init 25 = .ok (.newarray .int, 2) := dX12_init_21g.2.2.1
theorem dX12_init_27 : decode cX12_init 27 = .ok (.putfield 23, 3) := dX12_init_21g.2.2.2.1
theorem dX12_init_30 : decode cX12_init 30 = .ok (.aload_n 0, 1) := dX12_init_21g.2.2.2.2.1
theorem dX12_init_31 : decode cX12_init 31 = .ok (.iconst 2, 1) := dX12_init_21g.2.2.2.2.2.1
theorem dX12_init_32 : decode cX12_init 32 = .ok (.newarray .boolean, 2) := dX12_init_21g.2.2.2.2.2.2.1
theorem dX12_init_34 : decode cX12_init 34 = .ok (.putfield 26, 3) := dX12_init_21g.2.2.2.2.2.2.2.1
theorem dX12_init_37 : decode cX12_init 37 = .ok (.aload_n 0, 1) := dX12_init_21g.2.2.2.2.2.2.2.2.1
theorem dX12_init_38 : decode cX12_init 38 = .ok (.bipush 89, 2) := dX12_init_21g.2.2.2.2.2.2.2.2.2
theorem dX12_init_40g : (decode cX12_init 40 = .ok (.newarray .byte, 2)) ∧ (decode cX12_init 42 = .ok (.dup, 1)) ∧ (decode cX12_init 43 = .ok (.iconst 0, 1)) ∧ (decode cX12_init 44 = .ok (.bipush 102, 2)) ∧ (decode cX12_init 46 = .ok (.bastore, 1)) ∧ (decode cX12_init 47 = .ok (.dup, 1)) ∧ (decode cX12_init 48 = .ok (.iconst 1, 1)) ∧ (decode cX12_init 49 = .ok (.bipush 108, 2)) ∧ (decode cX12_init 51 = .ok (.bastore, 1)) ∧ (decode cX12_init 52 = .ok (.dup, 1)) := by decide +kernel
theorem dX12_init_40 : decode cX12_init 40 = .ok (.newarray .byte, 2) := dX12_init_40g.1
theorem dX12_init_42 : decode cX12_init 42 = .ok (.dup, 1) := dX12_init_40g.2.1
theorem dX12_init_43 : decode cX12_init 43 = .ok (.iconst 0, 1) := dX12_init_40g.2.2.1
theorem dX12_init_44 : decode cX12_init 44 = .ok (.bipush 102, 2) := dX12_init_40g.2.2.2.1
theorem dX12_init_46 : decode cX12_init 46 = .ok (.bastore, 1) := dX12_init_40g.2.2.2.2.1
theorem dX12_init_47 : decode cX12_init 47 = .ok (.dup, 1) := dX12_init_40g.2.2.2.2.2.1
theorem dX12_init_48 : decode cX12_init 48 = .ok (.iconst 1, 1) := dX12_init_40g.2.2.2.2.2.2.1
theorem dX12_init_49 : decode cX12_init 49 = .ok (.bipush 108, 2) := dX12_init_40g.2.2.2.2.2.2.2.1
theorem dX12_init_51 : decode cX12_init 51 = .ok (.bastore, 1) := dX12_init_40g.2.2.2.2.2.2.2.2.1
theorem dX12_init_52 : decode cX12_init 52 = .ok (.dup, 1) := dX12_init_40g.2.2.2.2.2.2.2.2.2
theorem dX12_init_53g : (decode cX12_init 53 = .ok (.iconst 2, 1)) ∧ (decode cX12_init 54 = .ok (.bipush 111, 2)) ∧ (decode cX12_init 56 = .ok (.bastore, 1)) ∧ (decode cX12_init 57 = .ok (.dup, 1)) ∧ (decode cX12_init 58 = .ok (.iconst 3, 1)) ∧ (decode cX12_init 59 = .ok (.bipush 119, 2)) ∧ (decode cX12_init 61 = .ok (.bastore, 1)) ∧ (decode cX12_init 62 = .ok (.dup, 1)) ∧ (decode cX12_init 63 = .ok (.iconst 4, 1)) ∧ (decode cX12_init 64 = .ok (.bipush 115, 2)) := by decide +kernel
theorem dX12_init_53 : decode cX12_init 53 = .ok (.iconst 2, 1) := dX12_init_53g.1
theorem dX12_init_54 : decode cX12_init 54 = .ok (.bipush 111, 2) := dX12_init_53g.2.1
theorem dX12_init_56 : decode cX12_init 56 = .ok (.bastore, 1) := dX12_init_53g.2.2.1
theorem dX12_init_57 : decode cX12_init 57 = .ok (.dup, 1) := dX12_init_53g.2.2.2.1
theorem dX12_init_58 : decode cX12_init 58 = .ok (.iconst 3, 1) := dX12_init_53g.2.2.2.2.1
theorem dX12_init_59 : decode cX12_init 59 = .ok (.bipush 119, 2) := dX12_init_53g.2.2.2.2.2.1
theorem dX12_init_61 : decode cX12_init 61 = .ok (.bastore, 1) := dX12_init_53g.2.2.2.2.2.2.1
theorem dX12_init_62 : decode cX12_init 62 = .ok (.dup, 1) := dX12_init_53g.2.2.2.2.2.2.2.1
theorem dX12_init_63 : decode cX12_init 63 = .ok (.iconst 4, 1) := dX12_init_53g.2.2.2.2.2.2.2.2.1
theorem dX12_init_64 : decode cX12_init 64 = .ok (.bipush 115, 2) := dX12_init_53g.2.2.2.2.2.2.2.2.2
theorem dX12_init_66g : (decode cX12_init 66 = .ok (.bastore, 1)) ∧ (decode cX12_init 67 = .ok (.dup, 1)) ∧ (decode cX12_init 68 = .ok (.iconst 5, 1)) ∧ (decode cX12_init 69 = .ok (.bipush 32, 2)) ∧ (decode cX12_init 71 = .ok (.bastore, 1)) ∧ (decode cX12_init 72 = .ok (.dup, 1)) ∧ (decode cX12_init 73 = .ok (.bipush 6, 2)) ∧ (decode cX12_init 75 = .ok (.bipush 99, 2)) ∧ (decode cX12_init 77 = .ok (.bastore, 1)) ∧ (decode cX12_init 78 = .ok (.dup, 1)) := by decide +kernel
theorem dX12_init_66 : decode cX12_init 66 = .ok (.bastore, 1) := dX12_init_66g.1
theorem dX12_init_67 : decode cX12_init 67 = .ok (.dup, 1) := dX12_init_66g.2.1
theorem dX12_init_68 : decode cX12_init 68 = .ok (.iconst 5, 1) := dX12_init_66g.2.2.1
theorem dX12_init_69 : decode cX12_init 69 = .ok (.bipush 32, 2) := dX12_init_66g.2.2.2.1
theorem dX12_init_71 : decode cX12_init 71 = .ok (.bastore, 1) := dX12_init_66g.2.2.2.2.1
theorem dX12_init_72 : decode cX12_init 72 = .ok (.dup, 1) := dX12_init_66g.2.2.2.2.2.1
theorem dX12_init_73 : decode cX12_init 73 = .ok (.bipush 6, 2) := dX12_init_66g.2.2.2.2.2.2.1
theorem dX12_init_75 : decode cX12_init 75 = .ok (.bipush 99, 2) := dX12_init_66g.2.2.2.2.2.2.2.1
theorem dX12_init_77 : decode cX12_init 77 = .ok (.bastore, 1) := dX12_init_66g.2.2.2.2.2.2.2.2.1
theorem dX12_init_78 : decode cX12_init 78 = .ok (.dup, 1) := dX12_init_66g.2.2.2.2.2.2.2.2.2
theorem dX12_init_79g : (decode cX12_init 79 = .ok (.bipush 7, 2)) ∧ (decode cX12_init 81 = .ok (.bipush 111, 2)) ∧ (decode cX12_init 83 = .ok (.bastore, 1)) ∧ (decode cX12_init 84 = .ok (.dup, 1)) ∧ (decode cX12_init 85 = .ok (.bipush 8, 2)) ∧ (decode cX12_init 87 = .ok (.bipush 115, 2)) ∧ (decode cX12_init 89 = .ok (.bastore, 1)) ∧ (decode cX12_init 90 = .ok (.dup, 1)) ∧ (decode cX12_init 91 = .ok (.bipush 9, 2)) ∧ (decode cX12_init 93 = .ok (.bipush 116, 2)) := by decide +kernel
theorem dX12_init_79 : decode cX12_init 79 = .ok (.bipush 7, 2) := dX12_init_79g.1
theorem dX12_init_81 : decode cX12_init 81 = .ok (.bipush 111, 2) := dX12_init_79g.2.1
theorem dX12_init_83 : decode cX12_init 83 = .ok (.bastore, 1) := dX12_init_79g.2.2.1
theorem dX12_init_84 : decode cX12_init 84 = .ok (.dup, 1) := dX12_init_79g.2.2.2.1
theorem dX12_init_85 : decode cX12_init 85 = .ok (.bipush 8, 2) := dX12_init_79g.2.2.2.2.1
theorem dX12_init_87 : decode cX12_init 87 = .ok (.bipush 115, 2) := dX12_init_79g.2.2.2.2.2.1
theorem dX12_init_89 : decode cX12_init 89 = .ok (.bastore, 1) := dX12_init_79g.2.2.2.2.2.2.1
theorem dX12_init_90 : decode cX12_init 90 = .ok (.dup, 1) := dX12_init_79g.2.2.2.2.2.2.2.1
theorem dX12_init_91 : decode cX12_init 91 = .ok (.bipush 9, 2) := dX12_init_79g.2.2.2.2.2.2.2.2.1
theorem dX12_init_93 : decode cX12_init 93 = .ok (.bipush 116, 2) := dX12_init_79g.2.2.2.2.2.2.2.2.2
theorem dX12_init_95g : (decode cX12_init 95 = .ok (.bastore, 1)) ∧ (decode cX12_init 96 = .ok (.dup, 1)) ∧ (decode cX12_init 97 = .ok (.bipush 10, 2)) ∧ (decode cX12_init 99 = .ok (.bipush 115, 2)) ∧ (decode cX12_init 101 = .ok (.bastore, 1)) ∧ (decode cX12_init 102 = .ok (.dup, 1)) ∧ (decode cX12_init 103 = .ok (.bipush 11, 2)) ∧ (decode cX12_init 105 = .ok (.bipush 32, 2)) ∧ (decode cX12_init 107 = .ok (.bastore, 1)) ∧ (decode cX12_init 108 = .ok (.dup, 1)) := by decide +kernel
theorem dX12_init_95 : decode cX12_init 95 = .ok (.bastore, 1) := dX12_init_95g.1
theorem dX12_init_96 : decode cX12_init 96 = .ok (.dup, 1) := dX12_init_95g.2.1
theorem dX12_init_97 : decode cX12_init 97 = .ok (.bipush 10, 2) := dX12_init_95g.2.2.1
theorem dX12_init_99 : decode cX12_init 99 = .ok (.bipush 115, 2) := dX12_init_95g.2.2.2.1
theorem dX12_init_101 : decode cX12_init 101 = .ok (.bastore, 1) := dX12_init_95g.2.2.2.2.1
theorem dX12_init_102 : decode cX12_init 102 = .ok (.dup, 1) := dX12_init_95g.2.2.2.2.2.1
theorem dX12_init_103 : decode cX12_init 103 = .ok (.bipush 11, 2) := dX12_init_95g.2.2.2.2.2.2.1
theorem dX12_init_105 : decode cX12_init 105 = .ok (.bipush 32, 2) := dX12_init_95g.2.2.2.2.2.2.2.1
theorem dX12_init_107 : decode cX12_init 107 = .ok (.bastore, 1) := dX12_init_95g.2.2.2.2.2.2.2.2.1
theorem dX12_init_108 : decode cX12_init 108 = .ok (.dup, 1) := dX12_init_95g.2.2.2.2.2.2.2.2.2
theorem dX12_init_109g : (decode cX12_init 109 = .ok (.bipush 12, 2)) ∧ (decode cX12_init 111 = .ok (.bipush 116, 2)) ∧ (decode cX12_init 113 = .ok (.bastore, 1)) ∧ (decode cX12_init 114 = .ok (.dup, 1)) ∧ (decode cX12_init 115 = .ok (.bipush 13, 2)) ∧ (decode cX12_init 117 = .ok (.bipush 111, 2)) ∧ (decode cX12_init 119 = .ok (.bastore, 1)) ∧ (decode cX12_init 120 = .ok (.dup, 1)) ∧ (decode cX12_init 121 = .ok (.bipush 14, 2)) ∧ (decode cX12_init 123 = .ok (.bipush 108, 2)) := by decide +kernel
theorem dX12_init_109 : decode cX12_init 109 = .ok (.bipush 12, 2) := dX12_init_109g.1
theorem dX12_init_111 : decode cX12_init 111 = .ok (.bipush 116, 2) := dX12_init_109g.2.1
theorem dX12_init_113 : decode cX12_init 113 = .ok (.bastore, 1) := dX12_init_109g.2.2.1
theorem dX12_init_114 : decode cX12_init 114 = .ok (.dup, 1) := dX12_init_109g.2.2.2.1
theorem dX12_init_115 : decode cX12_init 115 = .ok (.bipush 13, 2) := dX12_init_109g.2.2.2.2.1
theorem dX12_init_117 : decode cX12_init 117 = .ok (.bipush 111, 2) := dX12_init_109g.2.2.2.2.2.1
theorem dX12_init_119 : decode cX12_init 119 = .ok (.bastore, 1) := dX12_init_109g.2.2.2.2.2.2.1
theorem dX12_init_120 : decode cX12_init 120 = .ok (.dup, 1) := dX12_init_109g.2.2.2.2.2.2.2.1
theorem dX12_init_121 : decode cX12_init 121 = .ok (.bipush 14, 2) := dX12_init_109g.2.2.2.2.2.2.2.2.1
theorem dX12_init_123 : decode cX12_init 123 = .ok (.bipush 108, 2) := dX12_init_109g.2.2.2.2.2.2.2.2.2
theorem dX12_init_125g : (decode cX12_init 125 = .ok (.bastore, 1)) ∧ (decode cX12_init 126 = .ok (.dup, 1)) ∧ (decode cX12_init 127 = .ok (.bipush 15, 2)) ∧ (decode cX12_init 129 = .ok (.bipush 108, 2)) ∧ (decode cX12_init 131 = .ok (.bastore, 1)) ∧ (decode cX12_init 132 = .ok (.dup, 1)) ∧ (decode cX12_init 133 = .ok (.bipush 16, 2)) ∧ (decode cX12_init 135 = .ok (.bipush 115, 2)) ∧ (decode cX12_init 137 = .ok (.bastore, 1)) ∧ (decode cX12_init 138 = .ok (.dup, 1)) := by decide +kernel
theorem dX12_init_125 : decode cX12_init 125 = .ok (.bastore, 1) := dX12_init_125g.1
theorem dX12_init_126 : decode cX12_init 126 = .ok (.dup, 1) := dX12_init_125g.2.1
theorem dX12_init_127 : decode cX12_init 127 = .ok (.bipush 15, 2) := dX12_init_125g.2.2.1
theorem dX12_init_129 : decode cX12_init 129 = .ok (.bipush 108, 2) := dX12_init_125g.2.2.2.1
theorem dX12_init_131 : decode cX12_init 131 = .ok (.bastore, 1) := dX12_init_125g.2.2.2.2.1
theorem dX12_init_132 : decode cX12_init 132 = .ok (.dup, 1) := dX12_init_125g.2.2.2.2.2.1
theorem dX12_init_133 : decode cX12_init 133 = .ok (.bipush 16, 2) := dX12_init_125g.2.2.2.2.2.2.1
theorem dX12_init_135 : decode cX12_init 135 = .ok (.bipush 115, 2) := dX12_init_125g.2.2.2.2.2.2.2.1
theorem dX12_init_137 : decode cX12_init 137 = .ok (.bastore, 1) := dX12_init_125g.2.2.2.2.2.2.2.2.1
theorem dX12_init_138 : decode cX12_init 138 = .ok (.dup, 1) := dX12_init_125g.2.2.2.2.2.2.2.2.2
theorem dX12_init_139g : (decode cX12_init 139 = .ok (.bipush 17, 2)) ∧ (decode cX12_init 141 = .ok (.bipush 32, 2)) ∧ (decode cX12_init 143 = .ok (.bastore, 1)) ∧ (decode cX12_init 144 = .ok (.dup, 1)) ∧ (decode cX12_init 145 = .ok (.bipush 18, 2)) ∧ (decode cX12_init 147 = .ok (.bipush 98, 2)) ∧ (decode cX12_init 149 = .ok (.bastore, 1)) ∧ (decode cX12_init 150 = .ok (.dup, 1)) ∧ (decode cX12_init 151 = .ok (.bipush 19, 2)) ∧ (decode cX12_init 153 = .ok (.bipush 97, 2)) := by decide +kernel
theorem dX12_init_139 : decode cX12_init 139 = .ok (.bipush 17, 2) := dX12_init_139g.1
theorem dX12_init_141 : decode cX12_init 141 = .ok (.bipush 32, 2) := dX12_init_139g.2.1
theorem dX12_init_143 : decode cX12_init 143 = .ok (.bastore, 1) := dX12_init_139g.2.2.1
theorem dX12_init_144 : decode cX12_init 144 = .ok (.dup, 1) := dX12_init_139g.2.2.2.1
theorem dX12_init_145 : decode cX12_init 145 = .ok (.bipush 18, 2) := dX12_init_139g.2.2.2.2.1
theorem dX12_init_147 : decode cX12_init 147 = .ok (.bipush 98, 2) := dX12_init_139g.2.2.2.2.2.1
theorem dX12_init_149 : decode cX12_init 149 = .ok (.bastore, 1) := dX12_init_139g.2.2.2.2.2.2.1
theorem dX12_init_150 : decode cX12_init 150 = .ok (.dup, 1) := dX12_init_139g.2.2.2.2.2.2.2.1
theorem dX12_init_151 : decode cX12_init 151 = .ok (.bipush 19, 2) := dX12_init_139g.2.2.2.2.2.2.2.2.1
theorem dX12_init_153 : decode cX12_init 153 = .ok (.bipush 97, 2) := dX12_init_139g.2.2.2.2.2.2.2.2.2
theorem dX12_init_155g : (decode cX12_init 155 = .ok (.bastore, 1)) ∧ (decode cX12_init 156 = .ok (.dup, 1)) ∧ (decode cX12_init 157 = .ok (.bipush 20, 2)) ∧ (decode cX12_init 159 = .ok (.bipush 114, 2)) ∧ (decode cX12_init 161 = .ok (.bastore, 1)) ∧ (decode cX12_init 162 = .ok (.dup, 1)) ∧ (decode cX12_init 163 = .ok (.bipush 21, 2)) ∧ (decode cX12_init 165 = .ok (.bipush 115, 2)) ∧ (decode cX12_init 167 = .ok (.bastore, 1)) ∧ (decode cX12_init 168 = .ok (.dup, 1)) := by decide +kernel
theorem dX12_init_155 : decode cX12_init 155 = .ok (.bastore, 1) := dX12_init_155g.1
theorem dX12_init_156 : decode cX12_init 156 = .ok (.dup, 1) := dX12_init_155g.2.1
theorem dX12_init_157 : decode cX12_init 157 = .ok (.bipush 20, 2) := dX12_init_155g.2.2.1
theorem dX12_init_159 : decode cX12_init 159 = .ok (.bipush 114, 2) := dX12_init_155g.2.2.2.1
theorem dX12_init_161 : decode cX12_init 161 = .ok (.bastore, 1) := dX12_init_155g.2.2.2.2.1
theorem dX12_init_162 : decode cX12_init 162 = .ok (.dup, 1) := dX12_init_155g.2.2.2.2.2.1
theorem dX12_init_163 : decode cX12_init 163 = .ok (.bipush 21, 2) := dX12_init_155g.2.2.2.2.2.2.1
theorem dX12_init_165 : decode cX12_init 165 = .ok (.bipush 115, 2) := dX12_init_155g.2.2.2.2.2.2.2.1
theorem dX12_init_167 : decode cX12_init 167 = .ok (.bastore, 1) := dX12_init_155g.2.2.2.2.2.2.2.2.1
theorem dX12_init_168 : decode cX12_init 168 = .ok (.dup, 1) := dX12_init_155g.2.2.2.2.2.2.2.2.2
theorem dX12_init_169g : (decode cX12_init 169 = .ok (.bipush 22, 2)) ∧ (decode cX12_init 171 = .ok (.bipush 32, 2)) ∧ (decode cX12_init 173 = .ok (.bastore, 1)) ∧ (decode cX12_init 174 = .ok (.dup, 1)) ∧ (decode cX12_init 175 = .ok (.bipush 23, 2)) ∧ (decode cX12_init 177 = .ok (.bipush 105, 2)) ∧ (decode cX12_init 179 = .ok (.bastore, 1)) ∧ (decode cX12_init 180 = .ok (.dup, 1)) ∧ (decode cX12_init 181 = .ok (.bipush 24, 2)) ∧ (decode cX12_init 183 = .ok (.bipush 102, 2)) := by decide +kernel
theorem dX12_init_169 : decode cX12_init 169 = .ok (.bipush 22, 2) := dX12_init_169g.1
theorem dX12_init_171 : decode cX12_init 171 = .ok (.bipush 32, 2) := dX12_init_169g.2.1
theorem dX12_init_173 : decode cX12_init 173 = .ok (.bastore, 1) := dX12_init_169g.2.2.1
theorem dX12_init_174 : decode cX12_init 174 = .ok (.dup, 1) := dX12_init_169g.2.2.2.1
theorem dX12_init_175 : decode cX12_init 175 = .ok (.bipush 23, 2) := dX12_init_169g.2.2.2.2.1
theorem dX12_init_177 : decode cX12_init 177 = .ok (.bipush 105, 2) := dX12_init_169g.2.2.2.2.2.1
theorem dX12_init_179 : decode cX12_init 179 = .ok (.bastore, 1) := dX12_init_169g.2.2.2.2.2.2.1
theorem dX12_init_180 : decode cX12_init 180 = .ok (.dup, 1) := dX12_init_169g.2.2.2.2.2.2.2.1
theorem dX12_init_181 : decode cX12_init 181 = .ok (.bipush 24, 2) := dX12_init_169g.2.2.2.2.2.2.2.2.1
theorem dX12_init_183 : decode cX12_init 183 = .ok (.bipush 102, 2) := dX12_init_169g.2.2.2.2.2.2.2.2.2
theorem dX12_init_185g : (decode cX12_init 185 = .ok (.bastore, 1)) ∧ (decode cX12_init 186 = .ok (.dup, 1)) ∧ (decode cX12_init 187 = .ok (.bipush 25, 2)) ∧ (decode cX12_init 189 = .ok (.bipush 32, 2)) ∧ (decode cX12_init 191 = .ok (.bastore, 1)) ∧ (decode cX12_init 192 = .ok (.dup, 1)) ∧ (decode cX12_init 193 = .ok (.bipush 26, 2)) ∧ (decode cX12_init 195 = .ok (.bipush 111, 2)) ∧ (decode cX12_init 197 = .ok (.bastore, 1)) ∧ (decode cX12_init 198 = .ok (.dup, 1)) := by decide +kernel
theorem dX12_init_185 : decode cX12_init 185 = .ok (.bastore, 1) := dX12_init_185g.1
theorem dX12_init_186 : decode cX12_init 186 = .ok (.dup, 1) := dX12_init_185g.2.1
theorem dX12_init_187 : decode cX12_init 187 = .ok (.bipush 25, 2) := dX12_init_185g.2.2.1
theorem dX12_init_189 : decode cX12_init 189 = .ok (.bipush 32, 2) := dX12_init_185g.2.2.2.1
theorem dX12_init_191 : decode cX12_init 191 = .ok (.bastore, 1) := dX12_init_185g.2.2.2.2.1
theorem dX12_init_192 : decode cX12_init 192 = .ok (.dup, 1) := dX12_init_185g.2.2.2.2.2.1
theorem dX12_init_193 : decode cX12_init 193 = .ok (.bipush 26, 2) := dX12_init_185g.2.2.2.2.2.2.1
theorem dX12_init_195 : decode cX12_init 195 = .ok (.bipush 111, 2) := dX12_init_185g.2.2.2.2.2.2.2.1
theorem dX12_init_197 : decode cX12_init 197 = .ok (.bastore, 1) := dX12_init_185g.2.2.2.2.2.2.2.2.1
theorem dX12_init_198 : decode cX12_init 198 = .ok (.dup, 1) := dX12_init_185g.2.2.2.2.2.2.2.2.2
theorem dX12_init_199g : (decode cX12_init 199 = .ok (.bipush 27, 2)) ∧ (decode cX12_init 201 = .ok (.bipush 114, 2)) ∧ (decode cX12_init 203 = .ok (.bastore, 1)) ∧ (decode cX12_init 204 = .ok (.dup, 1)) ∧ (decode cX12_init 205 = .ok (.bipush 28, 2)) ∧ (decode cX12_init 207 = .ok (.bipush 32, 2)) ∧ (decode cX12_init 209 = .ok (.bastore, 1)) ∧ (decode cX12_init 210 = .ok (.dup, 1)) ∧ (decode cX12_init 211 = .ok (.bipush 29, 2)) ∧ (decode cX12_init 213 = .ok (.bipush 97, 2)) := by decide +kernel
theorem dX12_init_199 : decode cX12_init 199 = .ok (.bipush 27, 2) := dX12_init_199g.1
theorem dX12_init_201 : decode cX12_init 201 = .ok (.bipush 114, 2) := dX12_init_199g.2.1
theorem dX12_init_203 : decode cX12_init 203 = .ok (.bastore, 1) := dX12_init_199g.2.2.1
theorem dX12_init_204 : decode cX12_init 204 = .ok (.dup, 1) := dX12_init_199g.2.2.2.1
theorem dX12_init_205 : decode cX12_init 205 = .ok (.bipush 28, 2) := dX12_init_199g.2.2.2.2.1
theorem dX12_init_207 : decode cX12_init 207 = .ok (.bipush 32, 2) := dX12_init_199g.2.2.2.2.2.1
theorem dX12_init_209 : decode cX12_init 209 = .ok (.bastore, 1) := dX12_init_199g.2.2.2.2.2.2.1
theorem dX12_init_210 : decode cX12_init 210 = .ok (.dup, 1) := dX12_init_199g.2.2.2.2.2.2.2.1
theorem dX12_init_211 : decode cX12_init 211 = .ok (.bipush 29, 2) := dX12_init_199g.2.2.2.2.2.2.2.2.1
theorem dX12_init_213 : decode cX12_init 213 = .ok (.bipush 97, 2) := dX12_init_199g.2.2.2.2.2.2.2.2.2
theorem dX12_init_215g : (decode cX12_init 215 = .ok (.bastore, 1)) ∧ (decode cX12_init 216 = .ok (.dup, 1)) ∧ (decode cX12_init 217 = .ok (.bipush 30, 2)) ∧ (decode cX12_init 219 = .ok (.bipush 110, 2)) ∧ (decode cX12_init 221 = .ok (.bastore, 1)) ∧ (decode cX12_init 222 = .ok (.dup, 1)) ∧ (decode cX12_init 223 = .ok (.bipush 31, 2)) ∧ (decode cX12_init 225 = .ok (.bipush 100, 2)) ∧ (decode cX12_init 227 = .ok (.bastore, 1)) ∧ (decode cX12_init 228 = .ok (.dup, 1)) := by decide +kernel
theorem dX12_init_215 : decode cX12_init 215 = .ok (.bastore, 1) := dX12_init_215g.1
theorem dX12_init_216 : decode cX12_init 216 = .ok (.dup, 1) := dX12_init_215g.2.1
theorem dX12_init_217 : decode cX12_init 217 = .ok (.bipush 30, 2) := dX12_init_215g.2.2.1
theorem dX12_init_219 : decode cX12_init 219 = .ok (.bipush 110, 2) := dX12_init_215g.2.2.2.1
theorem dX12_init_221 : decode cX12_init 221 = .ok (.bastore, 1) := dX12_init_215g.2.2.2.2.1
theorem dX12_init_222 : decode cX12_init 222 = .ok (.dup, 1) := dX12_init_215g.2.2.2.2.2.1
theorem dX12_init_223 : decode cX12_init 223 = .ok (.bipush 31, 2) := dX12_init_215g.2.2.2.2.2.2.1
theorem dX12_init_225 : decode cX12_init 225 = .ok (.bipush 100, 2) := dX12_init_215g.2.2.2.2.2.2.2.1
theorem dX12_init_227 : decode cX12_init 227 = .ok (.bastore, 1) := dX12_init_215g.2.2.2.2.2.2.2.2.1
theorem dX12_init_228 : decode cX12_init 228 = .ok (.dup, 1) := dX12_init_215g.2.2.2.2.2.2.2.2.2
theorem dX12_init_229g : (decode cX12_init 229 = .ok (.bipush 32, 2)) ∧ (decode cX12_init 231 = .ok (.bipush 32, 2)) ∧ (decode cX12_init 233 = .ok (.bastore, 1)) ∧ (decode cX12_init 234 = .ok (.dup, 1)) ∧ (decode cX12_init 235 = .ok (.bipush 33, 2)) ∧ (decode cX12_init 237 = .ok (.bipush 110, 2)) ∧ (decode cX12_init 239 = .ok (.bastore, 1)) ∧ (decode cX12_init 240 = .ok (.dup, 1)) ∧ (decode cX12_init 241 = .ok (.bipush 34, 2)) ∧ (decode cX12_init 243 = .ok (.bipush 111, 2)) := by decide +kernel
theorem dX12_init_229 : decode cX12_init 229 = .ok (.bipush 32, 2) := dX12_init_229g.1
theorem dX12_init_231 : decode cX12_init 231 = .ok (.bipush 32, 2) := dX12_init_229g.2.1
theorem dX12_init_233 : decode cX12_init 233 = .ok (.bastore, 1) := dX12_init_229g.2.2.1
theorem dX12_init_234 : decode cX12_init 234 = .ok (.dup, 1) := dX12_init_229g.2.2.2.1
theorem dX12_init_235 : decode cX12_init 235 = .ok (.bipush 33, 2) := dX12_init_229g.2.2.2.2.1
theorem dX12_init_237 : decode cX12_init 237 = .ok (.bipush 110, 2) := dX12_init_229g.2.2.2.2.2.1
theorem dX12_init_239 : decode cX12_init 239 = .ok (.bastore, 1) := dX12_init_229g.2.2.2.2.2.2.1
theorem dX12_init_240 : decode cX12_init 240 = .ok (.dup, 1) := dX12_init_229g.2.2.2.2.2.2.2.1
theorem dX12_init_241 : decode cX12_init 241 = .ok (.bipush 34, 2) := dX12_init_229g.2.2.2.2.2.2.2.2.1
theorem dX12_init_243 : decode cX12_init 243 = .ok (.bipush 111, 2) := dX12_init_229g.2.2.2.2.2.2.2.2.2
theorem dX12_init_245g : (decode cX12_init 245 = .ok (.bastore, 1)) ∧ (decode cX12_init 246 = .ok (.dup, 1)) ∧ (decode cX12_init 247 = .ok (.bipush 35, 2)) ∧ (decode cX12_init 249 = .ok (.bipush 116, 2)) ∧ (decode cX12_init 251 = .ok (.bastore, 1)) ∧ (decode cX12_init 252 = .ok (.dup, 1)) ∧ (decode cX12_init 253 = .ok (.bipush 36, 2)) ∧ (decode cX12_init 255 = .ok (.bipush 32, 2)) ∧ (decode cX12_init 257 = .ok (.bastore, 1)) ∧ (decode cX12_init 258 = .ok (.dup, 1)) := by decide +kernel
theorem dX12_init_245 : decode cX12_init 245 = .ok (.bastore, 1) := dX12_init_245g.1
theorem dX12_init_246 : decode cX12_init 246 = .ok (.dup, 1) := dX12_init_245g.2.1
theorem dX12_init_247 : decode cX12_init 247 = .ok (.bipush 35, 2) := dX12_init_245g.2.2.1
theorem dX12_init_249 : decode cX12_init 249 = .ok (.bipush 116, 2) := dX12_init_245g.2.2.2.1
theorem dX12_init_251 : decode cX12_init 251 = .ok (.bastore, 1) := dX12_init_245g.2.2.2.2.1
theorem dX12_init_252 : decode cX12_init 252 = .ok (.dup, 1) := dX12_init_245g.2.2.2.2.2.1
theorem dX12_init_253 : decode cX12_init 253 = .ok (.bipush 36, 2) := dX12_init_245g.2.2.2.2.2.2.1
theorem dX12_init_255 : decode cX12_init 255 = .ok (.bipush 32, 2) := dX12_init_245g.2.2.2.2.2.2.2.1
theorem dX12_init_257 : decode cX12_init 257 = .ok (.bastore, 1) := dX12_init_245g.2.2.2.2.2.2.2.2.1
theorem dX12_init_258 : decode cX12_init 258 = .ok (.dup, 1) := dX12_init_245g.2.2.2.2.2.2.2.2.2
theorem dX12_init_259g : (decode cX12_init 259 = .ok (.bipush 37, 2)) ∧ (decode cX12_init 261 = .ok (.bipush 99, 2)) ∧ (decode cX12_init 263 = .ok (.bastore, 1)) ∧ (decode cX12_init 264 = .ok (.dup, 1)) ∧ (decode cX12_init 265 = .ok (.bipush 38, 2)) ∧ (decode cX12_init 267 = .ok (.bipush 101, 2)) ∧ (decode cX12_init 269 = .ok (.bastore, 1)) ∧ (decode cX12_init 270 = .ok (.dup, 1)) ∧ (decode cX12_init 271 = .ok (.bipush 39, 2)) ∧ (decode cX12_init 273 = .ok (.bipush 108, 2)) := by decide +kernel
theorem dX12_init_259 : decode cX12_init 259 = .ok (.bipush 37, 2) := dX12_init_259g.1
theorem dX12_init_261 : decode cX12_init 261 = .ok (.bipush 99, 2) := dX12_init_259g.2.1
theorem dX12_init_263 : decode cX12_init 263 = .ok (.bastore, 1) := dX12_init_259g.2.2.1
theorem dX12_init_264 : decode cX12_init 264 = .ok (.dup, 1) := dX12_init_259g.2.2.2.1
theorem dX12_init_265 : decode cX12_init 265 = .ok (.bipush 38, 2) := dX12_init_259g.2.2.2.2.1
theorem dX12_init_267 : decode cX12_init 267 = .ok (.bipush 101, 2) := dX12_init_259g.2.2.2.2.2.1
theorem dX12_init_269 : decode cX12_init 269 = .ok (.bastore, 1) := dX12_init_259g.2.2.2.2.2.2.1
theorem dX12_init_270 : decode cX12_init 270 = .ok (.dup, 1) := dX12_init_259g.2.2.2.2.2.2.2.1
theorem dX12_init_271 : decode cX12_init 271 = .ok (.bipush 39, 2) := dX12_init_259g.2.2.2.2.2.2.2.2.1
theorem dX12_init_273 : decode cX12_init 273 = .ok (.bipush 108, 2) := dX12_init_259g.2.2.2.2.2.2.2.2.2
theorem dX12_init_275g : (decode cX12_init 275 = .ok (.bastore, 1)) ∧ (decode cX12_init 276 = .ok (.dup, 1)) ∧ (decode cX12_init 277 = .ok (.bipush 40, 2)) ∧ (decode cX12_init 279 = .ok (.bipush 108, 2)) ∧ (decode cX12_init 281 = .ok (.bastore, 1)) ∧ (decode cX12_init 282 = .ok (.dup, 1)) ∧ (decode cX12_init 283 = .ok (.bipush 41, 2)) ∧ (decode cX12_init 285 = .ok (.bipush 32, 2)) ∧ (decode cX12_init 287 = .ok (.bastore, 1)) ∧ (decode cX12_init 288 = .ok (.dup, 1)) := by decide +kernel
theorem dX12_init_275 : decode cX12_init 275 = .ok (.bastore, 1) := dX12_init_275g.1
theorem dX12_init_276 : decode cX12_init 276 = .ok (.dup, 1) := dX12_init_275g.2.1
theorem dX12_init_277 : decode cX12_init 277 = .ok (.bipush 40, 2) := dX12_init_275g.2.2.1
theorem dX12_init_279 : decode cX12_init 279 = .ok (.bipush 108, 2) := dX12_init_275g.2.2.2.1
theorem dX12_init_281 : decode cX12_init 281 = .ok (.bastore, 1) := dX12_init_275g.2.2.2.2.1
theorem dX12_init_282 : decode cX12_init 282 = .ok (.dup, 1) := dX12_init_275g.2.2.2.2.2.1
theorem dX12_init_283 : decode cX12_init 283 = .ok (.bipush 41, 2) := dX12_init_275g.2.2.2.2.2.2.1
theorem dX12_init_285 : decode cX12_init 285 = .ok (.bipush 32, 2) := dX12_init_275g.2.2.2.2.2.2.2.1
theorem dX12_init_287 : decode cX12_init 287 = .ok (.bastore, 1) := dX12_init_275g.2.2.2.2.2.2.2.2.1
theorem dX12_init_288 : decode cX12_init 288 = .ok (.dup, 1) := dX12_init_275g.2.2.2.2.2.2.2.2.2
theorem dX12_init_289g : (decode cX12_init 289 = .ok (.bipush 42, 2)) ∧ (decode cX12_init 291 = .ok (.bipush 104, 2)) ∧ (decode cX12_init 293 = .ok (.bastore, 1)) ∧ (decode cX12_init 294 = .ok (.dup, 1)) ∧ (decode cX12_init 295 = .ok (.bipush 43, 2)) ∧ (decode cX12_init 297 = .ok (.bipush 111, 2)) ∧ (decode cX12_init 299 = .ok (.bastore, 1)) ∧ (decode cX12_init 300 = .ok (.dup, 1)) ∧ (decode cX12_init 301 = .ok (.bipush 44, 2)) ∧ (decode cX12_init 303 = .ok (.bipush 117, 2)) := by decide +kernel
theorem dX12_init_289 : decode cX12_init 289 = .ok (.bipush 42, 2) := dX12_init_289g.1
theorem dX12_init_291 : decode cX12_init 291 = .ok (.bipush 104, 2) := dX12_init_289g.2.1
theorem dX12_init_293 : decode cX12_init 293 = .ok (.bastore, 1) := dX12_init_289g.2.2.1
theorem dX12_init_294 : decode cX12_init 294 = .ok (.dup, 1) := dX12_init_289g.2.2.2.1
theorem dX12_init_295 : decode cX12_init 295 = .ok (.bipush 43, 2) := dX12_init_289g.2.2.2.2.1
theorem dX12_init_297 : decode cX12_init 297 = .ok (.bipush 111, 2) := dX12_init_289g.2.2.2.2.2.1
theorem dX12_init_299 : decode cX12_init 299 = .ok (.bastore, 1) := dX12_init_289g.2.2.2.2.2.2.1
theorem dX12_init_300 : decode cX12_init 300 = .ok (.dup, 1) := dX12_init_289g.2.2.2.2.2.2.2.1
theorem dX12_init_301 : decode cX12_init 301 = .ok (.bipush 44, 2) := dX12_init_289g.2.2.2.2.2.2.2.2.1
theorem dX12_init_303 : decode cX12_init 303 = .ok (.bipush 117, 2) := dX12_init_289g.2.2.2.2.2.2.2.2.2
theorem dX12_init_305g : (decode cX12_init 305 = .ok (.bastore, 1)) ∧ (decode cX12_init 306 = .ok (.dup, 1)) ∧ (decode cX12_init 307 = .ok (.bipush 45, 2)) ∧ (decode cX12_init 309 = .ok (.bipush 114, 2)) ∧ (decode cX12_init 311 = .ok (.bastore, 1)) ∧ (decode cX12_init 312 = .ok (.dup, 1)) ∧ (decode cX12_init 313 = .ok (.bipush 46, 2)) ∧ (decode cX12_init 315 = .ok (.bipush 32, 2)) ∧ (decode cX12_init 317 = .ok (.bastore, 1)) ∧ (decode cX12_init 318 = .ok (.dup, 1)) := by decide +kernel
theorem dX12_init_305 : decode cX12_init 305 = .ok (.bastore, 1) := dX12_init_305g.1
theorem dX12_init_306 : decode cX12_init 306 = .ok (.dup, 1) := dX12_init_305g.2.1
theorem dX12_init_307 : decode cX12_init 307 = .ok (.bipush 45, 2) := dX12_init_305g.2.2.1
theorem dX12_init_309 : decode cX12_init 309 = .ok (.bipush 114, 2) := dX12_init_305g.2.2.2.1
theorem dX12_init_311 : decode cX12_init 311 = .ok (.bastore, 1) := dX12_init_305g.2.2.2.2.1
theorem dX12_init_312 : decode cX12_init 312 = .ok (.dup, 1) := dX12_init_305g.2.2.2.2.2.1
theorem dX12_init_313 : decode cX12_init 313 = .ok (.bipush 46, 2) := dX12_init_305g.2.2.2.2.2.2.1
theorem dX12_init_315 : decode cX12_init 315 = .ok (.bipush 32, 2) := dX12_init_305g.2.2.2.2.2.2.2.1
theorem dX12_init_317 : decode cX12_init 317 = .ok (.bastore, 1) := dX12_init_305g.2.2.2.2.2.2.2.2.1
theorem dX12_init_318 : decode cX12_init 318 = .ok (.dup, 1) := dX12_init_305g.2.2.2.2.2.2.2.2.2
theorem dX12_init_319g : (decode cX12_init 319 = .ok (.bipush 47, 2)) ∧ (decode cX12_init 321 = .ok (.bipush 100, 2)) ∧ (decode cX12_init 323 = .ok (.bastore, 1)) ∧ (decode cX12_init 324 = .ok (.dup, 1)) ∧ (decode cX12_init 325 = .ok (.bipush 48, 2)) ∧ (decode cX12_init 327 = .ok (.bipush 97, 2)) ∧ (decode cX12_init 329 = .ok (.bastore, 1)) ∧ (decode cX12_init 330 = .ok (.dup, 1)) ∧ (decode cX12_init 331 = .ok (.bipush 49, 2)) ∧ (decode cX12_init 333 = .ok (.bipush 121, 2)) := by decide +kernel
theorem dX12_init_319 : decode cX12_init 319 = .ok (.bipush 47, 2) := dX12_init_319g.1
theorem dX12_init_321 : decode cX12_init 321 = .ok (.bipush 100, 2) := dX12_init_319g.2.1
theorem dX12_init_323 : decode cX12_init 323 = .ok (.bastore, 1) := dX12_init_319g.2.2.1
theorem dX12_init_324 : decode cX12_init 324 = .ok (.dup, 1) := dX12_init_319g.2.2.2.1
theorem dX12_init_325 : decode cX12_init 325 = .ok (.bipush 48, 2) := dX12_init_319g.2.2.2.2.1
theorem dX12_init_327 : decode cX12_init 327 = .ok (.bipush 97, 2) := dX12_init_319g.2.2.2.2.2.1
theorem dX12_init_329 : decode cX12_init 329 = .ok (.bastore, 1) := dX12_init_319g.2.2.2.2.2.2.1
theorem dX12_init_330 : decode cX12_init 330 = .ok (.dup, 1) := dX12_init_319g.2.2.2.2.2.2.2.1
theorem dX12_init_331 : decode cX12_init 331 = .ok (.bipush 49, 2) := dX12_init_319g.2.2.2.2.2.2.2.2.1
theorem dX12_init_333 : decode cX12_init 333 = .ok (.bipush 121, 2) := dX12_init_319g.2.2.2.2.2.2.2.2.2
theorem dX12_init_335g : (decode cX12_init 335 = .ok (.bastore, 1)) ∧ (decode cX12_init 336 = .ok (.dup, 1)) ∧ (decode cX12_init 337 = .ok (.bipush 50, 2)) ∧ (decode cX12_init 339 = .ok (.bipush 32, 2)) ∧ (decode cX12_init 341 = .ok (.bastore, 1)) ∧ (decode cX12_init 342 = .ok (.dup, 1)) ∧ (decode cX12_init 343 = .ok (.bipush 51, 2)) ∧ (decode cX12_init 345 = .ok (.bipush 115, 2)) ∧ (decode cX12_init 347 = .ok (.bastore, 1)) ∧ (decode cX12_init 348 = .ok (.dup, 1)) := by decide +kernel
theorem dX12_init_335 : decode cX12_init 335 = .ok (.bastore, 1) := dX12_init_335g.1
theorem dX12_init_336 : decode cX12_init 336 = .ok (.dup, 1) := dX12_init_335g.2.1
theorem dX12_init_337 : decode cX12_init 337 = .ok (.bipush 50, 2) := dX12_init_335g.2.2.1
theorem dX12_init_339 : decode cX12_init 339 = .ok (.bipush 32, 2) := dX12_init_335g.2.2.2.1
theorem dX12_init_341 : decode cX12_init 341 = .ok (.bastore, 1) := dX12_init_335g.2.2.2.2.1
theorem dX12_init_342 : decode cX12_init 342 = .ok (.dup, 1) := dX12_init_335g.2.2.2.2.2.1
theorem dX12_init_343 : decode cX12_init 343 = .ok (.bipush 51, 2) := dX12_init_335g.2.2.2.2.2.2.1
theorem dX12_init_345 : decode cX12_init 345 = .ok (.bipush 115, 2) := dX12_init_335g.2.2.2.2.2.2.2.1
theorem dX12_init_347 : decode cX12_init 347 = .ok (.bastore, 1) := dX12_init_335g.2.2.2.2.2.2.2.2.1
theorem dX12_init_348 : decode cX12_init 348 = .ok (.dup, 1) := dX12_init_335g.2.2.2.2.2.2.2.2.2
theorem dX12_init_349g : (decode cX12_init 349 = .ok (.bipush 52, 2)) ∧ (decode cX12_init 351 = .ok (.bipush 116, 2)) ∧ (decode cX12_init 353 = .ok (.bastore, 1)) ∧ (decode cX12_init 354 = .ok (.dup, 1)) ∧ (decode cX12_init 355 = .ok (.bipush 53, 2)) ∧ (decode cX12_init 357 = .ok (.bipush 114, 2)) ∧ (decode cX12_init 359 = .ok (.bastore, 1)) ∧ (decode cX12_init 360 = .ok (.dup, 1)) ∧ (decode cX12_init 361 = .ok (.bipush 54, 2)) ∧ (decode cX12_init 363 = .ok (.bipush 105, 2)) := by decide +kernel
theorem dX12_init_349 : decode cX12_init 349 = .ok (.bipush 52, 2) := dX12_init_349g.1
theorem dX12_init_351 : decode cX12_init 351 = .ok (.bipush 116, 2) := dX12_init_349g.2.1
theorem dX12_init_353 : decode cX12_init 353 = .ok (.bastore, 1) := dX12_init_349g.2.2.1
theorem dX12_init_354 : decode cX12_init 354 = .ok (.dup, 1) := dX12_init_349g.2.2.2.1
theorem dX12_init_355 : decode cX12_init 355 = .ok (.bipush 53, 2) := dX12_init_349g.2.2.2.2.1
theorem dX12_init_357 : decode cX12_init 357 = .ok (.bipush 114, 2) := dX12_init_349g.2.2.2.2.2.1
theorem dX12_init_359 : decode cX12_init 359 = .ok (.bastore, 1) := dX12_init_349g.2.2.2.2.2.2.1
theorem dX12_init_360 : decode cX12_init 360 = .ok (.dup, 1) := dX12_init_349g.2.2.2.2.2.2.2.1
theorem dX12_init_361 : decode cX12_init 361 = .ok (.bipush 54, 2) := dX12_init_349g.2.2.2.2.2.2.2.2.1
theorem dX12_init_363 : decode cX12_init 363 = .ok (.bipush 105, 2) := dX12_init_349g.2.2.2.2.2.2.2.2.2
theorem dX12_init_365g : (decode cX12_init 365 = .ok (.bastore, 1)) ∧ (decode cX12_init 366 = .ok (.dup, 1)) ∧ (decode cX12_init 367 = .ok (.bipush 55, 2)) ∧ (decode cX12_init 369 = .ok (.bipush 107, 2)) ∧ (decode cX12_init 371 = .ok (.bastore, 1)) ∧ (decode cX12_init 372 = .ok (.dup, 1)) ∧ (decode cX12_init 373 = .ok (.bipush 56, 2)) ∧ (decode cX12_init 375 = .ok (.bipush 101, 2)) ∧ (decode cX12_init 377 = .ok (.bastore, 1)) ∧ (decode cX12_init 378 = .ok (.dup, 1)) := by decide +kernel
theorem dX12_init_365 : decode cX12_init 365 = .ok (.bastore, 1) := dX12_init_365g.1
theorem dX12_init_366 : decode cX12_init 366 = .ok (.dup, 1) := dX12_init_365g.2.1
theorem dX12_init_367 : decode cX12_init 367 = .ok (.bipush 55, 2) := dX12_init_365g.2.2.1
theorem dX12_init_369 : decode cX12_init 369 = .ok (.bipush 107, 2) := dX12_init_365g.2.2.2.1
theorem dX12_init_371 : decode cX12_init 371 = .ok (.bastore, 1) := dX12_init_365g.2.2.2.2.1
theorem dX12_init_372 : decode cX12_init 372 = .ok (.dup, 1) := dX12_init_365g.2.2.2.2.2.1
theorem dX12_init_373 : decode cX12_init 373 = .ok (.bipush 56, 2) := dX12_init_365g.2.2.2.2.2.2.1
theorem dX12_init_375 : decode cX12_init 375 = .ok (.bipush 101, 2) := dX12_init_365g.2.2.2.2.2.2.2.1
theorem dX12_init_377 : decode cX12_init 377 = .ok (.bastore, 1) := dX12_init_365g.2.2.2.2.2.2.2.2.1
theorem dX12_init_378 : decode cX12_init 378 = .ok (.dup, 1) := dX12_init_365g.2.2.2.2.2.2.2.2.2
theorem dX12_init_379g : (decode cX12_init 379 = .ok (.bipush 57, 2)) ∧ (decode cX12_init 381 = .ok (.bipush 32, 2)) ∧ (decode cX12_init 383 = .ok (.bastore, 1)) ∧ (decode cX12_init 384 = .ok (.dup, 1)) ∧ (decode cX12_init 385 = .ok (.bipush 58, 2)) ∧ (decode cX12_init 387 = .ok (.bipush 112, 2)) ∧ (decode cX12_init 389 = .ok (.bastore, 1)) ∧ (decode cX12_init 390 = .ok (.dup, 1)) ∧ (decode cX12_init 391 = .ok (.bipush 59, 2)) ∧ (decode cX12_init 393 = .ok (.bipush 117, 2)) := by decide +kernel
theorem dX12_init_379 : decode cX12_init 379 = .ok (.bipush 57, 2) := dX12_init_379g.1
theorem dX12_init_381 : decode cX12_init 381 = .ok (.bipush 32, 2) := dX12_init_379g.2.1
theorem dX12_init_383 : decode cX12_init 383 = .ok (.bastore, 1) := dX12_init_379g.2.2.1
theorem dX12_init_384 : decode cX12_init 384 = .ok (.dup, 1) := dX12_init_379g.2.2.2.1
theorem dX12_init_385 : decode cX12_init 385 = .ok (.bipush 58, 2) := dX12_init_379g.2.2.2.2.1
theorem dX12_init_387 : decode cX12_init 387 = .ok (.bipush 112, 2) := dX12_init_379g.2.2.2.2.2.1
theorem dX12_init_389 : decode cX12_init 389 = .ok (.bastore, 1) := dX12_init_379g.2.2.2.2.2.2.1
theorem dX12_init_390 : decode cX12_init 390 = .ok (.dup, 1) := dX12_init_379g.2.2.2.2.2.2.2.1
theorem dX12_init_391 : decode cX12_init 391 = .ok (.bipush 59, 2) := dX12_init_379g.2.2.2.2.2.2.2.2.1
theorem dX12_init_393 : decode cX12_init 393 = .ok (.bipush 117, 2) := dX12_init_379g.2.2.2.2.2.2.2.2.2
theorem dX12_init_395g : (decode cX12_init 395 = .ok (.bastore, 1)) ∧ (decode cX12_init 396 = .ok (.dup, 1)) ∧ (decode cX12_init 397 = .ok (.bipush 60, 2)) ∧ (decode cX12_init 399 = .ok (.bipush 109, 2)) ∧ (decode cX12_init 401 = .ok (.bastore, 1)) ∧ (decode cX12_init 402 = .ok (.dup, 1)) ∧ (decode cX12_init 403 = .ok (.bipush 61, 2)) ∧ (decode cX12_init 405 = .ok (.bipush 112, 2)) ∧ (decode cX12_init 407 = .ok (.bastore, 1)) ∧ (decode cX12_init 408 = .ok (.dup, 1)) := by decide +kernel
theorem dX12_init_395 : decode cX12_init 395 = .ok (.bastore, 1) := dX12_init_395g.1
theorem dX12_init_396 : decode cX12_init 396 = .ok (.dup, 1) := dX12_init_395g.2.1
theorem dX12_init_397 : decode cX12_init 397 = .ok (.bipush 60, 2) := dX12_init_395g.2.2.1
theorem dX12_init_399 : decode cX12_init 399 = .ok (.bipush 109, 2) := dX12_init_395g.2.2.2.1
theorem dX12_init_401 : decode cX12_init 401 = .ok (.bastore, 1) := dX12_init_395g.2.2.2.2.1
theorem dX12_init_402 : decode cX12_init 402 = .ok (.dup, 1) := dX12_init_395g.2.2.2.2.2.1
theorem dX12_init_403 : decode cX12_init 403 = .ok (.bipush 61, 2) := dX12_init_395g.2.2.2.2.2.2.1
theorem dX12_init_405 : decode cX12_init 405 = .ok (.bipush 112, 2) := dX12_init_395g.2.2.2.2.2.2.2.1
theorem dX12_init_407 : decode cX12_init 407 = .ok (.bastore, 1) := dX12_init_395g.2.2.2.2.2.2.2.2.1
theorem dX12_init_408 : decode cX12_init 408 = .ok (.dup, 1) := dX12_init_395g.2.2.2.2.2.2.2.2.2
theorem dX12_init_409g : (decode cX12_init 409 = .ok (.bipush 62, 2)) ∧ (decode cX12_init 411 = .ok (.bipush 101, 2)) ∧ (decode cX12_init 413 = .ok (.bastore, 1)) ∧ (decode cX12_init 414 = .ok (.dup, 1)) ∧ (decode cX12_init 415 = .ok (.bipush 63, 2)) ∧ (decode cX12_init 417 = .ok (.bipush 100, 2)) ∧ (decode cX12_init 419 = .ok (.bastore, 1)) ∧ (decode cX12_init 420 = .ok (.dup, 1)) ∧ (decode cX12_init 421 = .ok (.bipush 64, 2)) ∧ (decode cX12_init 423 = .ok (.bipush 32, 2)) := by decide +kernel
theorem dX12_init_409 : decode cX12_init 409 = .ok (.bipush 62, 2) := dX12_init_409g.1
theorem dX12_init_411 : decode cX12_init 411 = .ok (.bipush 101, 2) := dX12_init_409g.2.1
theorem dX12_init_413 : decode cX12_init 413 = .ok (.bastore, 1) := dX12_init_409g.2.2.1
theorem dX12_init_414 : decode cX12_init 414 = .ok (.dup, 1) := dX12_init_409g.2.2.2.1
theorem dX12_init_415 : decode cX12_init 415 = .ok (.bipush 63, 2) := dX12_init_409g.2.2.2.2.1
theorem dX12_init_417 : decode cX12_init 417 = .ok (.bipush 100, 2) := dX12_init_409g.2.2.2.2.2.1
theorem dX12_init_419 : decode cX12_init 419 = .ok (.bastore, 1) := dX12_init_409g.2.2.2.2.2.2.1
theorem dX12_init_420 : decode cX12_init 420 = .ok (.dup, 1) := dX12_init_409g.2.2.2.2.2.2.2.1
theorem dX12_init_421 : decode cX12_init 421 = .ok (.bipush 64, 2) := dX12_init_409g.2.2.2.2.2.2.2.2.1
theorem dX12_init_423 : decode cX12_init 423 = .ok (.bipush 32, 2) := dX12_init_409g.2.2.2.2.2.2.2.2.2
theorem dX12_init_425g : (decode cX12_init 425 = .ok (.bastore, 1)) ∧ (decode cX12_init 426 = .ok (.dup, 1)) ∧ (decode cX12_init 427 = .ok (.bipush 65, 2)) ∧ (decode cX12_init 429 = .ok (.bipush 109, 2)) ∧ (decode cX12_init 431 = .ok (.bastore, 1)) ∧ (decode cX12_init 432 = .ok (.dup, 1)) ∧ (decode cX12_init 433 = .ok (.bipush 66, 2)) ∧ (decode cX12_init 435 = .ok (.bipush 105, 2)) ∧ (decode cX12_init 437 = .ok (.bastore, 1)) ∧ (decode cX12_init 438 = .ok (.dup, 1)) := by decide +kernel
theorem dX12_init_425 : decode cX12_init 425 = .ok (.bastore, 1) := dX12_init_425g.1
theorem dX12_init_426 : decode cX12_init 426 = .ok (.dup, 1) := dX12_init_425g.2.1
theorem dX12_init_427 : decode cX12_init 427 = .ok (.bipush 65, 2) := dX12_init_425g.2.2.1
theorem dX12_init_429 : decode cX12_init 429 = .ok (.bipush 109, 2) := dX12_init_425g.2.2.2.1
theorem dX12_init_431 : decode cX12_init 431 = .ok (.bastore, 1) := dX12_init_425g.2.2.2.2.1
theorem dX12_init_432 : decode cX12_init 432 = .ok (.dup, 1) := dX12_init_425g.2.2.2.2.2.1
theorem dX12_init_433 : decode cX12_init 433 = .ok (.bipush 66, 2) := dX12_init_425g.2.2.2.2.2.2.1
theorem dX12_init_435 : decode cX12_init 435 = .ok (.bipush 105, 2) := dX12_init_425g.2.2.2.2.2.2.2.1
theorem dX12_init_437 : decode cX12_init 437 = .ok (.bastore, 1) := dX12_init_425g.2.2.2.2.2.2.2.2.1
theorem dX12_init_438 : decode cX12_init 438 = .ok (.dup, 1) := dX12_init_425g.2.2.2.2.2.2.2.2.2
theorem dX12_init_439g : (decode cX12_init 439 = .ok (.bipush 67, 2)) ∧ (decode cX12_init 441 = .ok (.bipush 108, 2)) ∧ (decode cX12_init 443 = .ok (.bastore, 1)) ∧ (decode cX12_init 444 = .ok (.dup, 1)) ∧ (decode cX12_init 445 = .ok (.bipush 68, 2)) ∧ (decode cX12_init 447 = .ok (.bipush 108, 2)) ∧ (decode cX12_init 449 = .ok (.bastore, 1)) ∧ (decode cX12_init 450 = .ok (.dup, 1)) ∧ (decode cX12_init 451 = .ok (.bipush 69, 2)) ∧ (decode cX12_init 453 = .ok (.bipush 115, 2)) := by decide +kernel
theorem dX12_init_439 : decode cX12_init 439 = .ok (.bipush 67, 2) := dX12_init_439g.1
theorem dX12_init_441 : decode cX12_init 441 = .ok (.bipush 108, 2) := dX12_init_439g.2.1
theorem dX12_init_443 : decode cX12_init 443 = .ok (.bastore, 1) := dX12_init_439g.2.2.1
theorem dX12_init_444 : decode cX12_init 444 = .ok (.dup, 1) := dX12_init_439g.2.2.2.1
theorem dX12_init_445 : decode cX12_init 445 = .ok (.bipush 68, 2) := dX12_init_439g.2.2.2.2.1
theorem dX12_init_447 : decode cX12_init 447 = .ok (.bipush 108, 2) := dX12_init_439g.2.2.2.2.2.1
theorem dX12_init_449 : decode cX12_init 449 = .ok (.bastore, 1) := dX12_init_439g.2.2.2.2.2.2.1
theorem dX12_init_450 : decode cX12_init 450 = .ok (.dup, 1) := dX12_init_439g.2.2.2.2.2.2.2.1
theorem dX12_init_451 : decode cX12_init 451 = .ok (.bipush 69, 2) := dX12_init_439g.2.2.2.2.2.2.2.2.1
theorem dX12_init_453 : decode cX12_init 453 = .ok (.bipush 115, 2) := dX12_init_439g.2.2.2.2.2.2.2.2.2
theorem dX12_init_455g : (decode cX12_init 455 = .ok (.bastore, 1)) ∧ (decode cX12_init 456 = .ok (.dup, 1)) ∧ (decode cX12_init 457 = .ok (.bipush 70, 2)) ∧ (decode cX12_init 459 = .ok (.bipush 32, 2)) ∧ (decode cX12_init 461 = .ok (.bastore, 1)) ∧ (decode cX12_init 462 = .ok (.dup, 1)) ∧ (decode cX12_init 463 = .ok (.bipush 71, 2)) ∧ (decode cX12_init 465 = .ok (.bipush 110, 2)) ∧ (decode cX12_init 467 = .ok (.bastore, 1)) ∧ (decode cX12_init 468 = .ok (.dup, 1)) := by decide +kernel
theorem dX12_init_455 : decode cX12_init 455 = .ok (.bastore, 1) := dX12_init_455g.1
theorem dX12_init_456 : decode cX12_init 456 = .ok (.dup, 1) := dX12_init_455g.2.1
theorem dX12_init_457 : decode cX12_init 457 = .ok (.bipush 70, 2) := dX12_init_455g.2.2.1
theorem dX12_init_459 : decode cX12_init 459 = .ok (.bipush 32, 2) := dX12_init_455g.2.2.2.1
theorem dX12_init_461 : decode cX12_init 461 = .ok (.bastore, 1) := dX12_init_455g.2.2.2.2.1
theorem dX12_init_462 : decode cX12_init 462 = .ok (.dup, 1) := dX12_init_455g.2.2.2.2.2.1
theorem dX12_init_463 : decode cX12_init 463 = .ok (.bipush 71, 2) := dX12_init_455g.2.2.2.2.2.2.1
theorem dX12_init_465 : decode cX12_init 465 = .ok (.bipush 110, 2) := dX12_init_455g.2.2.2.2.2.2.2.1
theorem dX12_init_467 : decode cX12_init 467 = .ok (.bastore, 1) := dX12_init_455g.2.2.2.2.2.2.2.2.1
theorem dX12_init_468 : decode cX12_init 468 = .ok (.dup, 1) := dX12_init_455g.2.2.2.2.2.2.2.2.2
theorem dX12_init_469g : (decode cX12_init 469 = .ok (.bipush 72, 2)) ∧ (decode cX12_init 471 = .ok (.bipush 97, 2)) ∧ (decode cX12_init 473 = .ok (.bastore, 1)) ∧ (decode cX12_init 474 = .ok (.dup, 1)) ∧ (decode cX12_init 475 = .ok (.bipush 73, 2)) ∧ (decode cX12_init 477 = .ok (.bipush 116, 2)) ∧ (decode cX12_init 479 = .ok (.bastore, 1)) ∧ (decode cX12_init 480 = .ok (.dup, 1)) ∧ (decode cX12_init 481 = .ok (.bipush 74, 2)) ∧ (decode cX12_init 483 = .ok (.bipush 117, 2)) := by decide +kernel
theorem dX12_init_469 : decode cX12_init 469 = .ok (.bipush 72, 2) := dX12_init_469g.1
theorem dX12_init_471 : decode cX12_init 471 = .ok (.bipush 97, 2) := dX12_init_469g.2.1
theorem dX12_init_473 : decode cX12_init 473 = .ok (.bastore, 1) := dX12_init_469g.2.2.1
theorem dX12_init_474 : decode cX12_init 474 = .ok (.dup, 1) := dX12_init_469g.2.2.2.1
theorem dX12_init_475 : decode cX12_init 475 = .ok (.bipush 73, 2) := dX12_init_469g.2.2.2.2.1
theorem dX12_init_477 : decode cX12_init 477 = .ok (.bipush 116, 2) := dX12_init_469g.2.2.2.2.2.1
theorem dX12_init_479 : decode cX12_init 479 = .ok (.bastore, 1) := dX12_init_469g.2.2.2.2.2.2.1
theorem dX12_init_480 : decode cX12_init 480 = .ok (.dup, 1) := dX12_init_469g.2.2.2.2.2.2.2.1
theorem dX12_init_481 : decode cX12_init 481 = .ok (.bipush 74, 2) := dX12_init_469g.2.2.2.2.2.2.2.2.1
theorem dX12_init_483 : decode cX12_init 483 = .ok (.bipush 117, 2) := dX12_init_469g.2.2.2.2.2.2.2.2.2
theorem dX12_init_485g : (decode cX12_init 485 = .ok (.bastore, 1)) ∧ (decode cX12_init 486 = .ok (.dup, 1)) ∧ (decode cX12_init 487 = .ok (.bipush 75, 2)) ∧ (decode cX12_init 489 = .ok (.bipush 114, 2)) ∧ (decode cX12_init 491 = .ok (.bastore, 1)) ∧ (decode cX12_init 492 = .ok (.dup, 1)) ∧ (decode cX12_init 493 = .ok (.bipush 76, 2)) ∧ (decode cX12_init 495 = .ok (.bipush 97, 2)) ∧ (decode cX12_init 497 = .ok (.bastore, 1)) ∧ (decode cX12_init 498 = .ok (.dup, 1)) := by decide +kernel
theorem dX12_init_485 : decode cX12_init 485 = .ok (.bastore, 1) := dX12_init_485g.1
theorem dX12_init_486 : decode cX12_init 486 = .ok (.dup, 1) := dX12_init_485g.2.1
theorem dX12_init_487 : decode cX12_init 487 = .ok (.bipush 75, 2) := dX12_init_485g.2.2.1
theorem dX12_init_489 : decode cX12_init 489 = .ok (.bipush 114, 2) := dX12_init_485g.2.2.2.1
theorem dX12_init_491 : decode cX12_init 491 = .ok (.bastore, 1) := dX12_init_485g.2.2.2.2.1
theorem dX12_init_492 : decode cX12_init 492 = .ok (.dup, 1) := dX12_init_485g.2.2.2.2.2.1
theorem dX12_init_493 : decode cX12_init 493 = .ok (.bipush 76, 2) := dX12_init_485g.2.2.2.2.2.2.1
theorem dX12_init_495 : decode cX12_init 495 = .ok (.bipush 97, 2) := dX12_init_485g.2.2.2.2.2.2.2.1
theorem dX12_init_497 : decode cX12_init 497 = .ok (.bastore, 1) := dX12_init_485g.2.2.2.2.2.2.2.2.1
theorem dX12_init_498 : decode cX12_init 498 = .ok (.dup, 1) := dX12_init_485g.2.2.2.2.2.2.2.2.2
theorem dX12_init_499g : (decode cX12_init 499 = .ok (.bipush 77, 2)) ∧ (decode cX12_init 501 = .ok (.bipush 108, 2)) ∧ (decode cX12_init 503 = .ok (.bastore, 1)) ∧ (decode cX12_init 504 = .ok (.dup, 1)) ∧ (decode cX12_init 505 = .ok (.bipush 78, 2)) ∧ (decode cX12_init 507 = .ok (.bipush 32, 2)) ∧ (decode cX12_init 509 = .ok (.bastore, 1)) ∧ (decode cX12_init 510 = .ok (.dup, 1)) ∧ (decode cX12_init 511 = .ok (.bipush 79, 2)) ∧ (decode cX12_init 513 = .ok (.bipush 100, 2)) := by decide +kernel
theorem dX12_init_499 : decode cX12_init 499 = .ok (.bipush 77, 2) := dX12_init_499g.1
theorem dX12_init_501 : decode cX12_init 501 = .ok (.bipush 108, 2) := dX12_init_499g.2.1
theorem dX12_init_503 : decode cX12_init 503 = .ok (.bastore, 1) := dX12_init_499g.2.2.1
theorem dX12_init_504 : decode cX12_init 504 = .ok (.dup, 1) := dX12_init_499g.2.2.2.1
theorem dX12_init_505 : decode cX12_init 505 = .ok (.bipush 78, 2) := dX12_init_499g.2.2.2.2.1
theorem dX12_init_507 : decode cX12_init 507 = .ok (.bipush 32, 2) := dX12_init_499g.2.2.2.2.2.1
theorem dX12_init_509 : decode cX12_init 509 = .ok (.bastore, 1) := dX12_init_499g.2.2.2.2.2.2.1
theorem dX12_init_510 : decode cX12_init 510 = .ok (.dup, 1) := dX12_init_499g.2.2.2.2.2.2.2.1
theorem dX12_init_511 : decode cX12_init 511 = .ok (.bipush 79, 2) := dX12_init_499g.2.2.2.2.2.2.2.2.1
theorem dX12_init_513 : decode cX12_init 513 = .ok (.bipush 100, 2) := dX12_init_499g.2.2.2.2.2.2.2.2.2
theorem dX12_init_515g : (decode cX12_init 515 = .ok (.bastore, 1)) ∧ (decode cX12_init 516 = .ok (.dup, 1)) ∧ (decode cX12_init 517 = .ok (.bipush 80, 2)) ∧ (decode cX12_init 519 = .ok (.bipush 111, 2)) ∧ (decode cX12_init 521 = .ok (.bastore, 1)) ∧ (decode cX12_init 522 = .ok (.dup, 1)) ∧ (decode cX12_init 523 = .ok (.bipush 81, 2)) ∧ (decode cX12_init 525 = .ok (.bipush 119, 2)) ∧ (decode cX12_init 527 = .ok (.bastore, 1)) ∧ (decode cX12_init 528 = .ok (.dup, 1)) := by decide +kernel
theorem dX12_init_515 : decode cX12_init 515 = .ok (.bastore, 1) := dX12_init_515g.1
theorem dX12_init_516 : decode cX12_init 516 = .ok (.dup, 1) := dX12_init_515g.2.1
theorem dX12_init_517 : decode cX12_init 517 = .ok (.bipush 80, 2) := dX12_init_515g.2.2.1
theorem dX12_init_519 : decode cX12_init 519 = .ok (.bipush 111, 2) := dX12_init_515g.2.2.2.1
theorem dX12_init_521 : decode cX12_init 521 = .ok (.bastore, 1) := dX12_init_515g.2.2.2.2.1
theorem dX12_init_522 : decode cX12_init 522 = .ok (.dup, 1) := dX12_init_515g.2.2.2.2.2.1
theorem dX12_init_523 : decode cX12_init 523 = .ok (.bipush 81, 2) := dX12_init_515g.2.2.2.2.2.2.1
theorem dX12_init_525 : decode cX12_init 525 = .ok (.bipush 119, 2) := dX12_init_515g.2.2.2.2.2.2.2.1
theorem dX12_init_527 : decode cX12_init 527 = .ok (.bastore, 1) := dX12_init_515g.2.2.2.2.2.2.2.2.1
theorem dX12_init_528 : decode cX12_init 528 = .ok (.dup, 1) := dX12_init_515g.2.2.2.2.2.2.2.2.2
theorem dX12_init_529g : (decode cX12_init 529 = .ok (.bipush 82, 2)) ∧ (decode cX12_init 531 = .ok (.bipush 110, 2)) ∧ (decode cX12_init 533 = .ok (.bastore, 1)) ∧ (decode cX12_init 534 = .ok (.dup, 1)) ∧ (decode cX12_init 535 = .ok (.bipush 83, 2)) ∧ (decode cX12_init 537 = .ok (.bipush 32, 2)) ∧ (decode cX12_init 539 = .ok (.bastore, 1)) ∧ (decode cX12_init 540 = .ok (.dup, 1)) ∧ (decode cX12_init 541 = .ok (.bipush 84, 2)) ∧ (decode cX12_init 543 = .ok (.bipush 121, 2)) := by decide +kernel
theorem dX12_init_529 : decode cX12_init 529 = .ok (.bipush 82, 2) := dX12_init_529g.1
theorem dX12_init_531 : decode cX12_init 531 = .ok (.bipush 110, 2) := dX12_init_529g.2.1
theorem dX12_init_533 : decode cX12_init 533 = .ok (.bastore, 1) := dX12_init_529g.2.2.1
theorem dX12_init_534 : decode cX12_init 534 = .ok (.dup, 1) := dX12_init_529g.2.2.2.1
theorem dX12_init_535 : decode cX12_init 535 = .ok (.bipush 83, 2) := dX12_init_529g.2.2.2.2.1
theorem dX12_init_537 : decode cX12_init 537 = .ok (.bipush 32, 2) := dX12_init_529g.2.2.2.2.2.1
theorem dX12_init_539 : decode cX12_init 539 = .ok (.bastore, 1) := dX12_init_529g.2.2.2.2.2.2.1
theorem dX12_init_540 : decode cX12_init 540 = .ok (.dup, 1) := dX12_init_529g.2.2.2.2.2.2.2.1
theorem dX12_init_541 : decode cX12_init 541 = .ok (.bipush 84, 2) := dX12_init_529g.2.2.2.2.2.2.2.2.1
theorem dX12_init_543 : decode cX12_init 543 = .ok (.bipush 121, 2) := dX12_init_529g.2.2.2.2.2.2.2.2.2
theorem dX12_init_545g : (decode cX12_init 545 = .ok (.bastore, 1)) ∧ (decode cX12_init 546 = .ok (.dup, 1)) ∧ (decode cX12_init 547 = .ok (.bipush 85, 2)) ∧ (decode cX12_init 549 = .ok (.bipush 101, 2)) ∧ (decode cX12_init 551 = .ok (.bastore, 1)) ∧ (decode cX12_init 552 = .ok (.dup, 1)) ∧ (decode cX12_init 553 = .ok (.bipush 86, 2)) ∧ (decode cX12_init 555 = .ok (.bipush 97, 2)) ∧ (decode cX12_init 557 = .ok (.bastore, 1)) ∧ (decode cX12_init 558 = .ok (.dup, 1)) := by decide +kernel
theorem dX12_init_545 : decode cX12_init 545 = .ok (.bastore, 1) := dX12_init_545g.1
theorem dX12_init_546 : decode cX12_init 546 = .ok (.dup, 1) := dX12_init_545g.2.1
theorem dX12_init_547 : decode cX12_init 547 = .ok (.bipush 85, 2) := dX12_init_545g.2.2.1
theorem dX12_init_549 : decode cX12_init 549 = .ok (.bipush 101, 2) := dX12_init_545g.2.2.2.1
theorem dX12_init_551 : decode cX12_init 551 = .ok (.bastore, 1) := dX12_init_545g.2.2.2.2.1
theorem dX12_init_552 : decode cX12_init 552 = .ok (.dup, 1) := dX12_init_545g.2.2.2.2.2.1
theorem dX12_init_553 : decode cX12_init 553 = .ok (.bipush 86, 2) := dX12_init_545g.2.2.2.2.2.2.1
theorem dX12_init_555 : decode cX12_init 555 = .ok (.bipush 97, 2) := dX12_init_545g.2.2.2.2.2.2.2.1
theorem dX12_init_557 : decode cX12_init 557 = .ok (.bastore, 1) := dX12_init_545g.2.2.2.2.2.2.2.2.1
theorem dX12_init_558 : decode cX12_init 558 = .ok (.dup, 1) := dX12_init_545g.2.2.2.2.2.2.2.2.2
theorem dX12_init_559g : (decode cX12_init 559 = .ok (.bipush 87, 2)) ∧ (decode cX12_init 561 = .ok (.bipush 114, 2)) ∧ (decode cX12_init 563 = .ok (.bastore, 1)) ∧ (decode cX12_init 564 = .ok (.dup, 1)) ∧ (decode cX12_init 565 = .ok (.bipush 88, 2)) ∧ (decode cX12_init 567 = .ok (.bipush 32, 2)) ∧ (decode cX12_init 569 = .ok (.bastore, 1)) ∧ (decode cX12_init 570 = .ok (.putfield 30, 3)) ∧ (decode cX12_init 573 = .ok (.aload_n 0, 1)) ∧ (decode cX12_init 574 = .ok (.sipush 400, 3)) := by decide +kernel
theorem dX12_init_559 : decode cX12_init 559 = .ok (.bipush 87, 2) := dX12_init_559g.1
theorem dX12_init_561 : decode cX12_init 561 = .ok (.bipush 114, 2) := dX12_init_559g.2.1
theorem dX12_init_563 : decode cX12_init 563 = .ok (.bastore, 1) := dX12_init_559g.2.2.1
theorem dX12_init_564 : decode cX12_init 564 = .ok (.dup, 1) := dX12_init_559g.2.2.2.1
theorem dX12_init_565 : decode cX12_init 565 = .ok (.bipush 88, 2) := dX12_init_559g.2.2.2.2.1
theorem dX12_init_567 : decode cX12_init 567 = .ok (.bipush 32, 2) := dX12_init_559g.2.2.2.2.2.1
theorem dX12_init_569 : decode cX12_init 569 = .ok (.bastore, 1) := dX12_init_559g.2.2.2.2.2.2.1
theorem dX12_init_570 : decode cX12_init 570 = .ok (.putfield 30, 3) := dX12_init_559g.2.2.2.2.2.2.2.1
theorem dX12_init_573 : decode cX12_init 573 = .ok (.aload_n 0, 1) := dX12_init_559g.2.2.2.2.2.2.2.2.1
theorem dX12_init_574 : decode cX12_init 574 = .ok (.sipush 400, 3) := dX12_init_559g.2.2.2.2.2.2.2.2.2
theorem dX12_init_577g : (decode cX12_init 577 = .ok (.newarray .byte, 2)) ∧ (decode cX12_init 579 = .ok (.putfield 34, 3)) ∧ (decode cX12_init 582 = .ok (.aload_n 0, 1)) ∧ (decode cX12_init 583 = .ok (.iconst 5, 1)) ∧ (decode cX12_init 584 = .ok (.newarray .int, 2)) ∧ (decode cX12_init 586 = .ok (.putfield 37, 3)) ∧ (decode cX12_init 589 = .ok (.aload_n 0, 1)) ∧ (decode cX12_init 590 = .ok (.iconst (-1), 1)) ∧ (decode cX12_init 591 = .ok (.putfield 40, 3)) ∧ (decode cX12_init 594 = .ok (.aload_n 0, 1)) := by decide +kernel
theorem dX12_init_577 : decode cX12_init 577 = .ok (.newarray .byte, 2) := dX12_init_577g.1
theorem dX12_init_579 : decode cX12_init 579 = .ok (.putfield 34, 3) := dX12_init_577g.2.1
theorem dX12_init_582 : decode cX12_init 582 = .ok (.aload_n 0, 1) := dX12_init_577g.2.2.1
theorem dX12_init_583 : decode cX12_init 583 = .ok (.iconst 5, 1) := dX12_init_577g.2.2.2.1
theorem dX12_init_584 : decode cX12_init 584 = .ok (.newarray .int, 2) := dX12_init_577g.2.2.2.2.1
theorem dX12_init_586 : decode cX12_init 586 = .ok (.putfield 37, 3) := dX12_init_577g.2.2.2.2.2.1
theorem dX12_init_589 : decode cX12_init 589 = .ok (.aload_n 0, 1) := dX12_init_577g.2.2.2.2.2.2.1
theorem dX12_init_590 : decode cX12_init 590 = .ok (.iconst (-1), 1) := dX12_init_577g.2.2.2.2.2.2.2.1
theorem dX12_init_591 : decode cX12_init 591 = .ok (.putfield 40, 3) := dX12_init_577g.2.2.2.2.2.2.2.2.1
theorem dX12_init_594 : decode cX12_init 594 = .ok (.aload_n 0, 1) := dX12_init_577g.2.2.2.2.2.2.2.2.2
theorem dX12_init_595g : (decode cX12_init 595 = .ok (.sipush 401, 3)) ∧ (decode cX12_init 598 = .ok (.newarray .int, 2)) ∧ (decode cX12_init 600 = .ok (.putfield 43, 3)) ∧ (decode cX12_init 603 = .ok (.aload_n 0, 1)) ∧ (decode cX12_init 604 = .ok (.sipush 401, 3)) ∧ (decode cX12_init 607 = .ok (.newarray .int, 2)) ∧ (decode cX12_init 609 = .ok (.putfield 46, 3)) ∧ (decode cX12_init 612 = .ok (.aload_n 0, 1)) ∧ (decode cX12_init 613 = .ok (.sipush 401, 3)) ∧ (decode cX12_init 616 = .ok (.newarray .int, 2)) := by decide +kernel
theorem dX12_init_595 : decode cX12_init 595 = .ok (.sipush 401, 3) := dX12_init_595g.1
theorem dX12_init_598 : decode cX12_init 598 = .ok (.newarray .int, 2) := dX12_init_595g.2.1
theorem dX12_init_600 : decode cX12_init 600 = .ok (.putfield 43, 3) := dX12_init_595g.2.2.1
theorem dX12_init_603 : decode cX12_init 603 = .ok (.aload_n 0, 1) := dX12_init_595g.2.2.2.1
theorem dX12_init_604 : decode cX12_init 604 = .ok (.sipush 401, 3) := dX12_init_595g.2.2.2.2.1
theorem dX12_init_607 : decode cX12_init 607 = .ok (.newarray .int, 2) := dX12_init_595g.2.2.2.2.2.1
theorem dX12_init_609 : decode cX12_init 609 = .ok (.putfield 46, 3) := dX12_init_595g.2.2.2.2.2.2.1
theorem dX12_init_612 : decode cX12_init 612 = .ok (.aload_n 0, 1) := dX12_init_595g.2.2.2.2.2.2.2.1
theorem dX12_init_613 : decode cX12_init 613 = .ok (.sipush 401, 3) := dX12_init_595g.2.2.2.2.2.2.2.2.1
theorem dX12_init_616 : decode cX12_init 616 = .ok (.newarray .int, 2) := dX12_init_595g.2.2.2.2.2.2.2.2.2
theorem dX12_init_618g : (decode cX12_init 618 = .ok (.putfield 49, 3)) ∧ (decode cX12_init 621 = .ok (.aload_n 0, 1)) ∧ (decode cX12_init 622 = .ok (.bipush 9, 2)) ∧ (decode cX12_init 624 = .ok (.newarray .int, 2)) ∧ (decode cX12_init 626 = .ok (.putfield 52, 3)) ∧ (decode cX12_init 629 = .ok (.aload_n 0, 1)) ∧ (decode cX12_init 630 = .ok (.sipush 2304, 3)) ∧ (decode cX12_init 633 = .ok (.newarray .int, 2)) ∧ (decode cX12_init 635 = .ok (.putfield 55, 3)) ∧ (decode cX12_init 638 = .ok (.aload_n 0, 1)) := by decide +kernel
theorem dX12_init_618 : decode cX12_init 618 = .ok (.putfield 49, 3) := dX12_init_618g.1
theorem dX12_init_621 : decode cX12_init 621 = .ok (.aload_n 0, 1) := dX12_init_618g.2.1
theorem dX12_init_622 : decode cX12_init 622 = .ok (.bipush 9, 2) := dX12_init_618g.2.2.1
theorem dX12_init_624 : decode cX12_init 624 = .ok (.newarray .int, 2) := dX12_init_618g.2.2.2.1
theorem dX12_init_626 : decode cX12_init 626 = .ok (.putfield 52, 3) := dX12_init_618g.2.2.2.2.1
theorem dX12_init_629 : decode cX12_init 629 = .ok (.aload_n 0, 1) := dX12_init_618g.2.2.2.2.2.1
theorem dX12_init_630 : decode cX12_init 630 = .ok (.sipush 2304, 3) := dX12_init_618g.2.2.2.2.2.2.1
theorem dX12_init_633 : decode cX12_init 633 = .ok (.newarray .int, 2) := dX12_init_618g.2.2.2.2.2.2.2.1
theorem dX12_init_635 : decode cX12_init 635 = .ok (.putfield 55, 3) := dX12_init_618g.2.2.2.2.2.2.2.2.1
theorem dX12_init_638 : decode cX12_init 638 = .ok (.aload_n 0, 1) := dX12_init_618g.2.2.2.2.2.2.2.2.2
theorem dX12_init_639g : (decode cX12_init 639 = .ok (.sipush 2304, 3)) ∧ (decode cX12_init 642 = .ok (.newarray .int, 2)) ∧ (decode cX12_init 644 = .ok (.putfield 58, 3)) ∧ (decode cX12_init 647 = .ok (.aload_n 0, 1)) ∧ (decode cX12_init 648 = .ok (.sipush 4608, 3)) ∧ (decode cX12_init 651 = .ok (.newarray .int, 2)) ∧ (decode cX12_init 653 = .ok (.putfield 61, 3)) ∧ (decode cX12_init 656 = .ok (.aload_n 0, 1)) ∧ (decode cX12_init 657 = .ok (.sipush 2304, 3)) ∧ (decode cX12_init 660 = .ok (.newarray .boolean, 2)) := by decide +kernel
theorem dX12_init_639 : decode cX12_init 639 = .ok (.sipush 2304, 3) := dX12_init_639g.1
theorem dX12_init_642 : decode cX12_init 642 = .ok (.newarray .int, 2) := dX12_init_639g.2.1
theorem dX12_init_644 : decode cX12_init 644 = .ok (.putfield 58, 3) := dX12_init_639g.2.2.1
theorem dX12_init_647 : decode cX12_init 647 = .ok (.aload_n 0, 1) := dX12_init_639g.2.2.2.1
theorem dX12_init_648 : decode cX12_init 648 = .ok (.sipush 4608, 3) := dX12_init_639g.2.2.2.2.1
theorem dX12_init_651 : decode cX12_init 651 = .ok (.newarray .int, 2) := dX12_init_639g.2.2.2.2.2.1
theorem dX12_init_653 : decode cX12_init 653 = .ok (.putfield 61, 3) := dX12_init_639g.2.2.2.2.2.2.1
theorem dX12_init_656 : decode cX12_init 656 = .ok (.aload_n 0, 1) := dX12_init_639g.2.2.2.2.2.2.2.1
theorem dX12_init_657 : decode cX12_init 657 = .ok (.sipush 2304, 3) := dX12_init_639g.2.2.2.2.2.2.2.2.1
theorem dX12_init_660 : decode cX12_init 660 = .ok (.newarray .boolean, 2) := dX12_init_639g.2.2.2.2.2.2.2.2.2
theorem dX12_init_662g : (decode cX12_init 662 = .ok (.putfield 64, 3)) ∧ (decode cX12_init 665 = .ok (.aload_n 0, 1)) ∧ (decode cX12_init 666 = .ok (.sipush 2400, 3)) ∧ (decode cX12_init 669 = .ok (.newarray .int, 2)) ∧ (decode cX12_init 671 = .ok (.putfield 67, 3)) ∧ (decode cX12_init 674 = .ok (.aload_n 0, 1)) ∧ (decode cX12_init 675 = .ok (.iconst (-1), 1)) ∧ (decode cX12_init 676 = .ok (.putfield 70, 3)) ∧ (decode cX12_init 679 = .ok (.aload_n 0, 1)) ∧ (decode cX12_init 680 = .ok (.sipush 1024, 3)) := by decide +kernel
theorem dX12_init_662 : decode cX12_init 662 = .ok (.putfield 64, 3) := dX12_init_662g.1
theorem dX12_init_665 : decode cX12_init 665 = .ok (.aload_n 0, 1) := dX12_init_662g.2.1
theorem dX12_init_666 : decode cX12_init 666 = .ok (.sipush 2400, 3) := dX12_init_662g.2.2.1
theorem dX12_init_669 : decode cX12_init 669 = .ok (.newarray .int, 2) := dX12_init_662g.2.2.2.1
theorem dX12_init_671 : decode cX12_init 671 = .ok (.putfield 67, 3) := dX12_init_662g.2.2.2.2.1
theorem dX12_init_674 : decode cX12_init 674 = .ok (.aload_n 0, 1) := dX12_init_662g.2.2.2.2.2.1
theorem dX12_init_675 : decode cX12_init 675 = .ok (.iconst (-1), 1) := dX12_init_662g.2.2.2.2.2.2.1
theorem dX12_init_676 : decode cX12_init 676 = .ok (.putfield 70, 3) := dX12_init_662g.2.2.2.2.2.2.2.1
theorem dX12_init_679 : decode cX12_init 679 = .ok (.aload_n 0, 1) := dX12_init_662g.2.2.2.2.2.2.2.2.1
theorem dX12_init_680 : decode cX12_init 680 = .ok (.sipush 1024, 3) := dX12_init_662g.2.2.2.2.2.2.2.2.2
theorem dX12_init_683g : (decode cX12_init 683 = .ok (.newarray .int, 2)) ∧ (decode cX12_init 685 = .ok (.putfield 73, 3)) ∧ (decode cX12_init 688 = .ok (.aload_n 0, 1)) ∧ (decode cX12_init 689 = .ok (.bipush 6, 2)) ∧ (decode cX12_init 691 = .ok (.newarray .int, 2)) ∧ (decode cX12_init 693 = .ok (.putfield 76, 3)) ∧ (decode cX12_init 696 = .ok (.aload_n 0, 1)) ∧ (decode cX12_init 697 = .ok (.bipush 6, 2)) ∧ (decode cX12_init 699 = .ok (.newarray .int, 2)) ∧ (decode cX12_init 701 = .ok (.putfield 79, 3)) := by decide +kernel
theorem dX12_init_683 : decode cX12_init 683 = .ok (.newarray .int, 2) := dX12_init_683g.1
theorem dX12_init_685 : decode cX12_init 685 = .ok (.putfield 73, 3) := dX12_init_683g.2.1
theorem dX12_init_688 : decode cX12_init 688 = .ok (.aload_n 0, 1) := dX12_init_683g.2.2.1
theorem dX12_init_689 : decode cX12_init 689 = .ok (.bipush 6, 2) := dX12_init_683g.2.2.2.1
theorem dX12_init_691 : decode cX12_init 691 = .ok (.newarray .int, 2) := dX12_init_683g.2.2.2.2.1
theorem dX12_init_693 : decode cX12_init 693 = .ok (.putfield 76, 3) := dX12_init_683g.2.2.2.2.2.1
theorem dX12_init_696 : decode cX12_init 696 = .ok (.aload_n 0, 1) := dX12_init_683g.2.2.2.2.2.2.1
theorem dX12_init_697 : decode cX12_init 697 = .ok (.bipush 6, 2) := dX12_init_683g.2.2.2.2.2.2.2.1
theorem dX12_init_699 : decode cX12_init 699 = .ok (.newarray .int, 2) := dX12_init_683g.2.2.2.2.2.2.2.2.1
theorem dX12_init_701 : decode cX12_init 701 = .ok (.putfield 79, 3) := dX12_init_683g.2.2.2.2.2.2.2.2.2
theorem dX12_init_704g : (decode cX12_init 704 = .ok (.aload_n 0, 1)) ∧ (decode cX12_init 705 = .ok (.bipush 6, 2)) ∧ (decode cX12_init 707 = .ok (.newarray .int, 2)) ∧ (decode cX12_init 709 = .ok (.putfield 82, 3)) ∧ (decode cX12_init 712 = .ok (.aload_n 0, 1)) ∧ (decode cX12_init 713 = .ok (.bipush 6, 2)) ∧ (decode cX12_init 715 = .ok (.newarray .int, 2)) ∧ (decode cX12_init 717 = .ok (.putfield 85, 3)) ∧ (decode cX12_init 720 = .ok (.aload_n 0, 1)) ∧ (decode cX12_init 721 = .ok (.sipush 2304, 3)) := by decide +kernel
theorem dX12_init_704 : decode cX12_init 704 = .ok (.aload_n 0, 1) := dX12_init_704g.1
theorem dX12_init_705 : decode cX12_init 705 = .ok (.bipush 6, 2) := dX12_init_704g.2.1
theorem dX12_init_707 : decode cX12_init 707 = .ok (.newarray .int, 2) := dX12_init_704g.2.2.1
theorem dX12_init_709 : decode cX12_init 709 = .ok (.putfield 82, 3) := dX12_init_704g.2.2.2.1
theorem dX12_init_712 : decode cX12_init 712 = .ok (.aload_n 0, 1) := dX12_init_704g.2.2.2.2.1
theorem dX12_init_713 : decode cX12_init 713 = .ok (.bipush 6, 2) := dX12_init_704g.2.2.2.2.2.1
theorem dX12_init_715 : decode cX12_init 715 = .ok (.newarray .int, 2) := dX12_init_704g.2.2.2.2.2.2.1
theorem dX12_init_717 : decode cX12_init 717 = .ok (.putfield 85, 3) := dX12_init_704g.2.2.2.2.2.2.2.1
theorem dX12_init_720 : decode cX12_init 720 = .ok (.aload_n 0, 1) := dX12_init_704g.2.2.2.2.2.2.2.2.1
theorem dX12_init_721 : decode cX12_init 721 = .ok (.sipush 2304, 3) := dX12_init_704g.2.2.2.2.2.2.2.2.2
theorem dX12_init_724g : (decode cX12_init 724 = .ok (.newarray .boolean, 2)) ∧ (decode cX12_init 726 = .ok (.putfield 88, 3)) ∧ (decode cX12_init 729 = .ok (.aload_n 0, 1)) ∧ (decode cX12_init 730 = .ok (.bipush 98, 2)) ∧ (decode cX12_init 732 = .ok (.newarray .int, 2)) ∧ (decode cX12_init 734 = .ok (.putfield 91, 3)) ∧ (decode cX12_init 737 = .ok (.aload_n 0, 1)) ∧ (decode cX12_init 738 = .ok (.bipush 25, 2)) ∧ (decode cX12_init 740 = .ok (.newarray .int, 2)) ∧ (decode cX12_init 742 = .ok (.putfield 94, 3)) := by decide +kernel
theorem dX12_init_724 : decode cX12_init 724 = .ok (.newarray .boolean, 2) := dX12_init_724g.1
theorem dX12_init_726 : decode cX12_init 726 = .ok (.putfield 88, 3) := dX12_init_724g.2.1
theorem dX12_init_729 : decode cX12_init 729 = .ok (.aload_n 0, 1) := dX12_init_724g.2.2.1
theorem dX12_init_730 : decode cX12_init 730 = .ok (.bipush 98, 2) := dX12_init_724g.2.2.2.1
theorem dX12_init_732 : decode cX12_init 732 = .ok (.newarray .int, 2) := dX12_init_724g.2.2.2.2.1
theorem dX12_init_734 : decode cX12_init 734 = .ok (.putfield 91, 3) := dX12_init_724g.2.2.2.2.2.1
theorem dX12_init_737 : decode cX12_init 737 = .ok (.aload_n 0, 1) := dX12_init_724g.2.2.2.2.2.2.1
theorem dX12_init_738 : decode cX12_init 738 = .ok (.bipush 25, 2) := dX12_init_724g.2.2.2.2.2.2.2.1
theorem dX12_init_740 : decode cX12_init 740 = .ok (.newarray .int, 2) := dX12_init_724g.2.2.2.2.2.2.2.2.1
theorem dX12_init_742 : decode cX12_init 742 = .ok (.putfield 94, 3) := dX12_init_724g.2.2.2.2.2.2.2.2.2
theorem dX12_init_745g : (decode cX12_init 745 = .ok (.aload_n 0, 1)) ∧ (decode cX12_init 746 = .ok (.iconst (-1), 1)) ∧ (decode cX12_init 747 = .ok (.putfield 97, 3)) ∧ (decode cX12_init 750 = .ok (.aload_n 0, 1)) ∧ (decode cX12_init 751 = .ok (.bipush 24, 2)) ∧ (decode cX12_init 753 = .ok (.newarray .int, 2)) ∧ (decode cX12_init 755 = .ok (.putfield 100, 3)) ∧ (decode cX12_init 758 = .ok (.aload_n 0, 1)) ∧ (decode cX12_init 759 = .ok (.getfield 20, 3)) ∧ (decode cX12_init 762 = .ok (.iconst 1, 1)) := by decide +kernel
theorem dX12_init_745 : decode cX12_init 745 = .ok (.aload_n 0, 1) := dX12_init_745g.1
theorem dX12_init_746 : decode cX12_init 746 = .ok (.iconst (-1), 1) := dX12_init_745g.2.1
theorem dX12_init_747 : decode cX12_init 747 = .ok (.putfield 97, 3) := dX12_init_745g.2.2.1
theorem dX12_init_750 : decode cX12_init 750 = .ok (.aload_n 0, 1) := dX12_init_745g.2.2.2.1
theorem dX12_init_751 : decode cX12_init 751 = .ok (.bipush 24, 2) := dX12_init_745g.2.2.2.2.1
theorem dX12_init_753 : decode cX12_init 753 = .ok (.newarray .int, 2) := dX12_init_745g.2.2.2.2.2.1
theorem dX12_init_755 : decode cX12_init 755 = .ok (.putfield 100, 3) := dX12_init_745g.2.2.2.2.2.2.1
theorem dX12_init_758 : decode cX12_init 758 = .ok (.aload_n 0, 1) := dX12_init_745g.2.2.2.2.2.2.2.1
theorem dX12_init_759 : decode cX12_init 759 = .ok (.getfield 20, 3) := dX12_init_745g.2.2.2.2.2.2.2.2.1
theorem dX12_init_762 : decode cX12_init 762 = .ok (.iconst 1, 1) := dX12_init_745g.2.2.2.2.2.2.2.2.2
theorem dX12_init_763g : (decode cX12_init 763 = .ok (.bipush 23, 2)) ∧ (decode cX12_init 765 = .ok (.iastore, 1)) ∧ (decode cX12_init 766 = .ok (.aload_n 0, 1)) ∧ (decode cX12_init 767 = .ok (.getfield 20, 3)) ∧ (decode cX12_init 770 = .ok (.bipush 6, 2)) ∧ (decode cX12_init 772 = .ok (.bipush 23, 2)) ∧ (decode cX12_init 774 = .ok (.iastore, 1)) ∧ (decode cX12_init 775 = .ok (.aload_n 0, 1)) ∧ (decode cX12_init 776 = .ok (.getfield 20, 3)) ∧ (decode cX12_init 779 = .ok (.sipush 306, 3)) := by decide +kernel
theorem dX12_init_763 : decode cX12_init 763 = .ok (.bipush 23, 2) := dX12_init_763g.1
theorem dX12_init_765 : decode cX12_init 765 = .ok (.iastore, 1) := dX12_init_763g.2.1
theorem dX12_init_766 : decode cX12_init 766 = .ok (.aload_n 0, 1) := dX12_init_763g.2.2.1
theorem dX12_init_767 : decode cX12_init 767 = .ok (.getfield 20, 3) := dX12_init_763g.2.2.2.1
theorem dX12_init_770 : decode cX12_init 770 = .ok (.bipush 6, 2) := dX12_init_763g.2.2.2.2.1
theorem dX12_init_772 : decode cX12_init 772 = .ok (.bipush 23, 2) := dX12_init_763g.2.2.2.2.2.1
theorem dX12_init_774 : decode cX12_init 774 = .ok (.iastore, 1) := dX12_init_763g.2.2.2.2.2.2.1
theorem dX12_init_775 : decode cX12_init 775 = .ok (.aload_n 0, 1) := dX12_init_763g.2.2.2.2.2.2.2.1
theorem dX12_init_776 : decode cX12_init 776 = .ok (.getfield 20, 3) := dX12_init_763g.2.2.2.2.2.2.2.2.1
theorem dX12_init_779 : decode cX12_init 779 = .ok (.sipush 306, 3) := dX12_init_763g.2.2.2.2.2.2.2.2.2
theorem dX12_init_782g : (decode cX12_init 782 = .ok (.iconst 1, 1)) ∧ (decode cX12_init 783 = .ok (.iastore, 1)) ∧ (decode cX12_init 784 = .ok (.aload_n 0, 1)) ∧ (decode cX12_init 785 = .ok (.getfield 20, 3)) ∧ (decode cX12_init 788 = .ok (.sipush 316, 3)) ∧ (decode cX12_init 791 = .ok (.iconst (-1), 1)) ∧ (decode cX12_init 792 = .ok (.iastore, 1)) ∧ (decode cX12_init 793 = .ok (.return_, 1)) := by decide +kernel
theorem dX12_init_782 : decode cX12_init 782 = .ok (.iconst 1, 1) := dX12_init_782g.1
theorem dX12_init_783 : decode cX12_init 783 = .ok (.iastore, 1) := dX12_init_782g.2.1
theorem dX12_init_784 : decode cX12_init 784 = .ok (.aload_n 0, 1) := dX12_init_782g.2.2.1
theorem dX12_init_785 : decode cX12_init 785 = .ok (.getfield 20, 3) := dX12_init_782g.2.2.2.1
theorem dX12_init_788 : decode cX12_init 788 = .ok (.sipush 316, 3) := dX12_init_782g.2.2.2.2.1
theorem dX12_init_791 : decode cX12_init 791 = .ok (.iconst (-1), 1) := dX12_init_782g.2.2.2.2.2.1
theorem dX12_init_792 : decode cX12_init 792 = .ok (.iastore, 1) := dX12_init_782g.2.2.2.2.2.2.1
theorem dX12_init_793 : decode cX12_init 793 = .ok (.return_, 1) := dX12_init_782g.2.2.2.2.2.2.2
def m_blank : List Value := [.int 0, .int 0, .null, .null, .null, .null, .int 0, .null, .null, .null, .int 0, .int 0, .null, .null, .null, .int 0, .int 0, .int 0, .int 0, .int 0, .int 0, .int 0, .null, .null, .null, .null, .null, .null, .int 0, .int 0, .int 0, .int 0, .int 0, .int 0, .null, .null, .null, .null, .null, .null, .int 0, .int 0, .null, .null, .int 0, .int 0, .int 0, .int 0, .int 0, .null, .int 0, .int 0]
set_option maxHeartbeats 4000000 in
set_option maxRecDepth 100000 in
theorem c_X12_init (l : Launch) (E : Nat → Nat) (D : va_G) (Gi : th_G) (h0 sz : Nat) (hn0 : Gi h0 = none) (hGi : ∀ r : Nat, Gi r = none) (hE : ∀ j : Nat, 10 ≤ j → j < 15 → E j = 0) : Met l yX12_init (tb (.code yX12_init cX12_init 1 none)) ({ frames := 1, cells := 25, slots := 34503, locals := 40 } : Room) (va_Pc [.ref h0] (fun U => U.heap.size = sz ∧ th_PM E D Gi U ∧ va_at D vwCl (h0, .inr (12, m_blank)) U.heap)) (QMM E D Gi h0 sz) 25 34503 (mA Gi h0 sz) := by
  refine Met.ofW (cc := cX12_init) (maxL := 1) (ret := none) (by decide) rfl ?_
  intro p e s m args below meth c s₁ B hml hv
  obtain ⟨hav, rfl, ⟨hI, hN, hK⟩, hO⟩ := hv
  have hx := B.exec
  have hb := B.bytes
  have hr := B.returns
  have hts := atoms_spec (ws := tb (.code yX12_init cX12_init 1 none)) B.pre
  have hown : s.vm.findClass RX12 = some m.cls := findClass_of_methodNamed B.named
  have hlocks := B.notSynchronized
  have hin : meth.name = "<init>" := (name_of_methodNamed B.named B.method).1
  have hl := lv_entry ([.ref h0]) (n := 1) (Nat.le_of_ble_eq_true rfl)
  rw [show entryFrame m args 1 = entryFrame m ([.ref h0] : List Value).toArray 1 from by rw [hav], lg_entry_eq]
  generalize (lg_sl ([.ref h0]) ++ List.replicate (1 - (lg_sl ([.ref h0])).length) Slot.unset).toArray = ls at hl ⊢
  have hl : lv_has ls 1 [(0, .ref h0)] := hl
  generalize hR : (headSpec (tb (.code yX12_init cX12_init 1 none)) ({ frames := 1, cells := 25, slots := 34503, locals := 40 } : Room)).room = R
  have hR := hR.symm
  generalize hAe : mA Gi h0 s.heap.size = A
  have hA : ∀ q : Nat, s.heap.size ≤ q → A q := fun q h => by rw [← hAe]; exact Or.inr (Or.inr h)
  have hA0 : A h0 := by rw [← hAe]; exact Or.inr (Or.inl rfl)
  have hS : va_S A s.heap s.heap [] := va_S.rf
  have hO : va_at D vwCl (h0, .inr (12, [.int 0, .int 0, .null, .null, .null, .null, .int 0, .null, .null, .null, .int 0, .int 0, .null, .null, .null, .int 0, .int 0, .int 0, .int 0, .int 0, .int 0, .int 0, .null, .null, .null, .null, .null, .null, .int 0, .int 0, .int 0, .int 0, .int 0, .int 0, .null, .null, .null, .null, .null, .null, .int 0, .int 0, .null, .null, .int 0, .int 0, .int 0, .int 0, .int 0, .null, .int 0, .int 0])) s.heap := hO
  obtain ⟨G, hGz, hle0, hI, hn0, hAG⟩ : ∃ G : th_G, (∀ (t r m : Nat), G r ≠ some (t, m)) ∧ gle Gi G ∧ th_I (okM E) D G [] s.heap ∧ G h0 = none ∧ (∀ (r : Nat) (k : th_K), G r = some k → A r) := ⟨Gi, fun t r m z => (by rw [hGi r] at z; cases z), gle.rf, hI, hn0, fun r k h => by rw [← hAe]; exact Or.inl ⟨k, h⟩⟩
  have hZ0 : ∀ (t r m : Nat), G r ≠ some (t, m) := fun t r m z => hGz t r m z
  have hZ1 := hZ0 1
  have hZ2 := hZ0 2
  have hZ11 := hZ0 11
  have a10 := hE 10 (by decide) (by decide)
  have a11 := hE 11 (by decide) (by decide)
  have a12 := hE 12 (by decide) (by decide)
  have a13 := hE 13 (by decide) (by decide)
  have a14 := hE 14 (by decide) (by decide)
  refine lv_aload_n hx hb dX12_init_0 rfl (lv_at hl 0 rfl) ?_
  refine W.objInit hx hb hown (hts _ (tb_c wd_1232)) (hts _ (tb_c wd_28)) (hts _ (tb_c wd_oinit)) rfl (by rw [hml]; exact hl.1) rfl dX12_init_1 (by rw [hR]; exact Nat.le_of_ble_eq_true rfl) (by rw [hR]; exact Nat.le_of_ble_eq_true rfl) ?_
  refine W.eq (g2 := F0 m 4 ls []) rfl ?_
  refine lv_aload_n hx hb dX12_init_4 rfl (lv_at hl 0 rfl) ?_
  refine lv_bipush (v := 7) hx hb dX12_init_5 (by decide) ?_
  refine mm_newi (t := 0) hx hb (hts _ (tb_c wd_55)) hK hI hS hA hAG 7 (by decide) (by decide) (by decide) (by rw [hR]; exact Nat.le_of_ble_eq_true rfl) (by rw [hR]; exact Nat.le_of_ble_eq_true rfl) (fun _ => ok_m0) dX12_init_7 (fun G a1 H hle hq2 hAG hqe hGne o1 hI hS => ?_)
  have hlt0 : h0 < _ := hO.lt
  have hn0 : G h0 = none := (hGne h0 (by omega)).trans hn0
  have hO := hO.kept (o1 _ hlt0)
  have hle0 := hle0.tr hle
  have hZ1 := uq_no hGne hq2 (by decide) hZ1
  have hZ2 := uq_no hGne hq2 (by decide) hZ2
  have hZ11 := uq_no hGne hq2 (by decide) hZ11
  refine th_putF (ty := (.array .int)) hx hb hts inT12 tyX12 tyX12_ok nmX12 hown hK hO hS hA0 rfl 2 (by decide) (hts _ (tb_c wd_1235)) rfl hin rfl (by decide +kernel) rfl rfl (Nat.le_of_ble_eq_true rfl) dX12_init_9 (fun H locs hO oq hS => ?_)
  have hI := mm_raw hI hn0 oq
  have hO : va_at D vwCl (h0, .inr (12, [.int 0, .int 0, .ref a1, .null, .null, .null, .int 0, .null, .null, .null, .int 0, .int 0, .null, .null, .null, .int 0, .int 0, .int 0, .int 0, .int 0, .int 0, .int 0, .null, .null, .null, .null, .null, .null, .int 0, .int 0, .int 0, .int 0, .int 0, .int 0, .null, .null, .null, .null, .null, .null, .int 0, .int 0, .null, .null, .int 0, .int 0, .int 0, .int 0, .int 0, .null, .int 0, .int 0])) H := hO
  refine lv_aload_n hx hb dX12_init_12 rfl (lv_at hl 0 rfl) ?_
  refine lv_sipush (v := 5123) hx hb dX12_init_13 (by decide) ?_
  refine mm_newi (t := 1) hx hb (hts _ (tb_c wd_55)) hK hI hS hA hAG 5123 (by decide) (by decide) (by decide) (by rw [hR]; exact Nat.le_of_ble_eq_true rfl) (by rw [hR]; exact Nat.le_of_ble_eq_true rfl) (fun _ => ok_m1 (by rw [a10]; exact kOk.zero)) dX12_init_16 (fun G a3 H hle hq4 hAG hqe hGne o1 hI hS => ?_)
  have hlt0 : h0 < _ := hO.lt
  have hn0 : G h0 = none := (hGne h0 (by omega)).trans hn0
  have hO := hO.kept (o1 _ hlt0)
  have hq2 := hle _ _ hq2
  have hle0 := hle0.tr hle
  have hU1 := uq_new hGne hZ1
  have hZ2 := uq_no hGne hq4 (by decide) hZ2
  have hZ11 := uq_no hGne hq4 (by decide) hZ11
  refine th_putF (ty := (.array .int)) hx hb hts inT12 tyX12 tyX12_ok nmX12 hown hK hO hS hA0 rfl 3 (by decide) (hts _ (tb_c wd_1236)) rfl hin rfl (by decide +kernel) rfl rfl (Nat.le_of_ble_eq_true rfl) dX12_init_18 (fun H locs hO oq hS => ?_)
  have hI := mm_raw hI hn0 oq
  have hO : va_at D vwCl (h0, .inr (12, [.int 0, .int 0, .ref a1, .ref a3, .null, .null, .int 0, .null, .null, .null, .int 0, .int 0, .null, .null, .null, .int 0, .int 0, .int 0, .int 0, .int 0, .int 0, .int 0, .null, .null, .null, .null, .null, .null, .int 0, .int 0, .int 0, .int 0, .int 0, .int 0, .null, .null, .null, .null, .null, .null, .int 0, .int 0, .null, .null, .int 0, .int 0, .int 0, .int 0, .int 0, .null, .int 0, .int 0])) H := hO
  refine lv_aload_n hx hb dX12_init_21 rfl (lv_at hl 0 rfl) ?_
  refine lv_sipush (v := 10246) hx hb dX12_init_22 (by decide) ?_
  refine mm_newi (t := 2) hx hb (hts _ (tb_c wd_55)) hK hI hS hA hAG 10246 (by decide) (by decide) (by decide) (by rw [hR]; exact Nat.le_of_ble_eq_true rfl) (by rw [hR]; exact Nat.le_of_ble_eq_true rfl) (fun _ => ok_m2 (by rw [a11, a12]; exact iOk.zero)) dX12_init_25 (fun G a5 H hle hq6 hAG hqe hGne o1 hI hS => ?_)
  have hlt0 : h0 < _ := hO.lt
  have hn0 : G h0 = none := (hGne h0 (by omega)).trans hn0
  have hO := hO.kept (o1 _ hlt0)
  have hq2 := hle _ _ hq2
  have hq4 := hle _ _ hq4
  have hle0 := hle0.tr hle
  have hU1 := uq_keep hGne hq6 (by decide) hU1
  have hU2 := uq_new hGne hZ2
  have hZ11 := uq_no hGne hq6 (by decide) hZ11
  refine th_putF (ty := (.array .int)) hx hb hts inT12 tyX12 tyX12_ok nmX12 hown hK hO hS hA0 rfl 4 (by decide) (hts _ (tb_c wd_1237)) rfl hin rfl (by decide +kernel) rfl rfl (Nat.le_of_ble_eq_true rfl) dX12_init_27 (fun H locs hO oq hS => ?_)
  have hI := mm_raw hI hn0 oq
  have hO : va_at D vwCl (h0, .inr (12, [.int 0, .int 0, .ref a1, .ref a3, .ref a5, .null, .int 0, .null, .null, .null, .int 0, .int 0, .null, .null, .null, .int 0, .int 0, .int 0, .int 0, .int 0, .int 0, .int 0, .null, .null, .null, .null, .null, .null, .int 0, .int 0, .int 0, .int 0, .int 0, .int 0, .null, .null, .null, .null, .null, .null, .int 0, .int 0, .null, .null, .int 0, .int 0, .int 0, .int 0, .int 0, .null, .int 0, .int 0])) H := hO
  refine lv_aload_n hx hb dX12_init_30 rfl (lv_at hl 0 rfl) ?_
  refine lv_iconst (v := 2) hx hb dX12_init_31 (by decide) ?_
  refine mm_newz (t := 11) hx hb (hts _ (tb_c wd_1390)) hK hI hS hA hAG 2 (by decide) (by decide) (by decide) (by rw [hR]; exact Nat.le_of_ble_eq_true rfl) (by rw [hR]; exact Nat.le_of_ble_eq_true rfl) (fun _ => ok_m11 ⟨by rw [a13]; decide, by rw [a14]; decide, by omega, by omega⟩) dX12_init_32 (fun G a7 H hle hq8 hAG hqe hGne o1 hI hS => ?_)
  have hlt0 : h0 < _ := hO.lt
  have hn0 : G h0 = none := (hGne h0 (by omega)).trans hn0
  have hO := hO.kept (o1 _ hlt0)
  have hq2 := hle _ _ hq2
  have hq4 := hle _ _ hq4
  have hq6 := hle _ _ hq6
  have hle0 := hle0.tr hle
  have hU1 := uq_keep hGne hq8 (by decide) hU1
  have hU2 := uq_keep hGne hq8 (by decide) hU2
  have hU11 := uq_new hGne hZ11
  refine th_putF (ty := (.array .boolean)) hx hb hts inT12 tyX12 tyX12_ok nmX12 hown hK hO hS hA0 rfl 5 (by decide) (hts _ (tb_c wd_1238)) rfl hin rfl (by decide +kernel) rfl rfl (Nat.le_of_ble_eq_true rfl) dX12_init_34 (fun H locs hO oq hS => ?_)
  have hI := mm_raw hI hn0 oq
  have hO : va_at D vwCl (h0, .inr (12, [.int 0, .int 0, .ref a1, .ref a3, .ref a5, .ref a7, .int 0, .null, .null, .null, .int 0, .int 0, .null, .null, .null, .int 0, .int 0, .int 0, .int 0, .int 0, .int 0, .int 0, .null, .null, .null, .null, .null, .null, .int 0, .int 0, .int 0, .int 0, .int 0, .int 0, .null, .null, .null, .null, .null, .null, .int 0, .int 0, .null, .null, .int 0, .int 0, .int 0, .int 0, .int 0, .null, .int 0, .int 0])) H := hO
  refine lv_aload_n hx hb dX12_init_37 rfl (lv_at hl 0 rfl) ?_
  refine lv_bipush (v := 89) hx hb dX12_init_38 (by decide) ?_
  refine mm_neww hx hb (hts _ (tb_c wd_784)) hK hI hS 89 (by decide) (by decide) (by decide) (by rw [hR]; exact Nat.le_of_ble_eq_true rfl) (by rw [hR]; exact Nat.le_of_ble_eq_true rfl) dX12_init_40 (fun qw H F hqe hnq hszq hOw o1 hI hS => ?_)
  have hlt0 : h0 < _ := hO.lt
  have hne0 : h0 ≠ qw := by omega
  have hO := hO.kept (o1 _ hlt0)
  refine lv_dup hx hb dX12_init_42 rfl ?_
  refine lv_iconst (v := 0) hx hb dX12_init_43 (by decide) ?_
  refine lv_bipush (v := 102) hx hb dX12_init_44 (by decide) ?_
  refine th_bast hx hb hK hOw 3 rfl hS (hA _ hszq) (iv_in (X := (0)) (by decide) (by omega) (by omega)) dX12_init_46 (fun H locs hOw oq hS => ?_)
  have hI := mm_raw hI hnq oq
  have hO := hO.kept (oq _ hne0)
  obtain ⟨F, hOw⟩ : ∃ F, va_at D vwCl (qw, .inl (E 3, 89, .inl F)) H := ⟨_, hOw⟩
  refine lv_dup hx hb dX12_init_47 rfl ?_
  refine lv_iconst (v := 1) hx hb dX12_init_48 (by decide) ?_
  refine lv_bipush (v := 108) hx hb dX12_init_49 (by decide) ?_
  refine th_bast hx hb hK hOw 3 rfl hS (hA _ hszq) (iv_in (X := (1)) (by decide) (by omega) (by omega)) dX12_init_51 (fun H locs hOw oq hS => ?_)
  have hI := mm_raw hI hnq oq
  have hO := hO.kept (oq _ hne0)
  obtain ⟨F, hOw⟩ : ∃ F, va_at D vwCl (qw, .inl (E 3, 89, .inl F)) H := ⟨_, hOw⟩
  refine lv_dup hx hb dX12_init_52 rfl ?_
  refine lv_iconst (v := 2) hx hb dX12_init_53 (by decide) ?_
  refine lv_bipush (v := 111) hx hb dX12_init_54 (by decide) ?_
  refine th_bast hx hb hK hOw 3 rfl hS (hA _ hszq) (iv_in (X := (2)) (by decide) (by omega) (by omega)) dX12_init_56 (fun H locs hOw oq hS => ?_)
  have hI := mm_raw hI hnq oq
  have hO := hO.kept (oq _ hne0)
  obtain ⟨F, hOw⟩ : ∃ F, va_at D vwCl (qw, .inl (E 3, 89, .inl F)) H := ⟨_, hOw⟩
  refine lv_dup hx hb dX12_init_57 rfl ?_
  refine lv_iconst (v := 3) hx hb dX12_init_58 (by decide) ?_
  refine lv_bipush (v := 119) hx hb dX12_init_59 (by decide) ?_
  refine th_bast hx hb hK hOw 3 rfl hS (hA _ hszq) (iv_in (X := (3)) (by decide) (by omega) (by omega)) dX12_init_61 (fun H locs hOw oq hS => ?_)
  have hI := mm_raw hI hnq oq
  have hO := hO.kept (oq _ hne0)
  obtain ⟨F, hOw⟩ : ∃ F, va_at D vwCl (qw, .inl (E 3, 89, .inl F)) H := ⟨_, hOw⟩
  refine lv_dup hx hb dX12_init_62 rfl ?_
  refine lv_iconst (v := 4) hx hb dX12_init_63 (by decide) ?_
  refine lv_bipush (v := 115) hx hb dX12_init_64 (by decide) ?_
  refine th_bast hx hb hK hOw 3 rfl hS (hA _ hszq) (iv_in (X := (4)) (by decide) (by omega) (by omega)) dX12_init_66 (fun H locs hOw oq hS => ?_)
  have hI := mm_raw hI hnq oq
  have hO := hO.kept (oq _ hne0)
  obtain ⟨F, hOw⟩ : ∃ F, va_at D vwCl (qw, .inl (E 3, 89, .inl F)) H := ⟨_, hOw⟩
  refine lv_dup hx hb dX12_init_67 rfl ?_
  refine lv_iconst (v := 5) hx hb dX12_init_68 (by decide) ?_
  refine lv_bipush (v := 32) hx hb dX12_init_69 (by decide) ?_
  refine th_bast hx hb hK hOw 3 rfl hS (hA _ hszq) (iv_in (X := (5)) (by decide) (by omega) (by omega)) dX12_init_71 (fun H locs hOw oq hS => ?_)
  have hI := mm_raw hI hnq oq
  have hO := hO.kept (oq _ hne0)
  obtain ⟨F, hOw⟩ : ∃ F, va_at D vwCl (qw, .inl (E 3, 89, .inl F)) H := ⟨_, hOw⟩
  refine lv_dup hx hb dX12_init_72 rfl ?_
  refine lv_bipush (v := 6) hx hb dX12_init_73 (by decide) ?_
  refine lv_bipush (v := 99) hx hb dX12_init_75 (by decide) ?_
  refine th_bast hx hb hK hOw 3 rfl hS (hA _ hszq) (iv_in (X := (6)) (by decide) (by omega) (by omega)) dX12_init_77 (fun H locs hOw oq hS => ?_)
  have hI := mm_raw hI hnq oq
  have hO := hO.kept (oq _ hne0)
  obtain ⟨F, hOw⟩ : ∃ F, va_at D vwCl (qw, .inl (E 3, 89, .inl F)) H := ⟨_, hOw⟩
  refine lv_dup hx hb dX12_init_78 rfl ?_
  refine lv_bipush (v := 7) hx hb dX12_init_79 (by decide) ?_
  refine lv_bipush (v := 111) hx hb dX12_init_81 (by decide) ?_
  refine th_bast hx hb hK hOw 3 rfl hS (hA _ hszq) (iv_in (X := (7)) (by decide) (by omega) (by omega)) dX12_init_83 (fun H locs hOw oq hS => ?_)
  have hI := mm_raw hI hnq oq
  have hO := hO.kept (oq _ hne0)
  obtain ⟨F, hOw⟩ : ∃ F, va_at D vwCl (qw, .inl (E 3, 89, .inl F)) H := ⟨_, hOw⟩
  refine lv_dup hx hb dX12_init_84 rfl ?_
  refine lv_bipush (v := 8) hx hb dX12_init_85 (by decide) ?_
  refine lv_bipush (v := 115) hx hb dX12_init_87 (by decide) ?_
  refine th_bast hx hb hK hOw 3 rfl hS (hA _ hszq) (iv_in (X := (8)) (by decide) (by omega) (by omega)) dX12_init_89 (fun H locs hOw oq hS => ?_)
  have hI := mm_raw hI hnq oq
  have hO := hO.kept (oq _ hne0)
  obtain ⟨F, hOw⟩ : ∃ F, va_at D vwCl (qw, .inl (E 3, 89, .inl F)) H := ⟨_, hOw⟩
  refine lv_dup hx hb dX12_init_90 rfl ?_
  refine lv_bipush (v := 9) hx hb dX12_init_91 (by decide) ?_
  refine lv_bipush (v := 116) hx hb dX12_init_93 (by decide) ?_
  refine th_bast hx hb hK hOw 3 rfl hS (hA _ hszq) (iv_in (X := (9)) (by decide) (by omega) (by omega)) dX12_init_95 (fun H locs hOw oq hS => ?_)
  have hI := mm_raw hI hnq oq
  have hO := hO.kept (oq _ hne0)
  obtain ⟨F, hOw⟩ : ∃ F, va_at D vwCl (qw, .inl (E 3, 89, .inl F)) H := ⟨_, hOw⟩
  refine lv_dup hx hb dX12_init_96 rfl ?_
  refine lv_bipush (v := 10) hx hb dX12_init_97 (by decide) ?_
  refine lv_bipush (v := 115) hx hb dX12_init_99 (by decide) ?_
  refine th_bast hx hb hK hOw 3 rfl hS (hA _ hszq) (iv_in (X := (10)) (by decide) (by omega) (by omega)) dX12_init_101 (fun H locs hOw oq hS => ?_)
  have hI := mm_raw hI hnq oq
  have hO := hO.kept (oq _ hne0)
  obtain ⟨F, hOw⟩ : ∃ F, va_at D vwCl (qw, .inl (E 3, 89, .inl F)) H := ⟨_, hOw⟩
  refine lv_dup hx hb dX12_init_102 rfl ?_
  refine lv_bipush (v := 11) hx hb dX12_init_103 (by decide) ?_
  refine lv_bipush (v := 32) hx hb dX12_init_105 (by decide) ?_
  refine th_bast hx hb hK hOw 3 rfl hS (hA _ hszq) (iv_in (X := (11)) (by decide) (by omega) (by omega)) dX12_init_107 (fun H locs hOw oq hS => ?_)
  have hI := mm_raw hI hnq oq
  have hO := hO.kept (oq _ hne0)
  obtain ⟨F, hOw⟩ : ∃ F, va_at D vwCl (qw, .inl (E 3, 89, .inl F)) H := ⟨_, hOw⟩
  refine lv_dup hx hb dX12_init_108 rfl ?_
  refine lv_bipush (v := 12) hx hb dX12_init_109 (by decide) ?_
  refine lv_bipush (v := 116) hx hb dX12_init_111 (by decide) ?_
  refine th_bast hx hb hK hOw 3 rfl hS (hA _ hszq) (iv_in (X := (12)) (by decide) (by omega) (by omega)) dX12_init_113 (fun H locs hOw oq hS => ?_)
  have hI := mm_raw hI hnq oq
  have hO := hO.kept (oq _ hne0)
  obtain ⟨F, hOw⟩ : ∃ F, va_at D vwCl (qw, .inl (E 3, 89, .inl F)) H := ⟨_, hOw⟩
  refine lv_dup hx hb dX12_init_114 rfl ?_
  refine lv_bipush (v := 13) hx hb dX12_init_115 (by decide) ?_
  refine lv_bipush (v := 111) hx hb dX12_init_117 (by decide) ?_
  refine th_bast hx hb hK hOw 3 rfl hS (hA _ hszq) (iv_in (X := (13)) (by decide) (by omega) (by omega)) dX12_init_119 (fun H locs hOw oq hS => ?_)
  have hI := mm_raw hI hnq oq
  have hO := hO.kept (oq _ hne0)
  obtain ⟨F, hOw⟩ : ∃ F, va_at D vwCl (qw, .inl (E 3, 89, .inl F)) H := ⟨_, hOw⟩
  refine lv_dup hx hb dX12_init_120 rfl ?_
  refine lv_bipush (v := 14) hx hb dX12_init_121 (by decide) ?_
  refine lv_bipush (v := 108) hx hb dX12_init_123 (by decide) ?_
  refine th_bast hx hb hK hOw 3 rfl hS (hA _ hszq) (iv_in (X := (14)) (by decide) (by omega) (by omega)) dX12_init_125 (fun H locs hOw oq hS => ?_)
  have hI := mm_raw hI hnq oq
  have hO := hO.kept (oq _ hne0)
  obtain ⟨F, hOw⟩ : ∃ F, va_at D vwCl (qw, .inl (E 3, 89, .inl F)) H := ⟨_, hOw⟩
  refine lv_dup hx hb dX12_init_126 rfl ?_
  refine lv_bipush (v := 15) hx hb dX12_init_127 (by decide) ?_
  refine lv_bipush (v := 108) hx hb dX12_init_129 (by decide) ?_
  refine th_bast hx hb hK hOw 3 rfl hS (hA _ hszq) (iv_in (X := (15)) (by decide) (by omega) (by omega)) dX12_init_131 (fun H locs hOw oq hS => ?_)
  have hI := mm_raw hI hnq oq
  have hO := hO.kept (oq _ hne0)
  obtain ⟨F, hOw⟩ : ∃ F, va_at D vwCl (qw, .inl (E 3, 89, .inl F)) H := ⟨_, hOw⟩
  refine lv_dup hx hb dX12_init_132 rfl ?_
  refine lv_bipush (v := 16) hx hb dX12_init_133 (by decide) ?_
  refine lv_bipush (v := 115) hx hb dX12_init_135 (by decide) ?_
  refine th_bast hx hb hK hOw 3 rfl hS (hA _ hszq) (iv_in (X := (16)) (by decide) (by omega) (by omega)) dX12_init_137 (fun H locs hOw oq hS => ?_)
  have hI := mm_raw hI hnq oq
  have hO := hO.kept (oq _ hne0)
  obtain ⟨F, hOw⟩ : ∃ F, va_at D vwCl (qw, .inl (E 3, 89, .inl F)) H := ⟨_, hOw⟩
  refine lv_dup hx hb dX12_init_138 rfl ?_
  refine lv_bipush (v := 17) hx hb dX12_init_139 (by decide) ?_
  refine lv_bipush (v := 32) hx hb dX12_init_141 (by decide) ?_
  refine th_bast hx hb hK hOw 3 rfl hS (hA _ hszq) (iv_in (X := (17)) (by decide) (by omega) (by omega)) dX12_init_143 (fun H locs hOw oq hS => ?_)
  have hI := mm_raw hI hnq oq
  have hO := hO.kept (oq _ hne0)
  obtain ⟨F, hOw⟩ : ∃ F, va_at D vwCl (qw, .inl (E 3, 89, .inl F)) H := ⟨_, hOw⟩
  refine lv_dup hx hb dX12_init_144 rfl ?_
  refine lv_bipush (v := 18) hx hb dX12_init_145 (by decide) ?_
  refine lv_bipush (v := 98) hx hb dX12_init_147 (by decide) ?_
  refine th_bast hx hb hK hOw 3 rfl hS (hA _ hszq) (iv_in (X := (18)) (by decide) (by omega) (by omega)) dX12_init_149 (fun H locs hOw oq hS => ?_)
  have hI := mm_raw hI hnq oq
  have hO := hO.kept (oq _ hne0)
  obtain ⟨F, hOw⟩ : ∃ F, va_at D vwCl (qw, .inl (E 3, 89, .inl F)) H := ⟨_, hOw⟩
  refine lv_dup hx hb dX12_init_150 rfl ?_
  refine lv_bipush (v := 19) hx hb dX12_init_151 (by decide) ?_
  refine lv_bipush (v := 97) hx hb dX12_init_153 (by decide) ?_
  refine th_bast hx hb hK hOw 3 rfl hS (hA _ hszq) (iv_in (X := (19)) (by decide) (by omega) (by omega)) dX12_init_155 (fun H locs hOw oq hS => ?_)
  have hI := mm_raw hI hnq oq
  have hO := hO.kept (oq _ hne0)
  obtain ⟨F, hOw⟩ : ∃ F, va_at D vwCl (qw, .inl (E 3, 89, .inl F)) H := ⟨_, hOw⟩
  refine lv_dup hx hb dX12_init_156 rfl ?_
  refine lv_bipush (v := 20) hx hb dX12_init_157 (by decide) ?_
  refine lv_bipush (v := 114) hx hb dX12_init_159 (by decide) ?_
  refine th_bast hx hb hK hOw 3 rfl hS (hA _ hszq) (iv_in (X := (20)) (by decide) (by omega) (by omega)) dX12_init_161 (fun H locs hOw oq hS => ?_)
  have hI := mm_raw hI hnq oq
  have hO := hO.kept (oq _ hne0)
  obtain ⟨F, hOw⟩ : ∃ F, va_at D vwCl (qw, .inl (E 3, 89, .inl F)) H := ⟨_, hOw⟩
  refine lv_dup hx hb dX12_init_162 rfl ?_
  refine lv_bipush (v := 21) hx hb dX12_init_163 (by decide) ?_
  refine lv_bipush (v := 115) hx hb dX12_init_165 (by decide) ?_
  refine th_bast hx hb hK hOw 3 rfl hS (hA _ hszq) (iv_in (X := (21)) (by decide) (by omega) (by omega)) dX12_init_167 (fun H locs hOw oq hS => ?_)
  have hI := mm_raw hI hnq oq
  have hO := hO.kept (oq _ hne0)
  obtain ⟨F, hOw⟩ : ∃ F, va_at D vwCl (qw, .inl (E 3, 89, .inl F)) H := ⟨_, hOw⟩
  refine lv_dup hx hb dX12_init_168 rfl ?_
  refine lv_bipush (v := 22) hx hb dX12_init_169 (by decide) ?_
  refine lv_bipush (v := 32) hx hb dX12_init_171 (by decide) ?_
  refine th_bast hx hb hK hOw 3 rfl hS (hA _ hszq) (iv_in (X := (22)) (by decide) (by omega) (by omega)) dX12_init_173 (fun H locs hOw oq hS => ?_)
  have hI := mm_raw hI hnq oq
  have hO := hO.kept (oq _ hne0)
  obtain ⟨F, hOw⟩ : ∃ F, va_at D vwCl (qw, .inl (E 3, 89, .inl F)) H := ⟨_, hOw⟩
  refine lv_dup hx hb dX12_init_174 rfl ?_
  refine lv_bipush (v := 23) hx hb dX12_init_175 (by decide) ?_
  refine lv_bipush (v := 105) hx hb dX12_init_177 (by decide) ?_
  refine th_bast hx hb hK hOw 3 rfl hS (hA _ hszq) (iv_in (X := (23)) (by decide) (by omega) (by omega)) dX12_init_179 (fun H locs hOw oq hS => ?_)
  have hI := mm_raw hI hnq oq
  have hO := hO.kept (oq _ hne0)
  obtain ⟨F, hOw⟩ : ∃ F, va_at D vwCl (qw, .inl (E 3, 89, .inl F)) H := ⟨_, hOw⟩
  refine lv_dup hx hb dX12_init_180 rfl ?_
  refine lv_bipush (v := 24) hx hb dX12_init_181 (by decide) ?_
  refine lv_bipush (v := 102) hx hb dX12_init_183 (by decide) ?_
  refine th_bast hx hb hK hOw 3 rfl hS (hA _ hszq) (iv_in (X := (24)) (by decide) (by omega) (by omega)) dX12_init_185 (fun H locs hOw oq hS => ?_)
  have hI := mm_raw hI hnq oq
  have hO := hO.kept (oq _ hne0)
  obtain ⟨F, hOw⟩ : ∃ F, va_at D vwCl (qw, .inl (E 3, 89, .inl F)) H := ⟨_, hOw⟩
  refine lv_dup hx hb dX12_init_186 rfl ?_
  refine lv_bipush (v := 25) hx hb dX12_init_187 (by decide) ?_
  refine lv_bipush (v := 32) hx hb dX12_init_189 (by decide) ?_
  refine th_bast hx hb hK hOw 3 rfl hS (hA _ hszq) (iv_in (X := (25)) (by decide) (by omega) (by omega)) dX12_init_191 (fun H locs hOw oq hS => ?_)
  have hI := mm_raw hI hnq oq
  have hO := hO.kept (oq _ hne0)
  obtain ⟨F, hOw⟩ : ∃ F, va_at D vwCl (qw, .inl (E 3, 89, .inl F)) H := ⟨_, hOw⟩
  refine lv_dup hx hb dX12_init_192 rfl ?_
  refine lv_bipush (v := 26) hx hb dX12_init_193 (by decide) ?_
  refine lv_bipush (v := 111) hx hb dX12_init_195 (by decide) ?_
  refine th_bast hx hb hK hOw 3 rfl hS (hA _ hszq) (iv_in (X := (26)) (by decide) (by omega) (by omega)) dX12_init_197 (fun H locs hOw oq hS => ?_)
  have hI := mm_raw hI hnq oq
  have hO := hO.kept (oq _ hne0)
  obtain ⟨F, hOw⟩ : ∃ F, va_at D vwCl (qw, .inl (E 3, 89, .inl F)) H := ⟨_, hOw⟩
  refine lv_dup hx hb dX12_init_198 rfl ?_
  refine lv_bipush (v := 27) hx hb dX12_init_199 (by decide) ?_
  refine lv_bipush (v := 114) hx hb dX12_init_201 (by decide) ?_
  refine th_bast hx hb hK hOw 3 rfl hS (hA _ hszq) (iv_in (X := (27)) (by decide) (by omega) (by omega)) dX12_init_203 (fun H locs hOw oq hS => ?_)
  have hI := mm_raw hI hnq oq
  have hO := hO.kept (oq _ hne0)
  obtain ⟨F, hOw⟩ : ∃ F, va_at D vwCl (qw, .inl (E 3, 89, .inl F)) H := ⟨_, hOw⟩
  refine lv_dup hx hb dX12_init_204 rfl ?_
  refine lv_bipush (v := 28) hx hb dX12_init_205 (by decide) ?_
  refine lv_bipush (v := 32) hx hb dX12_init_207 (by decide) ?_
  refine th_bast hx hb hK hOw 3 rfl hS (hA _ hszq) (iv_in (X := (28)) (by decide) (by omega) (by omega)) dX12_init_209 (fun H locs hOw oq hS => ?_)
  have hI := mm_raw hI hnq oq
  have hO := hO.kept (oq _ hne0)
  obtain ⟨F, hOw⟩ : ∃ F, va_at D vwCl (qw, .inl (E 3, 89, .inl F)) H := ⟨_, hOw⟩
  refine lv_dup hx hb dX12_init_210 rfl ?_
  refine lv_bipush (v := 29) hx hb dX12_init_211 (by decide) ?_
  refine lv_bipush (v := 97) hx hb dX12_init_213 (by decide) ?_
  refine th_bast hx hb hK hOw 3 rfl hS (hA _ hszq) (iv_in (X := (29)) (by decide) (by omega) (by omega)) dX12_init_215 (fun H locs hOw oq hS => ?_)
  have hI := mm_raw hI hnq oq
  have hO := hO.kept (oq _ hne0)
  obtain ⟨F, hOw⟩ : ∃ F, va_at D vwCl (qw, .inl (E 3, 89, .inl F)) H := ⟨_, hOw⟩
  refine lv_dup hx hb dX12_init_216 rfl ?_
  refine lv_bipush (v := 30) hx hb dX12_init_217 (by decide) ?_
  refine lv_bipush (v := 110) hx hb dX12_init_219 (by decide) ?_
  refine th_bast hx hb hK hOw 3 rfl hS (hA _ hszq) (iv_in (X := (30)) (by decide) (by omega) (by omega)) dX12_init_221 (fun H locs hOw oq hS => ?_)
  have hI := mm_raw hI hnq oq
  have hO := hO.kept (oq _ hne0)
  obtain ⟨F, hOw⟩ : ∃ F, va_at D vwCl (qw, .inl (E 3, 89, .inl F)) H := ⟨_, hOw⟩
  refine lv_dup hx hb dX12_init_222 rfl ?_
  refine lv_bipush (v := 31) hx hb dX12_init_223 (by decide) ?_
  refine lv_bipush (v := 100) hx hb dX12_init_225 (by decide) ?_
  refine th_bast hx hb hK hOw 3 rfl hS (hA _ hszq) (iv_in (X := (31)) (by decide) (by omega) (by omega)) dX12_init_227 (fun H locs hOw oq hS => ?_)
  have hI := mm_raw hI hnq oq
  have hO := hO.kept (oq _ hne0)
  obtain ⟨F, hOw⟩ : ∃ F, va_at D vwCl (qw, .inl (E 3, 89, .inl F)) H := ⟨_, hOw⟩
  refine lv_dup hx hb dX12_init_228 rfl ?_
  refine lv_bipush (v := 32) hx hb dX12_init_229 (by decide) ?_
  refine lv_bipush (v := 32) hx hb dX12_init_231 (by decide) ?_
  refine th_bast hx hb hK hOw 3 rfl hS (hA _ hszq) (iv_in (X := (32)) (by decide) (by omega) (by omega)) dX12_init_233 (fun H locs hOw oq hS => ?_)
  have hI := mm_raw hI hnq oq
  have hO := hO.kept (oq _ hne0)
  obtain ⟨F, hOw⟩ : ∃ F, va_at D vwCl (qw, .inl (E 3, 89, .inl F)) H := ⟨_, hOw⟩
  refine lv_dup hx hb dX12_init_234 rfl ?_
  refine lv_bipush (v := 33) hx hb dX12_init_235 (by decide) ?_
  refine lv_bipush (v := 110) hx hb dX12_init_237 (by decide) ?_
  refine th_bast hx hb hK hOw 3 rfl hS (hA _ hszq) (iv_in (X := (33)) (by decide) (by omega) (by omega)) dX12_init_239 (fun H locs hOw oq hS => ?_)
  have hI := mm_raw hI hnq oq
  have hO := hO.kept (oq _ hne0)
  obtain ⟨F, hOw⟩ : ∃ F, va_at D vwCl (qw, .inl (E 3, 89, .inl F)) H := ⟨_, hOw⟩
  refine lv_dup hx hb dX12_init_240 rfl ?_
  refine lv_bipush (v := 34) hx hb dX12_init_241 (by decide) ?_
  refine lv_bipush (v := 111) hx hb dX12_init_243 (by decide) ?_
  refine th_bast hx hb hK hOw 3 rfl hS (hA _ hszq) (iv_in (X := (34)) (by decide) (by omega) (by omega)) dX12_init_245 (fun H locs hOw oq hS => ?_)
  have hI := mm_raw hI hnq oq
  have hO := hO.kept (oq _ hne0)
  obtain ⟨F, hOw⟩ : ∃ F, va_at D vwCl (qw, .inl (E 3, 89, .inl F)) H := ⟨_, hOw⟩
  refine lv_dup hx hb dX12_init_246 rfl ?_
  refine lv_bipush (v := 35) hx hb dX12_init_247 (by decide) ?_
  refine lv_bipush (v := 116) hx hb dX12_init_249 (by decide) ?_
  refine th_bast hx hb hK hOw 3 rfl hS (hA _ hszq) (iv_in (X := (35)) (by decide) (by omega) (by omega)) dX12_init_251 (fun H locs hOw oq hS => ?_)
  have hI := mm_raw hI hnq oq
  have hO := hO.kept (oq _ hne0)
  obtain ⟨F, hOw⟩ : ∃ F, va_at D vwCl (qw, .inl (E 3, 89, .inl F)) H := ⟨_, hOw⟩
  refine lv_dup hx hb dX12_init_252 rfl ?_
  refine lv_bipush (v := 36) hx hb dX12_init_253 (by decide) ?_
  refine lv_bipush (v := 32) hx hb dX12_init_255 (by decide) ?_
  refine th_bast hx hb hK hOw 3 rfl hS (hA _ hszq) (iv_in (X := (36)) (by decide) (by omega) (by omega)) dX12_init_257 (fun H locs hOw oq hS => ?_)
  have hI := mm_raw hI hnq oq
  have hO := hO.kept (oq _ hne0)
  obtain ⟨F, hOw⟩ : ∃ F, va_at D vwCl (qw, .inl (E 3, 89, .inl F)) H := ⟨_, hOw⟩
  refine lv_dup hx hb dX12_init_258 rfl ?_
  refine lv_bipush (v := 37) hx hb dX12_init_259 (by decide) ?_
  refine lv_bipush (v := 99) hx hb dX12_init_261 (by decide) ?_
  refine th_bast hx hb hK hOw 3 rfl hS (hA _ hszq) (iv_in (X := (37)) (by decide) (by omega) (by omega)) dX12_init_263 (fun H locs hOw oq hS => ?_)
  have hI := mm_raw hI hnq oq
  have hO := hO.kept (oq _ hne0)
  obtain ⟨F, hOw⟩ : ∃ F, va_at D vwCl (qw, .inl (E 3, 89, .inl F)) H := ⟨_, hOw⟩
  refine lv_dup hx hb dX12_init_264 rfl ?_
  refine lv_bipush (v := 38) hx hb dX12_init_265 (by decide) ?_
  refine lv_bipush (v := 101) hx hb dX12_init_267 (by decide) ?_
  refine th_bast hx hb hK hOw 3 rfl hS (hA _ hszq) (iv_in (X := (38)) (by decide) (by omega) (by omega)) dX12_init_269 (fun H locs hOw oq hS => ?_)
  have hI := mm_raw hI hnq oq
  have hO := hO.kept (oq _ hne0)
  obtain ⟨F, hOw⟩ : ∃ F, va_at D vwCl (qw, .inl (E 3, 89, .inl F)) H := ⟨_, hOw⟩
  refine lv_dup hx hb dX12_init_270 rfl ?_
  refine lv_bipush (v := 39) hx hb dX12_init_271 (by decide) ?_
  refine lv_bipush (v := 108) hx hb dX12_init_273 (by decide) ?_
  refine th_bast hx hb hK hOw 3 rfl hS (hA _ hszq) (iv_in (X := (39)) (by decide) (by omega) (by omega)) dX12_init_275 (fun H locs hOw oq hS => ?_)
  have hI := mm_raw hI hnq oq
  have hO := hO.kept (oq _ hne0)
  obtain ⟨F, hOw⟩ : ∃ F, va_at D vwCl (qw, .inl (E 3, 89, .inl F)) H := ⟨_, hOw⟩
  refine lv_dup hx hb dX12_init_276 rfl ?_
  refine lv_bipush (v := 40) hx hb dX12_init_277 (by decide) ?_
  refine lv_bipush (v := 108) hx hb dX12_init_279 (by decide) ?_
  refine th_bast hx hb hK hOw 3 rfl hS (hA _ hszq) (iv_in (X := (40)) (by decide) (by omega) (by omega)) dX12_init_281 (fun H locs hOw oq hS => ?_)
  have hI := mm_raw hI hnq oq
  have hO := hO.kept (oq _ hne0)
  obtain ⟨F, hOw⟩ : ∃ F, va_at D vwCl (qw, .inl (E 3, 89, .inl F)) H := ⟨_, hOw⟩
  refine lv_dup hx hb dX12_init_282 rfl ?_
  refine lv_bipush (v := 41) hx hb dX12_init_283 (by decide) ?_
  refine lv_bipush (v := 32) hx hb dX12_init_285 (by decide) ?_
  refine th_bast hx hb hK hOw 3 rfl hS (hA _ hszq) (iv_in (X := (41)) (by decide) (by omega) (by omega)) dX12_init_287 (fun H locs hOw oq hS => ?_)
  have hI := mm_raw hI hnq oq
  have hO := hO.kept (oq _ hne0)
  obtain ⟨F, hOw⟩ : ∃ F, va_at D vwCl (qw, .inl (E 3, 89, .inl F)) H := ⟨_, hOw⟩
  refine lv_dup hx hb dX12_init_288 rfl ?_
  refine lv_bipush (v := 42) hx hb dX12_init_289 (by decide) ?_
  refine lv_bipush (v := 104) hx hb dX12_init_291 (by decide) ?_
  refine th_bast hx hb hK hOw 3 rfl hS (hA _ hszq) (iv_in (X := (42)) (by decide) (by omega) (by omega)) dX12_init_293 (fun H locs hOw oq hS => ?_)
  have hI := mm_raw hI hnq oq
  have hO := hO.kept (oq _ hne0)
  obtain ⟨F, hOw⟩ : ∃ F, va_at D vwCl (qw, .inl (E 3, 89, .inl F)) H := ⟨_, hOw⟩
  refine lv_dup hx hb dX12_init_294 rfl ?_
  refine lv_bipush (v := 43) hx hb dX12_init_295 (by decide) ?_
  refine lv_bipush (v := 111) hx hb dX12_init_297 (by decide) ?_
  refine th_bast hx hb hK hOw 3 rfl hS (hA _ hszq) (iv_in (X := (43)) (by decide) (by omega) (by omega)) dX12_init_299 (fun H locs hOw oq hS => ?_)
  have hI := mm_raw hI hnq oq
  have hO := hO.kept (oq _ hne0)
  obtain ⟨F, hOw⟩ : ∃ F, va_at D vwCl (qw, .inl (E 3, 89, .inl F)) H := ⟨_, hOw⟩
  refine lv_dup hx hb dX12_init_300 rfl ?_
  refine lv_bipush (v := 44) hx hb dX12_init_301 (by decide) ?_
  refine lv_bipush (v := 117) hx hb dX12_init_303 (by decide) ?_
  refine th_bast hx hb hK hOw 3 rfl hS (hA _ hszq) (iv_in (X := (44)) (by decide) (by omega) (by omega)) dX12_init_305 (fun H locs hOw oq hS => ?_)
  have hI := mm_raw hI hnq oq
  have hO := hO.kept (oq _ hne0)
  obtain ⟨F, hOw⟩ : ∃ F, va_at D vwCl (qw, .inl (E 3, 89, .inl F)) H := ⟨_, hOw⟩
  refine lv_dup hx hb dX12_init_306 rfl ?_
  refine lv_bipush (v := 45) hx hb dX12_init_307 (by decide) ?_
  refine lv_bipush (v := 114) hx hb dX12_init_309 (by decide) ?_
  refine th_bast hx hb hK hOw 3 rfl hS (hA _ hszq) (iv_in (X := (45)) (by decide) (by omega) (by omega)) dX12_init_311 (fun H locs hOw oq hS => ?_)
  have hI := mm_raw hI hnq oq
  have hO := hO.kept (oq _ hne0)
  obtain ⟨F, hOw⟩ : ∃ F, va_at D vwCl (qw, .inl (E 3, 89, .inl F)) H := ⟨_, hOw⟩
  refine lv_dup hx hb dX12_init_312 rfl ?_
  refine lv_bipush (v := 46) hx hb dX12_init_313 (by decide) ?_
  refine lv_bipush (v := 32) hx hb dX12_init_315 (by decide) ?_
  refine th_bast hx hb hK hOw 3 rfl hS (hA _ hszq) (iv_in (X := (46)) (by decide) (by omega) (by omega)) dX12_init_317 (fun H locs hOw oq hS => ?_)
  have hI := mm_raw hI hnq oq
  have hO := hO.kept (oq _ hne0)
  obtain ⟨F, hOw⟩ : ∃ F, va_at D vwCl (qw, .inl (E 3, 89, .inl F)) H := ⟨_, hOw⟩
  refine lv_dup hx hb dX12_init_318 rfl ?_
  refine lv_bipush (v := 47) hx hb dX12_init_319 (by decide) ?_
  refine lv_bipush (v := 100) hx hb dX12_init_321 (by decide) ?_
  refine th_bast hx hb hK hOw 3 rfl hS (hA _ hszq) (iv_in (X := (47)) (by decide) (by omega) (by omega)) dX12_init_323 (fun H locs hOw oq hS => ?_)
  have hI := mm_raw hI hnq oq
  have hO := hO.kept (oq _ hne0)
  obtain ⟨F, hOw⟩ : ∃ F, va_at D vwCl (qw, .inl (E 3, 89, .inl F)) H := ⟨_, hOw⟩
  refine lv_dup hx hb dX12_init_324 rfl ?_
  refine lv_bipush (v := 48) hx hb dX12_init_325 (by decide) ?_
  refine lv_bipush (v := 97) hx hb dX12_init_327 (by decide) ?_
  refine th_bast hx hb hK hOw 3 rfl hS (hA _ hszq) (iv_in (X := (48)) (by decide) (by omega) (by omega)) dX12_init_329 (fun H locs hOw oq hS => ?_)
  have hI := mm_raw hI hnq oq
  have hO := hO.kept (oq _ hne0)
  obtain ⟨F, hOw⟩ : ∃ F, va_at D vwCl (qw, .inl (E 3, 89, .inl F)) H := ⟨_, hOw⟩
  refine lv_dup hx hb dX12_init_330 rfl ?_
  refine lv_bipush (v := 49) hx hb dX12_init_331 (by decide) ?_
  refine lv_bipush (v := 121) hx hb dX12_init_333 (by decide) ?_
  refine th_bast hx hb hK hOw 3 rfl hS (hA _ hszq) (iv_in (X := (49)) (by decide) (by omega) (by omega)) dX12_init_335 (fun H locs hOw oq hS => ?_)
  have hI := mm_raw hI hnq oq
  have hO := hO.kept (oq _ hne0)
  obtain ⟨F, hOw⟩ : ∃ F, va_at D vwCl (qw, .inl (E 3, 89, .inl F)) H := ⟨_, hOw⟩
  refine lv_dup hx hb dX12_init_336 rfl ?_
  refine lv_bipush (v := 50) hx hb dX12_init_337 (by decide) ?_
  refine lv_bipush (v := 32) hx hb dX12_init_339 (by decide) ?_
  refine th_bast hx hb hK hOw 3 rfl hS (hA _ hszq) (iv_in (X := (50)) (by decide) (by omega) (by omega)) dX12_init_341 (fun H locs hOw oq hS => ?_)
  have hI := mm_raw hI hnq oq
  have hO := hO.kept (oq _ hne0)
  obtain ⟨F, hOw⟩ : ∃ F, va_at D vwCl (qw, .inl (E 3, 89, .inl F)) H := ⟨_, hOw⟩
  refine lv_dup hx hb dX12_init_342 rfl ?_
  refine lv_bipush (v := 51) hx hb dX12_init_343 (by decide) ?_
  refine lv_bipush (v := 115) hx hb dX12_init_345 (by decide) ?_
  refine th_bast hx hb hK hOw 3 rfl hS (hA _ hszq) (iv_in (X := (51)) (by decide) (by omega) (by omega)) dX12_init_347 (fun H locs hOw oq hS => ?_)
  have hI := mm_raw hI hnq oq
  have hO := hO.kept (oq _ hne0)
  obtain ⟨F, hOw⟩ : ∃ F, va_at D vwCl (qw, .inl (E 3, 89, .inl F)) H := ⟨_, hOw⟩
  refine lv_dup hx hb dX12_init_348 rfl ?_
  refine lv_bipush (v := 52) hx hb dX12_init_349 (by decide) ?_
  refine lv_bipush (v := 116) hx hb dX12_init_351 (by decide) ?_
  refine th_bast hx hb hK hOw 3 rfl hS (hA _ hszq) (iv_in (X := (52)) (by decide) (by omega) (by omega)) dX12_init_353 (fun H locs hOw oq hS => ?_)
  have hI := mm_raw hI hnq oq
  have hO := hO.kept (oq _ hne0)
  obtain ⟨F, hOw⟩ : ∃ F, va_at D vwCl (qw, .inl (E 3, 89, .inl F)) H := ⟨_, hOw⟩
  refine lv_dup hx hb dX12_init_354 rfl ?_
  refine lv_bipush (v := 53) hx hb dX12_init_355 (by decide) ?_
  refine lv_bipush (v := 114) hx hb dX12_init_357 (by decide) ?_
  refine th_bast hx hb hK hOw 3 rfl hS (hA _ hszq) (iv_in (X := (53)) (by decide) (by omega) (by omega)) dX12_init_359 (fun H locs hOw oq hS => ?_)
  have hI := mm_raw hI hnq oq
  have hO := hO.kept (oq _ hne0)
  obtain ⟨F, hOw⟩ : ∃ F, va_at D vwCl (qw, .inl (E 3, 89, .inl F)) H := ⟨_, hOw⟩
  refine lv_dup hx hb dX12_init_360 rfl ?_
  refine lv_bipush (v := 54) hx hb dX12_init_361 (by decide) ?_
  refine lv_bipush (v := 105) hx hb dX12_init_363 (by decide) ?_
  refine th_bast hx hb hK hOw 3 rfl hS (hA _ hszq) (iv_in (X := (54)) (by decide) (by omega) (by omega)) dX12_init_365 (fun H locs hOw oq hS => ?_)
  have hI := mm_raw hI hnq oq
  have hO := hO.kept (oq _ hne0)
  obtain ⟨F, hOw⟩ : ∃ F, va_at D vwCl (qw, .inl (E 3, 89, .inl F)) H := ⟨_, hOw⟩
  refine lv_dup hx hb dX12_init_366 rfl ?_
  refine lv_bipush (v := 55) hx hb dX12_init_367 (by decide) ?_
  refine lv_bipush (v := 107) hx hb dX12_init_369 (by decide) ?_
  refine th_bast hx hb hK hOw 3 rfl hS (hA _ hszq) (iv_in (X := (55)) (by decide) (by omega) (by omega)) dX12_init_371 (fun H locs hOw oq hS => ?_)
  have hI := mm_raw hI hnq oq
  have hO := hO.kept (oq _ hne0)
  obtain ⟨F, hOw⟩ : ∃ F, va_at D vwCl (qw, .inl (E 3, 89, .inl F)) H := ⟨_, hOw⟩
  refine lv_dup hx hb dX12_init_372 rfl ?_
  refine lv_bipush (v := 56) hx hb dX12_init_373 (by decide) ?_
  refine lv_bipush (v := 101) hx hb dX12_init_375 (by decide) ?_
  refine th_bast hx hb hK hOw 3 rfl hS (hA _ hszq) (iv_in (X := (56)) (by decide) (by omega) (by omega)) dX12_init_377 (fun H locs hOw oq hS => ?_)
  have hI := mm_raw hI hnq oq
  have hO := hO.kept (oq _ hne0)
  obtain ⟨F, hOw⟩ : ∃ F, va_at D vwCl (qw, .inl (E 3, 89, .inl F)) H := ⟨_, hOw⟩
  refine lv_dup hx hb dX12_init_378 rfl ?_
  refine lv_bipush (v := 57) hx hb dX12_init_379 (by decide) ?_
  refine lv_bipush (v := 32) hx hb dX12_init_381 (by decide) ?_
  refine th_bast hx hb hK hOw 3 rfl hS (hA _ hszq) (iv_in (X := (57)) (by decide) (by omega) (by omega)) dX12_init_383 (fun H locs hOw oq hS => ?_)
  have hI := mm_raw hI hnq oq
  have hO := hO.kept (oq _ hne0)
  obtain ⟨F, hOw⟩ : ∃ F, va_at D vwCl (qw, .inl (E 3, 89, .inl F)) H := ⟨_, hOw⟩
  refine lv_dup hx hb dX12_init_384 rfl ?_
  refine lv_bipush (v := 58) hx hb dX12_init_385 (by decide) ?_
  refine lv_bipush (v := 112) hx hb dX12_init_387 (by decide) ?_
  refine th_bast hx hb hK hOw 3 rfl hS (hA _ hszq) (iv_in (X := (58)) (by decide) (by omega) (by omega)) dX12_init_389 (fun H locs hOw oq hS => ?_)
  have hI := mm_raw hI hnq oq
  have hO := hO.kept (oq _ hne0)
  obtain ⟨F, hOw⟩ : ∃ F, va_at D vwCl (qw, .inl (E 3, 89, .inl F)) H := ⟨_, hOw⟩
  refine lv_dup hx hb dX12_init_390 rfl ?_
  refine lv_bipush (v := 59) hx hb dX12_init_391 (by decide) ?_
  refine lv_bipush (v := 117) hx hb dX12_init_393 (by decide) ?_
  refine th_bast hx hb hK hOw 3 rfl hS (hA _ hszq) (iv_in (X := (59)) (by decide) (by omega) (by omega)) dX12_init_395 (fun H locs hOw oq hS => ?_)
  have hI := mm_raw hI hnq oq
  have hO := hO.kept (oq _ hne0)
  obtain ⟨F, hOw⟩ : ∃ F, va_at D vwCl (qw, .inl (E 3, 89, .inl F)) H := ⟨_, hOw⟩
  refine lv_dup hx hb dX12_init_396 rfl ?_
  refine lv_bipush (v := 60) hx hb dX12_init_397 (by decide) ?_
  refine lv_bipush (v := 109) hx hb dX12_init_399 (by decide) ?_
  refine th_bast hx hb hK hOw 3 rfl hS (hA _ hszq) (iv_in (X := (60)) (by decide) (by omega) (by omega)) dX12_init_401 (fun H locs hOw oq hS => ?_)
  have hI := mm_raw hI hnq oq
  have hO := hO.kept (oq _ hne0)
  obtain ⟨F, hOw⟩ : ∃ F, va_at D vwCl (qw, .inl (E 3, 89, .inl F)) H := ⟨_, hOw⟩
  refine lv_dup hx hb dX12_init_402 rfl ?_
  refine lv_bipush (v := 61) hx hb dX12_init_403 (by decide) ?_
  refine lv_bipush (v := 112) hx hb dX12_init_405 (by decide) ?_
  refine th_bast hx hb hK hOw 3 rfl hS (hA _ hszq) (iv_in (X := (61)) (by decide) (by omega) (by omega)) dX12_init_407 (fun H locs hOw oq hS => ?_)
  have hI := mm_raw hI hnq oq
  have hO := hO.kept (oq _ hne0)
  obtain ⟨F, hOw⟩ : ∃ F, va_at D vwCl (qw, .inl (E 3, 89, .inl F)) H := ⟨_, hOw⟩
  refine lv_dup hx hb dX12_init_408 rfl ?_
  refine lv_bipush (v := 62) hx hb dX12_init_409 (by decide) ?_
  refine lv_bipush (v := 101) hx hb dX12_init_411 (by decide) ?_
  refine th_bast hx hb hK hOw 3 rfl hS (hA _ hszq) (iv_in (X := (62)) (by decide) (by omega) (by omega)) dX12_init_413 (fun H locs hOw oq hS => ?_)
  have hI := mm_raw hI hnq oq
  have hO := hO.kept (oq _ hne0)
  obtain ⟨F, hOw⟩ : ∃ F, va_at D vwCl (qw, .inl (E 3, 89, .inl F)) H := ⟨_, hOw⟩
  refine lv_dup hx hb dX12_init_414 rfl ?_
  refine lv_bipush (v := 63) hx hb dX12_init_415 (by decide) ?_
  refine lv_bipush (v := 100) hx hb dX12_init_417 (by decide) ?_
  refine th_bast hx hb hK hOw 3 rfl hS (hA _ hszq) (iv_in (X := (63)) (by decide) (by omega) (by omega)) dX12_init_419 (fun H locs hOw oq hS => ?_)
  have hI := mm_raw hI hnq oq
  have hO := hO.kept (oq _ hne0)
  obtain ⟨F, hOw⟩ : ∃ F, va_at D vwCl (qw, .inl (E 3, 89, .inl F)) H := ⟨_, hOw⟩
  refine lv_dup hx hb dX12_init_420 rfl ?_
  refine lv_bipush (v := 64) hx hb dX12_init_421 (by decide) ?_
  refine lv_bipush (v := 32) hx hb dX12_init_423 (by decide) ?_
  refine th_bast hx hb hK hOw 3 rfl hS (hA _ hszq) (iv_in (X := (64)) (by decide) (by omega) (by omega)) dX12_init_425 (fun H locs hOw oq hS => ?_)
  have hI := mm_raw hI hnq oq
  have hO := hO.kept (oq _ hne0)
  obtain ⟨F, hOw⟩ : ∃ F, va_at D vwCl (qw, .inl (E 3, 89, .inl F)) H := ⟨_, hOw⟩
  refine lv_dup hx hb dX12_init_426 rfl ?_
  refine lv_bipush (v := 65) hx hb dX12_init_427 (by decide) ?_
  refine lv_bipush (v := 109) hx hb dX12_init_429 (by decide) ?_
  refine th_bast hx hb hK hOw 3 rfl hS (hA _ hszq) (iv_in (X := (65)) (by decide) (by omega) (by omega)) dX12_init_431 (fun H locs hOw oq hS => ?_)
  have hI := mm_raw hI hnq oq
  have hO := hO.kept (oq _ hne0)
  obtain ⟨F, hOw⟩ : ∃ F, va_at D vwCl (qw, .inl (E 3, 89, .inl F)) H := ⟨_, hOw⟩
  refine lv_dup hx hb dX12_init_432 rfl ?_
  refine lv_bipush (v := 66) hx hb dX12_init_433 (by decide) ?_
  refine lv_bipush (v := 105) hx hb dX12_init_435 (by decide) ?_
  refine th_bast hx hb hK hOw 3 rfl hS (hA _ hszq) (iv_in (X := (66)) (by decide) (by omega) (by omega)) dX12_init_437 (fun H locs hOw oq hS => ?_)
  have hI := mm_raw hI hnq oq
  have hO := hO.kept (oq _ hne0)
  obtain ⟨F, hOw⟩ : ∃ F, va_at D vwCl (qw, .inl (E 3, 89, .inl F)) H := ⟨_, hOw⟩
  refine lv_dup hx hb dX12_init_438 rfl ?_
  refine lv_bipush (v := 67) hx hb dX12_init_439 (by decide) ?_
  refine lv_bipush (v := 108) hx hb dX12_init_441 (by decide) ?_
  refine th_bast hx hb hK hOw 3 rfl hS (hA _ hszq) (iv_in (X := (67)) (by decide) (by omega) (by omega)) dX12_init_443 (fun H locs hOw oq hS => ?_)
  have hI := mm_raw hI hnq oq
  have hO := hO.kept (oq _ hne0)
  obtain ⟨F, hOw⟩ : ∃ F, va_at D vwCl (qw, .inl (E 3, 89, .inl F)) H := ⟨_, hOw⟩
  refine lv_dup hx hb dX12_init_444 rfl ?_
  refine lv_bipush (v := 68) hx hb dX12_init_445 (by decide) ?_
  refine lv_bipush (v := 108) hx hb dX12_init_447 (by decide) ?_
  refine th_bast hx hb hK hOw 3 rfl hS (hA _ hszq) (iv_in (X := (68)) (by decide) (by omega) (by omega)) dX12_init_449 (fun H locs hOw oq hS => ?_)
  have hI := mm_raw hI hnq oq
  have hO := hO.kept (oq _ hne0)
  obtain ⟨F, hOw⟩ : ∃ F, va_at D vwCl (qw, .inl (E 3, 89, .inl F)) H := ⟨_, hOw⟩
  refine lv_dup hx hb dX12_init_450 rfl ?_
  refine lv_bipush (v := 69) hx hb dX12_init_451 (by decide) ?_
  refine lv_bipush (v := 115) hx hb dX12_init_453 (by decide) ?_
  refine th_bast hx hb hK hOw 3 rfl hS (hA _ hszq) (iv_in (X := (69)) (by decide) (by omega) (by omega)) dX12_init_455 (fun H locs hOw oq hS => ?_)
  have hI := mm_raw hI hnq oq
  have hO := hO.kept (oq _ hne0)
  obtain ⟨F, hOw⟩ : ∃ F, va_at D vwCl (qw, .inl (E 3, 89, .inl F)) H := ⟨_, hOw⟩
  refine lv_dup hx hb dX12_init_456 rfl ?_
  refine lv_bipush (v := 70) hx hb dX12_init_457 (by decide) ?_
  refine lv_bipush (v := 32) hx hb dX12_init_459 (by decide) ?_
  refine th_bast hx hb hK hOw 3 rfl hS (hA _ hszq) (iv_in (X := (70)) (by decide) (by omega) (by omega)) dX12_init_461 (fun H locs hOw oq hS => ?_)
  have hI := mm_raw hI hnq oq
  have hO := hO.kept (oq _ hne0)
  obtain ⟨F, hOw⟩ : ∃ F, va_at D vwCl (qw, .inl (E 3, 89, .inl F)) H := ⟨_, hOw⟩
  refine lv_dup hx hb dX12_init_462 rfl ?_
  refine lv_bipush (v := 71) hx hb dX12_init_463 (by decide) ?_
  refine lv_bipush (v := 110) hx hb dX12_init_465 (by decide) ?_
  refine th_bast hx hb hK hOw 3 rfl hS (hA _ hszq) (iv_in (X := (71)) (by decide) (by omega) (by omega)) dX12_init_467 (fun H locs hOw oq hS => ?_)
  have hI := mm_raw hI hnq oq
  have hO := hO.kept (oq _ hne0)
  obtain ⟨F, hOw⟩ : ∃ F, va_at D vwCl (qw, .inl (E 3, 89, .inl F)) H := ⟨_, hOw⟩
  refine lv_dup hx hb dX12_init_468 rfl ?_
  refine lv_bipush (v := 72) hx hb dX12_init_469 (by decide) ?_
  refine lv_bipush (v := 97) hx hb dX12_init_471 (by decide) ?_
  refine th_bast hx hb hK hOw 3 rfl hS (hA _ hszq) (iv_in (X := (72)) (by decide) (by omega) (by omega)) dX12_init_473 (fun H locs hOw oq hS => ?_)
  have hI := mm_raw hI hnq oq
  have hO := hO.kept (oq _ hne0)
  obtain ⟨F, hOw⟩ : ∃ F, va_at D vwCl (qw, .inl (E 3, 89, .inl F)) H := ⟨_, hOw⟩
  refine lv_dup hx hb dX12_init_474 rfl ?_
  refine lv_bipush (v := 73) hx hb dX12_init_475 (by decide) ?_
  refine lv_bipush (v := 116) hx hb dX12_init_477 (by decide) ?_
  refine th_bast hx hb hK hOw 3 rfl hS (hA _ hszq) (iv_in (X := (73)) (by decide) (by omega) (by omega)) dX12_init_479 (fun H locs hOw oq hS => ?_)
  have hI := mm_raw hI hnq oq
  have hO := hO.kept (oq _ hne0)
  obtain ⟨F, hOw⟩ : ∃ F, va_at D vwCl (qw, .inl (E 3, 89, .inl F)) H := ⟨_, hOw⟩
  refine lv_dup hx hb dX12_init_480 rfl ?_
  refine lv_bipush (v := 74) hx hb dX12_init_481 (by decide) ?_
  refine lv_bipush (v := 117) hx hb dX12_init_483 (by decide) ?_
  refine th_bast hx hb hK hOw 3 rfl hS (hA _ hszq) (iv_in (X := (74)) (by decide) (by omega) (by omega)) dX12_init_485 (fun H locs hOw oq hS => ?_)
  have hI := mm_raw hI hnq oq
  have hO := hO.kept (oq _ hne0)
  obtain ⟨F, hOw⟩ : ∃ F, va_at D vwCl (qw, .inl (E 3, 89, .inl F)) H := ⟨_, hOw⟩
  refine lv_dup hx hb dX12_init_486 rfl ?_
  refine lv_bipush (v := 75) hx hb dX12_init_487 (by decide) ?_
  refine lv_bipush (v := 114) hx hb dX12_init_489 (by decide) ?_
  refine th_bast hx hb hK hOw 3 rfl hS (hA _ hszq) (iv_in (X := (75)) (by decide) (by omega) (by omega)) dX12_init_491 (fun H locs hOw oq hS => ?_)
  have hI := mm_raw hI hnq oq
  have hO := hO.kept (oq _ hne0)
  obtain ⟨F, hOw⟩ : ∃ F, va_at D vwCl (qw, .inl (E 3, 89, .inl F)) H := ⟨_, hOw⟩
  refine lv_dup hx hb dX12_init_492 rfl ?_
  refine lv_bipush (v := 76) hx hb dX12_init_493 (by decide) ?_
  refine lv_bipush (v := 97) hx hb dX12_init_495 (by decide) ?_
  refine th_bast hx hb hK hOw 3 rfl hS (hA _ hszq) (iv_in (X := (76)) (by decide) (by omega) (by omega)) dX12_init_497 (fun H locs hOw oq hS => ?_)
  have hI := mm_raw hI hnq oq
  have hO := hO.kept (oq _ hne0)
  obtain ⟨F, hOw⟩ : ∃ F, va_at D vwCl (qw, .inl (E 3, 89, .inl F)) H := ⟨_, hOw⟩
  refine lv_dup hx hb dX12_init_498 rfl ?_
  refine lv_bipush (v := 77) hx hb dX12_init_499 (by decide) ?_
  refine lv_bipush (v := 108) hx hb dX12_init_501 (by decide) ?_
  refine th_bast hx hb hK hOw 3 rfl hS (hA _ hszq) (iv_in (X := (77)) (by decide) (by omega) (by omega)) dX12_init_503 (fun H locs hOw oq hS => ?_)
  have hI := mm_raw hI hnq oq
  have hO := hO.kept (oq _ hne0)
  obtain ⟨F, hOw⟩ : ∃ F, va_at D vwCl (qw, .inl (E 3, 89, .inl F)) H := ⟨_, hOw⟩
  refine lv_dup hx hb dX12_init_504 rfl ?_
  refine lv_bipush (v := 78) hx hb dX12_init_505 (by decide) ?_
  refine lv_bipush (v := 32) hx hb dX12_init_507 (by decide) ?_
  refine th_bast hx hb hK hOw 3 rfl hS (hA _ hszq) (iv_in (X := (78)) (by decide) (by omega) (by omega)) dX12_init_509 (fun H locs hOw oq hS => ?_)
  have hI := mm_raw hI hnq oq
  have hO := hO.kept (oq _ hne0)
  obtain ⟨F, hOw⟩ : ∃ F, va_at D vwCl (qw, .inl (E 3, 89, .inl F)) H := ⟨_, hOw⟩
  refine lv_dup hx hb dX12_init_510 rfl ?_
  refine lv_bipush (v := 79) hx hb dX12_init_511 (by decide) ?_
  refine lv_bipush (v := 100) hx hb dX12_init_513 (by decide) ?_
  refine th_bast hx hb hK hOw 3 rfl hS (hA _ hszq) (iv_in (X := (79)) (by decide) (by omega) (by omega)) dX12_init_515 (fun H locs hOw oq hS => ?_)
  have hI := mm_raw hI hnq oq
  have hO := hO.kept (oq _ hne0)
  obtain ⟨F, hOw⟩ : ∃ F, va_at D vwCl (qw, .inl (E 3, 89, .inl F)) H := ⟨_, hOw⟩
  refine lv_dup hx hb dX12_init_516 rfl ?_
  refine lv_bipush (v := 80) hx hb dX12_init_517 (by decide) ?_
  refine lv_bipush (v := 111) hx hb dX12_init_519 (by decide) ?_
  refine th_bast hx hb hK hOw 3 rfl hS (hA _ hszq) (iv_in (X := (80)) (by decide) (by omega) (by omega)) dX12_init_521 (fun H locs hOw oq hS => ?_)
  have hI := mm_raw hI hnq oq
  have hO := hO.kept (oq _ hne0)
  obtain ⟨F, hOw⟩ : ∃ F, va_at D vwCl (qw, .inl (E 3, 89, .inl F)) H := ⟨_, hOw⟩
  refine lv_dup hx hb dX12_init_522 rfl ?_
  refine lv_bipush (v := 81) hx hb dX12_init_523 (by decide) ?_
  refine lv_bipush (v := 119) hx hb dX12_init_525 (by decide) ?_
  refine th_bast hx hb hK hOw 3 rfl hS (hA _ hszq) (iv_in (X := (81)) (by decide) (by omega) (by omega)) dX12_init_527 (fun H locs hOw oq hS => ?_)
  have hI := mm_raw hI hnq oq
  have hO := hO.kept (oq _ hne0)
  obtain ⟨F, hOw⟩ : ∃ F, va_at D vwCl (qw, .inl (E 3, 89, .inl F)) H := ⟨_, hOw⟩
  refine lv_dup hx hb dX12_init_528 rfl ?_
  refine lv_bipush (v := 82) hx hb dX12_init_529 (by decide) ?_
  refine lv_bipush (v := 110) hx hb dX12_init_531 (by decide) ?_
  refine th_bast hx hb hK hOw 3 rfl hS (hA _ hszq) (iv_in (X := (82)) (by decide) (by omega) (by omega)) dX12_init_533 (fun H locs hOw oq hS => ?_)
  have hI := mm_raw hI hnq oq
  have hO := hO.kept (oq _ hne0)
  obtain ⟨F, hOw⟩ : ∃ F, va_at D vwCl (qw, .inl (E 3, 89, .inl F)) H := ⟨_, hOw⟩
  refine lv_dup hx hb dX12_init_534 rfl ?_
  refine lv_bipush (v := 83) hx hb dX12_init_535 (by decide) ?_
  refine lv_bipush (v := 32) hx hb dX12_init_537 (by decide) ?_
  refine th_bast hx hb hK hOw 3 rfl hS (hA _ hszq) (iv_in (X := (83)) (by decide) (by omega) (by omega)) dX12_init_539 (fun H locs hOw oq hS => ?_)
  have hI := mm_raw hI hnq oq
  have hO := hO.kept (oq _ hne0)
  obtain ⟨F, hOw⟩ : ∃ F, va_at D vwCl (qw, .inl (E 3, 89, .inl F)) H := ⟨_, hOw⟩
  refine lv_dup hx hb dX12_init_540 rfl ?_
  refine lv_bipush (v := 84) hx hb dX12_init_541 (by decide) ?_
  refine lv_bipush (v := 121) hx hb dX12_init_543 (by decide) ?_
  refine th_bast hx hb hK hOw 3 rfl hS (hA _ hszq) (iv_in (X := (84)) (by decide) (by omega) (by omega)) dX12_init_545 (fun H locs hOw oq hS => ?_)
  have hI := mm_raw hI hnq oq
  have hO := hO.kept (oq _ hne0)
  obtain ⟨F, hOw⟩ : ∃ F, va_at D vwCl (qw, .inl (E 3, 89, .inl F)) H := ⟨_, hOw⟩
  refine lv_dup hx hb dX12_init_546 rfl ?_
  refine lv_bipush (v := 85) hx hb dX12_init_547 (by decide) ?_
  refine lv_bipush (v := 101) hx hb dX12_init_549 (by decide) ?_
  refine th_bast hx hb hK hOw 3 rfl hS (hA _ hszq) (iv_in (X := (85)) (by decide) (by omega) (by omega)) dX12_init_551 (fun H locs hOw oq hS => ?_)
  have hI := mm_raw hI hnq oq
  have hO := hO.kept (oq _ hne0)
  obtain ⟨F, hOw⟩ : ∃ F, va_at D vwCl (qw, .inl (E 3, 89, .inl F)) H := ⟨_, hOw⟩
  refine lv_dup hx hb dX12_init_552 rfl ?_
  refine lv_bipush (v := 86) hx hb dX12_init_553 (by decide) ?_
  refine lv_bipush (v := 97) hx hb dX12_init_555 (by decide) ?_
  refine th_bast hx hb hK hOw 3 rfl hS (hA _ hszq) (iv_in (X := (86)) (by decide) (by omega) (by omega)) dX12_init_557 (fun H locs hOw oq hS => ?_)
  have hI := mm_raw hI hnq oq
  have hO := hO.kept (oq _ hne0)
  obtain ⟨F, hOw⟩ : ∃ F, va_at D vwCl (qw, .inl (E 3, 89, .inl F)) H := ⟨_, hOw⟩
  refine lv_dup hx hb dX12_init_558 rfl ?_
  refine lv_bipush (v := 87) hx hb dX12_init_559 (by decide) ?_
  refine lv_bipush (v := 114) hx hb dX12_init_561 (by decide) ?_
  refine th_bast hx hb hK hOw 3 rfl hS (hA _ hszq) (iv_in (X := (87)) (by decide) (by omega) (by omega)) dX12_init_563 (fun H locs hOw oq hS => ?_)
  have hI := mm_raw hI hnq oq
  have hO := hO.kept (oq _ hne0)
  obtain ⟨F, hOw⟩ : ∃ F, va_at D vwCl (qw, .inl (E 3, 89, .inl F)) H := ⟨_, hOw⟩
  refine lv_dup hx hb dX12_init_564 rfl ?_
  refine lv_bipush (v := 88) hx hb dX12_init_565 (by decide) ?_
  refine lv_bipush (v := 32) hx hb dX12_init_567 (by decide) ?_
  refine th_bast hx hb hK hOw 3 rfl hS (hA _ hszq) (iv_in (X := (88)) (by decide) (by omega) (by omega)) dX12_init_569 (fun H locs hOw oq hS => ?_)
  have hI := mm_raw hI hnq oq
  have hO := hO.kept (oq _ hne0)
  obtain ⟨G, hle, hGne9, hqw, hAG, hn0, hI⟩ : ∃ G2, gle G G2 ∧ (∀ r, r ≠ qw → G2 r = G r) ∧ G2 qw = some (7, 89) ∧ (∀ (r : Nat) (k : th_K), G2 r = some k → A r) ∧ G2 h0 = none ∧ th_I (okM E) D G2 [] H := by
    refine ⟨gx G qw (7, 89), gx_le hnq, fun r hr => gx_ne hr, gx_a, fun r k h => ?_, (gx_ne hne0).trans hn0, mm_type hI hnq hOw (ok_m7 (by show (upd F 88 (vp_nar .byte 32) 88).toInt = 32; rw [pk_us]; decide))⟩
    by_cases hq : r = qw
    · rw [hq]; exact hA _ hszq
    · rw [gx_ne hq] at h; exact hAG r k h
  have hU1 := uq_keep hGne9 hqw (by decide) hU1
  have hU2 := uq_keep hGne9 hqw (by decide) hU2
  have hU11 := uq_keep hGne9 hqw (by decide) hU11
  have hq2 := hle _ _ hq2
  have hq4 := hle _ _ hq4
  have hq6 := hle _ _ hq6
  have hq8 := hle _ _ hq8
  have hle0 := hle0.tr hle
  refine th_putF (ty := (.array .byte)) hx hb hts inT12 tyX12 tyX12_ok nmX12 hown hK hO hS hA0 rfl 7 (by decide) (hts _ (tb_c wd_1240)) rfl hin rfl (by decide +kernel) rfl rfl (Nat.le_of_ble_eq_true rfl) dX12_init_570 (fun H locs hO oq hS => ?_)
  have hI := mm_raw hI hn0 oq
  have hO : va_at D vwCl (h0, .inr (12, [.int 0, .int 0, .ref a1, .ref a3, .ref a5, .ref a7, .int 0, .ref qw, .null, .null, .int 0, .int 0, .null, .null, .null, .int 0, .int 0, .int 0, .int 0, .int 0, .int 0, .int 0, .null, .null, .null, .null, .null, .null, .int 0, .int 0, .int 0, .int 0, .int 0, .int 0, .null, .null, .null, .null, .null, .null, .int 0, .int 0, .null, .null, .int 0, .int 0, .int 0, .int 0, .int 0, .null, .int 0, .int 0])) H := hO
  refine lv_aload_n hx hb dX12_init_573 rfl (lv_at hl 0 rfl) ?_
  refine lv_sipush (v := 400) hx hb dX12_init_574 (by decide) ?_
  refine mm_newb (t := 4) hx hb (hts _ (tb_c wd_784)) hK hI hS hA hAG 400 (by decide) (by decide) (by decide) (by rw [hR]; exact Nat.le_of_ble_eq_true rfl) (by rw [hR]; exact Nat.le_of_ble_eq_true rfl) (fun _ => ok_m4) dX12_init_577 (fun G a11 H hle hq12 hAG hqe hGne o1 hI hS => ?_)
  have hlt0 : h0 < _ := hO.lt
  have hn0 : G h0 = none := (hGne h0 (by omega)).trans hn0
  have hO := hO.kept (o1 _ hlt0)
  have hq2 := hle _ _ hq2
  have hq4 := hle _ _ hq4
  have hq6 := hle _ _ hq6
  have hq8 := hle _ _ hq8
  have hqw := hle _ _ hqw
  have hle0 := hle0.tr hle
  have hU1 := uq_keep hGne hq12 (by decide) hU1
  have hU2 := uq_keep hGne hq12 (by decide) hU2
  have hU11 := uq_keep hGne hq12 (by decide) hU11
  refine th_putF (ty := (.array .byte)) hx hb hts inT12 tyX12 tyX12_ok nmX12 hown hK hO hS hA0 rfl 8 (by decide) (hts _ (tb_c wd_1241)) rfl hin rfl (by decide +kernel) rfl rfl (Nat.le_of_ble_eq_true rfl) dX12_init_579 (fun H locs hO oq hS => ?_)
  have hI := mm_raw hI hn0 oq
  have hO : va_at D vwCl (h0, .inr (12, [.int 0, .int 0, .ref a1, .ref a3, .ref a5, .ref a7, .int 0, .ref qw, .ref a11, .null, .int 0, .int 0, .null, .null, .null, .int 0, .int 0, .int 0, .int 0, .int 0, .int 0, .int 0, .null, .null, .null, .null, .null, .null, .int 0, .int 0, .int 0, .int 0, .int 0, .int 0, .null, .null, .null, .null, .null, .null, .int 0, .int 0, .null, .null, .int 0, .int 0, .int 0, .int 0, .int 0, .null, .int 0, .int 0])) H := hO
  refine lv_aload_n hx hb dX12_init_582 rfl (lv_at hl 0 rfl) ?_
  refine lv_iconst (v := 5) hx hb dX12_init_583 (by decide) ?_
  refine mm_newi (t := 0) hx hb (hts _ (tb_c wd_55)) hK hI hS hA hAG 5 (by decide) (by decide) (by decide) (by rw [hR]; exact Nat.le_of_ble_eq_true rfl) (by rw [hR]; exact Nat.le_of_ble_eq_true rfl) (fun _ => ok_m0) dX12_init_584 (fun G a13 H hle hq14 hAG hqe hGne o1 hI hS => ?_)
  have hlt0 : h0 < _ := hO.lt
  have hn0 : G h0 = none := (hGne h0 (by omega)).trans hn0
  have hO := hO.kept (o1 _ hlt0)
  have hq2 := hle _ _ hq2
  have hq4 := hle _ _ hq4
  have hq6 := hle _ _ hq6
  have hq8 := hle _ _ hq8
  have hqw := hle _ _ hqw
  have hq12 := hle _ _ hq12
  have hle0 := hle0.tr hle
  have hU1 := uq_keep hGne hq14 (by decide) hU1
  have hU2 := uq_keep hGne hq14 (by decide) hU2
  have hU11 := uq_keep hGne hq14 (by decide) hU11
  refine th_putF (ty := (.array .int)) hx hb hts inT12 tyX12 tyX12_ok nmX12 hown hK hO hS hA0 rfl 9 (by decide) (hts _ (tb_c wd_1242)) rfl hin rfl (by decide +kernel) rfl rfl (Nat.le_of_ble_eq_true rfl) dX12_init_586 (fun H locs hO oq hS => ?_)
  have hI := mm_raw hI hn0 oq
  have hO : va_at D vwCl (h0, .inr (12, [.int 0, .int 0, .ref a1, .ref a3, .ref a5, .ref a7, .int 0, .ref qw, .ref a11, .ref a13, .int 0, .int 0, .null, .null, .null, .int 0, .int 0, .int 0, .int 0, .int 0, .int 0, .int 0, .null, .null, .null, .null, .null, .null, .int 0, .int 0, .int 0, .int 0, .int 0, .int 0, .null, .null, .null, .null, .null, .null, .int 0, .int 0, .null, .null, .int 0, .int 0, .int 0, .int 0, .int 0, .null, .int 0, .int 0])) H := hO
  refine lv_aload_n hx hb dX12_init_589 rfl (lv_at hl 0 rfl) ?_
  refine lv_iconst (v := (-1)) hx hb dX12_init_590 (by decide) ?_
  refine th_put (ty := .int) hx hb hts inT12 tyX12 tyX12_ok nmX12 hown hK hO hS hA0 rfl 11 (by decide) (hts _ (tb_c wd_1244)) rfl rfl (by decide +kernel) rfl rfl (Nat.le_of_ble_eq_true rfl) dX12_init_591 (fun H locs hO oq hS => ?_)
  have hI := mm_raw hI hn0 oq
  have hO : va_at D vwCl (h0, .inr (12, [.int 0, .int 0, .ref a1, .ref a3, .ref a5, .ref a7, .int 0, .ref qw, .ref a11, .ref a13, .int 0, .int (-1), .null, .null, .null, .int 0, .int 0, .int 0, .int 0, .int 0, .int 0, .int 0, .null, .null, .null, .null, .null, .null, .int 0, .int 0, .int 0, .int 0, .int 0, .int 0, .null, .null, .null, .null, .null, .null, .int 0, .int 0, .null, .null, .int 0, .int 0, .int 0, .int 0, .int 0, .null, .int 0, .int 0])) H := hO
  refine lv_aload_n hx hb dX12_init_594 rfl (lv_at hl 0 rfl) ?_
  refine lv_sipush (v := 401) hx hb dX12_init_595 (by decide) ?_
  refine mm_newi (t := 8) hx hb (hts _ (tb_c wd_55)) hK hI hS hA hAG 401 (by decide) (by decide) (by decide) (by rw [hR]; exact Nat.le_of_ble_eq_true rfl) (by rw [hR]; exact Nat.le_of_ble_eq_true rfl) (fun _ => ok_m8) dX12_init_598 (fun G a15 H hle hq16 hAG hqe hGne o1 hI hS => ?_)
  have hlt0 : h0 < _ := hO.lt
  have hn0 : G h0 = none := (hGne h0 (by omega)).trans hn0
  have hO := hO.kept (o1 _ hlt0)
  have hq2 := hle _ _ hq2
  have hq4 := hle _ _ hq4
  have hq6 := hle _ _ hq6
  have hq8 := hle _ _ hq8
  have hqw := hle _ _ hqw
  have hq12 := hle _ _ hq12
  have hq14 := hle _ _ hq14
  have hle0 := hle0.tr hle
  have hU1 := uq_keep hGne hq16 (by decide) hU1
  have hU2 := uq_keep hGne hq16 (by decide) hU2
  have hU11 := uq_keep hGne hq16 (by decide) hU11
  refine th_putF (ty := (.array .int)) hx hb hts inT12 tyX12 tyX12_ok nmX12 hown hK hO hS hA0 rfl 12 (by decide) (hts _ (tb_c wd_1245)) rfl hin rfl (by decide +kernel) rfl rfl (Nat.le_of_ble_eq_true rfl) dX12_init_600 (fun H locs hO oq hS => ?_)
  have hI := mm_raw hI hn0 oq
  have hO : va_at D vwCl (h0, .inr (12, [.int 0, .int 0, .ref a1, .ref a3, .ref a5, .ref a7, .int 0, .ref qw, .ref a11, .ref a13, .int 0, .int (-1), .ref a15, .null, .null, .int 0, .int 0, .int 0, .int 0, .int 0, .int 0, .int 0, .null, .null, .null, .null, .null, .null, .int 0, .int 0, .int 0, .int 0, .int 0, .int 0, .null, .null, .null, .null, .null, .null, .int 0, .int 0, .null, .null, .int 0, .int 0, .int 0, .int 0, .int 0, .null, .int 0, .int 0])) H := hO
  refine lv_aload_n hx hb dX12_init_603 rfl (lv_at hl 0 rfl) ?_
  refine lv_sipush (v := 401) hx hb dX12_init_604 (by decide) ?_
  refine mm_newi (t := 0) hx hb (hts _ (tb_c wd_55)) hK hI hS hA hAG 401 (by decide) (by decide) (by decide) (by rw [hR]; exact Nat.le_of_ble_eq_true rfl) (by rw [hR]; exact Nat.le_of_ble_eq_true rfl) (fun _ => ok_m0) dX12_init_607 (fun G a17 H hle hq18 hAG hqe hGne o1 hI hS => ?_)
  have hlt0 : h0 < _ := hO.lt
  have hn0 : G h0 = none := (hGne h0 (by omega)).trans hn0
  have hO := hO.kept (o1 _ hlt0)
  have hq2 := hle _ _ hq2
  have hq4 := hle _ _ hq4
  have hq6 := hle _ _ hq6
  have hq8 := hle _ _ hq8
  have hqw := hle _ _ hqw
  have hq12 := hle _ _ hq12
  have hq14 := hle _ _ hq14
  have hq16 := hle _ _ hq16
  have hle0 := hle0.tr hle
  have hU1 := uq_keep hGne hq18 (by decide) hU1
  have hU2 := uq_keep hGne hq18 (by decide) hU2
  have hU11 := uq_keep hGne hq18 (by decide) hU11
  refine th_putF (ty := (.array .int)) hx hb hts inT12 tyX12 tyX12_ok nmX12 hown hK hO hS hA0 rfl 13 (by decide) (hts _ (tb_c wd_1246)) rfl hin rfl (by decide +kernel) rfl rfl (Nat.le_of_ble_eq_true rfl) dX12_init_609 (fun H locs hO oq hS => ?_)
  have hI := mm_raw hI hn0 oq
  have hO : va_at D vwCl (h0, .inr (12, [.int 0, .int 0, .ref a1, .ref a3, .ref a5, .ref a7, .int 0, .ref qw, .ref a11, .ref a13, .int 0, .int (-1), .ref a15, .ref a17, .null, .int 0, .int 0, .int 0, .int 0, .int 0, .int 0, .int 0, .null, .null, .null, .null, .null, .null, .int 0, .int 0, .int 0, .int 0, .int 0, .int 0, .null, .null, .null, .null, .null, .null, .int 0, .int 0, .null, .null, .int 0, .int 0, .int 0, .int 0, .int 0, .null, .int 0, .int 0])) H := hO
  refine lv_aload_n hx hb dX12_init_612 rfl (lv_at hl 0 rfl) ?_
  refine lv_sipush (v := 401) hx hb dX12_init_613 (by decide) ?_
  refine mm_newi (t := 6) hx hb (hts _ (tb_c wd_55)) hK hI hS hA hAG 401 (by decide) (by decide) (by decide) (by rw [hR]; exact Nat.le_of_ble_eq_true rfl) (by rw [hR]; exact Nat.le_of_ble_eq_true rfl) (fun _ => ok_m6 (fun _ _ => ⟨by decide, by decide⟩)) dX12_init_616 (fun G a19 H hle hq20 hAG hqe hGne o1 hI hS => ?_)
  have hlt0 : h0 < _ := hO.lt
  have hn0 : G h0 = none := (hGne h0 (by omega)).trans hn0
  have hO := hO.kept (o1 _ hlt0)
  have hq2 := hle _ _ hq2
  have hq4 := hle _ _ hq4
  have hq6 := hle _ _ hq6
  have hq8 := hle _ _ hq8
  have hqw := hle _ _ hqw
  have hq12 := hle _ _ hq12
  have hq14 := hle _ _ hq14
  have hq16 := hle _ _ hq16
  have hq18 := hle _ _ hq18
  have hle0 := hle0.tr hle
  have hU1 := uq_keep hGne hq20 (by decide) hU1
  have hU2 := uq_keep hGne hq20 (by decide) hU2
  have hU11 := uq_keep hGne hq20 (by decide) hU11
  refine th_putF (ty := (.array .int)) hx hb hts inT12 tyX12 tyX12_ok nmX12 hown hK hO hS hA0 rfl 14 (by decide) (hts _ (tb_c wd_1247)) rfl hin rfl (by decide +kernel) rfl rfl (Nat.le_of_ble_eq_true rfl) dX12_init_618 (fun H locs hO oq hS => ?_)
  have hI := mm_raw hI hn0 oq
  have hO : va_at D vwCl (h0, .inr (12, [.int 0, .int 0, .ref a1, .ref a3, .ref a5, .ref a7, .int 0, .ref qw, .ref a11, .ref a13, .int 0, .int (-1), .ref a15, .ref a17, .ref a19, .int 0, .int 0, .int 0, .int 0, .int 0, .int 0, .int 0, .null, .null, .null, .null, .null, .null, .int 0, .int 0, .int 0, .int 0, .int 0, .int 0, .null, .null, .null, .null, .null, .null, .int 0, .int 0, .null, .null, .int 0, .int 0, .int 0, .int 0, .int 0, .null, .int 0, .int 0])) H := hO
  refine lv_aload_n hx hb dX12_init_621 rfl (lv_at hl 0 rfl) ?_
  refine lv_bipush (v := 9) hx hb dX12_init_622 (by decide) ?_
  refine mm_newi (t := 0) hx hb (hts _ (tb_c wd_55)) hK hI hS hA hAG 9 (by decide) (by decide) (by decide) (by rw [hR]; exact Nat.le_of_ble_eq_true rfl) (by rw [hR]; exact Nat.le_of_ble_eq_true rfl) (fun _ => ok_m0) dX12_init_624 (fun G a21 H hle hq22 hAG hqe hGne o1 hI hS => ?_)
  have hlt0 : h0 < _ := hO.lt
  have hn0 : G h0 = none := (hGne h0 (by omega)).trans hn0
  have hO := hO.kept (o1 _ hlt0)
  have hq2 := hle _ _ hq2
  have hq4 := hle _ _ hq4
  have hq6 := hle _ _ hq6
  have hq8 := hle _ _ hq8
  have hqw := hle _ _ hqw
  have hq12 := hle _ _ hq12
  have hq14 := hle _ _ hq14
  have hq16 := hle _ _ hq16
  have hq18 := hle _ _ hq18
  have hq20 := hle _ _ hq20
  have hle0 := hle0.tr hle
  have hU1 := uq_keep hGne hq22 (by decide) hU1
  have hU2 := uq_keep hGne hq22 (by decide) hU2
  have hU11 := uq_keep hGne hq22 (by decide) hU11
  refine th_putF (ty := (.array .int)) hx hb hts inT12 tyX12 tyX12_ok nmX12 hown hK hO hS hA0 rfl 22 (by decide) (hts _ (tb_c wd_1255)) rfl hin rfl (by decide +kernel) rfl rfl (Nat.le_of_ble_eq_true rfl) dX12_init_626 (fun H locs hO oq hS => ?_)
  have hI := mm_raw hI hn0 oq
  have hO : va_at D vwCl (h0, .inr (12, [.int 0, .int 0, .ref a1, .ref a3, .ref a5, .ref a7, .int 0, .ref qw, .ref a11, .ref a13, .int 0, .int (-1), .ref a15, .ref a17, .ref a19, .int 0, .int 0, .int 0, .int 0, .int 0, .int 0, .int 0, .ref a21, .null, .null, .null, .null, .null, .int 0, .int 0, .int 0, .int 0, .int 0, .int 0, .null, .null, .null, .null, .null, .null, .int 0, .int 0, .null, .null, .int 0, .int 0, .int 0, .int 0, .int 0, .null, .int 0, .int 0])) H := hO
  refine lv_aload_n hx hb dX12_init_629 rfl (lv_at hl 0 rfl) ?_
  refine lv_sipush (v := 2304) hx hb dX12_init_630 (by decide) ?_
  refine mm_newi (t := 0) hx hb (hts _ (tb_c wd_55)) hK hI hS hA hAG 2304 (by decide) (by decide) (by decide) (by rw [hR]; exact Nat.le_of_ble_eq_true rfl) (by rw [hR]; exact Nat.le_of_ble_eq_true rfl) (fun _ => ok_m0) dX12_init_633 (fun G a23 H hle hq24 hAG hqe hGne o1 hI hS => ?_)
  have hlt0 : h0 < _ := hO.lt
  have hn0 : G h0 = none := (hGne h0 (by omega)).trans hn0
  have hO := hO.kept (o1 _ hlt0)
  have hq2 := hle _ _ hq2
  have hq4 := hle _ _ hq4
  have hq6 := hle _ _ hq6
  have hq8 := hle _ _ hq8
  have hqw := hle _ _ hqw
  have hq12 := hle _ _ hq12
  have hq14 := hle _ _ hq14
  have hq16 := hle _ _ hq16
  have hq18 := hle _ _ hq18
  have hq20 := hle _ _ hq20
  have hq22 := hle _ _ hq22
  have hle0 := hle0.tr hle
  have hU1 := uq_keep hGne hq24 (by decide) hU1
  have hU2 := uq_keep hGne hq24 (by decide) hU2
  have hU11 := uq_keep hGne hq24 (by decide) hU11
  refine th_putF (ty := (.array .int)) hx hb hts inT12 tyX12 tyX12_ok nmX12 hown hK hO hS hA0 rfl 23 (by decide) (hts _ (tb_c wd_1256)) rfl hin rfl (by decide +kernel) rfl rfl (Nat.le_of_ble_eq_true rfl) dX12_init_635 (fun H locs hO oq hS => ?_)
  have hI := mm_raw hI hn0 oq
  have hO : va_at D vwCl (h0, .inr (12, [.int 0, .int 0, .ref a1, .ref a3, .ref a5, .ref a7, .int 0, .ref qw, .ref a11, .ref a13, .int 0, .int (-1), .ref a15, .ref a17, .ref a19, .int 0, .int 0, .int 0, .int 0, .int 0, .int 0, .int 0, .ref a21, .ref a23, .null, .null, .null, .null, .int 0, .int 0, .int 0, .int 0, .int 0, .int 0, .null, .null, .null, .null, .null, .null, .int 0, .int 0, .null, .null, .int 0, .int 0, .int 0, .int 0, .int 0, .null, .int 0, .int 0])) H := hO
  refine lv_aload_n hx hb dX12_init_638 rfl (lv_at hl 0 rfl) ?_
  refine lv_sipush (v := 2304) hx hb dX12_init_639 (by decide) ?_
  refine mm_newi (t := 0) hx hb (hts _ (tb_c wd_55)) hK hI hS hA hAG 2304 (by decide) (by decide) (by decide) (by rw [hR]; exact Nat.le_of_ble_eq_true rfl) (by rw [hR]; exact Nat.le_of_ble_eq_true rfl) (fun _ => ok_m0) dX12_init_642 (fun G a25 H hle hq26 hAG hqe hGne o1 hI hS => ?_)
  have hlt0 : h0 < _ := hO.lt
  have hn0 : G h0 = none := (hGne h0 (by omega)).trans hn0
  have hO := hO.kept (o1 _ hlt0)
  have hq2 := hle _ _ hq2
  have hq4 := hle _ _ hq4
  have hq6 := hle _ _ hq6
  have hq8 := hle _ _ hq8
  have hqw := hle _ _ hqw
  have hq12 := hle _ _ hq12
  have hq14 := hle _ _ hq14
  have hq16 := hle _ _ hq16
  have hq18 := hle _ _ hq18
  have hq20 := hle _ _ hq20
  have hq22 := hle _ _ hq22
  have hq24 := hle _ _ hq24
  have hle0 := hle0.tr hle
  have hU1 := uq_keep hGne hq26 (by decide) hU1
  have hU2 := uq_keep hGne hq26 (by decide) hU2
  have hU11 := uq_keep hGne hq26 (by decide) hU11
  refine th_putF (ty := (.array .int)) hx hb hts inT12 tyX12 tyX12_ok nmX12 hown hK hO hS hA0 rfl 24 (by decide) (hts _ (tb_c wd_1257)) rfl hin rfl (by decide +kernel) rfl rfl (Nat.le_of_ble_eq_true rfl) dX12_init_644 (fun H locs hO oq hS => ?_)
  have hI := mm_raw hI hn0 oq
  have hO : va_at D vwCl (h0, .inr (12, [.int 0, .int 0, .ref a1, .ref a3, .ref a5, .ref a7, .int 0, .ref qw, .ref a11, .ref a13, .int 0, .int (-1), .ref a15, .ref a17, .ref a19, .int 0, .int 0, .int 0, .int 0, .int 0, .int 0, .int 0, .ref a21, .ref a23, .ref a25, .null, .null, .null, .int 0, .int 0, .int 0, .int 0, .int 0, .int 0, .null, .null, .null, .null, .null, .null, .int 0, .int 0, .null, .null, .int 0, .int 0, .int 0, .int 0, .int 0, .null, .int 0, .int 0])) H := hO
  refine lv_aload_n hx hb dX12_init_647 rfl (lv_at hl 0 rfl) ?_
  refine lv_sipush (v := 4608) hx hb dX12_init_648 (by decide) ?_
  refine mm_newi (t := 0) hx hb (hts _ (tb_c wd_55)) hK hI hS hA hAG 4608 (by decide) (by decide) (by decide) (by rw [hR]; exact Nat.le_of_ble_eq_true rfl) (by rw [hR]; exact Nat.le_of_ble_eq_true rfl) (fun _ => ok_m0) dX12_init_651 (fun G a27 H hle hq28 hAG hqe hGne o1 hI hS => ?_)
  have hlt0 : h0 < _ := hO.lt
  have hn0 : G h0 = none := (hGne h0 (by omega)).trans hn0
  have hO := hO.kept (o1 _ hlt0)
  have hq2 := hle _ _ hq2
  have hq4 := hle _ _ hq4
  have hq6 := hle _ _ hq6
  have hq8 := hle _ _ hq8
  have hqw := hle _ _ hqw
  have hq12 := hle _ _ hq12
  have hq14 := hle _ _ hq14
  have hq16 := hle _ _ hq16
  have hq18 := hle _ _ hq18
  have hq20 := hle _ _ hq20
  have hq22 := hle _ _ hq22
  have hq24 := hle _ _ hq24
  have hq26 := hle _ _ hq26
  have hle0 := hle0.tr hle
  have hU1 := uq_keep hGne hq28 (by decide) hU1
  have hU2 := uq_keep hGne hq28 (by decide) hU2
  have hU11 := uq_keep hGne hq28 (by decide) hU11
  refine th_putF (ty := (.array .int)) hx hb hts inT12 tyX12 tyX12_ok nmX12 hown hK hO hS hA0 rfl 25 (by decide) (hts _ (tb_c wd_1258)) rfl hin rfl (by decide +kernel) rfl rfl (Nat.le_of_ble_eq_true rfl) dX12_init_653 (fun H locs hO oq hS => ?_)
  have hI := mm_raw hI hn0 oq
  have hO : va_at D vwCl (h0, .inr (12, [.int 0, .int 0, .ref a1, .ref a3, .ref a5, .ref a7, .int 0, .ref qw, .ref a11, .ref a13, .int 0, .int (-1), .ref a15, .ref a17, .ref a19, .int 0, .int 0, .int 0, .int 0, .int 0, .int 0, .int 0, .ref a21, .ref a23, .ref a25, .ref a27, .null, .null, .int 0, .int 0, .int 0, .int 0, .int 0, .int 0, .null, .null, .null, .null, .null, .null, .int 0, .int 0, .null, .null, .int 0, .int 0, .int 0, .int 0, .int 0, .null, .int 0, .int 0])) H := hO
  refine lv_aload_n hx hb dX12_init_656 rfl (lv_at hl 0 rfl) ?_
  refine lv_sipush (v := 2304) hx hb dX12_init_657 (by decide) ?_
  refine mm_newz (t := 5) hx hb (hts _ (tb_c wd_1390)) hK hI hS hA hAG 2304 (by decide) (by decide) (by decide) (by rw [hR]; exact Nat.le_of_ble_eq_true rfl) (by rw [hR]; exact Nat.le_of_ble_eq_true rfl) (fun _ => ok_m5) dX12_init_660 (fun G a29 H hle hq30 hAG hqe hGne o1 hI hS => ?_)
  have hlt0 : h0 < _ := hO.lt
  have hn0 : G h0 = none := (hGne h0 (by omega)).trans hn0
  have hO := hO.kept (o1 _ hlt0)
  have hq2 := hle _ _ hq2
  have hq4 := hle _ _ hq4
  have hq6 := hle _ _ hq6
  have hq8 := hle _ _ hq8
  have hqw := hle _ _ hqw
  have hq12 := hle _ _ hq12
  have hq14 := hle _ _ hq14
  have hq16 := hle _ _ hq16
  have hq18 := hle _ _ hq18
  have hq20 := hle _ _ hq20
  have hq22 := hle _ _ hq22
  have hq24 := hle _ _ hq24
  have hq26 := hle _ _ hq26
  have hq28 := hle _ _ hq28
  have hle0 := hle0.tr hle
  have hU1 := uq_keep hGne hq30 (by decide) hU1
  have hU2 := uq_keep hGne hq30 (by decide) hU2
  have hU11 := uq_keep hGne hq30 (by decide) hU11
  refine th_putF (ty := (.array .boolean)) hx hb hts inT12 tyX12 tyX12_ok nmX12 hown hK hO hS hA0 rfl 26 (by decide) (hts _ (tb_c wd_1259)) rfl hin rfl (by decide +kernel) rfl rfl (Nat.le_of_ble_eq_true rfl) dX12_init_662 (fun H locs hO oq hS => ?_)
  have hI := mm_raw hI hn0 oq
  have hO : va_at D vwCl (h0, .inr (12, [.int 0, .int 0, .ref a1, .ref a3, .ref a5, .ref a7, .int 0, .ref qw, .ref a11, .ref a13, .int 0, .int (-1), .ref a15, .ref a17, .ref a19, .int 0, .int 0, .int 0, .int 0, .int 0, .int 0, .int 0, .ref a21, .ref a23, .ref a25, .ref a27, .ref a29, .null, .int 0, .int 0, .int 0, .int 0, .int 0, .int 0, .null, .null, .null, .null, .null, .null, .int 0, .int 0, .null, .null, .int 0, .int 0, .int 0, .int 0, .int 0, .null, .int 0, .int 0])) H := hO
  refine lv_aload_n hx hb dX12_init_665 rfl (lv_at hl 0 rfl) ?_
  refine lv_sipush (v := 2400) hx hb dX12_init_666 (by decide) ?_
  refine mm_newi (t := 3) hx hb (hts _ (tb_c wd_55)) hK hI hS hA hAG 2400 (by decide) (by decide) (by decide) (by rw [hR]; exact Nat.le_of_ble_eq_true rfl) (by rw [hR]; exact Nat.le_of_ble_eq_true rfl) (fun _ => ok_m3 (fun _ _ => ⟨by decide, by decide⟩)) dX12_init_669 (fun G a31 H hle hq32 hAG hqe hGne o1 hI hS => ?_)
  have hlt0 : h0 < _ := hO.lt
  have hn0 : G h0 = none := (hGne h0 (by omega)).trans hn0
  have hO := hO.kept (o1 _ hlt0)
  have hq2 := hle _ _ hq2
  have hq4 := hle _ _ hq4
  have hq6 := hle _ _ hq6
  have hq8 := hle _ _ hq8
  have hqw := hle _ _ hqw
  have hq12 := hle _ _ hq12
  have hq14 := hle _ _ hq14
  have hq16 := hle _ _ hq16
  have hq18 := hle _ _ hq18
  have hq20 := hle _ _ hq20
  have hq22 := hle _ _ hq22
  have hq24 := hle _ _ hq24
  have hq26 := hle _ _ hq26
  have hq28 := hle _ _ hq28
  have hq30 := hle _ _ hq30
  have hle0 := hle0.tr hle
  have hU1 := uq_keep hGne hq32 (by decide) hU1
  have hU2 := uq_keep hGne hq32 (by decide) hU2
  have hU11 := uq_keep hGne hq32 (by decide) hU11
  refine th_putF (ty := (.array .int)) hx hb hts inT12 tyX12 tyX12_ok nmX12 hown hK hO hS hA0 rfl 27 (by decide) (hts _ (tb_c wd_1260)) rfl hin rfl (by decide +kernel) rfl rfl (Nat.le_of_ble_eq_true rfl) dX12_init_671 (fun H locs hO oq hS => ?_)
  have hI := mm_raw hI hn0 oq
  have hO : va_at D vwCl (h0, .inr (12, [.int 0, .int 0, .ref a1, .ref a3, .ref a5, .ref a7, .int 0, .ref qw, .ref a11, .ref a13, .int 0, .int (-1), .ref a15, .ref a17, .ref a19, .int 0, .int 0, .int 0, .int 0, .int 0, .int 0, .int 0, .ref a21, .ref a23, .ref a25, .ref a27, .ref a29, .ref a31, .int 0, .int 0, .int 0, .int 0, .int 0, .int 0, .null, .null, .null, .null, .null, .null, .int 0, .int 0, .null, .null, .int 0, .int 0, .int 0, .int 0, .int 0, .null, .int 0, .int 0])) H := hO
  refine lv_aload_n hx hb dX12_init_674 rfl (lv_at hl 0 rfl) ?_
  refine lv_iconst (v := (-1)) hx hb dX12_init_675 (by decide) ?_
  refine th_put (ty := .int) hx hb hts inT12 tyX12 tyX12_ok nmX12 hown hK hO hS hA0 rfl 28 (by decide) (hts _ (tb_c wd_1261)) rfl rfl (by decide +kernel) rfl rfl (Nat.le_of_ble_eq_true rfl) dX12_init_676 (fun H locs hO oq hS => ?_)
  have hI := mm_raw hI hn0 oq
  have hO : va_at D vwCl (h0, .inr (12, [.int 0, .int 0, .ref a1, .ref a3, .ref a5, .ref a7, .int 0, .ref qw, .ref a11, .ref a13, .int 0, .int (-1), .ref a15, .ref a17, .ref a19, .int 0, .int 0, .int 0, .int 0, .int 0, .int 0, .int 0, .ref a21, .ref a23, .ref a25, .ref a27, .ref a29, .ref a31, .int (-1), .int 0, .int 0, .int 0, .int 0, .int 0, .null, .null, .null, .null, .null, .null, .int 0, .int 0, .null, .null, .int 0, .int 0, .int 0, .int 0, .int 0, .null, .int 0, .int 0])) H := hO
  refine lv_aload_n hx hb dX12_init_679 rfl (lv_at hl 0 rfl) ?_
  refine lv_sipush (v := 1024) hx hb dX12_init_680 (by decide) ?_
  refine mm_newi (t := 0) hx hb (hts _ (tb_c wd_55)) hK hI hS hA hAG 1024 (by decide) (by decide) (by decide) (by rw [hR]; exact Nat.le_of_ble_eq_true rfl) (by rw [hR]; exact Nat.le_of_ble_eq_true rfl) (fun _ => ok_m0) dX12_init_683 (fun G a33 H hle hq34 hAG hqe hGne o1 hI hS => ?_)
  have hlt0 : h0 < _ := hO.lt
  have hn0 : G h0 = none := (hGne h0 (by omega)).trans hn0
  have hO := hO.kept (o1 _ hlt0)
  have hq2 := hle _ _ hq2
  have hq4 := hle _ _ hq4
  have hq6 := hle _ _ hq6
  have hq8 := hle _ _ hq8
  have hqw := hle _ _ hqw
  have hq12 := hle _ _ hq12
  have hq14 := hle _ _ hq14
  have hq16 := hle _ _ hq16
  have hq18 := hle _ _ hq18
  have hq20 := hle _ _ hq20
  have hq22 := hle _ _ hq22
  have hq24 := hle _ _ hq24
  have hq26 := hle _ _ hq26
  have hq28 := hle _ _ hq28
  have hq30 := hle _ _ hq30
  have hq32 := hle _ _ hq32
  have hle0 := hle0.tr hle
  have hU1 := uq_keep hGne hq34 (by decide) hU1
  have hU2 := uq_keep hGne hq34 (by decide) hU2
  have hU11 := uq_keep hGne hq34 (by decide) hU11
  refine th_putF (ty := (.array .int)) hx hb hts inT12 tyX12 tyX12_ok nmX12 hown hK hO hS hA0 rfl 34 (by decide) (hts _ (tb_c wd_1267)) rfl hin rfl (by decide +kernel) rfl rfl (Nat.le_of_ble_eq_true rfl) dX12_init_685 (fun H locs hO oq hS => ?_)
  have hI := mm_raw hI hn0 oq
  have hO : va_at D vwCl (h0, .inr (12, [.int 0, .int 0, .ref a1, .ref a3, .ref a5, .ref a7, .int 0, .ref qw, .ref a11, .ref a13, .int 0, .int (-1), .ref a15, .ref a17, .ref a19, .int 0, .int 0, .int 0, .int 0, .int 0, .int 0, .int 0, .ref a21, .ref a23, .ref a25, .ref a27, .ref a29, .ref a31, .int (-1), .int 0, .int 0, .int 0, .int 0, .int 0, .ref a33, .null, .null, .null, .null, .null, .int 0, .int 0, .null, .null, .int 0, .int 0, .int 0, .int 0, .int 0, .null, .int 0, .int 0])) H := hO
  refine lv_aload_n hx hb dX12_init_688 rfl (lv_at hl 0 rfl) ?_
  refine lv_bipush (v := 6) hx hb dX12_init_689 (by decide) ?_
  refine mm_newi (t := 0) hx hb (hts _ (tb_c wd_55)) hK hI hS hA hAG 6 (by decide) (by decide) (by decide) (by rw [hR]; exact Nat.le_of_ble_eq_true rfl) (by rw [hR]; exact Nat.le_of_ble_eq_true rfl) (fun _ => ok_m0) dX12_init_691 (fun G a35 H hle hq36 hAG hqe hGne o1 hI hS => ?_)
  have hlt0 : h0 < _ := hO.lt
  have hn0 : G h0 = none := (hGne h0 (by omega)).trans hn0
  have hO := hO.kept (o1 _ hlt0)
  have hq2 := hle _ _ hq2
  have hq4 := hle _ _ hq4
  have hq6 := hle _ _ hq6
  have hq8 := hle _ _ hq8
  have hqw := hle _ _ hqw
  have hq12 := hle _ _ hq12
  have hq14 := hle _ _ hq14
  have hq16 := hle _ _ hq16
  have hq18 := hle _ _ hq18
  have hq20 := hle _ _ hq20
  have hq22 := hle _ _ hq22
  have hq24 := hle _ _ hq24
  have hq26 := hle _ _ hq26
  have hq28 := hle _ _ hq28
  have hq30 := hle _ _ hq30
  have hq32 := hle _ _ hq32
  have hq34 := hle _ _ hq34
  have hle0 := hle0.tr hle
  have hU1 := uq_keep hGne hq36 (by decide) hU1
  have hU2 := uq_keep hGne hq36 (by decide) hU2
  have hU11 := uq_keep hGne hq36 (by decide) hU11
  refine th_putF (ty := (.array .int)) hx hb hts inT12 tyX12 tyX12_ok nmX12 hown hK hO hS hA0 rfl 35 (by decide) (hts _ (tb_c wd_1268)) rfl hin rfl (by decide +kernel) rfl rfl (Nat.le_of_ble_eq_true rfl) dX12_init_693 (fun H locs hO oq hS => ?_)
  have hI := mm_raw hI hn0 oq
  have hO : va_at D vwCl (h0, .inr (12, [.int 0, .int 0, .ref a1, .ref a3, .ref a5, .ref a7, .int 0, .ref qw, .ref a11, .ref a13, .int 0, .int (-1), .ref a15, .ref a17, .ref a19, .int 0, .int 0, .int 0, .int 0, .int 0, .int 0, .int 0, .ref a21, .ref a23, .ref a25, .ref a27, .ref a29, .ref a31, .int (-1), .int 0, .int 0, .int 0, .int 0, .int 0, .ref a33, .ref a35, .null, .null, .null, .null, .int 0, .int 0, .null, .null, .int 0, .int 0, .int 0, .int 0, .int 0, .null, .int 0, .int 0])) H := hO
  refine lv_aload_n hx hb dX12_init_696 rfl (lv_at hl 0 rfl) ?_
  refine lv_bipush (v := 6) hx hb dX12_init_697 (by decide) ?_
  refine mm_newi (t := 0) hx hb (hts _ (tb_c wd_55)) hK hI hS hA hAG 6 (by decide) (by decide) (by decide) (by rw [hR]; exact Nat.le_of_ble_eq_true rfl) (by rw [hR]; exact Nat.le_of_ble_eq_true rfl) (fun _ => ok_m0) dX12_init_699 (fun G a37 H hle hq38 hAG hqe hGne o1 hI hS => ?_)
  have hlt0 : h0 < _ := hO.lt
  have hn0 : G h0 = none := (hGne h0 (by omega)).trans hn0
  have hO := hO.kept (o1 _ hlt0)
  have hq2 := hle _ _ hq2
  have hq4 := hle _ _ hq4
  have hq6 := hle _ _ hq6
  have hq8 := hle _ _ hq8
  have hqw := hle _ _ hqw
  have hq12 := hle _ _ hq12
  have hq14 := hle _ _ hq14
  have hq16 := hle _ _ hq16
  have hq18 := hle _ _ hq18
  have hq20 := hle _ _ hq20
  have hq22 := hle _ _ hq22
  have hq24 := hle _ _ hq24
  have hq26 := hle _ _ hq26
  have hq28 := hle _ _ hq28
  have hq30 := hle _ _ hq30
  have hq32 := hle _ _ hq32
  have hq34 := hle _ _ hq34
  have hq36 := hle _ _ hq36
  have hle0 := hle0.tr hle
  have hU1 := uq_keep hGne hq38 (by decide) hU1
  have hU2 := uq_keep hGne hq38 (by decide) hU2
  have hU11 := uq_keep hGne hq38 (by decide) hU11
  refine th_putF (ty := (.array .int)) hx hb hts inT12 tyX12 tyX12_ok nmX12 hown hK hO hS hA0 rfl 36 (by decide) (hts _ (tb_c wd_1269)) rfl hin rfl (by decide +kernel) rfl rfl (Nat.le_of_ble_eq_true rfl) dX12_init_701 (fun H locs hO oq hS => ?_)
  have hI := mm_raw hI hn0 oq
  have hO : va_at D vwCl (h0, .inr (12, [.int 0, .int 0, .ref a1, .ref a3, .ref a5, .ref a7, .int 0, .ref qw, .ref a11, .ref a13, .int 0, .int (-1), .ref a15, .ref a17, .ref a19, .int 0, .int 0, .int 0, .int 0, .int 0, .int 0, .int 0, .ref a21, .ref a23, .ref a25, .ref a27, .ref a29, .ref a31, .int (-1), .int 0, .int 0, .int 0, .int 0, .int 0, .ref a33, .ref a35, .ref a37, .null, .null, .null, .int 0, .int 0, .null, .null, .int 0, .int 0, .int 0, .int 0, .int 0, .null, .int 0, .int 0])) H := hO
  refine lv_aload_n hx hb dX12_init_704 rfl (lv_at hl 0 rfl) ?_
  refine lv_bipush (v := 6) hx hb dX12_init_705 (by decide) ?_
  refine mm_newi (t := 0) hx hb (hts _ (tb_c wd_55)) hK hI hS hA hAG 6 (by decide) (by decide) (by decide) (by rw [hR]; exact Nat.le_of_ble_eq_true rfl) (by rw [hR]; exact Nat.le_of_ble_eq_true rfl) (fun _ => ok_m0) dX12_init_707 (fun G a39 H hle hq40 hAG hqe hGne o1 hI hS => ?_)
  have hlt0 : h0 < _ := hO.lt
  have hn0 : G h0 = none := (hGne h0 (by omega)).trans hn0
  have hO := hO.kept (o1 _ hlt0)
  have hq2 := hle _ _ hq2
  have hq4 := hle _ _ hq4
  have hq6 := hle _ _ hq6
  have hq8 := hle _ _ hq8
  have hqw := hle _ _ hqw
  have hq12 := hle _ _ hq12
  have hq14 := hle _ _ hq14
  have hq16 := hle _ _ hq16
  have hq18 := hle _ _ hq18
  have hq20 := hle _ _ hq20
  have hq22 := hle _ _ hq22
  have hq24 := hle _ _ hq24
  have hq26 := hle _ _ hq26
  have hq28 := hle _ _ hq28
  have hq30 := hle _ _ hq30
  have hq32 := hle _ _ hq32
  have hq34 := hle _ _ hq34
  have hq36 := hle _ _ hq36
  have hq38 := hle _ _ hq38
  have hle0 := hle0.tr hle
  have hU1 := uq_keep hGne hq40 (by decide) hU1
  have hU2 := uq_keep hGne hq40 (by decide) hU2
  have hU11 := uq_keep hGne hq40 (by decide) hU11
  refine th_putF (ty := (.array .int)) hx hb hts inT12 tyX12 tyX12_ok nmX12 hown hK hO hS hA0 rfl 37 (by decide) (hts _ (tb_c wd_1270)) rfl hin rfl (by decide +kernel) rfl rfl (Nat.le_of_ble_eq_true rfl) dX12_init_709 (fun H locs hO oq hS => ?_)
  have hI := mm_raw hI hn0 oq
  have hO : va_at D vwCl (h0, .inr (12, [.int 0, .int 0, .ref a1, .ref a3, .ref a5, .ref a7, .int 0, .ref qw, .ref a11, .ref a13, .int 0, .int (-1), .ref a15, .ref a17, .ref a19, .int 0, .int 0, .int 0, .int 0, .int 0, .int 0, .int 0, .ref a21, .ref a23, .ref a25, .ref a27, .ref a29, .ref a31, .int (-1), .int 0, .int 0, .int 0, .int 0, .int 0, .ref a33, .ref a35, .ref a37, .ref a39, .null, .null, .int 0, .int 0, .null, .null, .int 0, .int 0, .int 0, .int 0, .int 0, .null, .int 0, .int 0])) H := hO
  refine lv_aload_n hx hb dX12_init_712 rfl (lv_at hl 0 rfl) ?_
  refine lv_bipush (v := 6) hx hb dX12_init_713 (by decide) ?_
  refine mm_newi (t := 0) hx hb (hts _ (tb_c wd_55)) hK hI hS hA hAG 6 (by decide) (by decide) (by decide) (by rw [hR]; exact Nat.le_of_ble_eq_true rfl) (by rw [hR]; exact Nat.le_of_ble_eq_true rfl) (fun _ => ok_m0) dX12_init_715 (fun G a41 H hle hq42 hAG hqe hGne o1 hI hS => ?_)
  have hlt0 : h0 < _ := hO.lt
  have hn0 : G h0 = none := (hGne h0 (by omega)).trans hn0
  have hO := hO.kept (o1 _ hlt0)
  have hq2 := hle _ _ hq2
  have hq4 := hle _ _ hq4
  have hq6 := hle _ _ hq6
  have hq8 := hle _ _ hq8
  have hqw := hle _ _ hqw
  have hq12 := hle _ _ hq12
  have hq14 := hle _ _ hq14
  have hq16 := hle _ _ hq16
  have hq18 := hle _ _ hq18
  have hq20 := hle _ _ hq20
  have hq22 := hle _ _ hq22
  have hq24 := hle _ _ hq24
  have hq26 := hle _ _ hq26
  have hq28 := hle _ _ hq28
  have hq30 := hle _ _ hq30
  have hq32 := hle _ _ hq32
  have hq34 := hle _ _ hq34
  have hq36 := hle _ _ hq36
  have hq38 := hle _ _ hq38
  have hq40 := hle _ _ hq40
  have hle0 := hle0.tr hle
  have hU1 := uq_keep hGne hq42 (by decide) hU1
  have hU2 := uq_keep hGne hq42 (by decide) hU2
  have hU11 := uq_keep hGne hq42 (by decide) hU11
  refine th_putF (ty := (.array .int)) hx hb hts inT12 tyX12 tyX12_ok nmX12 hown hK hO hS hA0 rfl 38 (by decide) (hts _ (tb_c wd_1271)) rfl hin rfl (by decide +kernel) rfl rfl (Nat.le_of_ble_eq_true rfl) dX12_init_717 (fun H locs hO oq hS => ?_)
  have hI := mm_raw hI hn0 oq
  have hO : va_at D vwCl (h0, .inr (12, [.int 0, .int 0, .ref a1, .ref a3, .ref a5, .ref a7, .int 0, .ref qw, .ref a11, .ref a13, .int 0, .int (-1), .ref a15, .ref a17, .ref a19, .int 0, .int 0, .int 0, .int 0, .int 0, .int 0, .int 0, .ref a21, .ref a23, .ref a25, .ref a27, .ref a29, .ref a31, .int (-1), .int 0, .int 0, .int 0, .int 0, .int 0, .ref a33, .ref a35, .ref a37, .ref a39, .ref a41, .null, .int 0, .int 0, .null, .null, .int 0, .int 0, .int 0, .int 0, .int 0, .null, .int 0, .int 0])) H := hO
  refine lv_aload_n hx hb dX12_init_720 rfl (lv_at hl 0 rfl) ?_
  refine lv_sipush (v := 2304) hx hb dX12_init_721 (by decide) ?_
  refine mm_newz (t := 5) hx hb (hts _ (tb_c wd_1390)) hK hI hS hA hAG 2304 (by decide) (by decide) (by decide) (by rw [hR]; exact Nat.le_of_ble_eq_true rfl) (by rw [hR]; exact Nat.le_of_ble_eq_true rfl) (fun _ => ok_m5) dX12_init_724 (fun G a43 H hle hq44 hAG hqe hGne o1 hI hS => ?_)
  have hlt0 : h0 < _ := hO.lt
  have hn0 : G h0 = none := (hGne h0 (by omega)).trans hn0
  have hO := hO.kept (o1 _ hlt0)
  have hq2 := hle _ _ hq2
  have hq4 := hle _ _ hq4
  have hq6 := hle _ _ hq6
  have hq8 := hle _ _ hq8
  have hqw := hle _ _ hqw
  have hq12 := hle _ _ hq12
  have hq14 := hle _ _ hq14
  have hq16 := hle _ _ hq16
  have hq18 := hle _ _ hq18
  have hq20 := hle _ _ hq20
  have hq22 := hle _ _ hq22
  have hq24 := hle _ _ hq24
  have hq26 := hle _ _ hq26
  have hq28 := hle _ _ hq28
  have hq30 := hle _ _ hq30
  have hq32 := hle _ _ hq32
  have hq34 := hle _ _ hq34
  have hq36 := hle _ _ hq36
  have hq38 := hle _ _ hq38
  have hq40 := hle _ _ hq40
  have hq42 := hle _ _ hq42
  have hle0 := hle0.tr hle
  have hU1 := uq_keep hGne hq44 (by decide) hU1
  have hU2 := uq_keep hGne hq44 (by decide) hU2
  have hU11 := uq_keep hGne hq44 (by decide) hU11
  refine th_putF (ty := (.array .boolean)) hx hb hts inT12 tyX12 tyX12_ok nmX12 hown hK hO hS hA0 rfl 39 (by decide) (hts _ (tb_c wd_1272)) rfl hin rfl (by decide +kernel) rfl rfl (Nat.le_of_ble_eq_true rfl) dX12_init_726 (fun H locs hO oq hS => ?_)
  have hI := mm_raw hI hn0 oq
  have hO : va_at D vwCl (h0, .inr (12, [.int 0, .int 0, .ref a1, .ref a3, .ref a5, .ref a7, .int 0, .ref qw, .ref a11, .ref a13, .int 0, .int (-1), .ref a15, .ref a17, .ref a19, .int 0, .int 0, .int 0, .int 0, .int 0, .int 0, .int 0, .ref a21, .ref a23, .ref a25, .ref a27, .ref a29, .ref a31, .int (-1), .int 0, .int 0, .int 0, .int 0, .int 0, .ref a33, .ref a35, .ref a37, .ref a39, .ref a41, .ref a43, .int 0, .int 0, .null, .null, .int 0, .int 0, .int 0, .int 0, .int 0, .null, .int 0, .int 0])) H := hO
  refine lv_aload_n hx hb dX12_init_729 rfl (lv_at hl 0 rfl) ?_
  refine lv_bipush (v := 98) hx hb dX12_init_730 (by decide) ?_
  refine mm_newi (t := 0) hx hb (hts _ (tb_c wd_55)) hK hI hS hA hAG 98 (by decide) (by decide) (by decide) (by rw [hR]; exact Nat.le_of_ble_eq_true rfl) (by rw [hR]; exact Nat.le_of_ble_eq_true rfl) (fun _ => ok_m0) dX12_init_732 (fun G a45 H hle hq46 hAG hqe hGne o1 hI hS => ?_)
  have hlt0 : h0 < _ := hO.lt
  have hn0 : G h0 = none := (hGne h0 (by omega)).trans hn0
  have hO := hO.kept (o1 _ hlt0)
  have hq2 := hle _ _ hq2
  have hq4 := hle _ _ hq4
  have hq6 := hle _ _ hq6
  have hq8 := hle _ _ hq8
  have hqw := hle _ _ hqw
  have hq12 := hle _ _ hq12
  have hq14 := hle _ _ hq14
  have hq16 := hle _ _ hq16
  have hq18 := hle _ _ hq18
  have hq20 := hle _ _ hq20
  have hq22 := hle _ _ hq22
  have hq24 := hle _ _ hq24
  have hq26 := hle _ _ hq26
  have hq28 := hle _ _ hq28
  have hq30 := hle _ _ hq30
  have hq32 := hle _ _ hq32
  have hq34 := hle _ _ hq34
  have hq36 := hle _ _ hq36
  have hq38 := hle _ _ hq38
  have hq40 := hle _ _ hq40
  have hq42 := hle _ _ hq42
  have hq44 := hle _ _ hq44
  have hle0 := hle0.tr hle
  have hU1 := uq_keep hGne hq46 (by decide) hU1
  have hU2 := uq_keep hGne hq46 (by decide) hU2
  have hU11 := uq_keep hGne hq46 (by decide) hU11
  refine th_putF (ty := (.array .int)) hx hb hts inT12 tyX12 tyX12_ok nmX12 hown hK hO hS hA0 rfl 42 (by decide) (hts _ (tb_c wd_1275)) rfl hin rfl (by decide +kernel) rfl rfl (Nat.le_of_ble_eq_true rfl) dX12_init_734 (fun H locs hO oq hS => ?_)
  have hI := mm_raw hI hn0 oq
  have hO : va_at D vwCl (h0, .inr (12, [.int 0, .int 0, .ref a1, .ref a3, .ref a5, .ref a7, .int 0, .ref qw, .ref a11, .ref a13, .int 0, .int (-1), .ref a15, .ref a17, .ref a19, .int 0, .int 0, .int 0, .int 0, .int 0, .int 0, .int 0, .ref a21, .ref a23, .ref a25, .ref a27, .ref a29, .ref a31, .int (-1), .int 0, .int 0, .int 0, .int 0, .int 0, .ref a33, .ref a35, .ref a37, .ref a39, .ref a41, .ref a43, .int 0, .int 0, .ref a45, .null, .int 0, .int 0, .int 0, .int 0, .int 0, .null, .int 0, .int 0])) H := hO
  refine lv_aload_n hx hb dX12_init_737 rfl (lv_at hl 0 rfl) ?_
  refine lv_bipush (v := 25) hx hb dX12_init_738 (by decide) ?_
  refine mm_newi (t := 9) hx hb (hts _ (tb_c wd_55)) hK hI hS hA hAG 25 (by decide) (by decide) (by decide) (by rw [hR]; exact Nat.le_of_ble_eq_true rfl) (by rw [hR]; exact Nat.le_of_ble_eq_true rfl) (fun _ => ok_m9) dX12_init_740 (fun G a47 H hle hq48 hAG hqe hGne o1 hI hS => ?_)
  have hlt0 : h0 < _ := hO.lt
  have hn0 : G h0 = none := (hGne h0 (by omega)).trans hn0
  have hO := hO.kept (o1 _ hlt0)
  have hq2 := hle _ _ hq2
  have hq4 := hle _ _ hq4
  have hq6 := hle _ _ hq6
  have hq8 := hle _ _ hq8
  have hqw := hle _ _ hqw
  have hq12 := hle _ _ hq12
  have hq14 := hle _ _ hq14
  have hq16 := hle _ _ hq16
  have hq18 := hle _ _ hq18
  have hq20 := hle _ _ hq20
  have hq22 := hle _ _ hq22
  have hq24 := hle _ _ hq24
  have hq26 := hle _ _ hq26
  have hq28 := hle _ _ hq28
  have hq30 := hle _ _ hq30
  have hq32 := hle _ _ hq32
  have hq34 := hle _ _ hq34
  have hq36 := hle _ _ hq36
  have hq38 := hle _ _ hq38
  have hq40 := hle _ _ hq40
  have hq42 := hle _ _ hq42
  have hq44 := hle _ _ hq44
  have hq46 := hle _ _ hq46
  have hle0 := hle0.tr hle
  have hU1 := uq_keep hGne hq48 (by decide) hU1
  have hU2 := uq_keep hGne hq48 (by decide) hU2
  have hU11 := uq_keep hGne hq48 (by decide) hU11
  refine th_putF (ty := (.array .int)) hx hb hts inT12 tyX12 tyX12_ok nmX12 hown hK hO hS hA0 rfl 43 (by decide) (hts _ (tb_c wd_1276)) rfl hin rfl (by decide +kernel) rfl rfl (Nat.le_of_ble_eq_true rfl) dX12_init_742 (fun H locs hO oq hS => ?_)
  have hI := mm_raw hI hn0 oq
  have hO : va_at D vwCl (h0, .inr (12, [.int 0, .int 0, .ref a1, .ref a3, .ref a5, .ref a7, .int 0, .ref qw, .ref a11, .ref a13, .int 0, .int (-1), .ref a15, .ref a17, .ref a19, .int 0, .int 0, .int 0, .int 0, .int 0, .int 0, .int 0, .ref a21, .ref a23, .ref a25, .ref a27, .ref a29, .ref a31, .int (-1), .int 0, .int 0, .int 0, .int 0, .int 0, .ref a33, .ref a35, .ref a37, .ref a39, .ref a41, .ref a43, .int 0, .int 0, .ref a45, .ref a47, .int 0, .int 0, .int 0, .int 0, .int 0, .null, .int 0, .int 0])) H := hO
  refine lv_aload_n hx hb dX12_init_745 rfl (lv_at hl 0 rfl) ?_
  refine lv_iconst (v := (-1)) hx hb dX12_init_746 (by decide) ?_
  refine th_put (ty := .int) hx hb hts inT12 tyX12 tyX12_ok nmX12 hown hK hO hS hA0 rfl 47 (by decide) (hts _ (tb_c wd_1280)) rfl rfl (by decide +kernel) rfl rfl (Nat.le_of_ble_eq_true rfl) dX12_init_747 (fun H locs hO oq hS => ?_)
  have hI := mm_raw hI hn0 oq
  have hO : va_at D vwCl (h0, .inr (12, [.int 0, .int 0, .ref a1, .ref a3, .ref a5, .ref a7, .int 0, .ref qw, .ref a11, .ref a13, .int 0, .int (-1), .ref a15, .ref a17, .ref a19, .int 0, .int 0, .int 0, .int 0, .int 0, .int 0, .int 0, .ref a21, .ref a23, .ref a25, .ref a27, .ref a29, .ref a31, .int (-1), .int 0, .int 0, .int 0, .int 0, .int 0, .ref a33, .ref a35, .ref a37, .ref a39, .ref a41, .ref a43, .int 0, .int 0, .ref a45, .ref a47, .int 0, .int 0, .int 0, .int (-1), .int 0, .null, .int 0, .int 0])) H := hO
  refine lv_aload_n hx hb dX12_init_750 rfl (lv_at hl 0 rfl) ?_
  refine lv_bipush (v := 24) hx hb dX12_init_751 (by decide) ?_
  refine mm_newi (t := 3) hx hb (hts _ (tb_c wd_55)) hK hI hS hA hAG 24 (by decide) (by decide) (by decide) (by rw [hR]; exact Nat.le_of_ble_eq_true rfl) (by rw [hR]; exact Nat.le_of_ble_eq_true rfl) (fun _ => ok_m3 (fun _ _ => ⟨by decide, by decide⟩)) dX12_init_753 (fun G a49 H hle hq50 hAG hqe hGne o1 hI hS => ?_)
  have hlt0 : h0 < _ := hO.lt
  have hn0 : G h0 = none := (hGne h0 (by omega)).trans hn0
  have hO := hO.kept (o1 _ hlt0)
  have hq2 := hle _ _ hq2
  have hq4 := hle _ _ hq4
  have hq6 := hle _ _ hq6
  have hq8 := hle _ _ hq8
  have hqw := hle _ _ hqw
  have hq12 := hle _ _ hq12
  have hq14 := hle _ _ hq14
  have hq16 := hle _ _ hq16
  have hq18 := hle _ _ hq18
  have hq20 := hle _ _ hq20
  have hq22 := hle _ _ hq22
  have hq24 := hle _ _ hq24
  have hq26 := hle _ _ hq26
  have hq28 := hle _ _ hq28
  have hq30 := hle _ _ hq30
  have hq32 := hle _ _ hq32
  have hq34 := hle _ _ hq34
  have hq36 := hle _ _ hq36
  have hq38 := hle _ _ hq38
  have hq40 := hle _ _ hq40
  have hq42 := hle _ _ hq42
  have hq44 := hle _ _ hq44
  have hq46 := hle _ _ hq46
  have hq48 := hle _ _ hq48
  have hle0 := hle0.tr hle
  have hU1 := uq_keep hGne hq50 (by decide) hU1
  have hU2 := uq_keep hGne hq50 (by decide) hU2
  have hU11 := uq_keep hGne hq50 (by decide) hU11
  refine th_putF (ty := (.array .int)) hx hb hts inT12 tyX12 tyX12_ok nmX12 hown hK hO hS hA0 rfl 49 (by decide) (hts _ (tb_c wd_1282)) rfl hin rfl (by decide +kernel) rfl rfl (Nat.le_of_ble_eq_true rfl) dX12_init_755 (fun H locs hO oq hS => ?_)
  have hI := mm_raw hI hn0 oq
  have hO : va_at D vwCl (h0, .inr (12, [.int 0, .int 0, .ref a1, .ref a3, .ref a5, .ref a7, .int 0, .ref qw, .ref a11, .ref a13, .int 0, .int (-1), .ref a15, .ref a17, .ref a19, .int 0, .int 0, .int 0, .int 0, .int 0, .int 0, .int 0, .ref a21, .ref a23, .ref a25, .ref a27, .ref a29, .ref a31, .int (-1), .int 0, .int 0, .int 0, .int 0, .int 0, .ref a33, .ref a35, .ref a37, .ref a39, .ref a41, .ref a43, .int 0, .int 0, .ref a45, .ref a47, .int 0, .int 0, .int 0, .int (-1), .int 0, .ref a49, .int 0, .int 0])) H := hO
  refine lv_aload_n hx hb dX12_init_758 rfl (lv_at hl 0 rfl) ?_
  refine th_get hx hb hts inT12 hown hK hO rfl 3 (by decide) (hts _ (tb_c wd_1236)) rfl rfl dX12_init_759 ?_
  refine lv_iconst (v := 1) hx hb dX12_init_762 (by decide) ?_
  refine lv_bipush (v := 23) hx hb dX12_init_763 (by decide) ?_
  obtain ⟨_, hA1, hP1⟩ := om_1 hI hq4 List.not_mem_nil
  refine th_iast hx hb hK hA1 0 rfl hS (hAG _ _ hq4) (iv_in (X := (1)) (by decide) (by omega) (by omega)) dX12_init_765 (fun H locs hA1 oq hS => ?_)
  have hP1 := kOk.set (i := 1) (v := 23) hP1 (X := (1)) (V := (23)) (by decide) (by decide) (by omega) (by omega) (ks_pumps (by omega) (by omega) (by omega))
  have hI := th_I.put hI hq4 hA1 (ok_m1 hP1) oq
  have hO := hO.kept (oq _ (mm_neN hn0 hq4))
  refine lv_aload_n hx hb dX12_init_766 rfl (lv_at hl 0 rfl) ?_
  refine th_get hx hb hts inT12 hown hK hO rfl 3 (by decide) (hts _ (tb_c wd_1236)) rfl rfl dX12_init_767 ?_
  refine lv_bipush (v := 6) hx hb dX12_init_770 (by decide) ?_
  refine lv_bipush (v := 23) hx hb dX12_init_772 (by decide) ?_
  obtain ⟨_, hA1, hP1⟩ := om_1 hI hq4 List.not_mem_nil
  refine th_iast hx hb hK hA1 0 rfl hS (hAG _ _ hq4) (iv_in (X := (6)) (by decide) (by omega) (by omega)) dX12_init_774 (fun H locs hA1 oq hS => ?_)
  have hP1 := kOk.set (i := 6) (v := 23) hP1 (X := (6)) (V := (23)) (by decide) (by decide) (by omega) (by omega) (ks_pumps (by omega) (by omega) (by omega))
  have hI := th_I.put hI hq4 hA1 (ok_m1 hP1) oq
  have hO := hO.kept (oq _ (mm_neN hn0 hq4))
  refine lv_aload_n hx hb dX12_init_775 rfl (lv_at hl 0 rfl) ?_
  refine th_get hx hb hts inT12 hown hK hO rfl 3 (by decide) (hts _ (tb_c wd_1236)) rfl rfl dX12_init_776 ?_
  refine lv_sipush (v := 306) hx hb dX12_init_779 (by decide) ?_
  refine lv_iconst (v := 1) hx hb dX12_init_782 (by decide) ?_
  obtain ⟨_, hA1, hP1⟩ := om_1 hI hq4 List.not_mem_nil
  refine th_iast hx hb hK hA1 0 rfl hS (hAG _ _ hq4) (iv_in (X := (306)) (by decide) (by omega) (by omega)) dX12_init_783 (fun H locs hA1 oq hS => ?_)
  have hP1 := kOk.set (i := 306) (v := 1) hP1 (X := (306)) (V := (1)) (by decide) (by decide) (by omega) (by omega) (ks_term (by omega) (by omega) (by omega))
  have hI := th_I.put hI hq4 hA1 (ok_m1 hP1) oq
  have hO := hO.kept (oq _ (mm_neN hn0 hq4))
  refine lv_aload_n hx hb dX12_init_784 rfl (lv_at hl 0 rfl) ?_
  refine th_get hx hb hts inT12 hown hK hO rfl 3 (by decide) (hts _ (tb_c wd_1236)) rfl rfl dX12_init_785 ?_
  refine lv_sipush (v := 316) hx hb dX12_init_788 (by decide) ?_
  refine lv_iconst (v := (-1)) hx hb dX12_init_791 (by decide) ?_
  obtain ⟨_, hA1, hP1⟩ := om_1 hI hq4 List.not_mem_nil
  refine th_iast hx hb hK hA1 0 rfl hS (hAG _ _ hq4) (iv_in (X := (316)) (by decide) (by omega) (by omega)) dX12_init_792 (fun H locs hA1 oq hS => ?_)
  have hP1 := kOk.set (i := 316) (v := (-1)) hP1 (X := (316)) (V := (-1)) (by decide) (by decide) (by omega) (by omega) (ks_force (by omega) (by omega) (by omega) ⟨by omega, by omega⟩)
  have hI := th_I.put hI hq4 hA1 (ok_m1 hP1) oq
  have hO := hO.kept (oq _ (mm_neN hn0 hq4))
  have hI := mm_type (k := (10, 0)) hI hn0 hO (ok_m10 (mOk_of (show mAll _ mfs _ from ⟨⟨_, rfl, by decide, by decide⟩, ⟨_, rfl, by decide, by decide⟩, ⟨_, rfl, gx_le hn0 _ _ hq2⟩, ⟨_, rfl, gx_le hn0 _ _ hq4⟩, ⟨_, rfl, gx_le hn0 _ _ hq6⟩, ⟨_, rfl, gx_le hn0 _ _ hq8⟩, ⟨_, rfl, by decide, by decide⟩, ⟨_, rfl, gx_le hn0 _ _ hqw⟩, ⟨_, rfl, gx_le hn0 _ _ hq12⟩, ⟨_, rfl, gx_le hn0 _ _ hq14⟩, ⟨_, rfl, by decide, by decide⟩, ⟨_, rfl, by decide, by decide⟩, ⟨_, rfl, gx_le hn0 _ _ hq16⟩, ⟨_, rfl, gx_le hn0 _ _ hq18⟩, ⟨_, rfl, gx_le hn0 _ _ hq20⟩, ⟨_, rfl, by decide, by decide⟩, ⟨_, rfl, by decide, by decide⟩, ⟨_, rfl, by decide, by decide⟩, ⟨_, rfl, by decide, by decide⟩, ⟨_, rfl, by decide, by decide⟩, ⟨_, rfl, by decide, by decide⟩, ⟨_, rfl, by decide, by decide⟩, ⟨_, rfl, gx_le hn0 _ _ hq22⟩, ⟨_, rfl, gx_le hn0 _ _ hq24⟩, ⟨_, rfl, gx_le hn0 _ _ hq26⟩, ⟨_, rfl, gx_le hn0 _ _ hq28⟩, ⟨_, rfl, gx_le hn0 _ _ hq30⟩, ⟨_, rfl, gx_le hn0 _ _ hq32⟩, ⟨_, rfl, by decide, by decide⟩, ⟨_, rfl, by decide, by decide⟩, ⟨_, rfl, by decide, by decide⟩, ⟨_, rfl, by decide, by decide⟩, ⟨_, rfl, by decide, by decide⟩, ⟨_, rfl, by decide, by decide⟩, ⟨_, rfl, gx_le hn0 _ _ hq34⟩, ⟨_, rfl, gx_le hn0 _ _ hq36⟩, ⟨_, rfl, gx_le hn0 _ _ hq38⟩, ⟨_, rfl, gx_le hn0 _ _ hq40⟩, ⟨_, rfl, gx_le hn0 _ _ hq42⟩, ⟨_, rfl, gx_le hn0 _ _ hq44⟩, ⟨_, rfl, by decide, by decide⟩, ⟨_, rfl, by decide, by decide⟩, ⟨_, rfl, gx_le hn0 _ _ hq46⟩, ⟨_, rfl, gx_le hn0 _ _ hq48⟩, ⟨_, rfl, by decide, by decide⟩, ⟨_, rfl, by decide, by decide⟩, ⟨_, rfl, by decide, by decide⟩, ⟨_, rfl, by decide, by decide⟩, ⟨_, rfl, by decide, by decide⟩, ⟨_, rfl, gx_le hn0 _ _ hq50⟩, ⟨_, rfl, by decide, by decide⟩, ⟨_, rfl, by decide, by decide⟩, trivial⟩)))
  refine W.widen (k := 25) (n := 34503) (Nat.le_of_ble_eq_true rfl) (Nat.le_of_ble_eq_true rfl) ?_
  rw [← hAe] at hS ⊢
  exact W.vret hx hb hr (fun t ht hW => ⟨⟨gx G h0 (10, 0), rfl, ⟨hle0.tr (gx_le hn0), ⟨gx_a, uq_keep (fun r hr => gx_ne hr) gx_a (by decide) hU1, uq_keep (fun r hr => gx_ne hr) gx_a (by decide) hU2, uq_keep (fun r hr => gx_ne hr) gx_a (by decide) hU11⟩, fun r k hr => mA_new (hAe ▸ hAG) hle0 hr⟩, by rw [ht]; exact hI, hN.warm hW, va_K.moved hW.alike hK⟩, hS.F ht⟩) hS.2.2 dX12_init_793
