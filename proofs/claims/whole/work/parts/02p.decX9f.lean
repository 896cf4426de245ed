theorem dX9_back_137 : decode cX9_back 137 = .ok (.iinc 1 1, 3) := by decide +kernel
theorem dX9_back_140 : decode cX9_back 140 = .ok (.goto (-64), 3) := by decide +kernel
theorem dX9_back_143 : decode cX9_back 143 = .ok (.aload_n 0, 1) := by decide +kernel
theorem dX9_back_144 : decode cX9_back 144 = .ok (.aload_n 0, 1) := by decide +kernel
theorem dX9_back_145 : decode cX9_back 145 = .ok (.getfield 449, 3) := by decide +kernel
theorem dX9_back_148 : decode cX9_back 148 = .ok (.putfield 282, 3) := by decide +kernel
theorem dX9_back_151 : decode cX9_back 151 = .ok (.aload_n 0, 1) := by decide +kernel
theorem dX9_back_152 : decode cX9_back 152 = .ok (.aload_n 0, 1) := by decide +kernel
theorem dX9_back_153 : decode cX9_back 153 = .ok (.getfield 452, 3) := by decide +kernel
theorem dX9_back_156 : decode cX9_back 156 = .ok (.putfield 285, 3) := by decide +kernel
theorem dX9_back_159 : decode cX9_back 159 = .ok (.aload_n 0, 1) := by decide +kernel
theorem dX9_back_160 : decode cX9_back 160 = .ok (.aload_n 0, 1) := by decide +kernel
theorem dX9_back_161 : decode cX9_back 161 = .ok (.getfield 455, 3) := by decide +kernel
theorem dX9_back_164 : decode cX9_back 164 = .ok (.putfield 288, 3) := by decide +kernel
theorem dX9_back_167 : decode cX9_back 167 = .ok (.aload_n 0, 1) := by decide +kernel
theorem dX9_back_168 : decode cX9_back 168 = .ok (.getfield 288, 3) := by decide +kernel
theorem dX9_back_171 : decode cX9_back 171 = .ok (.ireturn, 1) := by decide +kernel
theorem dX9_count_0 : decode cX9_count 0 = .ok (.aload_n 0, 1) := by decide +kernel
theorem dX9_count_1 : decode cX9_count 1 = .ok (.iconst 0, 1) := by decide +kernel
theorem dX9_count_2 : decode cX9_count 2 = .ok (.putfield 128, 3) := by decide +kernel
theorem dX9_count_5 : decode cX9_count 5 = .ok (.iload_n 1, 1) := by decide +kernel
theorem dX9_count_6 : decode cX9_count 6 = .ok (.tableswitch 86 0 7 #[46, 51, 56, 61, 66, 71, 76, 81], 46) := by decide +kernel
theorem dX9_count_52 : decode cX9_count 52 = .ok (.aload_n 0, 1) := by decide +kernel
theorem dX9_count_53 : decode cX9_count 53 = .ok (.getfield 276, 3) := by decide +kernel
theorem dX9_count_56 : decode cX9_count 56 = .ok (.ireturn, 1) := by decide +kernel
theorem dX9_count_57 : decode cX9_count 57 = .ok (.aload_n 0, 1) := by decide +kernel
theorem dX9_count_58 : decode cX9_count 58 = .ok (.getfield 271, 3) := by decide +kernel
theorem dX9_count_61 : decode cX9_count 61 = .ok (.ireturn, 1) := by decide +kernel
theorem dX9_count_62 : decode cX9_count 62 = .ok (.aload_n 0, 1) := by decide +kernel
theorem dX9_count_63 : decode cX9_count 63 = .ok (.getfield 141, 3) := by decide +kernel
theorem dX9_count_66 : decode cX9_count 66 = .ok (.ireturn, 1) := by decide +kernel
theorem dX9_count_67 : decode cX9_count 67 = .ok (.aload_n 0, 1) := by decide +kernel
theorem dX9_count_68 : decode cX9_count 68 = .ok (.getfield 288, 3) := by decide +kernel
theorem dX9_count_71 : decode cX9_count 71 = .ok (.ireturn, 1) := by decide +kernel
theorem dX9_count_72 : decode cX9_count 72 = .ok (.aload_n 0, 1) := by decide +kernel
theorem dX9_count_73 : decode cX9_count 73 = .ok (.getfield 282, 3) := by decide +kernel
theorem dX9_count_76 : decode cX9_count 76 = .ok (.ireturn, 1) := by decide +kernel
theorem dX9_count_77 : decode cX9_count 77 = .ok (.aload_n 0, 1) := by decide +kernel
theorem dX9_count_78 : decode cX9_count 78 = .ok (.getfield 285, 3) := by decide +kernel
theorem dX9_count_81 : decode cX9_count 81 = .ok (.ireturn, 1) := by decide +kernel
theorem dX9_count_82 : decode cX9_count 82 = .ok (.aload_n 0, 1) := by decide +kernel
theorem dX9_count_83 : decode cX9_count 83 = .ok (.getfield 279, 3) := by decide +kernel
theorem dX9_count_86 : decode cX9_count 86 = .ok (.ireturn, 1) := by decide +kernel
theorem dX9_count_87 : decode cX9_count 87 = .ok (.aload_n 0, 1) := by decide +kernel
theorem dX9_count_88 : decode cX9_count 88 = .ok (.getfield 65, 3) := by decide +kernel
theorem dX9_count_91 : decode cX9_count 91 = .ok (.ireturn, 1) := by decide +kernel
theorem dX9_count_92 : decode cX9_count 92 = .ok (.ldc_w 411, 3) := by decide +kernel
theorem dX9_count_95 : decode cX9_count 95 = .ok (.ireturn, 1) := by decide +kernel
