theorem d_R_type_36 : decode b_R_type 36 = .ok (.ishr, 1) := by decide +kernel
theorem d_R_type_37 : decode b_R_type 37 = .ok (.iconst 1, 1) := by decide +kernel
theorem d_R_type_38 : decode b_R_type 38 = .ok (.iand, 1) := by decide +kernel
theorem d_R_type_39 : decode b_R_type 39 = .ok (.ifCond .eq 6, 3) := by decide +kernel
theorem d_R_type_42 : decode b_R_type 42 = .ok (.iinc 3 1, 3) := by decide +kernel
theorem d_R_type_45 : decode b_R_type 45 = .ok (.iinc 4 1, 3) := by decide +kernel
theorem d_R_type_48 : decode b_R_type 48 = .ok (.goto (-29), 3) := by decide +kernel
theorem d_R_type_51 : decode b_R_type 51 = .ok (.iload_n 2, 1) := by decide +kernel
theorem d_R_type_52 : decode b_R_type 52 = .ok (.tableswitch 114 0 9 #[56, 63, 70, 77, 84, 84, 84, 84, 97, 99], 56) := by decide +kernel
theorem d_R_type_108 : decode b_R_type 108 = .ok (.aload_n 0, 1) := by decide +kernel
theorem d_R_type_109 : decode b_R_type 109 = .ok (.getfield 23, 3) := by decide +kernel
theorem d_R_type_112 : decode b_R_type 112 = .ok (.iload_n 1, 1) := by decide +kernel
theorem d_R_type_113 : decode b_R_type 113 = .ok (.iaload, 1) := by decide +kernel
theorem d_R_type_114 : decode b_R_type 114 = .ok (.ireturn, 1) := by decide +kernel
theorem d_R_type_115 : decode b_R_type 115 = .ok (.aload_n 0, 1) := by decide +kernel
theorem d_R_type_116 : decode b_R_type 116 = .ok (.getfield 19, 3) := by decide +kernel
theorem d_R_type_119 : decode b_R_type 119 = .ok (.iload_n 1, 1) := by decide +kernel
theorem d_R_type_120 : decode b_R_type 120 = .ok (.iaload, 1) := by decide +kernel
theorem d_R_type_121 : decode b_R_type 121 = .ok (.ireturn, 1) := by decide +kernel
theorem d_R_type_122 : decode b_R_type 122 = .ok (.aload_n 0, 1) := by decide +kernel
theorem d_R_type_123 : decode b_R_type 123 = .ok (.getfield 26, 3) := by decide +kernel
theorem d_R_type_126 : decode b_R_type 126 = .ok (.iload_n 1, 1) := by decide +kernel
theorem d_R_type_127 : decode b_R_type 127 = .ok (.iaload, 1) := by decide +kernel
theorem d_R_type_128 : decode b_R_type 128 = .ok (.ireturn, 1) := by decide +kernel
theorem d_R_type_129 : decode b_R_type 129 = .ok (.aload_n 0, 1) := by decide +kernel
theorem d_R_type_130 : decode b_R_type 130 = .ok (.getfield 32, 3) := by decide +kernel
theorem d_R_type_133 : decode b_R_type 133 = .ok (.iload_n 1, 1) := by decide +kernel
theorem d_R_type_134 : decode b_R_type 134 = .ok (.iaload, 1) := by decide +kernel
theorem d_R_type_135 : decode b_R_type 135 = .ok (.ireturn, 1) := by decide +kernel
theorem d_R_type_136 : decode b_R_type 136 = .ok (.aload_n 0, 1) := by decide +kernel
theorem d_R_type_137 : decode b_R_type 137 = .ok (.getfield 29, 3) := by decide +kernel
theorem d_R_type_140 : decode b_R_type 140 = .ok (.iconst 4, 1) := by decide +kernel
theorem d_R_type_141 : decode b_R_type 141 = .ok (.iload_n 1, 1) := by decide +kernel
theorem d_R_type_142 : decode b_R_type 142 = .ok (.imul, 1) := by decide +kernel
theorem d_R_type_143 : decode b_R_type 143 = .ok (.iload_n 2, 1) := by decide +kernel
theorem d_R_type_144 : decode b_R_type 144 = .ok (.iadd, 1) := by decide +kernel
theorem d_R_type_145 : decode b_R_type 145 = .ok (.iconst 4, 1) := by decide +kernel
theorem d_R_type_146 : decode b_R_type 146 = .ok (.isub, 1) := by decide +kernel
theorem d_R_type_147 : decode b_R_type 147 = .ok (.iaload, 1) := by decide +kernel
theorem d_R_type_148 : decode b_R_type 148 = .ok (.ireturn, 1) := by decide +kernel
theorem d_R_type_149 : decode b_R_type 149 = .ok (.iload_n 3, 1) := by decide +kernel
theorem d_R_type_150 : decode b_R_type 150 = .ok (.ireturn, 1) := by decide +kernel
theorem d_R_type_151 : decode b_R_type 151 = .ok (.aload_n 0, 1) := by decide +kernel
theorem d_R_type_152 : decode b_R_type 152 = .ok (.getfield 7, 3) := by decide +kernel
theorem d_R_type_155 : decode b_R_type 155 = .ok (.iload_n 1, 1) := by decide +kernel
theorem d_R_type_156 : decode b_R_type 156 = .ok (.baload, 1) := by decide +kernel
theorem d_R_type_157 : decode b_R_type 157 = .ok (.ifCond .eq 7, 3) := by decide +kernel
theorem d_R_type_160 : decode b_R_type 160 = .ok (.iconst 1, 1) := by decide +kernel
theorem d_R_type_161 : decode b_R_type 161 = .ok (.goto 4, 3) := by decide +kernel
theorem d_R_type_164 : decode b_R_type 164 = .ok (.iconst 0, 1) := by decide +kernel
theorem d_R_type_165 : decode b_R_type 165 = .ok (.ireturn, 1) := by decide +kernel
theorem d_R_type_166 : decode b_R_type 166 = .ok (.iconst (-1), 1) := by decide +kernel
theorem d_R_type_167 : decode b_R_type 167 = .ok (.ireturn, 1) := by decide +kernel
