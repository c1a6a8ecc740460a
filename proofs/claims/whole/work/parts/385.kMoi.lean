/-! the reference's constructor -/
def rOn (c i : Nat) : Nat := c / 2 ^ i + c / 2 ^ ((i + 4) % 8) + c / 2 ^ ((i + 5) % 8) + c / 2 ^ ((i + 6) % 8) + c / 2 ^ ((i + 7) % 8)
theorem rOn_lt {c i : Nat} (h : c < 256) : rOn c i < 2 ^ 31 := by
  have h0 := Nat.div_le_self c (2 ^ i)
  have h1 := Nat.div_le_self c (2 ^ ((i + 4) % 8))
  have h2 := Nat.div_le_self c (2 ^ ((i + 5) % 8))
  have h3 := Nat.div_le_self c (2 ^ ((i + 6) % 8))
  have h4 := Nat.div_le_self c (2 ^ ((i + 7) % 8))
  unfold rOn
  omega
theorem rOb {a i : Nat} (ha : a < 2) (hi : i < 8) : a * 2 ^ i < 2 ^ 32 := by
  have h1 : 2 ^ i ≤ 2 ^ 8 := Nat.pow_le_pow_right (by decide) (by omega)
  have h2 := Nat.mul_le_mul (show a ≤ 1 by omega) h1
  omega
def rSx (c : Nat) : Nat → Nat
  | 0 => 99
  | i + 1 => rSx c i ^^^ rOn c i % 2 * 2 ^ i
set_option maxRecDepth 100000 in
theorem sub_0 : ∀ j, j < 16 → rSx (rInv (0 + j)) 8 = ckSL.getD (0 + j) 0 := by decide +kernel
set_option maxRecDepth 100000 in
theorem sub_1 : ∀ j, j < 16 → rSx (rInv (16 + j)) 8 = ckSL.getD (16 + j) 0 := by decide +kernel
set_option maxRecDepth 100000 in
theorem sub_2 : ∀ j, j < 16 → rSx (rInv (32 + j)) 8 = ckSL.getD (32 + j) 0 := by decide +kernel
set_option maxRecDepth 100000 in
theorem sub_3 : ∀ j, j < 16 → rSx (rInv (48 + j)) 8 = ckSL.getD (48 + j) 0 := by decide +kernel
set_option maxRecDepth 100000 in
theorem sub_4 : ∀ j, j < 16 → rSx (rInv (64 + j)) 8 = ckSL.getD (64 + j) 0 := by decide +kernel
set_option maxRecDepth 100000 in
theorem sub_5 : ∀ j, j < 16 → rSx (rInv (80 + j)) 8 = ckSL.getD (80 + j) 0 := by decide +kernel
set_option maxRecDepth 100000 in
theorem sub_6 : ∀ j, j < 16 → rSx (rInv (96 + j)) 8 = ckSL.getD (96 + j) 0 := by decide +kernel
set_option maxRecDepth 100000 in
theorem sub_7 : ∀ j, j < 16 → rSx (rInv (112 + j)) 8 = ckSL.getD (112 + j) 0 := by decide +kernel
set_option maxRecDepth 100000 in
theorem sub_8 : ∀ j, j < 16 → rSx (rInv (128 + j)) 8 = ckSL.getD (128 + j) 0 := by decide +kernel
set_option maxRecDepth 100000 in
theorem sub_9 : ∀ j, j < 16 → rSx (rInv (144 + j)) 8 = ckSL.getD (144 + j) 0 := by decide +kernel
set_option maxRecDepth 100000 in
theorem sub_10 : ∀ j, j < 16 → rSx (rInv (160 + j)) 8 = ckSL.getD (160 + j) 0 := by decide +kernel
set_option maxRecDepth 100000 in
theorem sub_11 : ∀ j, j < 16 → rSx (rInv (176 + j)) 8 = ckSL.getD (176 + j) 0 := by decide +kernel
set_option maxRecDepth 100000 in
theorem sub_12 : ∀ j, j < 16 → rSx (rInv (192 + j)) 8 = ckSL.getD (192 + j) 0 := by decide +kernel
set_option maxRecDepth 100000 in
theorem sub_13 : ∀ j, j < 16 → rSx (rInv (208 + j)) 8 = ckSL.getD (208 + j) 0 := by decide +kernel
set_option maxRecDepth 100000 in
theorem sub_14 : ∀ j, j < 16 → rSx (rInv (224 + j)) 8 = ckSL.getD (224 + j) 0 := by decide +kernel
set_option maxRecDepth 100000 in
theorem sub_15 : ∀ j, j < 16 → rSx (rInv (240 + j)) 8 = ckSL.getD (240 + j) 0 := by decide +kernel
theorem sub_all (b : Nat) (hb : b < 256) : rSx (rInv b) 8 = ckSL.getD b 0 := by
  by_cases h0 : b < 16
  · have := sub_0 (b - 0) (by omega)
    rw [show 0 + (b - 0) = b by omega] at this
    exact this
  by_cases h1 : b < 32
  · have := sub_1 (b - 16) (by omega)
    rw [show 16 + (b - 16) = b by omega] at this
    exact this
  by_cases h2 : b < 48
  · have := sub_2 (b - 32) (by omega)
    rw [show 32 + (b - 32) = b by omega] at this
    exact this
  by_cases h3 : b < 64
  · have := sub_3 (b - 48) (by omega)
    rw [show 48 + (b - 48) = b by omega] at this
    exact this
  by_cases h4 : b < 80
  · have := sub_4 (b - 64) (by omega)
    rw [show 64 + (b - 64) = b by omega] at this
    exact this
  by_cases h5 : b < 96
  · have := sub_5 (b - 80) (by omega)
    rw [show 80 + (b - 80) = b by omega] at this
    exact this
  by_cases h6 : b < 112
  · have := sub_6 (b - 96) (by omega)
    rw [show 96 + (b - 96) = b by omega] at this
    exact this
  by_cases h7 : b < 128
  · have := sub_7 (b - 112) (by omega)
    rw [show 112 + (b - 112) = b by omega] at this
    exact this
  by_cases h8 : b < 144
  · have := sub_8 (b - 128) (by omega)
    rw [show 128 + (b - 128) = b by omega] at this
    exact this
  by_cases h9 : b < 160
  · have := sub_9 (b - 144) (by omega)
    rw [show 144 + (b - 144) = b by omega] at this
    exact this
  by_cases h10 : b < 176
  · have := sub_10 (b - 160) (by omega)
    rw [show 160 + (b - 160) = b by omega] at this
    exact this
  by_cases h11 : b < 192
  · have := sub_11 (b - 176) (by omega)
    rw [show 176 + (b - 176) = b by omega] at this
    exact this
  by_cases h12 : b < 208
  · have := sub_12 (b - 192) (by omega)
    rw [show 192 + (b - 192) = b by omega] at this
    exact this
  by_cases h13 : b < 224
  · have := sub_13 (b - 208) (by omega)
    rw [show 208 + (b - 208) = b by omega] at this
    exact this
  by_cases h14 : b < 240
  · have := sub_14 (b - 224) (by omega)
    rw [show 224 + (b - 224) = b by omega] at this
    exact this
  by_cases h15 : b < 256
  · have := sub_15 (b - 240) (by omega)
    rw [show 240 + (b - 240) = b by omega] at this
    exact this
  omega
set_option maxRecDepth 100000 in
theorem suu_all : ∀ b, b < 256 → ckSL.getD b 0 < 256 ∧ ckUL.getD (ckSL.getD b 0) 0 = b ∧ ckUL.getD b 0 < 256 ∧ ckSL.getD (ckUL.getD b 0) 0 = b := by decide +kernel
theorem rInv_lt (b : Nat) : rInv b < 256 := by
  unfold rInv
  split
  · decide
  · exact rIv_lt b 254
def rSn : Nat → (Nat → Int32)
  | 0 => fun _ => nI 0
  | n + 1 => upd (rSn n) n (ckS n)
def rUn : Nat → (Nat → Int32)
  | 0 => fun _ => nI 0
  | n + 1 => upd (rUn n) (ckSL.getD n 0) (nI n)
theorem rSn_at : ∀ n j : Nat, j < n → rSn n j = ckS j
  | 0, j, h => by omega
  | n + 1, j, h => by
    show upd (rSn n) n (ckS n) j = _
    unfold upd
    by_cases hj : j = n
    · rw [if_pos hj, hj]
    · rw [if_neg hj]
      exact rSn_at n j (by omega)
theorem rUn_at {j : Nat} (hj : j < 256) : ∀ n : Nat, n ≤ 256 → ckUL.getD j 0 < n → rUn n j = ckU j
  | 0, _, h => by omega
  | n + 1, hn, h => by
    show upd (rUn n) (ckSL.getD n 0) (nI n) j = _
    unfold upd
    by_cases he : j = ckSL.getD n 0
    · rw [if_pos he]
      have := (suu_all n (by omega)).2.1
      rw [← he] at this
      show nI n = nI (ckUL.getD j 0)
      rw [this]
    · rw [if_neg he]
      refine rUn_at hj n (by omega) ?_
      have := (suu_all j hj).2.2.2
      by_cases hb : ckUL.getD j 0 = n
      · rw [hb] at this
        exact absurd this.symm he
      · omega
theorem dMo_init_0 : decode cMo_init 0 = .ok (.aload_n 0, 1) := by decide +kernel
theorem dMo_init_1 : decode cMo_init 1 = .ok (.invokespecial 1, 3) := by decide +kernel
theorem dMo_init_4 : decode cMo_init 4 = .ok (.aload_n 0, 1) := by decide +kernel
theorem dMo_init_5 : decode cMo_init 5 = .ok (.sipush 256, 3) := by decide +kernel
theorem dMo_init_8 : decode cMo_init 8 = .ok (.newarray .int, 2) := by decide +kernel
theorem dMo_init_10 : decode cMo_init 10 = .ok (.putfield 7, 3) := by decide +kernel
theorem dMo_init_13 : decode cMo_init 13 = .ok (.aload_n 0, 1) := by decide +kernel
theorem dMo_init_14 : decode cMo_init 14 = .ok (.sipush 256, 3) := by decide +kernel
theorem dMo_init_17 : decode cMo_init 17 = .ok (.newarray .int, 2) := by decide +kernel
theorem dMo_init_19 : decode cMo_init 19 = .ok (.putfield 13, 3) := by decide +kernel
theorem dMo_init_22 : decode cMo_init 22 = .ok (.aload_n 0, 1) := by decide +kernel
theorem dMo_init_23 : decode cMo_init 23 = .ok (.sipush 176, 3) := by decide +kernel
theorem dMo_init_26 : decode cMo_init 26 = .ok (.newarray .int, 2) := by decide +kernel
theorem dMo_init_28 : decode cMo_init 28 = .ok (.putfield 16, 3) := by decide +kernel
theorem dMo_init_31 : decode cMo_init 31 = .ok (.aload_n 0, 1) := by decide +kernel
theorem dMo_init_32 : decode cMo_init 32 = .ok (.bipush 16, 2) := by decide +kernel
theorem dMo_init_34 : decode cMo_init 34 = .ok (.newarray .int, 2) := by decide +kernel
theorem dMo_init_36 : decode cMo_init 36 = .ok (.putfield 19, 3) := by decide +kernel
theorem dMo_init_39 : decode cMo_init 39 = .ok (.aload_n 0, 1) := by decide +kernel
theorem dMo_init_40 : decode cMo_init 40 = .ok (.bipush 16, 2) := by decide +kernel
theorem dMo_init_42 : decode cMo_init 42 = .ok (.newarray .int, 2) := by decide +kernel
theorem dMo_init_44 : decode cMo_init 44 = .ok (.putfield 22, 3) := by decide +kernel
theorem dMo_init_47 : decode cMo_init 47 = .ok (.aload_n 0, 1) := by decide +kernel
theorem dMo_init_48 : decode cMo_init 48 = .ok (.sipush 256, 3) := by decide +kernel
theorem dMo_init_51 : decode cMo_init 51 = .ok (.newarray .boolean, 2) := by decide +kernel
theorem dMo_init_53 : decode cMo_init 53 = .ok (.putfield 25, 3) := by decide +kernel
theorem dMo_init_56 : decode cMo_init 56 = .ok (.aload_n 0, 1) := by decide +kernel
theorem dMo_init_57 : decode cMo_init 57 = .ok (.sipush 1024, 3) := by decide +kernel
theorem dMo_init_60 : decode cMo_init 60 = .ok (.newarray .boolean, 2) := by decide +kernel
theorem dMo_init_62 : decode cMo_init 62 = .ok (.putfield 29, 3) := by decide +kernel
theorem dMo_init_65 : decode cMo_init 65 = .ok (.aload_n 0, 1) := by decide +kernel
theorem dMo_init_66 : decode cMo_init 66 = .ok (.iconst 4, 1) := by decide +kernel
theorem dMo_init_67 : decode cMo_init 67 = .ok (.newarray .int, 2) := by decide +kernel
theorem dMo_init_69 : decode cMo_init 69 = .ok (.putfield 32, 3) := by decide +kernel
theorem dMo_init_72 : decode cMo_init 72 = .ok (.aload_n 0, 1) := by decide +kernel
theorem dMo_init_73 : decode cMo_init 73 = .ok (.iconst 4, 1) := by decide +kernel
theorem dMo_init_74 : decode cMo_init 74 = .ok (.newarray .long, 2) := by decide +kernel
theorem dMo_init_76 : decode cMo_init 76 = .ok (.putfield 35, 3) := by decide +kernel
theorem dMo_init_79 : decode cMo_init 79 = .ok (.aload_n 0, 1) := by decide +kernel
theorem dMo_init_80 : decode cMo_init 80 = .ok (.iconst 4, 1) := by decide +kernel
theorem dMo_init_81 : decode cMo_init 81 = .ok (.newarray .long, 2) := by decide +kernel
theorem dMo_init_83 : decode cMo_init 83 = .ok (.putfield 39, 3) := by decide +kernel
theorem dMo_init_86 : decode cMo_init 86 = .ok (.aload_n 0, 1) := by decide +kernel
theorem dMo_init_87 : decode cMo_init 87 = .ok (.iconst 4, 1) := by decide +kernel
theorem dMo_init_88 : decode cMo_init 88 = .ok (.newarray .int, 2) := by decide +kernel
theorem dMo_init_90 : decode cMo_init 90 = .ok (.putfield 42, 3) := by decide +kernel
theorem dMo_init_93 : decode cMo_init 93 = .ok (.aload_n 0, 1) := by decide +kernel
theorem dMo_init_94 : decode cMo_init 94 = .ok (.sipush 1024, 3) := by decide +kernel
theorem dMo_init_97 : decode cMo_init 97 = .ok (.newarray .int, 2) := by decide +kernel
theorem dMo_init_99 : decode cMo_init 99 = .ok (.putfield 45, 3) := by decide +kernel
theorem dMo_init_102 : decode cMo_init 102 = .ok (.aload_n 0, 1) := by decide +kernel
theorem dMo_init_103 : decode cMo_init 103 = .ok (.sipush 1024, 3) := by decide +kernel
theorem dMo_init_106 : decode cMo_init 106 = .ok (.newarray .int, 2) := by decide +kernel
theorem dMo_init_108 : decode cMo_init 108 = .ok (.putfield 48, 3) := by decide +kernel
theorem dMo_init_111 : decode cMo_init 111 = .ok (.aload_n 0, 1) := by decide +kernel
theorem dMo_init_112 : decode cMo_init 112 = .ok (.sipush 512, 3) := by decide +kernel
theorem dMo_init_115 : decode cMo_init 115 = .ok (.newarray .boolean, 2) := by decide +kernel
theorem dMo_init_117 : decode cMo_init 117 = .ok (.putfield 51, 3) := by decide +kernel
theorem dMo_init_120 : decode cMo_init 120 = .ok (.aload_n 0, 1) := by decide +kernel
theorem dMo_init_121 : decode cMo_init 121 = .ok (.sipush 229, 3) := by decide +kernel
theorem dMo_init_124 : decode cMo_init 124 = .ok (.newarray .int, 2) := by decide +kernel
theorem dMo_init_126 : decode cMo_init 126 = .ok (.putfield 54, 3) := by decide +kernel
theorem dMo_init_129 : decode cMo_init 129 = .ok (.aload_n 0, 1) := by decide +kernel
theorem dMo_init_130 : decode cMo_init 130 = .ok (.sipush 1024, 3) := by decide +kernel
theorem dMo_init_133 : decode cMo_init 133 = .ok (.newarray .int, 2) := by decide +kernel
theorem dMo_init_135 : decode cMo_init 135 = .ok (.putfield 57, 3) := by decide +kernel
theorem dMo_init_138 : decode cMo_init 138 = .ok (.aload_n 0, 1) := by decide +kernel
theorem dMo_init_139 : decode cMo_init 139 = .ok (.sipush 1024, 3) := by decide +kernel
theorem dMo_init_142 : decode cMo_init 142 = .ok (.newarray .long, 2) := by decide +kernel
theorem dMo_init_144 : decode cMo_init 144 = .ok (.putfield 60, 3) := by decide +kernel
theorem dMo_init_147 : decode cMo_init 147 = .ok (.aload_n 0, 1) := by decide +kernel
theorem dMo_init_148 : decode cMo_init 148 = .ok (.sipush 1024, 3) := by decide +kernel
theorem dMo_init_151 : decode cMo_init 151 = .ok (.newarray .long, 2) := by decide +kernel
theorem dMo_init_153 : decode cMo_init 153 = .ok (.putfield 63, 3) := by decide +kernel
theorem dMo_init_156 : decode cMo_init 156 = .ok (.iconst 0, 1) := by decide +kernel
theorem dMo_init_157 : decode cMo_init 157 = .ok (.istore_n 1, 1) := by decide +kernel
theorem dMo_init_158 : decode cMo_init 158 = .ok (.iload_n 1, 1) := by decide +kernel
theorem dMo_init_159 : decode cMo_init 159 = .ok (.sipush 256, 3) := by decide +kernel
theorem dMo_init_162 : decode cMo_init 162 = .ok (.if_icmp .ge 105, 3) := by decide +kernel
theorem dMo_init_165 : decode cMo_init 165 = .ok (.iload_n 1, 1) := by decide +kernel
theorem dMo_init_166 : decode cMo_init 166 = .ok (.invokestatic 66, 3) := by decide +kernel
theorem dMo_init_169 : decode cMo_init 169 = .ok (.istore_n 2, 1) := by decide +kernel
theorem dMo_init_170 : decode cMo_init 170 = .ok (.bipush 99, 2) := by decide +kernel
theorem dMo_init_172 : decode cMo_init 172 = .ok (.istore_n 3, 1) := by decide +kernel
theorem dMo_init_173 : decode cMo_init 173 = .ok (.iconst 0, 1) := by decide +kernel
theorem dMo_init_174 : decode cMo_init 174 = .ok (.istore 4, 2) := by decide +kernel
theorem dMo_init_176 : decode cMo_init 176 = .ok (.iload 4, 2) := by decide +kernel
theorem dMo_init_178 : decode cMo_init 178 = .ok (.bipush 8, 2) := by decide +kernel
theorem dMo_init_180 : decode cMo_init 180 = .ok (.if_icmp .ge 67, 3) := by decide +kernel
theorem dMo_init_183 : decode cMo_init 183 = .ok (.iload_n 2, 1) := by decide +kernel
theorem dMo_init_184 : decode cMo_init 184 = .ok (.iload 4, 2) := by decide +kernel
theorem dMo_init_186 : decode cMo_init 186 = .ok (.ishr, 1) := by decide +kernel
theorem dMo_init_187 : decode cMo_init 187 = .ok (.iload_n 2, 1) := by decide +kernel
theorem dMo_init_188 : decode cMo_init 188 = .ok (.iload 4, 2) := by decide +kernel
theorem dMo_init_190 : decode cMo_init 190 = .ok (.iconst 4, 1) := by decide +kernel
theorem dMo_init_191 : decode cMo_init 191 = .ok (.iadd, 1) := by decide +kernel
theorem dMo_init_192 : decode cMo_init 192 = .ok (.bipush 8, 2) := by decide +kernel
theorem dMo_init_194 : decode cMo_init 194 = .ok (.irem, 1) := by decide +kernel
theorem dMo_init_195 : decode cMo_init 195 = .ok (.ishr, 1) := by decide +kernel
theorem dMo_init_196 : decode cMo_init 196 = .ok (.iadd, 1) := by decide +kernel
theorem dMo_init_197 : decode cMo_init 197 = .ok (.iload_n 2, 1) := by decide +kernel
theorem dMo_init_198 : decode cMo_init 198 = .ok (.iload 4, 2) := by decide +kernel
theorem dMo_init_200 : decode cMo_init 200 = .ok (.iconst 5, 1) := by decide +kernel
theorem dMo_init_201 : decode cMo_init 201 = .ok (.iadd, 1) := by decide +kernel
theorem dMo_init_202 : decode cMo_init 202 = .ok (.bipush 8, 2) := by decide +kernel
theorem dMo_init_204 : decode cMo_init 204 = .ok (.irem, 1) := by decide +kernel
theorem dMo_init_205 : decode cMo_init 205 = .ok (.ishr, 1) := by decide +kernel
theorem dMo_init_206 : decode cMo_init 206 = .ok (.iadd, 1) := by decide +kernel
theorem dMo_init_207 : decode cMo_init 207 = .ok (.iload_n 2, 1) := by decide +kernel
theorem dMo_init_208 : decode cMo_init 208 = .ok (.iload 4, 2) := by decide +kernel
theorem dMo_init_210 : decode cMo_init 210 = .ok (.bipush 6, 2) := by decide +kernel
theorem dMo_init_212 : decode cMo_init 212 = .ok (.iadd, 1) := by decide +kernel
theorem dMo_init_213 : decode cMo_init 213 = .ok (.bipush 8, 2) := by decide +kernel
theorem dMo_init_215 : decode cMo_init 215 = .ok (.irem, 1) := by decide +kernel
theorem dMo_init_216 : decode cMo_init 216 = .ok (.ishr, 1) := by decide +kernel
theorem dMo_init_217 : decode cMo_init 217 = .ok (.iadd, 1) := by decide +kernel
theorem dMo_init_218 : decode cMo_init 218 = .ok (.iload_n 2, 1) := by decide +kernel
theorem dMo_init_219 : decode cMo_init 219 = .ok (.iload 4, 2) := by decide +kernel
theorem dMo_init_221 : decode cMo_init 221 = .ok (.bipush 7, 2) := by decide +kernel
theorem dMo_init_223 : decode cMo_init 223 = .ok (.iadd, 1) := by decide +kernel
theorem dMo_init_224 : decode cMo_init 224 = .ok (.bipush 8, 2) := by decide +kernel
theorem dMo_init_226 : decode cMo_init 226 = .ok (.irem, 1) := by decide +kernel
theorem dMo_init_227 : decode cMo_init 227 = .ok (.ishr, 1) := by decide +kernel
theorem dMo_init_228 : decode cMo_init 228 = .ok (.iadd, 1) := by decide +kernel
theorem dMo_init_229 : decode cMo_init 229 = .ok (.istore 5, 2) := by decide +kernel
theorem dMo_init_231 : decode cMo_init 231 = .ok (.iload_n 3, 1) := by decide +kernel
theorem dMo_init_232 : decode cMo_init 232 = .ok (.iload 5, 2) := by decide +kernel
theorem dMo_init_234 : decode cMo_init 234 = .ok (.iconst 2, 1) := by decide +kernel
theorem dMo_init_235 : decode cMo_init 235 = .ok (.irem, 1) := by decide +kernel
theorem dMo_init_236 : decode cMo_init 236 = .ok (.iload 4, 2) := by decide +kernel
theorem dMo_init_238 : decode cMo_init 238 = .ok (.ishl, 1) := by decide +kernel
theorem dMo_init_239 : decode cMo_init 239 = .ok (.ixor, 1) := by decide +kernel
theorem dMo_init_240 : decode cMo_init 240 = .ok (.istore_n 3, 1) := by decide +kernel
theorem dMo_init_241 : decode cMo_init 241 = .ok (.iinc 4 1, 3) := by decide +kernel
theorem dMo_init_244 : decode cMo_init 244 = .ok (.goto (-68), 3) := by decide +kernel
theorem dMo_init_247 : decode cMo_init 247 = .ok (.aload_n 0, 1) := by decide +kernel
theorem dMo_init_248 : decode cMo_init 248 = .ok (.getfield 7, 3) := by decide +kernel
theorem dMo_init_251 : decode cMo_init 251 = .ok (.iload_n 1, 1) := by decide +kernel
theorem dMo_init_252 : decode cMo_init 252 = .ok (.iload_n 3, 1) := by decide +kernel
theorem dMo_init_253 : decode cMo_init 253 = .ok (.iastore, 1) := by decide +kernel
theorem dMo_init_254 : decode cMo_init 254 = .ok (.aload_n 0, 1) := by decide +kernel
theorem dMo_init_255 : decode cMo_init 255 = .ok (.getfield 13, 3) := by decide +kernel
theorem dMo_init_258 : decode cMo_init 258 = .ok (.iload_n 3, 1) := by decide +kernel
theorem dMo_init_259 : decode cMo_init 259 = .ok (.iload_n 1, 1) := by decide +kernel
theorem dMo_init_260 : decode cMo_init 260 = .ok (.iastore, 1) := by decide +kernel
theorem dMo_init_261 : decode cMo_init 261 = .ok (.iinc 1 1, 3) := by decide +kernel
theorem dMo_init_264 : decode cMo_init 264 = .ok (.goto (-106), 3) := by decide +kernel
theorem dMo_init_267 : decode cMo_init 267 = .ok (.aload_n 0, 1) := by decide +kernel
theorem dMo_init_268 : decode cMo_init 268 = .ok (.iconst 4, 1) := by decide +kernel
theorem dMo_init_269 : decode cMo_init 269 = .ok (.lconst 0, 1) := by decide +kernel
theorem dMo_init_270 : decode cMo_init 270 = .ok (.lconst 0, 1) := by decide +kernel
theorem dMo_init_271 : decode cMo_init 271 = .ok (.invokevirtual 70, 3) := by decide +kernel
theorem dMo_init_274 : decode cMo_init 274 = .ok (.return_, 1) := by decide +kernel
set_option maxHeartbeats 4000000 in
set_option maxRecDepth 100000 in
theorem k_Mo_init (l : Launch) (G : gG) (oy : Nat) : Cr l G yMo_init cMo_init 6 none { frames := 2, cells := 18, slots := 7877, locals := 45 } [.ref oy] [oC oy 8 [.int (nI 0), .null, .null, .null, .null, .null, .long (lN 0), .long (lN 0), .int (nI 0), .long (lN 0), .long (lN 0), .null, .null, .null, .null, .null, .null, .null, .null, .null, .null, .int (nI 0), .null, .null, .null, .long (lN 0), .long (lN 0), .long (lN 0), .long (lN 0), .long (lN 0)]] (fun _ => True) (S := Nat → Nat) (fun _ => True) (fun u => none) (fun u => [moC oy u (nI 0) (lN 0) (lN 0) (nI 4) (lN 0) (lN 0) (nI 0) (lN 0) (lN 0) (lN 0) (lN 0) (lN 0), aI G (u 0) 256 ckS, aI G (u 1) 256 ckU, aI G (u 2) 176 (fun _ => nI 0), aI G (u 3) 16 (fun _ => nI 0), aI G (u 4) 16 (fun _ => nI 0), aZ G (u 5) 256 (fun _ => nI 0), aZ G (u 6) 1024 (fun _ => nI 0), aI G (u 7) 4 (fun _ => nI 0), aJ G (u 8) 4 (fun _ => lN 0), aJ G (u 9) 4 (fun _ => lN 0), aI G (u 10) 4 (fun _ => nI 0), aI G (u 11) 1024 (fun _ => nI 0), aI G (u 12) 1024 (fun _ => nI 0), aZ G (u 13) 512 (fun _ => nI 0), aI G (u 14) 229 (fun _ => nI 0), aI G (u 15) 1024 (fun _ => (-1)), aJ G (u 16) 1024 (fun _ => lN 0), aJ G (u 17) 1024 (fun _ => lN 0)]) := by
  refine Cr.of (by decide) (Nat.le_of_ble_eq_true rfl) ?_
  intro p e s m args below meth c A ls hx hb hr hml hts hown hlk hin9 hJ hA hP hD hG hS hl
  have hl : lv_has ls 6 [(0, .ref oy)] := hl
  refine lv_aload_n hx hb dMo_init_0 rfl (lv_at hl 0 rfl) ?_
  refine W.objInit hx hb hown (hts _ kobMo_1) (hts _ kobI) (hts _ kobC) rfl (by rw [hml]; exact hl.1) rfl dMo_init_1 (Nat.le_of_ble_eq_true rfl) (Nat.le_of_ble_eq_true rfl) ?_
  refine W.eq (g2 := F0 m 4 ls []) rfl ?_
  refine lv_aload_n hx hb dMo_init_4 rfl (lv_at hl 0 rfl) ?_
  refine lv_sipush (v := nI 256) hx hb dMo_init_5 (by decide) ?_
  refine ck_newI hx hb hts hG hA hP hD hS 256 rfl (by decide) ⟨by decide, by decide⟩ dMo_init_8 (fun q0 H hP hD hS => ?_)
  have hP : va_P G.1 vwCl [oC oy 8 [.int (nI 0), .null, .null, .null, .null, .null, .long (lN 0), .long (lN 0), .int (nI 0), .long (lN 0), .long (lN 0), .null, .null, .null, .null, .null, .null, .null, .null, .null, .null, .int (nI 0), .null, .null, .null, .long (lN 0), .long (lN 0), .long (lN 0), .long (lN 0), .long (lN 0)], aI G q0 256 (fun _ => nI 0)] H := hP
  have hD : va_D A [oC oy 8 [.int (nI 0), .null, .null, .null, .null, .null, .long (lN 0), .long (lN 0), .int (nI 0), .long (lN 0), .long (lN 0), .null, .null, .null, .null, .null, .null, .null, .null, .null, .null, .int (nI 0), .null, .null, .null, .long (lN 0), .long (lN 0), .long (lN 0), .long (lN 0), .long (lN 0)], aI G q0 256 (fun _ => nI 0)] := hD
  refine W.cs (cells' := 1) (slots' := 256) rfl rfl ?_
  refine fFMo_7 hx hb hts hown hin9 hG hP hD hS 0 rfl rfl rfl (Nat.le_of_ble_eq_true rfl) dMo_init_10 (fun H locs hP hD hS => ?_)
  have hP : va_P G.1 vwCl [oC oy 8 [.int (nI 0), .ref q0, .null, .null, .null, .null, .long (lN 0), .long (lN 0), .int (nI 0), .long (lN 0), .long (lN 0), .null, .null, .null, .null, .null, .null, .null, .null, .null, .null, .int (nI 0), .null, .null, .null, .long (lN 0), .long (lN 0), .long (lN 0), .long (lN 0), .long (lN 0)], aI G q0 256 (fun _ => nI 0)] H := hP
  have hD : va_D A [oC oy 8 [.int (nI 0), .ref q0, .null, .null, .null, .null, .long (lN 0), .long (lN 0), .int (nI 0), .long (lN 0), .long (lN 0), .null, .null, .null, .null, .null, .null, .null, .null, .null, .null, .int (nI 0), .null, .null, .null, .long (lN 0), .long (lN 0), .long (lN 0), .long (lN 0), .long (lN 0)], aI G q0 256 (fun _ => nI 0)] := hD
  refine lv_aload_n hx hb dMo_init_13 rfl (lv_at hl 0 rfl) ?_
  refine lv_sipush (v := nI 256) hx hb dMo_init_14 (by decide) ?_
  refine ck_newI hx hb hts hG hA hP hD hS 256 rfl (by decide) ⟨by decide, by decide⟩ dMo_init_17 (fun q1 H hP hD hS => ?_)
  have hP : va_P G.1 vwCl [oC oy 8 [.int (nI 0), .ref q0, .null, .null, .null, .null, .long (lN 0), .long (lN 0), .int (nI 0), .long (lN 0), .long (lN 0), .null, .null, .null, .null, .null, .null, .null, .null, .null, .null, .int (nI 0), .null, .null, .null, .long (lN 0), .long (lN 0), .long (lN 0), .long (lN 0), .long (lN 0)], aI G q0 256 (fun _ => nI 0), aI G q1 256 (fun _ => nI 0)] H := hP
  have hD : va_D A [oC oy 8 [.int (nI 0), .ref q0, .null, .null, .null, .null, .long (lN 0), .long (lN 0), .int (nI 0), .long (lN 0), .long (lN 0), .null, .null, .null, .null, .null, .null, .null, .null, .null, .null, .int (nI 0), .null, .null, .null, .long (lN 0), .long (lN 0), .long (lN 0), .long (lN 0), .long (lN 0)], aI G q0 256 (fun _ => nI 0), aI G q1 256 (fun _ => nI 0)] := hD
  refine W.cs (cells' := 2) (slots' := 512) rfl rfl ?_
  refine fFMo_13 hx hb hts hown hin9 hG hP hD hS 0 rfl rfl rfl (Nat.le_of_ble_eq_true rfl) dMo_init_19 (fun H locs hP hD hS => ?_)
  have hP : va_P G.1 vwCl [oC oy 8 [.int (nI 0), .ref q0, .ref q1, .null, .null, .null, .long (lN 0), .long (lN 0), .int (nI 0), .long (lN 0), .long (lN 0), .null, .null, .null, .null, .null, .null, .null, .null, .null, .null, .int (nI 0), .null, .null, .null, .long (lN 0), .long (lN 0), .long (lN 0), .long (lN 0), .long (lN 0)], aI G q0 256 (fun _ => nI 0), aI G q1 256 (fun _ => nI 0)] H := hP
  have hD : va_D A [oC oy 8 [.int (nI 0), .ref q0, .ref q1, .null, .null, .null, .long (lN 0), .long (lN 0), .int (nI 0), .long (lN 0), .long (lN 0), .null, .null, .null, .null, .null, .null, .null, .null, .null, .null, .int (nI 0), .null, .null, .null, .long (lN 0), .long (lN 0), .long (lN 0), .long (lN 0), .long (lN 0)], aI G q0 256 (fun _ => nI 0), aI G q1 256 (fun _ => nI 0)] := hD
  refine lv_aload_n hx hb dMo_init_22 rfl (lv_at hl 0 rfl) ?_
  refine lv_sipush (v := nI 176) hx hb dMo_init_23 (by decide) ?_
  refine ck_newI hx hb hts hG hA hP hD hS 176 rfl (by decide) ⟨by decide, by decide⟩ dMo_init_26 (fun q2 H hP hD hS => ?_)
  have hP : va_P G.1 vwCl [oC oy 8 [.int (nI 0), .ref q0, .ref q1, .null, .null, .null, .long (lN 0), .long (lN 0), .int (nI 0), .long (lN 0), .long (lN 0), .null, .null, .null, .null, .null, .null, .null, .null, .null, .null, .int (nI 0), .null, .null, .null, .long (lN 0), .long (lN 0), .long (lN 0), .long (lN 0), .long (lN 0)], aI G q0 256 (fun _ => nI 0), aI G q1 256 (fun _ => nI 0), aI G q2 176 (fun _ => nI 0)] H := hP
  have hD : va_D A [oC oy 8 [.int (nI 0), .ref q0, .ref q1, .null, .null, .null, .long (lN 0), .long (lN 0), .int (nI 0), .long (lN 0), .long (lN 0), .null, .null, .null, .null, .null, .null, .null, .null, .null, .null, .int (nI 0), .null, .null, .null, .long (lN 0), .long (lN 0), .long (lN 0), .long (lN 0), .long (lN 0)], aI G q0 256 (fun _ => nI 0), aI G q1 256 (fun _ => nI 0), aI G q2 176 (fun _ => nI 0)] := hD
  refine W.cs (cells' := 3) (slots' := 688) rfl rfl ?_
  refine fFMo_16 hx hb hts hown hin9 hG hP hD hS 0 rfl rfl rfl (Nat.le_of_ble_eq_true rfl) dMo_init_28 (fun H locs hP hD hS => ?_)
  have hP : va_P G.1 vwCl [oC oy 8 [.int (nI 0), .ref q0, .ref q1, .ref q2, .null, .null, .long (lN 0), .long (lN 0), .int (nI 0), .long (lN 0), .long (lN 0), .null, .null, .null, .null, .null, .null, .null, .null, .null, .null, .int (nI 0), .null, .null, .null, .long (lN 0), .long (lN 0), .long (lN 0), .long (lN 0), .long (lN 0)], aI G q0 256 (fun _ => nI 0), aI G q1 256 (fun _ => nI 0), aI G q2 176 (fun _ => nI 0)] H := hP
  have hD : va_D A [oC oy 8 [.int (nI 0), .ref q0, .ref q1, .ref q2, .null, .null, .long (lN 0), .long (lN 0), .int (nI 0), .long (lN 0), .long (lN 0), .null, .null, .null, .null, .null, .null, .null, .null, .null, .null, .int (nI 0), .null, .null, .null, .long (lN 0), .long (lN 0), .long (lN 0), .long (lN 0), .long (lN 0)], aI G q0 256 (fun _ => nI 0), aI G q1 256 (fun _ => nI 0), aI G q2 176 (fun _ => nI 0)] := hD
  refine lv_aload_n hx hb dMo_init_31 rfl (lv_at hl 0 rfl) ?_
  refine lv_bipush (v := nI 16) hx hb dMo_init_32 (by decide) ?_
  refine ck_newI hx hb hts hG hA hP hD hS 16 rfl (by decide) ⟨by decide, by decide⟩ dMo_init_34 (fun q3 H hP hD hS => ?_)
  have hP : va_P G.1 vwCl [oC oy 8 [.int (nI 0), .ref q0, .ref q1, .ref q2, .null, .null, .long (lN 0), .long (lN 0), .int (nI 0), .long (lN 0), .long (lN 0), .null, .null, .null, .null, .null, .null, .null, .null, .null, .null, .int (nI 0), .null, .null, .null, .long (lN 0), .long (lN 0), .long (lN 0), .long (lN 0), .long (lN 0)], aI G q0 256 (fun _ => nI 0), aI G q1 256 (fun _ => nI 0), aI G q2 176 (fun _ => nI 0), aI G q3 16 (fun _ => nI 0)] H := hP
  have hD : va_D A [oC oy 8 [.int (nI 0), .ref q0, .ref q1, .ref q2, .null, .null, .long (lN 0), .long (lN 0), .int (nI 0), .long (lN 0), .long (lN 0), .null, .null, .null, .null, .null, .null, .null, .null, .null, .null, .int (nI 0), .null, .null, .null, .long (lN 0), .long (lN 0), .long (lN 0), .long (lN 0), .long (lN 0)], aI G q0 256 (fun _ => nI 0), aI G q1 256 (fun _ => nI 0), aI G q2 176 (fun _ => nI 0), aI G q3 16 (fun _ => nI 0)] := hD
  refine W.cs (cells' := 4) (slots' := 704) rfl rfl ?_
  refine fFMo_19 hx hb hts hown hin9 hG hP hD hS 0 rfl rfl rfl (Nat.le_of_ble_eq_true rfl) dMo_init_36 (fun H locs hP hD hS => ?_)
  have hP : va_P G.1 vwCl [oC oy 8 [.int (nI 0), .ref q0, .ref q1, .ref q2, .ref q3, .null, .long (lN 0), .long (lN 0), .int (nI 0), .long (lN 0), .long (lN 0), .null, .null, .null, .null, .null, .null, .null, .null, .null, .null, .int (nI 0), .null, .null, .null, .long (lN 0), .long (lN 0), .long (lN 0), .long (lN 0), .long (lN 0)], aI G q0 256 (fun _ => nI 0), aI G q1 256 (fun _ => nI 0), aI G q2 176 (fun _ => nI 0), aI G q3 16 (fun _ => nI 0)] H := hP
  have hD : va_D A [oC oy 8 [.int (nI 0), .ref q0, .ref q1, .ref q2, .ref q3, .null, .long (lN 0), .long (lN 0), .int (nI 0), .long (lN 0), .long (lN 0), .null, .null, .null, .null, .null, .null, .null, .null, .null, .null, .int (nI 0), .null, .null, .null, .long (lN 0), .long (lN 0), .long (lN 0), .long (lN 0), .long (lN 0)], aI G q0 256 (fun _ => nI 0), aI G q1 256 (fun _ => nI 0), aI G q2 176 (fun _ => nI 0), aI G q3 16 (fun _ => nI 0)] := hD
  refine lv_aload_n hx hb dMo_init_39 rfl (lv_at hl 0 rfl) ?_
  refine lv_bipush (v := nI 16) hx hb dMo_init_40 (by decide) ?_
  refine ck_newI hx hb hts hG hA hP hD hS 16 rfl (by decide) ⟨by decide, by decide⟩ dMo_init_42 (fun q4 H hP hD hS => ?_)
  have hP : va_P G.1 vwCl [oC oy 8 [.int (nI 0), .ref q0, .ref q1, .ref q2, .ref q3, .null, .long (lN 0), .long (lN 0), .int (nI 0), .long (lN 0), .long (lN 0), .null, .null, .null, .null, .null, .null, .null, .null, .null, .null, .int (nI 0), .null, .null, .null, .long (lN 0), .long (lN 0), .long (lN 0), .long (lN 0), .long (lN 0)], aI G q0 256 (fun _ => nI 0), aI G q1 256 (fun _ => nI 0), aI G q2 176 (fun _ => nI 0), aI G q3 16 (fun _ => nI 0), aI G q4 16 (fun _ => nI 0)] H := hP
  have hD : va_D A [oC oy 8 [.int (nI 0), .ref q0, .ref q1, .ref q2, .ref q3, .null, .long (lN 0), .long (lN 0), .int (nI 0), .long (lN 0), .long (lN 0), .null, .null, .null, .null, .null, .null, .null, .null, .null, .null, .int (nI 0), .null, .null, .null, .long (lN 0), .long (lN 0), .long (lN 0), .long (lN 0), .long (lN 0)], aI G q0 256 (fun _ => nI 0), aI G q1 256 (fun _ => nI 0), aI G q2 176 (fun _ => nI 0), aI G q3 16 (fun _ => nI 0), aI G q4 16 (fun _ => nI 0)] := hD
  refine W.cs (cells' := 5) (slots' := 720) rfl rfl ?_
  refine fFMo_22 hx hb hts hown hin9 hG hP hD hS 0 rfl rfl rfl (Nat.le_of_ble_eq_true rfl) dMo_init_44 (fun H locs hP hD hS => ?_)
  have hP : va_P G.1 vwCl [oC oy 8 [.int (nI 0), .ref q0, .ref q1, .ref q2, .ref q3, .ref q4, .long (lN 0), .long (lN 0), .int (nI 0), .long (lN 0), .long (lN 0), .null, .null, .null, .null, .null, .null, .null, .null, .null, .null, .int (nI 0), .null, .null, .null, .long (lN 0), .long (lN 0), .long (lN 0), .long (lN 0), .long (lN 0)], aI G q0 256 (fun _ => nI 0), aI G q1 256 (fun _ => nI 0), aI G q2 176 (fun _ => nI 0), aI G q3 16 (fun _ => nI 0), aI G q4 16 (fun _ => nI 0)] H := hP
  have hD : va_D A [oC oy 8 [.int (nI 0), .ref q0, .ref q1, .ref q2, .ref q3, .ref q4, .long (lN 0), .long (lN 0), .int (nI 0), .long (lN 0), .long (lN 0), .null, .null, .null, .null, .null, .null, .null, .null, .null, .null, .int (nI 0), .null, .null, .null, .long (lN 0), .long (lN 0), .long (lN 0), .long (lN 0), .long (lN 0)], aI G q0 256 (fun _ => nI 0), aI G q1 256 (fun _ => nI 0), aI G q2 176 (fun _ => nI 0), aI G q3 16 (fun _ => nI 0), aI G q4 16 (fun _ => nI 0)] := hD
  refine lv_aload_n hx hb dMo_init_47 rfl (lv_at hl 0 rfl) ?_
  refine lv_sipush (v := nI 256) hx hb dMo_init_48 (by decide) ?_
  refine ck_newZ hx hb hts hG hA hP hD hS 256 rfl (by decide) ⟨by decide, by decide⟩ dMo_init_51 (fun q5 H hP hD hS => ?_)
  have hP : va_P G.1 vwCl [oC oy 8 [.int (nI 0), .ref q0, .ref q1, .ref q2, .ref q3, .ref q4, .long (lN 0), .long (lN 0), .int (nI 0), .long (lN 0), .long (lN 0), .null, .null, .null, .null, .null, .null, .null, .null, .null, .null, .int (nI 0), .null, .null, .null, .long (lN 0), .long (lN 0), .long (lN 0), .long (lN 0), .long (lN 0)], aI G q0 256 (fun _ => nI 0), aI G q1 256 (fun _ => nI 0), aI G q2 176 (fun _ => nI 0), aI G q3 16 (fun _ => nI 0), aI G q4 16 (fun _ => nI 0), aZ G q5 256 (fun _ => nI 0)] H := hP
  have hD : va_D A [oC oy 8 [.int (nI 0), .ref q0, .ref q1, .ref q2, .ref q3, .ref q4, .long (lN 0), .long (lN 0), .int (nI 0), .long (lN 0), .long (lN 0), .null, .null, .null, .null, .null, .null, .null, .null, .null, .null, .int (nI 0), .null, .null, .null, .long (lN 0), .long (lN 0), .long (lN 0), .long (lN 0), .long (lN 0)], aI G q0 256 (fun _ => nI 0), aI G q1 256 (fun _ => nI 0), aI G q2 176 (fun _ => nI 0), aI G q3 16 (fun _ => nI 0), aI G q4 16 (fun _ => nI 0), aZ G q5 256 (fun _ => nI 0)] := hD
  refine W.cs (cells' := 6) (slots' := 976) rfl rfl ?_
  refine fFMo_25 hx hb hts hown hin9 hG hP hD hS 0 rfl rfl rfl (Nat.le_of_ble_eq_true rfl) dMo_init_53 (fun H locs hP hD hS => ?_)
  have hP : va_P G.1 vwCl [oC oy 8 [.int (nI 0), .ref q0, .ref q1, .ref q2, .ref q3, .ref q4, .long (lN 0), .long (lN 0), .int (nI 0), .long (lN 0), .long (lN 0), .ref q5, .null, .null, .null, .null, .null, .null, .null, .null, .null, .int (nI 0), .null, .null, .null, .long (lN 0), .long (lN 0), .long (lN 0), .long (lN 0), .long (lN 0)], aI G q0 256 (fun _ => nI 0), aI G q1 256 (fun _ => nI 0), aI G q2 176 (fun _ => nI 0), aI G q3 16 (fun _ => nI 0), aI G q4 16 (fun _ => nI 0), aZ G q5 256 (fun _ => nI 0)] H := hP
  have hD : va_D A [oC oy 8 [.int (nI 0), .ref q0, .ref q1, .ref q2, .ref q3, .ref q4, .long (lN 0), .long (lN 0), .int (nI 0), .long (lN 0), .long (lN 0), .ref q5, .null, .null, .null, .null, .null, .null, .null, .null, .null, .int (nI 0), .null, .null, .null, .long (lN 0), .long (lN 0), .long (lN 0), .long (lN 0), .long (lN 0)], aI G q0 256 (fun _ => nI 0), aI G q1 256 (fun _ => nI 0), aI G q2 176 (fun _ => nI 0), aI G q3 16 (fun _ => nI 0), aI G q4 16 (fun _ => nI 0), aZ G q5 256 (fun _ => nI 0)] := hD
  refine lv_aload_n hx hb dMo_init_56 rfl (lv_at hl 0 rfl) ?_
  refine lv_sipush (v := nI 1024) hx hb dMo_init_57 (by decide) ?_
  refine ck_newZ hx hb hts hG hA hP hD hS 1024 rfl (by decide) ⟨by decide, by decide⟩ dMo_init_60 (fun q6 H hP hD hS => ?_)
  have hP : va_P G.1 vwCl [oC oy 8 [.int (nI 0), .ref q0, .ref q1, .ref q2, .ref q3, .ref q4, .long (lN 0), .long (lN 0), .int (nI 0), .long (lN 0), .long (lN 0), .ref q5, .null, .null, .null, .null, .null, .null, .null, .null, .null, .int (nI 0), .null, .null, .null, .long (lN 0), .long (lN 0), .long (lN 0), .long (lN 0), .long (lN 0)], aI G q0 256 (fun _ => nI 0), aI G q1 256 (fun _ => nI 0), aI G q2 176 (fun _ => nI 0), aI G q3 16 (fun _ => nI 0), aI G q4 16 (fun _ => nI 0), aZ G q5 256 (fun _ => nI 0), aZ G q6 1024 (fun _ => nI 0)] H := hP
  have hD : va_D A [oC oy 8 [.int (nI 0), .ref q0, .ref q1, .ref q2, .ref q3, .ref q4, .long (lN 0), .long (lN 0), .int (nI 0), .long (lN 0), .long (lN 0), .ref q5, .null, .null, .null, .null, .null, .null, .null, .null, .null, .int (nI 0), .null, .null, .null, .long (lN 0), .long (lN 0), .long (lN 0), .long (lN 0), .long (lN 0)], aI G q0 256 (fun _ => nI 0), aI G q1 256 (fun _ => nI 0), aI G q2 176 (fun _ => nI 0), aI G q3 16 (fun _ => nI 0), aI G q4 16 (fun _ => nI 0), aZ G q5 256 (fun _ => nI 0), aZ G q6 1024 (fun _ => nI 0)] := hD
  refine W.cs (cells' := 7) (slots' := 2000) rfl rfl ?_
  refine fFMo_29 hx hb hts hown hin9 hG hP hD hS 0 rfl rfl rfl (Nat.le_of_ble_eq_true rfl) dMo_init_62 (fun H locs hP hD hS => ?_)
  have hP : va_P G.1 vwCl [oC oy 8 [.int (nI 0), .ref q0, .ref q1, .ref q2, .ref q3, .ref q4, .long (lN 0), .long (lN 0), .int (nI 0), .long (lN 0), .long (lN 0), .ref q5, .ref q6, .null, .null, .null, .null, .null, .null, .null, .null, .int (nI 0), .null, .null, .null, .long (lN 0), .long (lN 0), .long (lN 0), .long (lN 0), .long (lN 0)], aI G q0 256 (fun _ => nI 0), aI G q1 256 (fun _ => nI 0), aI G q2 176 (fun _ => nI 0), aI G q3 16 (fun _ => nI 0), aI G q4 16 (fun _ => nI 0), aZ G q5 256 (fun _ => nI 0), aZ G q6 1024 (fun _ => nI 0)] H := hP
  have hD : va_D A [oC oy 8 [.int (nI 0), .ref q0, .ref q1, .ref q2, .ref q3, .ref q4, .long (lN 0), .long (lN 0), .int (nI 0), .long (lN 0), .long (lN 0), .ref q5, .ref q6, .null, .null, .null, .null, .null, .null, .null, .null, .int (nI 0), .null, .null, .null, .long (lN 0), .long (lN 0), .long (lN 0), .long (lN 0), .long (lN 0)], aI G q0 256 (fun _ => nI 0), aI G q1 256 (fun _ => nI 0), aI G q2 176 (fun _ => nI 0), aI G q3 16 (fun _ => nI 0), aI G q4 16 (fun _ => nI 0), aZ G q5 256 (fun _ => nI 0), aZ G q6 1024 (fun _ => nI 0)] := hD
  refine lv_aload_n hx hb dMo_init_65 rfl (lv_at hl 0 rfl) ?_
  refine lv_iconst (v := nI 4) hx hb dMo_init_66 (by decide) ?_
  refine ck_newI hx hb hts hG hA hP hD hS 4 rfl (by decide) ⟨by decide, by decide⟩ dMo_init_67 (fun q7 H hP hD hS => ?_)
  have hP : va_P G.1 vwCl [oC oy 8 [.int (nI 0), .ref q0, .ref q1, .ref q2, .ref q3, .ref q4, .long (lN 0), .long (lN 0), .int (nI 0), .long (lN 0), .long (lN 0), .ref q5, .ref q6, .null, .null, .null, .null, .null, .null, .null, .null, .int (nI 0), .null, .null, .null, .long (lN 0), .long (lN 0), .long (lN 0), .long (lN 0), .long (lN 0)], aI G q0 256 (fun _ => nI 0), aI G q1 256 (fun _ => nI 0), aI G q2 176 (fun _ => nI 0), aI G q3 16 (fun _ => nI 0), aI G q4 16 (fun _ => nI 0), aZ G q5 256 (fun _ => nI 0), aZ G q6 1024 (fun _ => nI 0), aI G q7 4 (fun _ => nI 0)] H := hP
  have hD : va_D A [oC oy 8 [.int (nI 0), .ref q0, .ref q1, .ref q2, .ref q3, .ref q4, .long (lN 0), .long (lN 0), .int (nI 0), .long (lN 0), .long (lN 0), .ref q5, .ref q6, .null, .null, .null, .null, .null, .null, .null, .null, .int (nI 0), .null, .null, .null, .long (lN 0), .long (lN 0), .long (lN 0), .long (lN 0), .long (lN 0)], aI G q0 256 (fun _ => nI 0), aI G q1 256 (fun _ => nI 0), aI G q2 176 (fun _ => nI 0), aI G q3 16 (fun _ => nI 0), aI G q4 16 (fun _ => nI 0), aZ G q5 256 (fun _ => nI 0), aZ G q6 1024 (fun _ => nI 0), aI G q7 4 (fun _ => nI 0)] := hD
  refine W.cs (cells' := 8) (slots' := 2004) rfl rfl ?_
  refine fFMo_32 hx hb hts hown hin9 hG hP hD hS 0 rfl rfl rfl (Nat.le_of_ble_eq_true rfl) dMo_init_69 (fun H locs hP hD hS => ?_)
  have hP : va_P G.1 vwCl [oC oy 8 [.int (nI 0), .ref q0, .ref q1, .ref q2, .ref q3, .ref q4, .long (lN 0), .long (lN 0), .int (nI 0), .long (lN 0), .long (lN 0), .ref q5, .ref q6, .ref q7, .null, .null, .null, .null, .null, .null, .null, .int (nI 0), .null, .null, .null, .long (lN 0), .long (lN 0), .long (lN 0), .long (lN 0), .long (lN 0)], aI G q0 256 (fun _ => nI 0), aI G q1 256 (fun _ => nI 0), aI G q2 176 (fun _ => nI 0), aI G q3 16 (fun _ => nI 0), aI G q4 16 (fun _ => nI 0), aZ G q5 256 (fun _ => nI 0), aZ G q6 1024 (fun _ => nI 0), aI G q7 4 (fun _ => nI 0)] H := hP
  have hD : va_D A [oC oy 8 [.int (nI 0), .ref q0, .ref q1, .ref q2, .ref q3, .ref q4, .long (lN 0), .long (lN 0), .int (nI 0), .long (lN 0), .long (lN 0), .ref q5, .ref q6, .ref q7, .null, .null, .null, .null, .null, .null, .null, .int (nI 0), .null, .null, .null, .long (lN 0), .long (lN 0), .long (lN 0), .long (lN 0), .long (lN 0)], aI G q0 256 (fun _ => nI 0), aI G q1 256 (fun _ => nI 0), aI G q2 176 (fun _ => nI 0), aI G q3 16 (fun _ => nI 0), aI G q4 16 (fun _ => nI 0), aZ G q5 256 (fun _ => nI 0), aZ G q6 1024 (fun _ => nI 0), aI G q7 4 (fun _ => nI 0)] := hD
  refine lv_aload_n hx hb dMo_init_72 rfl (lv_at hl 0 rfl) ?_
  refine lv_iconst (v := nI 4) hx hb dMo_init_73 (by decide) ?_
  refine ck_newJ hx hb hts hG hA hP hD hS 4 rfl (by decide) ⟨by decide, by decide⟩ dMo_init_74 (fun q8 H hP hD hS => ?_)
  have hP : va_P G.1 vwCl [oC oy 8 [.int (nI 0), .ref q0, .ref q1, .ref q2, .ref q3, .ref q4, .long (lN 0), .long (lN 0), .int (nI 0), .long (lN 0), .long (lN 0), .ref q5, .ref q6, .ref q7, .null, .null, .null, .null, .null, .null, .null, .int (nI 0), .null, .null, .null, .long (lN 0), .long (lN 0), .long (lN 0), .long (lN 0), .long (lN 0)], aI G q0 256 (fun _ => nI 0), aI G q1 256 (fun _ => nI 0), aI G q2 176 (fun _ => nI 0), aI G q3 16 (fun _ => nI 0), aI G q4 16 (fun _ => nI 0), aZ G q5 256 (fun _ => nI 0), aZ G q6 1024 (fun _ => nI 0), aI G q7 4 (fun _ => nI 0), aJ G q8 4 (fun _ => lN 0)] H := hP
  have hD : va_D A [oC oy 8 [.int (nI 0), .ref q0, .ref q1, .ref q2, .ref q3, .ref q4, .long (lN 0), .long (lN 0), .int (nI 0), .long (lN 0), .long (lN 0), .ref q5, .ref q6, .ref q7, .null, .null, .null, .null, .null, .null, .null, .int (nI 0), .null, .null, .null, .long (lN 0), .long (lN 0), .long (lN 0), .long (lN 0), .long (lN 0)], aI G q0 256 (fun _ => nI 0), aI G q1 256 (fun _ => nI 0), aI G q2 176 (fun _ => nI 0), aI G q3 16 (fun _ => nI 0), aI G q4 16 (fun _ => nI 0), aZ G q5 256 (fun _ => nI 0), aZ G q6 1024 (fun _ => nI 0), aI G q7 4 (fun _ => nI 0), aJ G q8 4 (fun _ => lN 0)] := hD
  refine W.cs (cells' := 9) (slots' := 2008) rfl rfl ?_
  refine fFMo_35 hx hb hts hown hin9 hG hP hD hS 0 rfl rfl rfl (Nat.le_of_ble_eq_true rfl) dMo_init_76 (fun H locs hP hD hS => ?_)
  have hP : va_P G.1 vwCl [oC oy 8 [.int (nI 0), .ref q0, .ref q1, .ref q2, .ref q3, .ref q4, .long (lN 0), .long (lN 0), .int (nI 0), .long (lN 0), .long (lN 0), .ref q5, .ref q6, .ref q7, .ref q8, .null, .null, .null, .null, .null, .null, .int (nI 0), .null, .null, .null, .long (lN 0), .long (lN 0), .long (lN 0), .long (lN 0), .long (lN 0)], aI G q0 256 (fun _ => nI 0), aI G q1 256 (fun _ => nI 0), aI G q2 176 (fun _ => nI 0), aI G q3 16 (fun _ => nI 0), aI G q4 16 (fun _ => nI 0), aZ G q5 256 (fun _ => nI 0), aZ G q6 1024 (fun _ => nI 0), aI G q7 4 (fun _ => nI 0), aJ G q8 4 (fun _ => lN 0)] H := hP
  have hD : va_D A [oC oy 8 [.int (nI 0), .ref q0, .ref q1, .ref q2, .ref q3, .ref q4, .long (lN 0), .long (lN 0), .int (nI 0), .long (lN 0), .long (lN 0), .ref q5, .ref q6, .ref q7, .ref q8, .null, .null, .null, .null, .null, .null, .int (nI 0), .null, .null, .null, .long (lN 0), .long (lN 0), .long (lN 0), .long (lN 0), .long (lN 0)], aI G q0 256 (fun _ => nI 0), aI G q1 256 (fun _ => nI 0), aI G q2 176 (fun _ => nI 0), aI G q3 16 (fun _ => nI 0), aI G q4 16 (fun _ => nI 0), aZ G q5 256 (fun _ => nI 0), aZ G q6 1024 (fun _ => nI 0), aI G q7 4 (fun _ => nI 0), aJ G q8 4 (fun _ => lN 0)] := hD
  refine lv_aload_n hx hb dMo_init_79 rfl (lv_at hl 0 rfl) ?_
  refine lv_iconst (v := nI 4) hx hb dMo_init_80 (by decide) ?_
  refine ck_newJ hx hb hts hG hA hP hD hS 4 rfl (by decide) ⟨by decide, by decide⟩ dMo_init_81 (fun q9 H hP hD hS => ?_)
  have hP : va_P G.1 vwCl [oC oy 8 [.int (nI 0), .ref q0, .ref q1, .ref q2, .ref q3, .ref q4, .long (lN 0), .long (lN 0), .int (nI 0), .long (lN 0), .long (lN 0), .ref q5, .ref q6, .ref q7, .ref q8, .null, .null, .null, .null, .null, .null, .int (nI 0), .null, .null, .null, .long (lN 0), .long (lN 0), .long (lN 0), .long (lN 0), .long (lN 0)], aI G q0 256 (fun _ => nI 0), aI G q1 256 (fun _ => nI 0), aI G q2 176 (fun _ => nI 0), aI G q3 16 (fun _ => nI 0), aI G q4 16 (fun _ => nI 0), aZ G q5 256 (fun _ => nI 0), aZ G q6 1024 (fun _ => nI 0), aI G q7 4 (fun _ => nI 0), aJ G q8 4 (fun _ => lN 0), aJ G q9 4 (fun _ => lN 0)] H := hP
  have hD : va_D A [oC oy 8 [.int (nI 0), .ref q0, .ref q1, .ref q2, .ref q3, .ref q4, .long (lN 0), .long (lN 0), .int (nI 0), .long (lN 0), .long (lN 0), .ref q5, .ref q6, .ref q7, .ref q8, .null, .null, .null, .null, .null, .null, .int (nI 0), .null, .null, .null, .long (lN 0), .long (lN 0), .long (lN 0), .long (lN 0), .long (lN 0)], aI G q0 256 (fun _ => nI 0), aI G q1 256 (fun _ => nI 0), aI G q2 176 (fun _ => nI 0), aI G q3 16 (fun _ => nI 0), aI G q4 16 (fun _ => nI 0), aZ G q5 256 (fun _ => nI 0), aZ G q6 1024 (fun _ => nI 0), aI G q7 4 (fun _ => nI 0), aJ G q8 4 (fun _ => lN 0), aJ G q9 4 (fun _ => lN 0)] := hD
  refine W.cs (cells' := 10) (slots' := 2012) rfl rfl ?_
  refine fFMo_39 hx hb hts hown hin9 hG hP hD hS 0 rfl rfl rfl (Nat.le_of_ble_eq_true rfl) dMo_init_83 (fun H locs hP hD hS => ?_)
  have hP : va_P G.1 vwCl [oC oy 8 [.int (nI 0), .ref q0, .ref q1, .ref q2, .ref q3, .ref q4, .long (lN 0), .long (lN 0), .int (nI 0), .long (lN 0), .long (lN 0), .ref q5, .ref q6, .ref q7, .ref q8, .ref q9, .null, .null, .null, .null, .null, .int (nI 0), .null, .null, .null, .long (lN 0), .long (lN 0), .long (lN 0), .long (lN 0), .long (lN 0)], aI G q0 256 (fun _ => nI 0), aI G q1 256 (fun _ => nI 0), aI G q2 176 (fun _ => nI 0), aI G q3 16 (fun _ => nI 0), aI G q4 16 (fun _ => nI 0), aZ G q5 256 (fun _ => nI 0), aZ G q6 1024 (fun _ => nI 0), aI G q7 4 (fun _ => nI 0), aJ G q8 4 (fun _ => lN 0), aJ G q9 4 (fun _ => lN 0)] H := hP
  have hD : va_D A [oC oy 8 [.int (nI 0), .ref q0, .ref q1, .ref q2, .ref q3, .ref q4, .long (lN 0), .long (lN 0), .int (nI 0), .long (lN 0), .long (lN 0), .ref q5, .ref q6, .ref q7, .ref q8, .ref q9, .null, .null, .null, .null, .null, .int (nI 0), .null, .null, .null, .long (lN 0), .long (lN 0), .long (lN 0), .long (lN 0), .long (lN 0)], aI G q0 256 (fun _ => nI 0), aI G q1 256 (fun _ => nI 0), aI G q2 176 (fun _ => nI 0), aI G q3 16 (fun _ => nI 0), aI G q4 16 (fun _ => nI 0), aZ G q5 256 (fun _ => nI 0), aZ G q6 1024 (fun _ => nI 0), aI G q7 4 (fun _ => nI 0), aJ G q8 4 (fun _ => lN 0), aJ G q9 4 (fun _ => lN 0)] := hD
  refine lv_aload_n hx hb dMo_init_86 rfl (lv_at hl 0 rfl) ?_
  refine lv_iconst (v := nI 4) hx hb dMo_init_87 (by decide) ?_
  refine ck_newI hx hb hts hG hA hP hD hS 4 rfl (by decide) ⟨by decide, by decide⟩ dMo_init_88 (fun q10 H hP hD hS => ?_)
  have hP : va_P G.1 vwCl [oC oy 8 [.int (nI 0), .ref q0, .ref q1, .ref q2, .ref q3, .ref q4, .long (lN 0), .long (lN 0), .int (nI 0), .long (lN 0), .long (lN 0), .ref q5, .ref q6, .ref q7, .ref q8, .ref q9, .null, .null, .null, .null, .null, .int (nI 0), .null, .null, .null, .long (lN 0), .long (lN 0), .long (lN 0), .long (lN 0), .long (lN 0)], aI G q0 256 (fun _ => nI 0), aI G q1 256 (fun _ => nI 0), aI G q2 176 (fun _ => nI 0), aI G q3 16 (fun _ => nI 0), aI G q4 16 (fun _ => nI 0), aZ G q5 256 (fun _ => nI 0), aZ G q6 1024 (fun _ => nI 0), aI G q7 4 (fun _ => nI 0), aJ G q8 4 (fun _ => lN 0), aJ G q9 4 (fun _ => lN 0), aI G q10 4 (fun _ => nI 0)] H := hP
  have hD : va_D A [oC oy 8 [.int (nI 0), .ref q0, .ref q1, .ref q2, .ref q3, .ref q4, .long (lN 0), .long (lN 0), .int (nI 0), .long (lN 0), .long (lN 0), .ref q5, .ref q6, .ref q7, .ref q8, .ref q9, .null, .null, .null, .null, .null, .int (nI 0), .null, .null, .null, .long (lN 0), .long (lN 0), .long (lN 0), .long (lN 0), .long (lN 0)], aI G q0 256 (fun _ => nI 0), aI G q1 256 (fun _ => nI 0), aI G q2 176 (fun _ => nI 0), aI G q3 16 (fun _ => nI 0), aI G q4 16 (fun _ => nI 0), aZ G q5 256 (fun _ => nI 0), aZ G q6 1024 (fun _ => nI 0), aI G q7 4 (fun _ => nI 0), aJ G q8 4 (fun _ => lN 0), aJ G q9 4 (fun _ => lN 0), aI G q10 4 (fun _ => nI 0)] := hD
  refine W.cs (cells' := 11) (slots' := 2016) rfl rfl ?_
  refine fFMo_42 hx hb hts hown hin9 hG hP hD hS 0 rfl rfl rfl (Nat.le_of_ble_eq_true rfl) dMo_init_90 (fun H locs hP hD hS => ?_)
  have hP : va_P G.1 vwCl [oC oy 8 [.int (nI 0), .ref q0, .ref q1, .ref q2, .ref q3, .ref q4, .long (lN 0), .long (lN 0), .int (nI 0), .long (lN 0), .long (lN 0), .ref q5, .ref q6, .ref q7, .ref q8, .ref q9, .ref q10, .null, .null, .null, .null, .int (nI 0), .null, .null, .null, .long (lN 0), .long (lN 0), .long (lN 0), .long (lN 0), .long (lN 0)], aI G q0 256 (fun _ => nI 0), aI G q1 256 (fun _ => nI 0), aI G q2 176 (fun _ => nI 0), aI G q3 16 (fun _ => nI 0), aI G q4 16 (fun _ => nI 0), aZ G q5 256 (fun _ => nI 0), aZ G q6 1024 (fun _ => nI 0), aI G q7 4 (fun _ => nI 0), aJ G q8 4 (fun _ => lN 0), aJ G q9 4 (fun _ => lN 0), aI G q10 4 (fun _ => nI 0)] H := hP
  have hD : va_D A [oC oy 8 [.int (nI 0), .ref q0, .ref q1, .ref q2, .ref q3, .ref q4, .long (lN 0), .long (lN 0), .int (nI 0), .long (lN 0), .long (lN 0), .ref q5, .ref q6, .ref q7, .ref q8, .ref q9, .ref q10, .null, .null, .null, .null, .int (nI 0), .null, .null, .null, .long (lN 0), .long (lN 0), .long (lN 0), .long (lN 0), .long (lN 0)], aI G q0 256 (fun _ => nI 0), aI G q1 256 (fun _ => nI 0), aI G q2 176 (fun _ => nI 0), aI G q3 16 (fun _ => nI 0), aI G q4 16 (fun _ => nI 0), aZ G q5 256 (fun _ => nI 0), aZ G q6 1024 (fun _ => nI 0), aI G q7 4 (fun _ => nI 0), aJ G q8 4 (fun _ => lN 0), aJ G q9 4 (fun _ => lN 0), aI G q10 4 (fun _ => nI 0)] := hD
  refine lv_aload_n hx hb dMo_init_93 rfl (lv_at hl 0 rfl) ?_
  refine lv_sipush (v := nI 1024) hx hb dMo_init_94 (by decide) ?_
  refine ck_newI hx hb hts hG hA hP hD hS 1024 rfl (by decide) ⟨by decide, by decide⟩ dMo_init_97 (fun q11 H hP hD hS => ?_)
  have hP : va_P G.1 vwCl [oC oy 8 [.int (nI 0), .ref q0, .ref q1, .ref q2, .ref q3, .ref q4, .long (lN 0), .long (lN 0), .int (nI 0), .long (lN 0), .long (lN 0), .ref q5, .ref q6, .ref q7, .ref q8, .ref q9, .ref q10, .null, .null, .null, .null, .int (nI 0), .null, .null, .null, .long (lN 0), .long (lN 0), .long (lN 0), .long (lN 0), .long (lN 0)], aI G q0 256 (fun _ => nI 0), aI G q1 256 (fun _ => nI 0), aI G q2 176 (fun _ => nI 0), aI G q3 16 (fun _ => nI 0), aI G q4 16 (fun _ => nI 0), aZ G q5 256 (fun _ => nI 0), aZ G q6 1024 (fun _ => nI 0), aI G q7 4 (fun _ => nI 0), aJ G q8 4 (fun _ => lN 0), aJ G q9 4 (fun _ => lN 0), aI G q10 4 (fun _ => nI 0), aI G q11 1024 (fun _ => nI 0)] H := hP
  have hD : va_D A [oC oy 8 [.int (nI 0), .ref q0, .ref q1, .ref q2, .ref q3, .ref q4, .long (lN 0), .long (lN 0), .int (nI 0), .long (lN 0), .long (lN 0), .ref q5, .ref q6, .ref q7, .ref q8, .ref q9, .ref q10, .null, .null, .null, .null, .int (nI 0), .null, .null, .null, .long (lN 0), .long (lN 0), .long (lN 0), .long (lN 0), .long (lN 0)], aI G q0 256 (fun _ => nI 0), aI G q1 256 (fun _ => nI 0), aI G q2 176 (fun _ => nI 0), aI G q3 16 (fun _ => nI 0), aI G q4 16 (fun _ => nI 0), aZ G q5 256 (fun _ => nI 0), aZ G q6 1024 (fun _ => nI 0), aI G q7 4 (fun _ => nI 0), aJ G q8 4 (fun _ => lN 0), aJ G q9 4 (fun _ => lN 0), aI G q10 4 (fun _ => nI 0), aI G q11 1024 (fun _ => nI 0)] := hD
  refine W.cs (cells' := 12) (slots' := 3040) rfl rfl ?_
  refine fFMo_45 hx hb hts hown hin9 hG hP hD hS 0 rfl rfl rfl (Nat.le_of_ble_eq_true rfl) dMo_init_99 (fun H locs hP hD hS => ?_)
  have hP : va_P G.1 vwCl [oC oy 8 [.int (nI 0), .ref q0, .ref q1, .ref q2, .ref q3, .ref q4, .long (lN 0), .long (lN 0), .int (nI 0), .long (lN 0), .long (lN 0), .ref q5, .ref q6, .ref q7, .ref q8, .ref q9, .ref q10, .ref q11, .null, .null, .null, .int (nI 0), .null, .null, .null, .long (lN 0), .long (lN 0), .long (lN 0), .long (lN 0), .long (lN 0)], aI G q0 256 (fun _ => nI 0), aI G q1 256 (fun _ => nI 0), aI G q2 176 (fun _ => nI 0), aI G q3 16 (fun _ => nI 0), aI G q4 16 (fun _ => nI 0), aZ G q5 256 (fun _ => nI 0), aZ G q6 1024 (fun _ => nI 0), aI G q7 4 (fun _ => nI 0), aJ G q8 4 (fun _ => lN 0), aJ G q9 4 (fun _ => lN 0), aI G q10 4 (fun _ => nI 0), aI G q11 1024 (fun _ => nI 0)] H := hP
  have hD : va_D A [oC oy 8 [.int (nI 0), .ref q0, .ref q1, .ref q2, .ref q3, .ref q4, .long (lN 0), .long (lN 0), .int (nI 0), .long (lN 0), .long (lN 0), .ref q5, .ref q6, .ref q7, .ref q8, .ref q9, .ref q10, .ref q11, .null, .null, .null, .int (nI 0), .null, .null, .null, .long (lN 0), .long (lN 0), .long (lN 0), .long (lN 0), .long (lN 0)], aI G q0 256 (fun _ => nI 0), aI G q1 256 (fun _ => nI 0), aI G q2 176 (fun _ => nI 0), aI G q3 16 (fun _ => nI 0), aI G q4 16 (fun _ => nI 0), aZ G q5 256 (fun _ => nI 0), aZ G q6 1024 (fun _ => nI 0), aI G q7 4 (fun _ => nI 0), aJ G q8 4 (fun _ => lN 0), aJ G q9 4 (fun _ => lN 0), aI G q10 4 (fun _ => nI 0), aI G q11 1024 (fun _ => nI 0)] := hD
  refine lv_aload_n hx hb dMo_init_102 rfl (lv_at hl 0 rfl) ?_
  refine lv_sipush (v := nI 1024) hx hb dMo_init_103 (by decide) ?_
  refine ck_newI hx hb hts hG hA hP hD hS 1024 rfl (by decide) ⟨by decide, by decide⟩ dMo_init_106 (fun q12 H hP hD hS => ?_)
  have hP : va_P G.1 vwCl [oC oy 8 [.int (nI 0), .ref q0, .ref q1, .ref q2, .ref q3, .ref q4, .long (lN 0), .long (lN 0), .int (nI 0), .long (lN 0), .long (lN 0), .ref q5, .ref q6, .ref q7, .ref q8, .ref q9, .ref q10, .ref q11, .null, .null, .null, .int (nI 0), .null, .null, .null, .long (lN 0), .long (lN 0), .long (lN 0), .long (lN 0), .long (lN 0)], aI G q0 256 (fun _ => nI 0), aI G q1 256 (fun _ => nI 0), aI G q2 176 (fun _ => nI 0), aI G q3 16 (fun _ => nI 0), aI G q4 16 (fun _ => nI 0), aZ G q5 256 (fun _ => nI 0), aZ G q6 1024 (fun _ => nI 0), aI G q7 4 (fun _ => nI 0), aJ G q8 4 (fun _ => lN 0), aJ G q9 4 (fun _ => lN 0), aI G q10 4 (fun _ => nI 0), aI G q11 1024 (fun _ => nI 0), aI G q12 1024 (fun _ => nI 0)] H := hP
  have hD : va_D A [oC oy 8 [.int (nI 0), .ref q0, .ref q1, .ref q2, .ref q3, .ref q4, .long (lN 0), .long (lN 0), .int (nI 0), .long (lN 0), .long (lN 0), .ref q5, .ref q6, .ref q7, .ref q8, .ref q9, .ref q10, .ref q11, .null, .null, .null, .int (nI 0), .null, .null, .null, .long (lN 0), .long (lN 0), .long (lN 0), .long (lN 0), .long (lN 0)], aI G q0 256 (fun _ => nI 0), aI G q1 256 (fun _ => nI 0), aI G q2 176 (fun _ => nI 0), aI G q3 16 (fun _ => nI 0), aI G q4 16 (fun _ => nI 0), aZ G q5 256 (fun _ => nI 0), aZ G q6 1024 (fun _ => nI 0), aI G q7 4 (fun _ => nI 0), aJ G q8 4 (fun _ => lN 0), aJ G q9 4 (fun _ => lN 0), aI G q10 4 (fun _ => nI 0), aI G q11 1024 (fun _ => nI 0), aI G q12 1024 (fun _ => nI 0)] := hD
  refine W.cs (cells' := 13) (slots' := 4064) rfl rfl ?_
  refine fFMo_48 hx hb hts hown hin9 hG hP hD hS 0 rfl rfl rfl (Nat.le_of_ble_eq_true rfl) dMo_init_108 (fun H locs hP hD hS => ?_)
  have hP : va_P G.1 vwCl [oC oy 8 [.int (nI 0), .ref q0, .ref q1, .ref q2, .ref q3, .ref q4, .long (lN 0), .long (lN 0), .int (nI 0), .long (lN 0), .long (lN 0), .ref q5, .ref q6, .ref q7, .ref q8, .ref q9, .ref q10, .ref q11, .ref q12, .null, .null, .int (nI 0), .null, .null, .null, .long (lN 0), .long (lN 0), .long (lN 0), .long (lN 0), .long (lN 0)], aI G q0 256 (fun _ => nI 0), aI G q1 256 (fun _ => nI 0), aI G q2 176 (fun _ => nI 0), aI G q3 16 (fun _ => nI 0), aI G q4 16 (fun _ => nI 0), aZ G q5 256 (fun _ => nI 0), aZ G q6 1024 (fun _ => nI 0), aI G q7 4 (fun _ => nI 0), aJ G q8 4 (fun _ => lN 0), aJ G q9 4 (fun _ => lN 0), aI G q10 4 (fun _ => nI 0), aI G q11 1024 (fun _ => nI 0), aI G q12 1024 (fun _ => nI 0)] H := hP
  have hD : va_D A [oC oy 8 [.int (nI 0), .ref q0, .ref q1, .ref q2, .ref q3, .ref q4, .long (lN 0), .long (lN 0), .int (nI 0), .long (lN 0), .long (lN 0), .ref q5, .ref q6, .ref q7, .ref q8, .ref q9, .ref q10, .ref q11, .ref q12, .null, .null, .int (nI 0), .null, .null, .null, .long (lN 0), .long (lN 0), .long (lN 0), .long (lN 0), .long (lN 0)], aI G q0 256 (fun _ => nI 0), aI G q1 256 (fun _ => nI 0), aI G q2 176 (fun _ => nI 0), aI G q3 16 (fun _ => nI 0), aI G q4 16 (fun _ => nI 0), aZ G q5 256 (fun _ => nI 0), aZ G q6 1024 (fun _ => nI 0), aI G q7 4 (fun _ => nI 0), aJ G q8 4 (fun _ => lN 0), aJ G q9 4 (fun _ => lN 0), aI G q10 4 (fun _ => nI 0), aI G q11 1024 (fun _ => nI 0), aI G q12 1024 (fun _ => nI 0)] := hD
  refine lv_aload_n hx hb dMo_init_111 rfl (lv_at hl 0 rfl) ?_
  refine lv_sipush (v := nI 512) hx hb dMo_init_112 (by decide) ?_
  refine ck_newZ hx hb hts hG hA hP hD hS 512 rfl (by decide) ⟨by decide, by decide⟩ dMo_init_115 (fun q13 H hP hD hS => ?_)
  have hP : va_P G.1 vwCl [oC oy 8 [.int (nI 0), .ref q0, .ref q1, .ref q2, .ref q3, .ref q4, .long (lN 0), .long (lN 0), .int (nI 0), .long (lN 0), .long (lN 0), .ref q5, .ref q6, .ref q7, .ref q8, .ref q9, .ref q10, .ref q11, .ref q12, .null, .null, .int (nI 0), .null, .null, .null, .long (lN 0), .long (lN 0), .long (lN 0), .long (lN 0), .long (lN 0)], aI G q0 256 (fun _ => nI 0), aI G q1 256 (fun _ => nI 0), aI G q2 176 (fun _ => nI 0), aI G q3 16 (fun _ => nI 0), aI G q4 16 (fun _ => nI 0), aZ G q5 256 (fun _ => nI 0), aZ G q6 1024 (fun _ => nI 0), aI G q7 4 (fun _ => nI 0), aJ G q8 4 (fun _ => lN 0), aJ G q9 4 (fun _ => lN 0), aI G q10 4 (fun _ => nI 0), aI G q11 1024 (fun _ => nI 0), aI G q12 1024 (fun _ => nI 0), aZ G q13 512 (fun _ => nI 0)] H := hP
  have hD : va_D A [oC oy 8 [.int (nI 0), .ref q0, .ref q1, .ref q2, .ref q3, .ref q4, .long (lN 0), .long (lN 0), .int (nI 0), .long (lN 0), .long (lN 0), .ref q5, .ref q6, .ref q7, .ref q8, .ref q9, .ref q10, .ref q11, .ref q12, .null, .null, .int (nI 0), .null, .null, .null, .long (lN 0), .long (lN 0), .long (lN 0), .long (lN 0), .long (lN 0)], aI G q0 256 (fun _ => nI 0), aI G q1 256 (fun _ => nI 0), aI G q2 176 (fun _ => nI 0), aI G q3 16 (fun _ => nI 0), aI G q4 16 (fun _ => nI 0), aZ G q5 256 (fun _ => nI 0), aZ G q6 1024 (fun _ => nI 0), aI G q7 4 (fun _ => nI 0), aJ G q8 4 (fun _ => lN 0), aJ G q9 4 (fun _ => lN 0), aI G q10 4 (fun _ => nI 0), aI G q11 1024 (fun _ => nI 0), aI G q12 1024 (fun _ => nI 0), aZ G q13 512 (fun _ => nI 0)] := hD
  refine W.cs (cells' := 14) (slots' := 4576) rfl rfl ?_
  refine fFMo_51 hx hb hts hown hin9 hG hP hD hS 0 rfl rfl rfl (Nat.le_of_ble_eq_true rfl) dMo_init_117 (fun H locs hP hD hS => ?_)
  have hP : va_P G.1 vwCl [oC oy 8 [.int (nI 0), .ref q0, .ref q1, .ref q2, .ref q3, .ref q4, .long (lN 0), .long (lN 0), .int (nI 0), .long (lN 0), .long (lN 0), .ref q5, .ref q6, .ref q7, .ref q8, .ref q9, .ref q10, .ref q11, .ref q12, .ref q13, .null, .int (nI 0), .null, .null, .null, .long (lN 0), .long (lN 0), .long (lN 0), .long (lN 0), .long (lN 0)], aI G q0 256 (fun _ => nI 0), aI G q1 256 (fun _ => nI 0), aI G q2 176 (fun _ => nI 0), aI G q3 16 (fun _ => nI 0), aI G q4 16 (fun _ => nI 0), aZ G q5 256 (fun _ => nI 0), aZ G q6 1024 (fun _ => nI 0), aI G q7 4 (fun _ => nI 0), aJ G q8 4 (fun _ => lN 0), aJ G q9 4 (fun _ => lN 0), aI G q10 4 (fun _ => nI 0), aI G q11 1024 (fun _ => nI 0), aI G q12 1024 (fun _ => nI 0), aZ G q13 512 (fun _ => nI 0)] H := hP
  have hD : va_D A [oC oy 8 [.int (nI 0), .ref q0, .ref q1, .ref q2, .ref q3, .ref q4, .long (lN 0), .long (lN 0), .int (nI 0), .long (lN 0), .long (lN 0), .ref q5, .ref q6, .ref q7, .ref q8, .ref q9, .ref q10, .ref q11, .ref q12, .ref q13, .null, .int (nI 0), .null, .null, .null, .long (lN 0), .long (lN 0), .long (lN 0), .long (lN 0), .long (lN 0)], aI G q0 256 (fun _ => nI 0), aI G q1 256 (fun _ => nI 0), aI G q2 176 (fun _ => nI 0), aI G q3 16 (fun _ => nI 0), aI G q4 16 (fun _ => nI 0), aZ G q5 256 (fun _ => nI 0), aZ G q6 1024 (fun _ => nI 0), aI G q7 4 (fun _ => nI 0), aJ G q8 4 (fun _ => lN 0), aJ G q9 4 (fun _ => lN 0), aI G q10 4 (fun _ => nI 0), aI G q11 1024 (fun _ => nI 0), aI G q12 1024 (fun _ => nI 0), aZ G q13 512 (fun _ => nI 0)] := hD
  refine lv_aload_n hx hb dMo_init_120 rfl (lv_at hl 0 rfl) ?_
  refine lv_sipush (v := nI 229) hx hb dMo_init_121 (by decide) ?_
  refine ck_newI hx hb hts hG hA hP hD hS 229 rfl (by decide) ⟨by decide, by decide⟩ dMo_init_124 (fun q14 H hP hD hS => ?_)
  have hP : va_P G.1 vwCl [oC oy 8 [.int (nI 0), .ref q0, .ref q1, .ref q2, .ref q3, .ref q4, .long (lN 0), .long (lN 0), .int (nI 0), .long (lN 0), .long (lN 0), .ref q5, .ref q6, .ref q7, .ref q8, .ref q9, .ref q10, .ref q11, .ref q12, .ref q13, .null, .int (nI 0), .null, .null, .null, .long (lN 0), .long (lN 0), .long (lN 0), .long (lN 0), .long (lN 0)], aI G q0 256 (fun _ => nI 0), aI G q1 256 (fun _ => nI 0), aI G q2 176 (fun _ => nI 0), aI G q3 16 (fun _ => nI 0), aI G q4 16 (fun _ => nI 0), aZ G q5 256 (fun _ => nI 0), aZ G q6 1024 (fun _ => nI 0), aI G q7 4 (fun _ => nI 0), aJ G q8 4 (fun _ => lN 0), aJ G q9 4 (fun _ => lN 0), aI G q10 4 (fun _ => nI 0), aI G q11 1024 (fun _ => nI 0), aI G q12 1024 (fun _ => nI 0), aZ G q13 512 (fun _ => nI 0), aI G q14 229 (fun _ => nI 0)] H := hP
  have hD : va_D A [oC oy 8 [.int (nI 0), .ref q0, .ref q1, .ref q2, .ref q3, .ref q4, .long (lN 0), .long (lN 0), .int (nI 0), .long (lN 0), .long (lN 0), .ref q5, .ref q6, .ref q7, .ref q8, .ref q9, .ref q10, .ref q11, .ref q12, .ref q13, .null, .int (nI 0), .null, .null, .null, .long (lN 0), .long (lN 0), .long (lN 0), .long (lN 0), .long (lN 0)], aI G q0 256 (fun _ => nI 0), aI G q1 256 (fun _ => nI 0), aI G q2 176 (fun _ => nI 0), aI G q3 16 (fun _ => nI 0), aI G q4 16 (fun _ => nI 0), aZ G q5 256 (fun _ => nI 0), aZ G q6 1024 (fun _ => nI 0), aI G q7 4 (fun _ => nI 0), aJ G q8 4 (fun _ => lN 0), aJ G q9 4 (fun _ => lN 0), aI G q10 4 (fun _ => nI 0), aI G q11 1024 (fun _ => nI 0), aI G q12 1024 (fun _ => nI 0), aZ G q13 512 (fun _ => nI 0), aI G q14 229 (fun _ => nI 0)] := hD
  refine W.cs (cells' := 15) (slots' := 4805) rfl rfl ?_
  refine fFMo_54 hx hb hts hown hin9 hG hP hD hS 0 rfl rfl rfl (Nat.le_of_ble_eq_true rfl) dMo_init_126 (fun H locs hP hD hS => ?_)
  have hP : va_P G.1 vwCl [oC oy 8 [.int (nI 0), .ref q0, .ref q1, .ref q2, .ref q3, .ref q4, .long (lN 0), .long (lN 0), .int (nI 0), .long (lN 0), .long (lN 0), .ref q5, .ref q6, .ref q7, .ref q8, .ref q9, .ref q10, .ref q11, .ref q12, .ref q13, .ref q14, .int (nI 0), .null, .null, .null, .long (lN 0), .long (lN 0), .long (lN 0), .long (lN 0), .long (lN 0)], aI G q0 256 (fun _ => nI 0), aI G q1 256 (fun _ => nI 0), aI G q2 176 (fun _ => nI 0), aI G q3 16 (fun _ => nI 0), aI G q4 16 (fun _ => nI 0), aZ G q5 256 (fun _ => nI 0), aZ G q6 1024 (fun _ => nI 0), aI G q7 4 (fun _ => nI 0), aJ G q8 4 (fun _ => lN 0), aJ G q9 4 (fun _ => lN 0), aI G q10 4 (fun _ => nI 0), aI G q11 1024 (fun _ => nI 0), aI G q12 1024 (fun _ => nI 0), aZ G q13 512 (fun _ => nI 0), aI G q14 229 (fun _ => nI 0)] H := hP
  have hD : va_D A [oC oy 8 [.int (nI 0), .ref q0, .ref q1, .ref q2, .ref q3, .ref q4, .long (lN 0), .long (lN 0), .int (nI 0), .long (lN 0), .long (lN 0), .ref q5, .ref q6, .ref q7, .ref q8, .ref q9, .ref q10, .ref q11, .ref q12, .ref q13, .ref q14, .int (nI 0), .null, .null, .null, .long (lN 0), .long (lN 0), .long (lN 0), .long (lN 0), .long (lN 0)], aI G q0 256 (fun _ => nI 0), aI G q1 256 (fun _ => nI 0), aI G q2 176 (fun _ => nI 0), aI G q3 16 (fun _ => nI 0), aI G q4 16 (fun _ => nI 0), aZ G q5 256 (fun _ => nI 0), aZ G q6 1024 (fun _ => nI 0), aI G q7 4 (fun _ => nI 0), aJ G q8 4 (fun _ => lN 0), aJ G q9 4 (fun _ => lN 0), aI G q10 4 (fun _ => nI 0), aI G q11 1024 (fun _ => nI 0), aI G q12 1024 (fun _ => nI 0), aZ G q13 512 (fun _ => nI 0), aI G q14 229 (fun _ => nI 0)] := hD
  refine lv_aload_n hx hb dMo_init_129 rfl (lv_at hl 0 rfl) ?_
  refine lv_sipush (v := nI 1024) hx hb dMo_init_130 (by decide) ?_
  refine ck_newI hx hb hts hG hA hP hD hS 1024 rfl (by decide) ⟨by decide, by decide⟩ dMo_init_133 (fun q15 H hP hD hS => ?_)
  have hP : va_P G.1 vwCl [oC oy 8 [.int (nI 0), .ref q0, .ref q1, .ref q2, .ref q3, .ref q4, .long (lN 0), .long (lN 0), .int (nI 0), .long (lN 0), .long (lN 0), .ref q5, .ref q6, .ref q7, .ref q8, .ref q9, .ref q10, .ref q11, .ref q12, .ref q13, .ref q14, .int (nI 0), .null, .null, .null, .long (lN 0), .long (lN 0), .long (lN 0), .long (lN 0), .long (lN 0)], aI G q0 256 (fun _ => nI 0), aI G q1 256 (fun _ => nI 0), aI G q2 176 (fun _ => nI 0), aI G q3 16 (fun _ => nI 0), aI G q4 16 (fun _ => nI 0), aZ G q5 256 (fun _ => nI 0), aZ G q6 1024 (fun _ => nI 0), aI G q7 4 (fun _ => nI 0), aJ G q8 4 (fun _ => lN 0), aJ G q9 4 (fun _ => lN 0), aI G q10 4 (fun _ => nI 0), aI G q11 1024 (fun _ => nI 0), aI G q12 1024 (fun _ => nI 0), aZ G q13 512 (fun _ => nI 0), aI G q14 229 (fun _ => nI 0), aI G q15 1024 (fun _ => nI 0)] H := hP
  have hD : va_D A [oC oy 8 [.int (nI 0), .ref q0, .ref q1, .ref q2, .ref q3, .ref q4, .long (lN 0), .long (lN 0), .int (nI 0), .long (lN 0), .long (lN 0), .ref q5, .ref q6, .ref q7, .ref q8, .ref q9, .ref q10, .ref q11, .ref q12, .ref q13, .ref q14, .int (nI 0), .null, .null, .null, .long (lN 0), .long (lN 0), .long (lN 0), .long (lN 0), .long (lN 0)], aI G q0 256 (fun _ => nI 0), aI G q1 256 (fun _ => nI 0), aI G q2 176 (fun _ => nI 0), aI G q3 16 (fun _ => nI 0), aI G q4 16 (fun _ => nI 0), aZ G q5 256 (fun _ => nI 0), aZ G q6 1024 (fun _ => nI 0), aI G q7 4 (fun _ => nI 0), aJ G q8 4 (fun _ => lN 0), aJ G q9 4 (fun _ => lN 0), aI G q10 4 (fun _ => nI 0), aI G q11 1024 (fun _ => nI 0), aI G q12 1024 (fun _ => nI 0), aZ G q13 512 (fun _ => nI 0), aI G q14 229 (fun _ => nI 0), aI G q15 1024 (fun _ => nI 0)] := hD
  refine W.cs (cells' := 16) (slots' := 5829) rfl rfl ?_
  refine fFMo_57 hx hb hts hown hin9 hG hP hD hS 0 rfl rfl rfl (Nat.le_of_ble_eq_true rfl) dMo_init_135 (fun H locs hP hD hS => ?_)
  have hP : va_P G.1 vwCl [oC oy 8 [.int (nI 0), .ref q0, .ref q1, .ref q2, .ref q3, .ref q4, .long (lN 0), .long (lN 0), .int (nI 0), .long (lN 0), .long (lN 0), .ref q5, .ref q6, .ref q7, .ref q8, .ref q9, .ref q10, .ref q11, .ref q12, .ref q13, .ref q14, .int (nI 0), .ref q15, .null, .null, .long (lN 0), .long (lN 0), .long (lN 0), .long (lN 0), .long (lN 0)], aI G q0 256 (fun _ => nI 0), aI G q1 256 (fun _ => nI 0), aI G q2 176 (fun _ => nI 0), aI G q3 16 (fun _ => nI 0), aI G q4 16 (fun _ => nI 0), aZ G q5 256 (fun _ => nI 0), aZ G q6 1024 (fun _ => nI 0), aI G q7 4 (fun _ => nI 0), aJ G q8 4 (fun _ => lN 0), aJ G q9 4 (fun _ => lN 0), aI G q10 4 (fun _ => nI 0), aI G q11 1024 (fun _ => nI 0), aI G q12 1024 (fun _ => nI 0), aZ G q13 512 (fun _ => nI 0), aI G q14 229 (fun _ => nI 0), aI G q15 1024 (fun _ => nI 0)] H := hP
  have hD : va_D A [oC oy 8 [.int (nI 0), .ref q0, .ref q1, .ref q2, .ref q3, .ref q4, .long (lN 0), .long (lN 0), .int (nI 0), .long (lN 0), .long (lN 0), .ref q5, .ref q6, .ref q7, .ref q8, .ref q9, .ref q10, .ref q11, .ref q12, .ref q13, .ref q14, .int (nI 0), .ref q15, .null, .null, .long (lN 0), .long (lN 0), .long (lN 0), .long (lN 0), .long (lN 0)], aI G q0 256 (fun _ => nI 0), aI G q1 256 (fun _ => nI 0), aI G q2 176 (fun _ => nI 0), aI G q3 16 (fun _ => nI 0), aI G q4 16 (fun _ => nI 0), aZ G q5 256 (fun _ => nI 0), aZ G q6 1024 (fun _ => nI 0), aI G q7 4 (fun _ => nI 0), aJ G q8 4 (fun _ => lN 0), aJ G q9 4 (fun _ => lN 0), aI G q10 4 (fun _ => nI 0), aI G q11 1024 (fun _ => nI 0), aI G q12 1024 (fun _ => nI 0), aZ G q13 512 (fun _ => nI 0), aI G q14 229 (fun _ => nI 0), aI G q15 1024 (fun _ => nI 0)] := hD
  refine lv_aload_n hx hb dMo_init_138 rfl (lv_at hl 0 rfl) ?_
  refine lv_sipush (v := nI 1024) hx hb dMo_init_139 (by decide) ?_
  refine ck_newJ hx hb hts hG hA hP hD hS 1024 rfl (by decide) ⟨by decide, by decide⟩ dMo_init_142 (fun q16 H hP hD hS => ?_)
  have hP : va_P G.1 vwCl [oC oy 8 [.int (nI 0), .ref q0, .ref q1, .ref q2, .ref q3, .ref q4, .long (lN 0), .long (lN 0), .int (nI 0), .long (lN 0), .long (lN 0), .ref q5, .ref q6, .ref q7, .ref q8, .ref q9, .ref q10, .ref q11, .ref q12, .ref q13, .ref q14, .int (nI 0), .ref q15, .null, .null, .long (lN 0), .long (lN 0), .long (lN 0), .long (lN 0), .long (lN 0)], aI G q0 256 (fun _ => nI 0), aI G q1 256 (fun _ => nI 0), aI G q2 176 (fun _ => nI 0), aI G q3 16 (fun _ => nI 0), aI G q4 16 (fun _ => nI 0), aZ G q5 256 (fun _ => nI 0), aZ G q6 1024 (fun _ => nI 0), aI G q7 4 (fun _ => nI 0), aJ G q8 4 (fun _ => lN 0), aJ G q9 4 (fun _ => lN 0), aI G q10 4 (fun _ => nI 0), aI G q11 1024 (fun _ => nI 0), aI G q12 1024 (fun _ => nI 0), aZ G q13 512 (fun _ => nI 0), aI G q14 229 (fun _ => nI 0), aI G q15 1024 (fun _ => nI 0), aJ G q16 1024 (fun _ => lN 0)] H := hP
  have hD : va_D A [oC oy 8 [.int (nI 0), .ref q0, .ref q1, .ref q2, .ref q3, .ref q4, .long (lN 0), .long (lN 0), .int (nI 0), .long (lN 0), .long (lN 0), .ref q5, .ref q6, .ref q7, .ref q8, .ref q9, .ref q10, .ref q11, .ref q12, .ref q13, .ref q14, .int (nI 0), .ref q15, .null, .null, .long (lN 0), .long (lN 0), .long (lN 0), .long (lN 0), .long (lN 0)], aI G q0 256 (fun _ => nI 0), aI G q1 256 (fun _ => nI 0), aI G q2 176 (fun _ => nI 0), aI G q3 16 (fun _ => nI 0), aI G q4 16 (fun _ => nI 0), aZ G q5 256 (fun _ => nI 0), aZ G q6 1024 (fun _ => nI 0), aI G q7 4 (fun _ => nI 0), aJ G q8 4 (fun _ => lN 0), aJ G q9 4 (fun _ => lN 0), aI G q10 4 (fun _ => nI 0), aI G q11 1024 (fun _ => nI 0), aI G q12 1024 (fun _ => nI 0), aZ G q13 512 (fun _ => nI 0), aI G q14 229 (fun _ => nI 0), aI G q15 1024 (fun _ => nI 0), aJ G q16 1024 (fun _ => lN 0)] := hD
  refine W.cs (cells' := 17) (slots' := 6853) rfl rfl ?_
  refine fFMo_60 hx hb hts hown hin9 hG hP hD hS 0 rfl rfl rfl (Nat.le_of_ble_eq_true rfl) dMo_init_144 (fun H locs hP hD hS => ?_)
  have hP : va_P G.1 vwCl [oC oy 8 [.int (nI 0), .ref q0, .ref q1, .ref q2, .ref q3, .ref q4, .long (lN 0), .long (lN 0), .int (nI 0), .long (lN 0), .long (lN 0), .ref q5, .ref q6, .ref q7, .ref q8, .ref q9, .ref q10, .ref q11, .ref q12, .ref q13, .ref q14, .int (nI 0), .ref q15, .ref q16, .null, .long (lN 0), .long (lN 0), .long (lN 0), .long (lN 0), .long (lN 0)], aI G q0 256 (fun _ => nI 0), aI G q1 256 (fun _ => nI 0), aI G q2 176 (fun _ => nI 0), aI G q3 16 (fun _ => nI 0), aI G q4 16 (fun _ => nI 0), aZ G q5 256 (fun _ => nI 0), aZ G q6 1024 (fun _ => nI 0), aI G q7 4 (fun _ => nI 0), aJ G q8 4 (fun _ => lN 0), aJ G q9 4 (fun _ => lN 0), aI G q10 4 (fun _ => nI 0), aI G q11 1024 (fun _ => nI 0), aI G q12 1024 (fun _ => nI 0), aZ G q13 512 (fun _ => nI 0), aI G q14 229 (fun _ => nI 0), aI G q15 1024 (fun _ => nI 0), aJ G q16 1024 (fun _ => lN 0)] H := hP
  have hD : va_D A [oC oy 8 [.int (nI 0), .ref q0, .ref q1, .ref q2, .ref q3, .ref q4, .long (lN 0), .long (lN 0), .int (nI 0), .long (lN 0), .long (lN 0), .ref q5, .ref q6, .ref q7, .ref q8, .ref q9, .ref q10, .ref q11, .ref q12, .ref q13, .ref q14, .int (nI 0), .ref q15, .ref q16, .null, .long (lN 0), .long (lN 0), .long (lN 0), .long (lN 0), .long (lN 0)], aI G q0 256 (fun _ => nI 0), aI G q1 256 (fun _ => nI 0), aI G q2 176 (fun _ => nI 0), aI G q3 16 (fun _ => nI 0), aI G q4 16 (fun _ => nI 0), aZ G q5 256 (fun _ => nI 0), aZ G q6 1024 (fun _ => nI 0), aI G q7 4 (fun _ => nI 0), aJ G q8 4 (fun _ => lN 0), aJ G q9 4 (fun _ => lN 0), aI G q10 4 (fun _ => nI 0), aI G q11 1024 (fun _ => nI 0), aI G q12 1024 (fun _ => nI 0), aZ G q13 512 (fun _ => nI 0), aI G q14 229 (fun _ => nI 0), aI G q15 1024 (fun _ => nI 0), aJ G q16 1024 (fun _ => lN 0)] := hD
  refine lv_aload_n hx hb dMo_init_147 rfl (lv_at hl 0 rfl) ?_
  refine lv_sipush (v := nI 1024) hx hb dMo_init_148 (by decide) ?_
  refine ck_newJ hx hb hts hG hA hP hD hS 1024 rfl (by decide) ⟨by decide, by decide⟩ dMo_init_151 (fun q17 H hP hD hS => ?_)
  have hP : va_P G.1 vwCl [oC oy 8 [.int (nI 0), .ref q0, .ref q1, .ref q2, .ref q3, .ref q4, .long (lN 0), .long (lN 0), .int (nI 0), .long (lN 0), .long (lN 0), .ref q5, .ref q6, .ref q7, .ref q8, .ref q9, .ref q10, .ref q11, .ref q12, .ref q13, .ref q14, .int (nI 0), .ref q15, .ref q16, .null, .long (lN 0), .long (lN 0), .long (lN 0), .long (lN 0), .long (lN 0)], aI G q0 256 (fun _ => nI 0), aI G q1 256 (fun _ => nI 0), aI G q2 176 (fun _ => nI 0), aI G q3 16 (fun _ => nI 0), aI G q4 16 (fun _ => nI 0), aZ G q5 256 (fun _ => nI 0), aZ G q6 1024 (fun _ => nI 0), aI G q7 4 (fun _ => nI 0), aJ G q8 4 (fun _ => lN 0), aJ G q9 4 (fun _ => lN 0), aI G q10 4 (fun _ => nI 0), aI G q11 1024 (fun _ => nI 0), aI G q12 1024 (fun _ => nI 0), aZ G q13 512 (fun _ => nI 0), aI G q14 229 (fun _ => nI 0), aI G q15 1024 (fun _ => nI 0), aJ G q16 1024 (fun _ => lN 0), aJ G q17 1024 (fun _ => lN 0)] H := hP
  have hD : va_D A [oC oy 8 [.int (nI 0), .ref q0, .ref q1, .ref q2, .ref q3, .ref q4, .long (lN 0), .long (lN 0), .int (nI 0), .long (lN 0), .long (lN 0), .ref q5, .ref q6, .ref q7, .ref q8, .ref q9, .ref q10, .ref q11, .ref q12, .ref q13, .ref q14, .int (nI 0), .ref q15, .ref q16, .null, .long (lN 0), .long (lN 0), .long (lN 0), .long (lN 0), .long (lN 0)], aI G q0 256 (fun _ => nI 0), aI G q1 256 (fun _ => nI 0), aI G q2 176 (fun _ => nI 0), aI G q3 16 (fun _ => nI 0), aI G q4 16 (fun _ => nI 0), aZ G q5 256 (fun _ => nI 0), aZ G q6 1024 (fun _ => nI 0), aI G q7 4 (fun _ => nI 0), aJ G q8 4 (fun _ => lN 0), aJ G q9 4 (fun _ => lN 0), aI G q10 4 (fun _ => nI 0), aI G q11 1024 (fun _ => nI 0), aI G q12 1024 (fun _ => nI 0), aZ G q13 512 (fun _ => nI 0), aI G q14 229 (fun _ => nI 0), aI G q15 1024 (fun _ => nI 0), aJ G q16 1024 (fun _ => lN 0), aJ G q17 1024 (fun _ => lN 0)] := hD
  refine W.cs (cells' := 18) (slots' := 7877) rfl rfl ?_
  refine fFMo_63 hx hb hts hown hin9 hG hP hD hS 0 rfl rfl rfl (Nat.le_of_ble_eq_true rfl) dMo_init_153 (fun H locs hP hD hS => ?_)
  have hP : va_P G.1 vwCl [oC oy 8 [.int (nI 0), .ref q0, .ref q1, .ref q2, .ref q3, .ref q4, .long (lN 0), .long (lN 0), .int (nI 0), .long (lN 0), .long (lN 0), .ref q5, .ref q6, .ref q7, .ref q8, .ref q9, .ref q10, .ref q11, .ref q12, .ref q13, .ref q14, .int (nI 0), .ref q15, .ref q16, .ref q17, .long (lN 0), .long (lN 0), .long (lN 0), .long (lN 0), .long (lN 0)], aI G q0 256 (fun _ => nI 0), aI G q1 256 (fun _ => nI 0), aI G q2 176 (fun _ => nI 0), aI G q3 16 (fun _ => nI 0), aI G q4 16 (fun _ => nI 0), aZ G q5 256 (fun _ => nI 0), aZ G q6 1024 (fun _ => nI 0), aI G q7 4 (fun _ => nI 0), aJ G q8 4 (fun _ => lN 0), aJ G q9 4 (fun _ => lN 0), aI G q10 4 (fun _ => nI 0), aI G q11 1024 (fun _ => nI 0), aI G q12 1024 (fun _ => nI 0), aZ G q13 512 (fun _ => nI 0), aI G q14 229 (fun _ => nI 0), aI G q15 1024 (fun _ => nI 0), aJ G q16 1024 (fun _ => lN 0), aJ G q17 1024 (fun _ => lN 0)] H := hP
  have hD : va_D A [oC oy 8 [.int (nI 0), .ref q0, .ref q1, .ref q2, .ref q3, .ref q4, .long (lN 0), .long (lN 0), .int (nI 0), .long (lN 0), .long (lN 0), .ref q5, .ref q6, .ref q7, .ref q8, .ref q9, .ref q10, .ref q11, .ref q12, .ref q13, .ref q14, .int (nI 0), .ref q15, .ref q16, .ref q17, .long (lN 0), .long (lN 0), .long (lN 0), .long (lN 0), .long (lN 0)], aI G q0 256 (fun _ => nI 0), aI G q1 256 (fun _ => nI 0), aI G q2 176 (fun _ => nI 0), aI G q3 16 (fun _ => nI 0), aI G q4 16 (fun _ => nI 0), aZ G q5 256 (fun _ => nI 0), aZ G q6 1024 (fun _ => nI 0), aI G q7 4 (fun _ => nI 0), aJ G q8 4 (fun _ => lN 0), aJ G q9 4 (fun _ => lN 0), aI G q10 4 (fun _ => nI 0), aI G q11 1024 (fun _ => nI 0), aI G q12 1024 (fun _ => nI 0), aZ G q13 512 (fun _ => nI 0), aI G q14 229 (fun _ => nI 0), aI G q15 1024 (fun _ => nI 0), aJ G q16 1024 (fun _ => lN 0), aJ G q17 1024 (fun _ => lN 0)] := hD
  obtain ⟨r, hr9⟩ : ∃ r : Nat → Nat, r = fun j => List.getD [q0, q1, q2, q3, q4, q5, q6, q7, q8, q9, q10, q11, q12, q13, q14, q15, q16, q17] j 0 := ⟨_, rfl⟩
  have hP : va_P G.1 vwCl [moC oy r (nI 0) (lN 0) (lN 0) (nI 0) (lN 0) (lN 0) (nI 0) (lN 0) (lN 0) (lN 0) (lN 0) (lN 0), aI G (r 0) 256 (fun _ => nI 0), aI G (r 1) 256 (fun _ => nI 0), aI G (r 2) 176 (fun _ => nI 0), aI G (r 3) 16 (fun _ => nI 0), aI G (r 4) 16 (fun _ => nI 0), aZ G (r 5) 256 (fun _ => nI 0), aZ G (r 6) 1024 (fun _ => nI 0), aI G (r 7) 4 (fun _ => nI 0), aJ G (r 8) 4 (fun _ => lN 0), aJ G (r 9) 4 (fun _ => lN 0), aI G (r 10) 4 (fun _ => nI 0), aI G (r 11) 1024 (fun _ => nI 0), aI G (r 12) 1024 (fun _ => nI 0), aZ G (r 13) 512 (fun _ => nI 0), aI G (r 14) 229 (fun _ => nI 0), aI G (r 15) 1024 (fun _ => nI 0), aJ G (r 16) 1024 (fun _ => lN 0), aJ G (r 17) 1024 (fun _ => lN 0)] H := by rw [hr9]; exact hP
  have hD : va_D A [moC oy r (nI 0) (lN 0) (lN 0) (nI 0) (lN 0) (lN 0) (nI 0) (lN 0) (lN 0) (lN 0) (lN 0) (lN 0), aI G (r 0) 256 (fun _ => nI 0), aI G (r 1) 256 (fun _ => nI 0), aI G (r 2) 176 (fun _ => nI 0), aI G (r 3) 16 (fun _ => nI 0), aI G (r 4) 16 (fun _ => nI 0), aZ G (r 5) 256 (fun _ => nI 0), aZ G (r 6) 1024 (fun _ => nI 0), aI G (r 7) 4 (fun _ => nI 0), aJ G (r 8) 4 (fun _ => lN 0), aJ G (r 9) 4 (fun _ => lN 0), aI G (r 10) 4 (fun _ => nI 0), aI G (r 11) 1024 (fun _ => nI 0), aI G (r 12) 1024 (fun _ => nI 0), aZ G (r 13) 512 (fun _ => nI 0), aI G (r 14) 229 (fun _ => nI 0), aI G (r 15) 1024 (fun _ => nI 0), aJ G (r 16) 1024 (fun _ => lN 0), aJ G (r 17) 1024 (fun _ => lN 0)] := by rw [hr9]; exact hD
  refine lv_iconst (v := nI 0) hx hb dMo_init_156 (by decide) ?_
  refine lv_istore_n (lv' := [(1, .int (nI 0)), (0, .ref oy)]) hx hb dMo_init_157 rfl hl (by decide) rfl (fun ls hl => ?_)
  have loop : ∀ (k : Nat) (n : Nat) (H : Heap) (locs : List Loc) (ls : Array Slot), n + k = 256 → va_P G.1 vwCl [moC oy r (nI 0) (lN 0) (lN 0) (nI 0) (lN 0) (lN 0) (nI 0) (lN 0) (lN 0) (lN 0) (lN 0) (lN 0), aI G (r 0) 256 (rSn n), aI G (r 1) 256 (rUn n), aI G (r 2) 176 (fun _ => nI 0), aI G (r 3) 16 (fun _ => nI 0), aI G (r 4) 16 (fun _ => nI 0), aZ G (r 5) 256 (fun _ => nI 0), aZ G (r 6) 1024 (fun _ => nI 0), aI G (r 7) 4 (fun _ => nI 0), aJ G (r 8) 4 (fun _ => lN 0), aJ G (r 9) 4 (fun _ => lN 0), aI G (r 10) 4 (fun _ => nI 0), aI G (r 11) 1024 (fun _ => nI 0), aI G (r 12) 1024 (fun _ => nI 0), aZ G (r 13) 512 (fun _ => nI 0), aI G (r 14) 229 (fun _ => nI 0), aI G (r 15) 1024 (fun _ => nI 0), aJ G (r 16) 1024 (fun _ => lN 0), aJ G (r 17) 1024 (fun _ => lN 0)] H → va_D A [moC oy r (nI 0) (lN 0) (lN 0) (nI 0) (lN 0) (lN 0) (nI 0) (lN 0) (lN 0) (lN 0) (lN 0) (lN 0), aI G (r 0) 256 (rSn n), aI G (r 1) 256 (rUn n), aI G (r 2) 176 (fun _ => nI 0), aI G (r 3) 16 (fun _ => nI 0), aI G (r 4) 16 (fun _ => nI 0), aZ G (r 5) 256 (fun _ => nI 0), aZ G (r 6) 1024 (fun _ => nI 0), aI G (r 7) 4 (fun _ => nI 0), aJ G (r 8) 4 (fun _ => lN 0), aJ G (r 9) 4 (fun _ => lN 0), aI G (r 10) 4 (fun _ => nI 0), aI G (r 11) 1024 (fun _ => nI 0), aI G (r 12) 1024 (fun _ => nI 0), aZ G (r 13) 512 (fun _ => nI 0), aI G (r 14) 229 (fun _ => nI 0), aI G (r 15) 1024 (fun _ => nI 0), aJ G (r 16) 1024 (fun _ => lN 0), aJ G (r 17) 1024 (fun _ => lN 0)] → va_S A s.heap H locs → lv_has ls 6 [(0, .ref oy), (1, .int (nI n))] → W p l e { frames := 2, cells := 18, slots := 7877, locals := 45 } s m args below meth c H locs 18 7877 (MQ below (cr_out G (S := Nat → Nat) (fun _ => True) (fun u => none) (fun u => [moC oy u (nI 0) (lN 0) (lN 0) (nI 4) (lN 0) (lN 0) (nI 0) (lN 0) (lN 0) (lN 0) (lN 0) (lN 0), aI G (u 0) 256 ckS, aI G (u 1) 256 ckU, aI G (u 2) 176 (fun _ => nI 0), aI G (u 3) 16 (fun _ => nI 0), aI G (u 4) 16 (fun _ => nI 0), aZ G (u 5) 256 (fun _ => nI 0), aZ G (u 6) 1024 (fun _ => nI 0), aI G (u 7) 4 (fun _ => nI 0), aJ G (u 8) 4 (fun _ => lN 0), aJ G (u 9) 4 (fun _ => lN 0), aI G (u 10) 4 (fun _ => nI 0), aI G (u 11) 1024 (fun _ => nI 0), aI G (u 12) 1024 (fun _ => nI 0), aZ G (u 13) 512 (fun _ => nI 0), aI G (u 14) 229 (fun _ => nI 0), aI G (u 15) 1024 (fun _ => (-1)), aJ G (u 16) 1024 (fun _ => lN 0), aJ G (u 17) 1024 (fun _ => lN 0)]) A) args s 18 7877 A) (F0 m 158 ls []) := by
    intro k
    induction k with
    | zero =>
      intro n H locs ls hk hP hD hS hl
      obtain rfl : n = 256 := by omega
      have hP := ck_cg hP 1 rfl (g := ckS) (fun j hj => rSn_at 256 j hj)
      have hP := ck_cg hP 2 rfl (g := ckU) (fun j hj => rUn_at hj 256 (Nat.le_refl _) (suu_all j hj).2.2.1)
      have hP : va_P G.1 vwCl [moC oy r (nI 0) (lN 0) (lN 0) (nI 0) (lN 0) (lN 0) (nI 0) (lN 0) (lN 0) (lN 0) (lN 0) (lN 0), aI G (r 0) 256 ckS, aI G (r 1) 256 ckU, aI G (r 2) 176 (fun _ => nI 0), aI G (r 3) 16 (fun _ => nI 0), aI G (r 4) 16 (fun _ => nI 0), aZ G (r 5) 256 (fun _ => nI 0), aZ G (r 6) 1024 (fun _ => nI 0), aI G (r 7) 4 (fun _ => nI 0), aJ G (r 8) 4 (fun _ => lN 0), aJ G (r 9) 4 (fun _ => lN 0), aI G (r 10) 4 (fun _ => nI 0), aI G (r 11) 1024 (fun _ => nI 0), aI G (r 12) 1024 (fun _ => nI 0), aZ G (r 13) 512 (fun _ => nI 0), aI G (r 14) 229 (fun _ => nI 0), aI G (r 15) 1024 (fun _ => nI 0), aJ G (r 16) 1024 (fun _ => lN 0), aJ G (r 17) 1024 (fun _ => lN 0)] H := hP
      have hD : va_D A [moC oy r (nI 0) (lN 0) (lN 0) (nI 0) (lN 0) (lN 0) (nI 0) (lN 0) (lN 0) (lN 0) (lN 0) (lN 0), aI G (r 0) 256 ckS, aI G (r 1) 256 ckU, aI G (r 2) 176 (fun _ => nI 0), aI G (r 3) 16 (fun _ => nI 0), aI G (r 4) 16 (fun _ => nI 0), aZ G (r 5) 256 (fun _ => nI 0), aZ G (r 6) 1024 (fun _ => nI 0), aI G (r 7) 4 (fun _ => nI 0), aJ G (r 8) 4 (fun _ => lN 0), aJ G (r 9) 4 (fun _ => lN 0), aI G (r 10) 4 (fun _ => nI 0), aI G (r 11) 1024 (fun _ => nI 0), aI G (r 12) 1024 (fun _ => nI 0), aZ G (r 13) 512 (fun _ => nI 0), aI G (r 14) 229 (fun _ => nI 0), aI G (r 15) 1024 (fun _ => nI 0), aJ G (r 16) 1024 (fun _ => lN 0), aJ G (r 17) 1024 (fun _ => lN 0)] := ck_Dsame (by rfl) hD
      have hl : lv_has ls 6 [(0, .ref oy), (1, .int (nI 256))] := hl
      refine lv_iload_n hx hb dMo_init_158 rfl (lv_at hl 1 rfl) ?_
      refine lv_sipush (v := nI 256) hx hb dMo_init_159 (by decide) ?_
      refine lv_icmp_ge (tgt := 267) hx hb dMo_init_162 rfl (fun _ => ?_) (fun h => absurd (nI_le (by omega) (by omega)) h)
      refine lv_aload_n hx hb dMo_init_267 rfl (lv_at hl 0 rfl) ?_
      refine lv_iconst (v := nI 4) hx hb dMo_init_268 (by decide) ?_
      refine lv_lconst (v := lN 0) hx hb dMo_init_269 (by decide) ?_
      refine lv_lconst (v := lN 0) hx hb dMo_init_270 (by decide) ?_
      refine clMo_70 (As := [.int (nI 4), .long (lN 0), .long (lN 0)]) (rest := []) hx hb hml hown hts (k_Mo_clear l G oy r (nI 0) (lN 0) (lN 0) (nI 0) (lN 0) (lN 0) (nI 0) (lN 0) (lN 0) (lN 0) (lN 0) (lN 0) (fun _ => nI 0) (fun _ => nI 0) (fun _ => nI 0) (fun _ => nI 0) (fun _ => nI 0) (nI 4) (lN 0) (lN 0)) hG hA hP hD hS 0 rfl [0, 6, 7, 16, 8, 11] rfl rfl (fun _ => rfl) rfl hl.1 rfl (Nat.le_of_ble_eq_true rfl) ⟨by decide, by decide⟩ ⟨by decide, by decide⟩ dMo_init_271 (fun _ H locs _ hP hD hS => ?_)
      have hP : va_P G.1 vwCl [moC oy r (nI 0) (lN 0) (lN 0) (nI 4) (lN 0) (lN 0) (nI 0) (lN 0) (lN 0) (lN 0) (lN 0) (lN 0), aI G (r 0) 256 ckS, aI G (r 1) 256 ckU, aI G (r 2) 176 (fun _ => nI 0), aI G (r 3) 16 (fun _ => nI 0), aI G (r 4) 16 (fun _ => nI 0), aZ G (r 5) 256 (fun _ => nI 0), aZ G (r 6) 1024 (fun _ => nI 0), aI G (r 7) 4 (fun _ => nI 0), aJ G (r 8) 4 (fun _ => lN 0), aJ G (r 9) 4 (fun _ => lN 0), aI G (r 10) 4 (fun _ => nI 0), aI G (r 11) 1024 (fun _ => nI 0), aI G (r 12) 1024 (fun _ => nI 0), aZ G (r 13) 512 (fun _ => nI 0), aI G (r 14) 229 (fun _ => nI 0), aI G (r 15) 1024 (fun _ => (-1)), aJ G (r 16) 1024 (fun _ => lN 0), aJ G (r 17) 1024 (fun _ => lN 0)] H := hP
      have hD : va_D A [moC oy r (nI 0) (lN 0) (lN 0) (nI 4) (lN 0) (lN 0) (nI 0) (lN 0) (lN 0) (lN 0) (lN 0) (lN 0), aI G (r 0) 256 ckS, aI G (r 1) 256 ckU, aI G (r 2) 176 (fun _ => nI 0), aI G (r 3) 16 (fun _ => nI 0), aI G (r 4) 16 (fun _ => nI 0), aZ G (r 5) 256 (fun _ => nI 0), aZ G (r 6) 1024 (fun _ => nI 0), aI G (r 7) 4 (fun _ => nI 0), aJ G (r 8) 4 (fun _ => lN 0), aJ G (r 9) 4 (fun _ => lN 0), aI G (r 10) 4 (fun _ => nI 0), aI G (r 11) 1024 (fun _ => nI 0), aI G (r 12) 1024 (fun _ => nI 0), aZ G (r 13) 512 (fun _ => nI 0), aI G (r 14) 229 (fun _ => nI 0), aI G (r 15) 1024 (fun _ => (-1)), aJ G (r 16) 1024 (fun _ => lN 0), aJ G (r 17) 1024 (fun _ => lN 0)] := hD
      refine W.cs (cells' := 18) (slots' := 7877) rfl rfl ?_
      refine W.eq (g2 := F0 m 274 ls []) rfl ?_
      exact cr_vret r (trivial) hx hb hr hlk hP hD hS rfl (rfl) dMo_init_274
    | succ k ih =>
      intro n H locs ls hk hP hD hS hl
      have hC9 := rInv_lt n
      obtain ⟨hs1, _, _, _⟩ := suu_all n (by omega)
      refine lv_iload_n hx hb dMo_init_158 rfl (lv_at hl 1 rfl) ?_
      refine lv_sipush (v := nI 256) hx hb dMo_init_159 (by decide) ?_
      refine lv_icmp_ge (tgt := 267) hx hb dMo_init_162 rfl (fun h => absurd h (nI_ge (by omega) (by omega))) (fun _ => ?_)
      refine lv_iload_n hx hb dMo_init_165 rfl (lv_at hl 1 rfl) ?_
      refine clMo_66 (As := [.int (nI n)]) (rest := []) hx hb hml hown hts (k_Mo_inverse l G n (by omega)) hG hA hP hD hS [] rfl rfl (fun _ => rfl) rfl hl.1 rfl (Nat.le_of_ble_eq_true rfl) ⟨by decide, by decide⟩ ⟨by decide, by decide⟩ dMo_init_166 (fun _ H locs _ hP hD hS => ?_)
      have hP : va_P G.1 vwCl [moC oy r (nI 0) (lN 0) (lN 0) (nI 0) (lN 0) (lN 0) (nI 0) (lN 0) (lN 0) (lN 0) (lN 0) (lN 0), aI G (r 0) 256 (rSn n), aI G (r 1) 256 (rUn n), aI G (r 2) 176 (fun _ => nI 0), aI G (r 3) 16 (fun _ => nI 0), aI G (r 4) 16 (fun _ => nI 0), aZ G (r 5) 256 (fun _ => nI 0), aZ G (r 6) 1024 (fun _ => nI 0), aI G (r 7) 4 (fun _ => nI 0), aJ G (r 8) 4 (fun _ => lN 0), aJ G (r 9) 4 (fun _ => lN 0), aI G (r 10) 4 (fun _ => nI 0), aI G (r 11) 1024 (fun _ => nI 0), aI G (r 12) 1024 (fun _ => nI 0), aZ G (r 13) 512 (fun _ => nI 0), aI G (r 14) 229 (fun _ => nI 0), aI G (r 15) 1024 (fun _ => nI 0), aJ G (r 16) 1024 (fun _ => lN 0), aJ G (r 17) 1024 (fun _ => lN 0)] H := hP
      have hD : va_D A [moC oy r (nI 0) (lN 0) (lN 0) (nI 0) (lN 0) (lN 0) (nI 0) (lN 0) (lN 0) (lN 0) (lN 0) (lN 0), aI G (r 0) 256 (rSn n), aI G (r 1) 256 (rUn n), aI G (r 2) 176 (fun _ => nI 0), aI G (r 3) 16 (fun _ => nI 0), aI G (r 4) 16 (fun _ => nI 0), aZ G (r 5) 256 (fun _ => nI 0), aZ G (r 6) 1024 (fun _ => nI 0), aI G (r 7) 4 (fun _ => nI 0), aJ G (r 8) 4 (fun _ => lN 0), aJ G (r 9) 4 (fun _ => lN 0), aI G (r 10) 4 (fun _ => nI 0), aI G (r 11) 1024 (fun _ => nI 0), aI G (r 12) 1024 (fun _ => nI 0), aZ G (r 13) 512 (fun _ => nI 0), aI G (r 14) 229 (fun _ => nI 0), aI G (r 15) 1024 (fun _ => nI 0), aJ G (r 16) 1024 (fun _ => lN 0), aJ G (r 17) 1024 (fun _ => lN 0)] := hD
      refine W.cs (cells' := 18) (slots' := 7877) rfl rfl ?_
      refine W.eq (g2 := F0 m 169 ls [.int (nI (rInv n))]) rfl ?_
      refine lv_istore_n (lv' := [(2, .int (nI (rInv n))), (0, .ref oy), (1, .int (nI n))]) hx hb dMo_init_169 rfl hl (by decide) rfl (fun ls hl => ?_)
      refine lv_bipush (v := nI 99) hx hb dMo_init_170 (by decide) ?_
      refine lv_istore_n (lv' := [(3, .int (nI 99)), (2, .int (nI (rInv n))), (0, .ref oy), (1, .int (nI n))]) hx hb dMo_init_172 rfl hl (by decide) rfl (fun ls hl => ?_)
      refine lv_iconst (v := nI 0) hx hb dMo_init_173 (by decide) ?_
      refine lv_istore (lv' := [(4, .int (nI 0)), (3, .int (nI 99)), (2, .int (nI (rInv n))), (0, .ref oy), (1, .int (nI n))]) hx hb dMo_init_174 hl (by decide) rfl (fun ls hl => ?_)
      have loop2 : ∀ (k2 : Nat) (i : Nat) (H : Heap) (locs : List Loc) (ls : Array Slot), i + k2 = 8 → va_P G.1 vwCl [moC oy r (nI 0) (lN 0) (lN 0) (nI 0) (lN 0) (lN 0) (nI 0) (lN 0) (lN 0) (lN 0) (lN 0) (lN 0), aI G (r 0) 256 (rSn n), aI G (r 1) 256 (rUn n), aI G (r 2) 176 (fun _ => nI 0), aI G (r 3) 16 (fun _ => nI 0), aI G (r 4) 16 (fun _ => nI 0), aZ G (r 5) 256 (fun _ => nI 0), aZ G (r 6) 1024 (fun _ => nI 0), aI G (r 7) 4 (fun _ => nI 0), aJ G (r 8) 4 (fun _ => lN 0), aJ G (r 9) 4 (fun _ => lN 0), aI G (r 10) 4 (fun _ => nI 0), aI G (r 11) 1024 (fun _ => nI 0), aI G (r 12) 1024 (fun _ => nI 0), aZ G (r 13) 512 (fun _ => nI 0), aI G (r 14) 229 (fun _ => nI 0), aI G (r 15) 1024 (fun _ => nI 0), aJ G (r 16) 1024 (fun _ => lN 0), aJ G (r 17) 1024 (fun _ => lN 0)] H → va_D A [moC oy r (nI 0) (lN 0) (lN 0) (nI 0) (lN 0) (lN 0) (nI 0) (lN 0) (lN 0) (lN 0) (lN 0) (lN 0), aI G (r 0) 256 (rSn n), aI G (r 1) 256 (rUn n), aI G (r 2) 176 (fun _ => nI 0), aI G (r 3) 16 (fun _ => nI 0), aI G (r 4) 16 (fun _ => nI 0), aZ G (r 5) 256 (fun _ => nI 0), aZ G (r 6) 1024 (fun _ => nI 0), aI G (r 7) 4 (fun _ => nI 0), aJ G (r 8) 4 (fun _ => lN 0), aJ G (r 9) 4 (fun _ => lN 0), aI G (r 10) 4 (fun _ => nI 0), aI G (r 11) 1024 (fun _ => nI 0), aI G (r 12) 1024 (fun _ => nI 0), aZ G (r 13) 512 (fun _ => nI 0), aI G (r 14) 229 (fun _ => nI 0), aI G (r 15) 1024 (fun _ => nI 0), aJ G (r 16) 1024 (fun _ => lN 0), aJ G (r 17) 1024 (fun _ => lN 0)] → va_S A s.heap H locs → lv_has ls 6 [(0, .ref oy), (1, .int (nI n)), (2, .int (nI (rInv n))), (3, .int (nI (rSx (rInv n) i))), (4, .int (nI i))] → W p l e { frames := 2, cells := 18, slots := 7877, locals := 45 } s m args below meth c H locs 18 7877 (MQ below (cr_out G (S := Nat → Nat) (fun _ => True) (fun u => none) (fun u => [moC oy u (nI 0) (lN 0) (lN 0) (nI 4) (lN 0) (lN 0) (nI 0) (lN 0) (lN 0) (lN 0) (lN 0) (lN 0), aI G (u 0) 256 ckS, aI G (u 1) 256 ckU, aI G (u 2) 176 (fun _ => nI 0), aI G (u 3) 16 (fun _ => nI 0), aI G (u 4) 16 (fun _ => nI 0), aZ G (u 5) 256 (fun _ => nI 0), aZ G (u 6) 1024 (fun _ => nI 0), aI G (u 7) 4 (fun _ => nI 0), aJ G (u 8) 4 (fun _ => lN 0), aJ G (u 9) 4 (fun _ => lN 0), aI G (u 10) 4 (fun _ => nI 0), aI G (u 11) 1024 (fun _ => nI 0), aI G (u 12) 1024 (fun _ => nI 0), aZ G (u 13) 512 (fun _ => nI 0), aI G (u 14) 229 (fun _ => nI 0), aI G (u 15) 1024 (fun _ => (-1)), aJ G (u 16) 1024 (fun _ => lN 0), aJ G (u 17) 1024 (fun _ => lN 0)]) A) args s 18 7877 A) (F0 m 176 ls []) := by
        intro k2
        induction k2 with
        | zero =>
          intro i H locs ls hk2 hP hD hS hl
          obtain rfl : i = 8 := by omega
          have hl : lv_has ls 6 [(0, .ref oy), (1, .int (nI n)), (2, .int (nI (rInv n))), (3, .int (nI (ckSL.getD n 0))), (4, .int (nI 8))] := by rw [← sub_all n (by omega)]; exact hl
          refine lv_iload hx hb dMo_init_176 (lv_at hl 4 rfl) ?_
          refine lv_bipush (v := nI 8) hx hb dMo_init_178 (by decide) ?_
          refine lv_icmp_ge (tgt := 247) hx hb dMo_init_180 rfl (fun _ => ?_) (fun h => absurd (nI_le (by omega) (by omega)) h)
          refine lv_aload_n hx hb dMo_init_247 rfl (lv_at hl 0 rfl) ?_
          refine gfMo_7 hx hb hts hown hG hP 0 rfl rfl dMo_init_248 ?_
          refine lv_iload_n hx hb dMo_init_251 rfl (lv_at hl 1 rfl) ?_
          refine lv_iload_n hx hb dMo_init_252 rfl (lv_at hl 3 rfl) ?_
          refine ck_iast hx hb hG hP hD hS 1 rfl (by decide) n (rfl) (by omega) dMo_init_253 (fun H locs hP hD hS => ?_)
          have hP : va_P G.1 vwCl [moC oy r (nI 0) (lN 0) (lN 0) (nI 0) (lN 0) (lN 0) (nI 0) (lN 0) (lN 0) (lN 0) (lN 0) (lN 0), aI G (r 0) 256 (upd (rSn n) n (nI (ckSL.getD n 0))), aI G (r 1) 256 (rUn n), aI G (r 2) 176 (fun _ => nI 0), aI G (r 3) 16 (fun _ => nI 0), aI G (r 4) 16 (fun _ => nI 0), aZ G (r 5) 256 (fun _ => nI 0), aZ G (r 6) 1024 (fun _ => nI 0), aI G (r 7) 4 (fun _ => nI 0), aJ G (r 8) 4 (fun _ => lN 0), aJ G (r 9) 4 (fun _ => lN 0), aI G (r 10) 4 (fun _ => nI 0), aI G (r 11) 1024 (fun _ => nI 0), aI G (r 12) 1024 (fun _ => nI 0), aZ G (r 13) 512 (fun _ => nI 0), aI G (r 14) 229 (fun _ => nI 0), aI G (r 15) 1024 (fun _ => nI 0), aJ G (r 16) 1024 (fun _ => lN 0), aJ G (r 17) 1024 (fun _ => lN 0)] H := hP
          have hD : va_D A [moC oy r (nI 0) (lN 0) (lN 0) (nI 0) (lN 0) (lN 0) (nI 0) (lN 0) (lN 0) (lN 0) (lN 0) (lN 0), aI G (r 0) 256 (upd (rSn n) n (nI (ckSL.getD n 0))), aI G (r 1) 256 (rUn n), aI G (r 2) 176 (fun _ => nI 0), aI G (r 3) 16 (fun _ => nI 0), aI G (r 4) 16 (fun _ => nI 0), aZ G (r 5) 256 (fun _ => nI 0), aZ G (r 6) 1024 (fun _ => nI 0), aI G (r 7) 4 (fun _ => nI 0), aJ G (r 8) 4 (fun _ => lN 0), aJ G (r 9) 4 (fun _ => lN 0), aI G (r 10) 4 (fun _ => nI 0), aI G (r 11) 1024 (fun _ => nI 0), aI G (r 12) 1024 (fun _ => nI 0), aZ G (r 13) 512 (fun _ => nI 0), aI G (r 14) 229 (fun _ => nI 0), aI G (r 15) 1024 (fun _ => nI 0), aJ G (r 16) 1024 (fun _ => lN 0), aJ G (r 17) 1024 (fun _ => lN 0)] := hD
          refine lv_aload_n hx hb dMo_init_254 rfl (lv_at hl 0 rfl) ?_
          refine gfMo_13 hx hb hts hown hG hP 0 rfl rfl dMo_init_255 ?_
          refine lv_iload_n hx hb dMo_init_258 rfl (lv_at hl 3 rfl) ?_
          refine lv_iload_n hx hb dMo_init_259 rfl (lv_at hl 1 rfl) ?_
          refine ck_iast hx hb hG hP hD hS 2 rfl (by decide) (ckSL.getD n 0) (rfl) (hs1) dMo_init_260 (fun H locs hP hD hS => ?_)
          have hP : va_P G.1 vwCl [moC oy r (nI 0) (lN 0) (lN 0) (nI 0) (lN 0) (lN 0) (nI 0) (lN 0) (lN 0) (lN 0) (lN 0) (lN 0), aI G (r 0) 256 (upd (rSn n) n (nI (ckSL.getD n 0))), aI G (r 1) 256 (upd (rUn n) (ckSL.getD n 0) (nI n)), aI G (r 2) 176 (fun _ => nI 0), aI G (r 3) 16 (fun _ => nI 0), aI G (r 4) 16 (fun _ => nI 0), aZ G (r 5) 256 (fun _ => nI 0), aZ G (r 6) 1024 (fun _ => nI 0), aI G (r 7) 4 (fun _ => nI 0), aJ G (r 8) 4 (fun _ => lN 0), aJ G (r 9) 4 (fun _ => lN 0), aI G (r 10) 4 (fun _ => nI 0), aI G (r 11) 1024 (fun _ => nI 0), aI G (r 12) 1024 (fun _ => nI 0), aZ G (r 13) 512 (fun _ => nI 0), aI G (r 14) 229 (fun _ => nI 0), aI G (r 15) 1024 (fun _ => nI 0), aJ G (r 16) 1024 (fun _ => lN 0), aJ G (r 17) 1024 (fun _ => lN 0)] H := hP
          have hD : va_D A [moC oy r (nI 0) (lN 0) (lN 0) (nI 0) (lN 0) (lN 0) (nI 0) (lN 0) (lN 0) (lN 0) (lN 0) (lN 0), aI G (r 0) 256 (upd (rSn n) n (nI (ckSL.getD n 0))), aI G (r 1) 256 (upd (rUn n) (ckSL.getD n 0) (nI n)), aI G (r 2) 176 (fun _ => nI 0), aI G (r 3) 16 (fun _ => nI 0), aI G (r 4) 16 (fun _ => nI 0), aZ G (r 5) 256 (fun _ => nI 0), aZ G (r 6) 1024 (fun _ => nI 0), aI G (r 7) 4 (fun _ => nI 0), aJ G (r 8) 4 (fun _ => lN 0), aJ G (r 9) 4 (fun _ => lN 0), aI G (r 10) 4 (fun _ => nI 0), aI G (r 11) 1024 (fun _ => nI 0), aI G (r 12) 1024 (fun _ => nI 0), aZ G (r 13) 512 (fun _ => nI 0), aI G (r 14) 229 (fun _ => nI 0), aI G (r 15) 1024 (fun _ => nI 0), aJ G (r 16) 1024 (fun _ => lN 0), aJ G (r 17) 1024 (fun _ => lN 0)] := hD
          refine lv_iinc (v := nI (n + 1)) (lv' := [(1, .int (nI (n + 1))), (0, .ref oy), (2, .int (nI (rInv n))), (3, .int (nI (ckSL.getD n 0))), (4, .int (nI 8))]) hx hb dMo_init_261 hl (k := 1) rfl (nI_1 n) (by decide) rfl (fun ls hl => ?_)
          refine lv_goto (tgt := 158) hx hb dMo_init_264 rfl ?_
          exact ih (n + 1) _ _ _ (by omega) hP hD hS (lv_sub hl [1, 0] rfl)
        | succ k2 ih2 =>
          intro i H locs ls hk2 hP hD hS hl
          refine lv_iload hx hb dMo_init_176 (lv_at hl 4 rfl) ?_
          refine lv_bipush (v := nI 8) hx hb dMo_init_178 (by decide) ?_
          refine lv_icmp_ge (tgt := 247) hx hb dMo_init_180 rfl (fun h => absurd h (nI_ge (by omega) (by omega))) (fun _ => ?_)
          refine lv_iload_n hx hb dMo_init_183 rfl (lv_at hl 2 rfl) ?_
          refine lv_iload hx hb dMo_init_184 (lv_at hl 4 rfl) ?_
          refine lv_ishr hx hb dMo_init_186 ?_
          refine ck_ri (y := nI ((rInv n) / 2 ^ i)) (isr_nI (by omega) (by omega)) ?_
          refine lv_iload_n hx hb dMo_init_187 rfl (lv_at hl 2 rfl) ?_
          refine lv_iload hx hb dMo_init_188 (lv_at hl 4 rfl) ?_
          refine lv_iconst (v := nI 4) hx hb dMo_init_190 (by decide) ?_
          refine lv_iadd hx hb dMo_init_191 ?_
          refine ck_ri (y := nI (i + 4)) (nI_add i 4) ?_
          refine lv_bipush (v := nI 8) hx hb dMo_init_192 (by decide) ?_
          refine lv_irem hx hb dMo_init_194 (by decide) ?_
          refine ck_ri (y := nI ((i + 4) % 8)) (irm_nI (by omega) (by omega) (by omega)) ?_
          refine lv_ishr hx hb dMo_init_195 ?_
          refine ck_ri (y := nI ((rInv n) / 2 ^ ((i + 4) % 8))) (isr_nI (by omega) (by omega)) ?_
          refine lv_iadd hx hb dMo_init_196 ?_
          refine ck_ri (y := nI ((rInv n) / 2 ^ i + (rInv n) / 2 ^ ((i + 4) % 8))) (nI_add _ _) ?_
          refine lv_iload_n hx hb dMo_init_197 rfl (lv_at hl 2 rfl) ?_
          refine lv_iload hx hb dMo_init_198 (lv_at hl 4 rfl) ?_
          refine lv_iconst (v := nI 5) hx hb dMo_init_200 (by decide) ?_
          refine lv_iadd hx hb dMo_init_201 ?_
          refine ck_ri (y := nI (i + 5)) (nI_add i 5) ?_
          refine lv_bipush (v := nI 8) hx hb dMo_init_202 (by decide) ?_
          refine lv_irem hx hb dMo_init_204 (by decide) ?_
          refine ck_ri (y := nI ((i + 5) % 8)) (irm_nI (by omega) (by omega) (by omega)) ?_
          refine lv_ishr hx hb dMo_init_205 ?_
          refine ck_ri (y := nI ((rInv n) / 2 ^ ((i + 5) % 8))) (isr_nI (by omega) (by omega)) ?_
          refine lv_iadd hx hb dMo_init_206 ?_
          refine ck_ri (y := nI ((rInv n) / 2 ^ i + (rInv n) / 2 ^ ((i + 4) % 8) + (rInv n) / 2 ^ ((i + 5) % 8))) (nI_add _ _) ?_
          refine lv_iload_n hx hb dMo_init_207 rfl (lv_at hl 2 rfl) ?_
          refine lv_iload hx hb dMo_init_208 (lv_at hl 4 rfl) ?_
          refine lv_bipush (v := nI 6) hx hb dMo_init_210 (by decide) ?_
          refine lv_iadd hx hb dMo_init_212 ?_
          refine ck_ri (y := nI (i + 6)) (nI_add i 6) ?_
          refine lv_bipush (v := nI 8) hx hb dMo_init_213 (by decide) ?_
          refine lv_irem hx hb dMo_init_215 (by decide) ?_
          refine ck_ri (y := nI ((i + 6) % 8)) (irm_nI (by omega) (by omega) (by omega)) ?_
          refine lv_ishr hx hb dMo_init_216 ?_
          refine ck_ri (y := nI ((rInv n) / 2 ^ ((i + 6) % 8))) (isr_nI (by omega) (by omega)) ?_
          refine lv_iadd hx hb dMo_init_217 ?_
          refine ck_ri (y := nI ((rInv n) / 2 ^ i + (rInv n) / 2 ^ ((i + 4) % 8) + (rInv n) / 2 ^ ((i + 5) % 8) + (rInv n) / 2 ^ ((i + 6) % 8))) (nI_add _ _) ?_
          refine lv_iload_n hx hb dMo_init_218 rfl (lv_at hl 2 rfl) ?_
          refine lv_iload hx hb dMo_init_219 (lv_at hl 4 rfl) ?_
          refine lv_bipush (v := nI 7) hx hb dMo_init_221 (by decide) ?_
          refine lv_iadd hx hb dMo_init_223 ?_
          refine ck_ri (y := nI (i + 7)) (nI_add i 7) ?_
          refine lv_bipush (v := nI 8) hx hb dMo_init_224 (by decide) ?_
          refine lv_irem hx hb dMo_init_226 (by decide) ?_
          refine ck_ri (y := nI ((i + 7) % 8)) (irm_nI (by omega) (by omega) (by omega)) ?_
          refine lv_ishr hx hb dMo_init_227 ?_
          refine ck_ri (y := nI ((rInv n) / 2 ^ ((i + 7) % 8))) (isr_nI (by omega) (by omega)) ?_
          refine lv_iadd hx hb dMo_init_228 ?_
          refine ck_ri (y := nI (rOn (rInv n) i)) (nI_add _ _) ?_
          refine lv_istore (lv' := [(5, .int (nI (rOn (rInv n) i))), (0, .ref oy), (1, .int (nI n)), (2, .int (nI (rInv n))), (3, .int (nI (rSx (rInv n) i))), (4, .int (nI i))]) hx hb dMo_init_229 hl (by decide) rfl (fun ls hl => ?_)
          refine lv_iload_n hx hb dMo_init_231 rfl (lv_at hl 4 rfl) ?_
          refine lv_iload hx hb dMo_init_232 (lv_at hl 0 rfl) ?_
          refine lv_iconst (v := nI 2) hx hb dMo_init_234 (by decide) ?_
          refine lv_irem hx hb dMo_init_235 (by decide) ?_
          refine ck_ri (y := nI (rOn (rInv n) i % 2)) (irm_nI (rOn_lt hC9) (by omega) (by omega)) ?_
          refine lv_iload hx hb dMo_init_236 (lv_at hl 5 rfl) ?_
          refine lv_ishl hx hb dMo_init_238 ?_
          refine ck_ri (y := nI (rOn (rInv n) i % 2 * 2 ^ i)) (ish_nI (by omega) (rOb (Nat.mod_lt _ (by decide)) (by omega))) ?_
          refine lv_ixor hx hb dMo_init_239 ?_
          refine ck_ri (y := nI (rSx (rInv n) (i + 1))) (nI_xor _ _) ?_
          refine lv_istore_n (lv' := [(3, .int (nI (rSx (rInv n) (i + 1)))), (5, .int (nI (rOn (rInv n) i))), (0, .ref oy), (1, .int (nI n)), (2, .int (nI (rInv n))), (4, .int (nI i))]) hx hb dMo_init_240 rfl hl (by decide) rfl (fun ls hl => ?_)
          refine lv_iinc (v := nI (i + 1)) (lv' := [(4, .int (nI (i + 1))), (3, .int (nI (rSx (rInv n) (i + 1)))), (5, .int (nI (rOn (rInv n) i))), (0, .ref oy), (1, .int (nI n)), (2, .int (nI (rInv n)))]) hx hb dMo_init_241 hl (k := 5) rfl (nI_1 i) (by decide) rfl (fun ls hl => ?_)
          refine lv_goto (tgt := 176) hx hb dMo_init_244 rfl ?_
          exact ih2 (i + 1) _ _ _ (by omega) hP hD hS (lv_sub hl [3, 4, 5, 1, 0] rfl)
      exact loop2 8 0 _ _ _ (by omega) hP hD hS (lv_sub hl [3, 4, 2, 1, 0] rfl)
  exact loop 256 0 _ _ _ (by omega) hP hD hS (lv_sub hl [1, 0] rfl)
