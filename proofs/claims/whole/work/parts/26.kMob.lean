/-! the reference's cipher: key, block, wrapping -/
set_option maxHeartbeats 4000000 in
set_option maxRecDepth 100000 in
theorem k_Mo_makeWords (l : Launch) (G : gG) (oy : Nat) (r : Nat → Nat) (th : Int32) (fi se : Int64) (d : Int32) (sh sl : Int64) (az : Int32) (oh ol w0 w1 w2 : Int64) (f : Nat → Nat) (h1 l1 : Int64) : Ck l G yMo_makeWords cMo_makeWords 9 none { frames := 1, cells := 0, slots := 0, locals := 23 } [.ref oy, .long h1, .long l1] [moC oy r th fi se d sh sl az oh ol w0 w1 w2, aI G (r 0) 256 ckS, aI G (r 2) 176 (bN f)] (none) [moC oy r th fi se d sh sl az oh ol w0 w1 w2, aI G (r 0) 256 ckS, aI G (r 2) 176 (bN (rW h1 l1))] := by
  refine Cq.of (by decide) (Nat.le_of_ble_eq_true rfl) ?_
  intro p e s m args below meth c A ls hx hb hr hml hts hown hlk hA hP hD hG hS hl
  have hl : lv_has ls 9 [(0, .ref oy), (1, .long h1), (3, .long l1)] := hl
  refine lv_iconst (v := nI 0) hx hb dMo_makeWords_0 (by decide) ?_
  refine lv_istore (lv' := [(5, .int (nI 0)), (0, .ref oy), (1, .long h1), (3, .long l1)]) hx hb dMo_makeWords_1 hl (by decide) rfl (fun ls hl => ?_)
  rw [bN_0 (rW h1 l1) f] at hP hD
  have loop0 : ∀ (k : Nat) (n : Nat) (H : Heap) (locs : List Loc) (ls : Array Slot), n + k = 16 → va_P G.1 vwCl [moC oy r th fi se d sh sl az oh ol w0 w1 w2, aI G (r 0) 256 ckS, aI G (r 2) 176 (pN n (rW h1 l1) f)] H → va_D A [moC oy r th fi se d sh sl az oh ol w0 w1 w2, aI G (r 0) 256 ckS, aI G (r 2) 176 (pN n (rW h1 l1) f)] → va_S A s.heap H locs → lv_has ls 9 [(0, .ref oy), (1, .long h1), (3, .long l1), (5, .int (nI n))] → W p l e { frames := 1, cells := 0, slots := 0, locals := 23 } s m args below meth c H locs 0 0 (MQ below (cq_out G (S := Unit) (fun _ => True) (fun _ => (none)) (fun _ => [moC oy r th fi se d sh sl az oh ol w0 w1 w2, aI G (r 0) 256 ckS, aI G (r 2) 176 (bN (rW h1 l1))]) A) args s 0 0 A) (F0 m 3 ls []) := by
    intro k
    induction k with
    | zero =>
      intro n H locs ls hk hP hD hS hl
      rw [show n = 16 by omega] at hP hD
      refine lv_iload hx hb dMo_makeWords_3 (lv_at hl 3 rfl) ?_
      refine lv_bipush (v := nI 16) hx hb dMo_makeWords_5 (by decide) ?_
      refine lv_icmp_ge (tgt := 52) hx hb dMo_makeWords_7 rfl (fun _ => ?_) (fun h => absurd (nI_le (by omega) (by omega)) h)
      refine lv_iconst (v := nI 1) hx hb dMo_makeWords_52 (by decide) ?_
      refine lv_istore (lv' := [(5, .int (nI 1)), (0, .ref oy), (1, .long h1), (3, .long l1)]) hx hb dMo_makeWords_53 hl (by decide) rfl (fun ls hl => ?_)
      refine lv_iconst (v := nI 4) hx hb dMo_makeWords_55 (by decide) ?_
      refine lv_istore (lv' := [(6, .int (nI 4)), (5, .int (nI 1)), (0, .ref oy), (1, .long h1), (3, .long l1)]) hx hb dMo_makeWords_56 hl (by decide) rfl (fun ls hl => ?_)
      have loop1 : ∀ (k : Nat) (n : Nat) (H : Heap) (locs : List Loc) (ls : Array Slot), n + k = 40 → va_P G.1 vwCl [moC oy r th fi se d sh sl az oh ol w0 w1 w2, aI G (r 0) 256 ckS, aI G (r 2) 176 (pN (4 * (n + 4)) (rW h1 l1) f)] H → va_D A [moC oy r th fi se d sh sl az oh ol w0 w1 w2, aI G (r 0) 256 ckS, aI G (r 2) 176 (pN (4 * (n + 4)) (rW h1 l1) f)] → va_S A s.heap H locs → lv_has ls 9 [(0, .ref oy), (5, .int (nI (kPw n))), (6, .int (nI (n + 4)))] → W p l e { frames := 1, cells := 0, slots := 0, locals := 23 } s m args below meth c H locs 0 0 (MQ below (cq_out G (S := Unit) (fun _ => True) (fun _ => (none)) (fun _ => [moC oy r th fi se d sh sl az oh ol w0 w1 w2, aI G (r 0) 256 ckS, aI G (r 2) 176 (bN (rW h1 l1))]) A) args s 0 0 A) (F0 m 58 ls []) := by
        intro k
        induction k with
        | zero =>
          intro n H locs ls hk hP hD hS hl
          have hP := ck_cg hP 2 rfl (g := bN (rW h1 l1)) (fun j hj => pN_lo _ _ (by omega))
          refine lv_iload hx hb dMo_makeWords_58 (lv_at hl 2 rfl) ?_
          refine lv_bipush (v := nI 44) hx hb dMo_makeWords_60 (by decide) ?_
          refine lv_icmp_ge (tgt := 196) hx hb dMo_makeWords_62 rfl (fun _ => ?_) (fun h => absurd (nI_le (by omega) (by omega)) h)
          exact cq_vret () (trivial) hx hb hr hlk hP hS rfl (rfl) dMo_makeWords_196
        | succ k ih =>
          intro n H locs ls hk hP hD hS hl
          have hkp := kPw_lt n
          refine lv_iload hx hb dMo_makeWords_58 (lv_at hl 2 rfl) ?_
          refine lv_bipush (v := nI 44) hx hb dMo_makeWords_60 (by decide) ?_
          refine lv_icmp_ge (tgt := 196) hx hb dMo_makeWords_62 rfl (fun h => absurd h (nI_ge (by omega) (by omega))) (fun _ => ?_)
          refine lv_iconst (v := nI 0) hx hb dMo_makeWords_65 (by decide) ?_
          refine lv_istore (lv' := [(7, .int (nI 0)), (0, .ref oy), (5, .int (nI (kPw n))), (6, .int (nI (n + 4)))]) hx hb dMo_makeWords_66 hl (by decide) rfl (fun ls hl => ?_)
          refine lv_iload hx hb dMo_makeWords_68 (lv_at hl 0 rfl) ?_
          refine lv_iconst (v := nI 4) hx hb dMo_makeWords_70 (by decide) ?_
          refine lv_icmp_ge (tgt := 170) hx hb dMo_makeWords_71 rfl (fun h => absurd h (by decide)) (fun _ => ?_)
          refine lv_aload_n hx hb dMo_makeWords_74 rfl (lv_at hl 1 rfl) ?_
          refine gfMo_16 hx hb hts hown hG hP 0 rfl rfl dMo_makeWords_75 ?_
          refine lv_iconst (v := nI 4) hx hb dMo_makeWords_78 (by decide) ?_
          refine lv_iload hx hb dMo_makeWords_79 (lv_at hl 3 rfl) ?_
          refine lv_imul hx hb dMo_makeWords_81 ?_
          refine ck_ri (y := nI (4 * (n + 4))) (pk_mul 4 _) ?_
          refine lv_iconst (v := nI 4) hx hb dMo_makeWords_82 (by decide) ?_
          refine lv_isub hx hb dMo_makeWords_83 ?_
          refine ck_ri (y := nI (4 * (n + 4) - 4)) (pk_sub (by omega)) ?_
          refine lv_iload hx hb dMo_makeWords_84 (lv_at hl 0 rfl) ?_
          refine lv_iadd hx hb dMo_makeWords_86 ?_
          refine ck_ri (y := nI (4 * (n + 3) + 0)) (by rw [nI_add, show 4 * (n + 4) - 4 + 0 = 4 * (n + 3) + 0 by omega]) ?_
          refine ck_iald hx hb hG hP 2 rfl (by decide) (4 * (n + 3) + 0) (rfl) (by omega) dMo_makeWords_87 ?_
          refine ck_ri (y := nI (rW h1 l1 (4 * (n + 3) + 0))) (pN_lo _ _ (by omega)) ?_
          refine lv_istore (lv' := [(8, .int (nI (rW h1 l1 (4 * (n + 3) + 0)))), (7, .int (nI 0)), (0, .ref oy), (5, .int (nI (kPw n))), (6, .int (nI (n + 4)))]) hx hb dMo_makeWords_88 hl (by decide) rfl (fun ls hl => ?_)
          refine lv_iload hx hb dMo_makeWords_90 (lv_at hl 4 rfl) ?_
          refine lv_iconst (v := nI 4) hx hb dMo_makeWords_92 (by decide) ?_
          refine lv_irem hx hb dMo_makeWords_93 (by decide) ?_
          refine ck_ri (y := nI (n % 4)) (by rw [show nI (n % 4) = nI ((n + 4) % 4) by rw [Nat.add_mod_right]]; exact pk_rem (by omega) (by omega) (by omega)) ?_
          refine lv_if_ne (tgt := 134) hx hb dMo_makeWords_94 rfl (fun h8 => ?_) (fun h8 => ?_)
          · have hm0 : ¬ n % 4 = 0 := fun z => h8 (by rw [z]; rfl)
            refine lv_aload_n hx hb dMo_makeWords_134 rfl (lv_at hl 2 rfl) ?_
            refine gfMo_16 hx hb hts hown hG hP 0 rfl rfl dMo_makeWords_135 ?_
            refine lv_iconst (v := nI 4) hx hb dMo_makeWords_138 (by decide) ?_
            refine lv_iload hx hb dMo_makeWords_139 (lv_at hl 4 rfl) ?_
            refine lv_imul hx hb dMo_makeWords_141 ?_
            refine ck_ri (y := nI (4 * (n + 4))) (pk_mul 4 _) ?_
            refine lv_iload hx hb dMo_makeWords_142 (lv_at hl 1 rfl) ?_
            refine lv_iadd hx hb dMo_makeWords_144 ?_
            refine ck_ri (y := nI (4 * (n + 4) + 0)) (nI_add _ _) ?_
            refine lv_aload_n hx hb dMo_makeWords_145 rfl (lv_at hl 2 rfl) ?_
            refine gfMo_16 hx hb hts hown hG hP 0 rfl rfl dMo_makeWords_146 ?_
            refine lv_iconst (v := nI 4) hx hb dMo_makeWords_149 (by decide) ?_
            refine lv_iload hx hb dMo_makeWords_150 (lv_at hl 4 rfl) ?_
            refine lv_imul hx hb dMo_makeWords_152 ?_
            refine ck_ri (y := nI (4 * (n + 4))) (pk_mul 4 _) ?_
            refine lv_bipush (v := nI 16) hx hb dMo_makeWords_153 (by decide) ?_
            refine lv_isub hx hb dMo_makeWords_155 ?_
            refine ck_ri (y := nI (4 * (n + 4) - 16)) (pk_sub (by omega)) ?_
            refine lv_iload hx hb dMo_makeWords_156 (lv_at hl 1 rfl) ?_
            refine lv_iadd hx hb dMo_makeWords_158 ?_
            refine ck_ri (y := nI (4 * n + 0)) (by rw [nI_add, show 4 * (n + 4) - 16 + 0 = 4 * n + 0 by omega]) ?_
            refine ck_iald hx hb hG hP 2 rfl (by decide) (4 * n + 0) (rfl) (by omega) dMo_makeWords_159 ?_
            refine ck_ri (y := nI (rW h1 l1 (4 * n + 0))) (pN_lo _ _ (by omega)) ?_
            refine lv_iload hx hb dMo_makeWords_160 (lv_at hl 0 rfl) ?_
            refine lv_ixor hx hb dMo_makeWords_162 ?_
            refine ck_ri (y := nI (rW h1 l1 (4 * (n + 4) + 0))) ((nI_xor _ _).trans (congrArg nI (rW_n h1 l1 hm0 (by decide)).symm)) ?_
            refine ck_iast hx hb hG hP hD hS 2 rfl (by decide) (4 * (n + 4) + 0) (rfl) (by omega) dMo_makeWords_163 (fun H locs hP hD hS => ?_)
            have hP : va_P G.1 vwCl [moC oy r th fi se d sh sl az oh ol w0 w1 w2, aI G (r 0) 256 ckS, aI G (r 2) 176 (upd (pN (4 * (n + 4)) (rW h1 l1) f) (4 * (n + 4) + 0) (nI (rW h1 l1 (4 * (n + 4) + 0))))] H := hP
            have hD : va_D A [moC oy r th fi se d sh sl az oh ol w0 w1 w2, aI G (r 0) 256 ckS, aI G (r 2) 176 (upd (pN (4 * (n + 4)) (rW h1 l1) f) (4 * (n + 4) + 0) (nI (rW h1 l1 (4 * (n + 4) + 0))))] := hD
            have e0 : upd (pN (4 * (n + 4)) (rW h1 l1) f) (4 * (n + 4) + 0) (nI (rW h1 l1 (4 * (n + 4) + 0))) = pN (4 * (n + 4) + 0 + 1) (rW h1 l1) f := pN_upd (4 * (n + 4) + 0) (rW h1 l1) f
            rw [e0] at hP hD
            have hP : va_P G.1 vwCl [moC oy r th fi se d sh sl az oh ol w0 w1 w2, aI G (r 0) 256 ckS, aI G (r 2) 176 (pN (4 * (n + 4) + 1) (rW h1 l1) f)] H := hP
            have hD : va_D A [moC oy r th fi se d sh sl az oh ol w0 w1 w2, aI G (r 0) 256 ckS, aI G (r 2) 176 (pN (4 * (n + 4) + 1) (rW h1 l1) f)] := hD
            refine lv_iinc (v := nI 1) (lv' := [(7, .int (nI 1)), (8, .int (nI (rW h1 l1 (4 * (n + 3) + 0)))), (0, .ref oy), (5, .int (nI (kPw n))), (6, .int (nI (n + 4)))]) hx hb dMo_makeWords_164 hl (k := 1) rfl (by decide) (by decide) rfl (fun ls hl => ?_)
            refine lv_goto (tgt := 68) hx hb dMo_makeWords_167 rfl ?_
            refine lv_iload hx hb dMo_makeWords_68 (lv_at hl 0 rfl) ?_
            refine lv_iconst (v := nI 4) hx hb dMo_makeWords_70 (by decide) ?_
            refine lv_icmp_ge (tgt := 170) hx hb dMo_makeWords_71 rfl (fun h => absurd h (by decide)) (fun _ => ?_)
            refine lv_aload_n hx hb dMo_makeWords_74 rfl (lv_at hl 2 rfl) ?_
            refine gfMo_16 hx hb hts hown hG hP 0 rfl rfl dMo_makeWords_75 ?_
            refine lv_iconst (v := nI 4) hx hb dMo_makeWords_78 (by decide) ?_
            refine lv_iload hx hb dMo_makeWords_79 (lv_at hl 4 rfl) ?_
            refine lv_imul hx hb dMo_makeWords_81 ?_
            refine ck_ri (y := nI (4 * (n + 4))) (pk_mul 4 _) ?_
            refine lv_iconst (v := nI 4) hx hb dMo_makeWords_82 (by decide) ?_
            refine lv_isub hx hb dMo_makeWords_83 ?_
            refine ck_ri (y := nI (4 * (n + 4) - 4)) (pk_sub (by omega)) ?_
            refine lv_iload hx hb dMo_makeWords_84 (lv_at hl 0 rfl) ?_
            refine lv_iadd hx hb dMo_makeWords_86 ?_
            refine ck_ri (y := nI (4 * (n + 3) + 1)) (by rw [nI_add, show 4 * (n + 4) - 4 + 1 = 4 * (n + 3) + 1 by omega]) ?_
            refine ck_iald hx hb hG hP 2 rfl (by decide) (4 * (n + 3) + 1) (rfl) (by omega) dMo_makeWords_87 ?_
            refine ck_ri (y := nI (rW h1 l1 (4 * (n + 3) + 1))) (pN_lo _ _ (by omega)) ?_
            refine lv_istore (lv' := [(8, .int (nI (rW h1 l1 (4 * (n + 3) + 1)))), (7, .int (nI 1)), (0, .ref oy), (5, .int (nI (kPw n))), (6, .int (nI (n + 4)))]) hx hb dMo_makeWords_88 hl (by decide) rfl (fun ls hl => ?_)
            refine lv_iload hx hb dMo_makeWords_90 (lv_at hl 4 rfl) ?_
            refine lv_iconst (v := nI 4) hx hb dMo_makeWords_92 (by decide) ?_
            refine lv_irem hx hb dMo_makeWords_93 (by decide) ?_
            refine ck_ri (y := nI (n % 4)) (by rw [show nI (n % 4) = nI ((n + 4) % 4) by rw [Nat.add_mod_right]]; exact pk_rem (by omega) (by omega) (by omega)) ?_
            refine lv_if_ne (tgt := 134) hx hb dMo_makeWords_94 rfl (fun _ => ?_) (fun h => absurd h (fun z => hm0 ((nI_eq (b := 0) (by omega) (by omega)).mp z)))
            refine lv_aload_n hx hb dMo_makeWords_134 rfl (lv_at hl 2 rfl) ?_
            refine gfMo_16 hx hb hts hown hG hP 0 rfl rfl dMo_makeWords_135 ?_
            refine lv_iconst (v := nI 4) hx hb dMo_makeWords_138 (by decide) ?_
            refine lv_iload hx hb dMo_makeWords_139 (lv_at hl 4 rfl) ?_
            refine lv_imul hx hb dMo_makeWords_141 ?_
            refine ck_ri (y := nI (4 * (n + 4))) (pk_mul 4 _) ?_
            refine lv_iload hx hb dMo_makeWords_142 (lv_at hl 1 rfl) ?_
            refine lv_iadd hx hb dMo_makeWords_144 ?_
            refine ck_ri (y := nI (4 * (n + 4) + 1)) (nI_add _ _) ?_
            refine lv_aload_n hx hb dMo_makeWords_145 rfl (lv_at hl 2 rfl) ?_
            refine gfMo_16 hx hb hts hown hG hP 0 rfl rfl dMo_makeWords_146 ?_
            refine lv_iconst (v := nI 4) hx hb dMo_makeWords_149 (by decide) ?_
            refine lv_iload hx hb dMo_makeWords_150 (lv_at hl 4 rfl) ?_
            refine lv_imul hx hb dMo_makeWords_152 ?_
            refine ck_ri (y := nI (4 * (n + 4))) (pk_mul 4 _) ?_
            refine lv_bipush (v := nI 16) hx hb dMo_makeWords_153 (by decide) ?_
            refine lv_isub hx hb dMo_makeWords_155 ?_
            refine ck_ri (y := nI (4 * (n + 4) - 16)) (pk_sub (by omega)) ?_
            refine lv_iload hx hb dMo_makeWords_156 (lv_at hl 1 rfl) ?_
            refine lv_iadd hx hb dMo_makeWords_158 ?_
            refine ck_ri (y := nI (4 * n + 1)) (by rw [nI_add, show 4 * (n + 4) - 16 + 1 = 4 * n + 1 by omega]) ?_
            refine ck_iald hx hb hG hP 2 rfl (by decide) (4 * n + 1) (rfl) (by omega) dMo_makeWords_159 ?_
            refine ck_ri (y := nI (rW h1 l1 (4 * n + 1))) (pN_lo _ _ (by omega)) ?_
            refine lv_iload hx hb dMo_makeWords_160 (lv_at hl 0 rfl) ?_
            refine lv_ixor hx hb dMo_makeWords_162 ?_
            refine ck_ri (y := nI (rW h1 l1 (4 * (n + 4) + 1))) ((nI_xor _ _).trans (congrArg nI (rW_n h1 l1 hm0 (by decide)).symm)) ?_
            refine ck_iast hx hb hG hP hD hS 2 rfl (by decide) (4 * (n + 4) + 1) (rfl) (by omega) dMo_makeWords_163 (fun H locs hP hD hS => ?_)
            have hP : va_P G.1 vwCl [moC oy r th fi se d sh sl az oh ol w0 w1 w2, aI G (r 0) 256 ckS, aI G (r 2) 176 (upd (pN (4 * (n + 4) + 1) (rW h1 l1) f) (4 * (n + 4) + 1) (nI (rW h1 l1 (4 * (n + 4) + 1))))] H := hP
            have hD : va_D A [moC oy r th fi se d sh sl az oh ol w0 w1 w2, aI G (r 0) 256 ckS, aI G (r 2) 176 (upd (pN (4 * (n + 4) + 1) (rW h1 l1) f) (4 * (n + 4) + 1) (nI (rW h1 l1 (4 * (n + 4) + 1))))] := hD
            have e1 : upd (pN (4 * (n + 4) + 1) (rW h1 l1) f) (4 * (n + 4) + 1) (nI (rW h1 l1 (4 * (n + 4) + 1))) = pN (4 * (n + 4) + 1 + 1) (rW h1 l1) f := pN_upd (4 * (n + 4) + 1) (rW h1 l1) f
            rw [e1] at hP hD
            have hP : va_P G.1 vwCl [moC oy r th fi se d sh sl az oh ol w0 w1 w2, aI G (r 0) 256 ckS, aI G (r 2) 176 (pN (4 * (n + 4) + 2) (rW h1 l1) f)] H := hP
            have hD : va_D A [moC oy r th fi se d sh sl az oh ol w0 w1 w2, aI G (r 0) 256 ckS, aI G (r 2) 176 (pN (4 * (n + 4) + 2) (rW h1 l1) f)] := hD
            refine lv_iinc (v := nI 2) (lv' := [(7, .int (nI 2)), (8, .int (nI (rW h1 l1 (4 * (n + 3) + 1)))), (0, .ref oy), (5, .int (nI (kPw n))), (6, .int (nI (n + 4)))]) hx hb dMo_makeWords_164 hl (k := 1) rfl (by decide) (by decide) rfl (fun ls hl => ?_)
            refine lv_goto (tgt := 68) hx hb dMo_makeWords_167 rfl ?_
            refine lv_iload hx hb dMo_makeWords_68 (lv_at hl 0 rfl) ?_
            refine lv_iconst (v := nI 4) hx hb dMo_makeWords_70 (by decide) ?_
            refine lv_icmp_ge (tgt := 170) hx hb dMo_makeWords_71 rfl (fun h => absurd h (by decide)) (fun _ => ?_)
            refine lv_aload_n hx hb dMo_makeWords_74 rfl (lv_at hl 2 rfl) ?_
            refine gfMo_16 hx hb hts hown hG hP 0 rfl rfl dMo_makeWords_75 ?_
            refine lv_iconst (v := nI 4) hx hb dMo_makeWords_78 (by decide) ?_
            refine lv_iload hx hb dMo_makeWords_79 (lv_at hl 4 rfl) ?_
            refine lv_imul hx hb dMo_makeWords_81 ?_
            refine ck_ri (y := nI (4 * (n + 4))) (pk_mul 4 _) ?_
            refine lv_iconst (v := nI 4) hx hb dMo_makeWords_82 (by decide) ?_
            refine lv_isub hx hb dMo_makeWords_83 ?_
            refine ck_ri (y := nI (4 * (n + 4) - 4)) (pk_sub (by omega)) ?_
            refine lv_iload hx hb dMo_makeWords_84 (lv_at hl 0 rfl) ?_
            refine lv_iadd hx hb dMo_makeWords_86 ?_
            refine ck_ri (y := nI (4 * (n + 3) + 2)) (by rw [nI_add, show 4 * (n + 4) - 4 + 2 = 4 * (n + 3) + 2 by omega]) ?_
            refine ck_iald hx hb hG hP 2 rfl (by decide) (4 * (n + 3) + 2) (rfl) (by omega) dMo_makeWords_87 ?_
            refine ck_ri (y := nI (rW h1 l1 (4 * (n + 3) + 2))) (pN_lo _ _ (by omega)) ?_
            refine lv_istore (lv' := [(8, .int (nI (rW h1 l1 (4 * (n + 3) + 2)))), (7, .int (nI 2)), (0, .ref oy), (5, .int (nI (kPw n))), (6, .int (nI (n + 4)))]) hx hb dMo_makeWords_88 hl (by decide) rfl (fun ls hl => ?_)
            refine lv_iload hx hb dMo_makeWords_90 (lv_at hl 4 rfl) ?_
            refine lv_iconst (v := nI 4) hx hb dMo_makeWords_92 (by decide) ?_
            refine lv_irem hx hb dMo_makeWords_93 (by decide) ?_
            refine ck_ri (y := nI (n % 4)) (by rw [show nI (n % 4) = nI ((n + 4) % 4) by rw [Nat.add_mod_right]]; exact pk_rem (by omega) (by omega) (by omega)) ?_
            refine lv_if_ne (tgt := 134) hx hb dMo_makeWords_94 rfl (fun _ => ?_) (fun h => absurd h (fun z => hm0 ((nI_eq (b := 0) (by omega) (by omega)).mp z)))
            refine lv_aload_n hx hb dMo_makeWords_134 rfl (lv_at hl 2 rfl) ?_
            refine gfMo_16 hx hb hts hown hG hP 0 rfl rfl dMo_makeWords_135 ?_
            refine lv_iconst (v := nI 4) hx hb dMo_makeWords_138 (by decide) ?_
            refine lv_iload hx hb dMo_makeWords_139 (lv_at hl 4 rfl) ?_
            refine lv_imul hx hb dMo_makeWords_141 ?_
            refine ck_ri (y := nI (4 * (n + 4))) (pk_mul 4 _) ?_
            refine lv_iload hx hb dMo_makeWords_142 (lv_at hl 1 rfl) ?_
            refine lv_iadd hx hb dMo_makeWords_144 ?_
            refine ck_ri (y := nI (4 * (n + 4) + 2)) (nI_add _ _) ?_
            refine lv_aload_n hx hb dMo_makeWords_145 rfl (lv_at hl 2 rfl) ?_
            refine gfMo_16 hx hb hts hown hG hP 0 rfl rfl dMo_makeWords_146 ?_
            refine lv_iconst (v := nI 4) hx hb dMo_makeWords_149 (by decide) ?_
            refine lv_iload hx hb dMo_makeWords_150 (lv_at hl 4 rfl) ?_
            refine lv_imul hx hb dMo_makeWords_152 ?_
            refine ck_ri (y := nI (4 * (n + 4))) (pk_mul 4 _) ?_
            refine lv_bipush (v := nI 16) hx hb dMo_makeWords_153 (by decide) ?_
            refine lv_isub hx hb dMo_makeWords_155 ?_
            refine ck_ri (y := nI (4 * (n + 4) - 16)) (pk_sub (by omega)) ?_
            refine lv_iload hx hb dMo_makeWords_156 (lv_at hl 1 rfl) ?_
            refine lv_iadd hx hb dMo_makeWords_158 ?_
            refine ck_ri (y := nI (4 * n + 2)) (by rw [nI_add, show 4 * (n + 4) - 16 + 2 = 4 * n + 2 by omega]) ?_
            refine ck_iald hx hb hG hP 2 rfl (by decide) (4 * n + 2) (rfl) (by omega) dMo_makeWords_159 ?_
            refine ck_ri (y := nI (rW h1 l1 (4 * n + 2))) (pN_lo _ _ (by omega)) ?_
            refine lv_iload hx hb dMo_makeWords_160 (lv_at hl 0 rfl) ?_
            refine lv_ixor hx hb dMo_makeWords_162 ?_
            refine ck_ri (y := nI (rW h1 l1 (4 * (n + 4) + 2))) ((nI_xor _ _).trans (congrArg nI (rW_n h1 l1 hm0 (by decide)).symm)) ?_
            refine ck_iast hx hb hG hP hD hS 2 rfl (by decide) (4 * (n + 4) + 2) (rfl) (by omega) dMo_makeWords_163 (fun H locs hP hD hS => ?_)
            have hP : va_P G.1 vwCl [moC oy r th fi se d sh sl az oh ol w0 w1 w2, aI G (r 0) 256 ckS, aI G (r 2) 176 (upd (pN (4 * (n + 4) + 2) (rW h1 l1) f) (4 * (n + 4) + 2) (nI (rW h1 l1 (4 * (n + 4) + 2))))] H := hP
            have hD : va_D A [moC oy r th fi se d sh sl az oh ol w0 w1 w2, aI G (r 0) 256 ckS, aI G (r 2) 176 (upd (pN (4 * (n + 4) + 2) (rW h1 l1) f) (4 * (n + 4) + 2) (nI (rW h1 l1 (4 * (n + 4) + 2))))] := hD
            have e2 : upd (pN (4 * (n + 4) + 2) (rW h1 l1) f) (4 * (n + 4) + 2) (nI (rW h1 l1 (4 * (n + 4) + 2))) = pN (4 * (n + 4) + 2 + 1) (rW h1 l1) f := pN_upd (4 * (n + 4) + 2) (rW h1 l1) f
            rw [e2] at hP hD
            have hP : va_P G.1 vwCl [moC oy r th fi se d sh sl az oh ol w0 w1 w2, aI G (r 0) 256 ckS, aI G (r 2) 176 (pN (4 * (n + 4) + 3) (rW h1 l1) f)] H := hP
            have hD : va_D A [moC oy r th fi se d sh sl az oh ol w0 w1 w2, aI G (r 0) 256 ckS, aI G (r 2) 176 (pN (4 * (n + 4) + 3) (rW h1 l1) f)] := hD
            refine lv_iinc (v := nI 3) (lv' := [(7, .int (nI 3)), (8, .int (nI (rW h1 l1 (4 * (n + 3) + 2)))), (0, .ref oy), (5, .int (nI (kPw n))), (6, .int (nI (n + 4)))]) hx hb dMo_makeWords_164 hl (k := 1) rfl (by decide) (by decide) rfl (fun ls hl => ?_)
            refine lv_goto (tgt := 68) hx hb dMo_makeWords_167 rfl ?_
            refine lv_iload hx hb dMo_makeWords_68 (lv_at hl 0 rfl) ?_
            refine lv_iconst (v := nI 4) hx hb dMo_makeWords_70 (by decide) ?_
            refine lv_icmp_ge (tgt := 170) hx hb dMo_makeWords_71 rfl (fun h => absurd h (by decide)) (fun _ => ?_)
            refine lv_aload_n hx hb dMo_makeWords_74 rfl (lv_at hl 2 rfl) ?_
            refine gfMo_16 hx hb hts hown hG hP 0 rfl rfl dMo_makeWords_75 ?_
            refine lv_iconst (v := nI 4) hx hb dMo_makeWords_78 (by decide) ?_
            refine lv_iload hx hb dMo_makeWords_79 (lv_at hl 4 rfl) ?_
            refine lv_imul hx hb dMo_makeWords_81 ?_
            refine ck_ri (y := nI (4 * (n + 4))) (pk_mul 4 _) ?_
            refine lv_iconst (v := nI 4) hx hb dMo_makeWords_82 (by decide) ?_
            refine lv_isub hx hb dMo_makeWords_83 ?_
            refine ck_ri (y := nI (4 * (n + 4) - 4)) (pk_sub (by omega)) ?_
            refine lv_iload hx hb dMo_makeWords_84 (lv_at hl 0 rfl) ?_
            refine lv_iadd hx hb dMo_makeWords_86 ?_
            refine ck_ri (y := nI (4 * (n + 3) + 3)) (by rw [nI_add, show 4 * (n + 4) - 4 + 3 = 4 * (n + 3) + 3 by omega]) ?_
            refine ck_iald hx hb hG hP 2 rfl (by decide) (4 * (n + 3) + 3) (rfl) (by omega) dMo_makeWords_87 ?_
            refine ck_ri (y := nI (rW h1 l1 (4 * (n + 3) + 3))) (pN_lo _ _ (by omega)) ?_
            refine lv_istore (lv' := [(8, .int (nI (rW h1 l1 (4 * (n + 3) + 3)))), (7, .int (nI 3)), (0, .ref oy), (5, .int (nI (kPw n))), (6, .int (nI (n + 4)))]) hx hb dMo_makeWords_88 hl (by decide) rfl (fun ls hl => ?_)
            refine lv_iload hx hb dMo_makeWords_90 (lv_at hl 4 rfl) ?_
            refine lv_iconst (v := nI 4) hx hb dMo_makeWords_92 (by decide) ?_
            refine lv_irem hx hb dMo_makeWords_93 (by decide) ?_
            refine ck_ri (y := nI (n % 4)) (by rw [show nI (n % 4) = nI ((n + 4) % 4) by rw [Nat.add_mod_right]]; exact pk_rem (by omega) (by omega) (by omega)) ?_
            refine lv_if_ne (tgt := 134) hx hb dMo_makeWords_94 rfl (fun _ => ?_) (fun h => absurd h (fun z => hm0 ((nI_eq (b := 0) (by omega) (by omega)).mp z)))
            refine lv_aload_n hx hb dMo_makeWords_134 rfl (lv_at hl 2 rfl) ?_
            refine gfMo_16 hx hb hts hown hG hP 0 rfl rfl dMo_makeWords_135 ?_
            refine lv_iconst (v := nI 4) hx hb dMo_makeWords_138 (by decide) ?_
            refine lv_iload hx hb dMo_makeWords_139 (lv_at hl 4 rfl) ?_
            refine lv_imul hx hb dMo_makeWords_141 ?_
            refine ck_ri (y := nI (4 * (n + 4))) (pk_mul 4 _) ?_
            refine lv_iload hx hb dMo_makeWords_142 (lv_at hl 1 rfl) ?_
            refine lv_iadd hx hb dMo_makeWords_144 ?_
            refine ck_ri (y := nI (4 * (n + 4) + 3)) (nI_add _ _) ?_
            refine lv_aload_n hx hb dMo_makeWords_145 rfl (lv_at hl 2 rfl) ?_
            refine gfMo_16 hx hb hts hown hG hP 0 rfl rfl dMo_makeWords_146 ?_
            refine lv_iconst (v := nI 4) hx hb dMo_makeWords_149 (by decide) ?_
            refine lv_iload hx hb dMo_makeWords_150 (lv_at hl 4 rfl) ?_
            refine lv_imul hx hb dMo_makeWords_152 ?_
            refine ck_ri (y := nI (4 * (n + 4))) (pk_mul 4 _) ?_
            refine lv_bipush (v := nI 16) hx hb dMo_makeWords_153 (by decide) ?_
            refine lv_isub hx hb dMo_makeWords_155 ?_
            refine ck_ri (y := nI (4 * (n + 4) - 16)) (pk_sub (by omega)) ?_
            refine lv_iload hx hb dMo_makeWords_156 (lv_at hl 1 rfl) ?_
            refine lv_iadd hx hb dMo_makeWords_158 ?_
            refine ck_ri (y := nI (4 * n + 3)) (by rw [nI_add, show 4 * (n + 4) - 16 + 3 = 4 * n + 3 by omega]) ?_
            refine ck_iald hx hb hG hP 2 rfl (by decide) (4 * n + 3) (rfl) (by omega) dMo_makeWords_159 ?_
            refine ck_ri (y := nI (rW h1 l1 (4 * n + 3))) (pN_lo _ _ (by omega)) ?_
            refine lv_iload hx hb dMo_makeWords_160 (lv_at hl 0 rfl) ?_
            refine lv_ixor hx hb dMo_makeWords_162 ?_
            refine ck_ri (y := nI (rW h1 l1 (4 * (n + 4) + 3))) ((nI_xor _ _).trans (congrArg nI (rW_n h1 l1 hm0 (by decide)).symm)) ?_
            refine ck_iast hx hb hG hP hD hS 2 rfl (by decide) (4 * (n + 4) + 3) (rfl) (by omega) dMo_makeWords_163 (fun H locs hP hD hS => ?_)
            have hP : va_P G.1 vwCl [moC oy r th fi se d sh sl az oh ol w0 w1 w2, aI G (r 0) 256 ckS, aI G (r 2) 176 (upd (pN (4 * (n + 4) + 3) (rW h1 l1) f) (4 * (n + 4) + 3) (nI (rW h1 l1 (4 * (n + 4) + 3))))] H := hP
            have hD : va_D A [moC oy r th fi se d sh sl az oh ol w0 w1 w2, aI G (r 0) 256 ckS, aI G (r 2) 176 (upd (pN (4 * (n + 4) + 3) (rW h1 l1) f) (4 * (n + 4) + 3) (nI (rW h1 l1 (4 * (n + 4) + 3))))] := hD
            have e3 : upd (pN (4 * (n + 4) + 3) (rW h1 l1) f) (4 * (n + 4) + 3) (nI (rW h1 l1 (4 * (n + 4) + 3))) = pN (4 * (n + 4) + 3 + 1) (rW h1 l1) f := pN_upd (4 * (n + 4) + 3) (rW h1 l1) f
            rw [e3] at hP hD
            have hP : va_P G.1 vwCl [moC oy r th fi se d sh sl az oh ol w0 w1 w2, aI G (r 0) 256 ckS, aI G (r 2) 176 (pN (4 * (n + 4) + 4) (rW h1 l1) f)] H := hP
            have hD : va_D A [moC oy r th fi se d sh sl az oh ol w0 w1 w2, aI G (r 0) 256 ckS, aI G (r 2) 176 (pN (4 * (n + 4) + 4) (rW h1 l1) f)] := hD
            refine lv_iinc (v := nI 4) (lv' := [(7, .int (nI 4)), (8, .int (nI (rW h1 l1 (4 * (n + 3) + 3)))), (0, .ref oy), (5, .int (nI (kPw n))), (6, .int (nI (n + 4)))]) hx hb dMo_makeWords_164 hl (k := 1) rfl (by decide) (by decide) rfl (fun ls hl => ?_)
            refine lv_goto (tgt := 68) hx hb dMo_makeWords_167 rfl ?_
            refine lv_iload hx hb dMo_makeWords_68 (lv_at hl 0 rfl) ?_
            refine lv_iconst (v := nI 4) hx hb dMo_makeWords_70 (by decide) ?_
            refine lv_icmp_ge (tgt := 170) hx hb dMo_makeWords_71 rfl (fun _ => ?_) (fun h => absurd (by decide) h)
            refine lv_iload hx hb dMo_makeWords_170 (lv_at hl 4 rfl) ?_
            refine lv_iconst (v := nI 4) hx hb dMo_makeWords_172 (by decide) ?_
            refine lv_irem hx hb dMo_makeWords_173 (by decide) ?_
            refine ck_ri (y := nI (n % 4)) (by rw [show nI (n % 4) = nI ((n + 4) % 4) by rw [Nat.add_mod_right]]; exact pk_rem (by omega) (by omega) (by omega)) ?_
            refine lv_if_ne (tgt := 186) hx hb dMo_makeWords_174 rfl (fun _ => ?_) (fun h => absurd h (fun z => hm0 ((nI_eq (b := 0) (by omega) (by omega)).mp z)))
            refine lv_iload hx hb dMo_makeWords_186 (lv_at hl 3 rfl) ?_
            refine lv_istore (lv' := [(5, .int (nI (kPw n))), (7, .int (nI 4)), (8, .int (nI (rW h1 l1 (4 * (n + 3) + 3)))), (0, .ref oy), (6, .int (nI (n + 4)))]) hx hb dMo_makeWords_188 hl (by decide) rfl (fun ls hl => ?_)
            refine lv_iinc (v := nI (n + 1 + 4)) (lv' := [(6, .int (nI (n + 1 + 4))), (5, .int (nI (kPw n))), (7, .int (nI 4)), (8, .int (nI (rW h1 l1 (4 * (n + 3) + 3)))), (0, .ref oy)]) hx hb dMo_makeWords_190 hl (k := 4) rfl (by rw [show n + 1 + 4 = (n + 4) + 1 by omega]; exact nI_1 (n + 4)) (by decide) rfl (fun ls hl => ?_)
            refine lv_goto (tgt := 58) hx hb dMo_makeWords_193 rfl ?_
            have e9 : kPw (n + 1) = kPw n := if_neg hm0
            exact ih (n + 1) _ _ _ (by omega) hP hD hS (by rw [e9]; exact lv_sub hl [4, 1, 0] rfl)
          · have hm1 : n % 4 = 0 := (nI_eq (b := 0) (by omega) (by omega)).mp h8
            refine lv_aload_n hx hb dMo_makeWords_97 rfl (lv_at hl 2 rfl) ?_
            refine gfMo_7 hx hb hts hown hG hP 0 rfl rfl dMo_makeWords_98 ?_
            refine lv_aload_n hx hb dMo_makeWords_101 rfl (lv_at hl 2 rfl) ?_
            refine gfMo_16 hx hb hts hown hG hP 0 rfl rfl dMo_makeWords_102 ?_
            refine lv_iconst (v := nI 4) hx hb dMo_makeWords_105 (by decide) ?_
            refine lv_iload hx hb dMo_makeWords_106 (lv_at hl 4 rfl) ?_
            refine lv_imul hx hb dMo_makeWords_108 ?_
            refine ck_ri (y := nI (4 * (n + 4))) (pk_mul 4 _) ?_
            refine lv_iconst (v := nI 4) hx hb dMo_makeWords_109 (by decide) ?_
            refine lv_isub hx hb dMo_makeWords_110 ?_
            refine ck_ri (y := nI (4 * (n + 4) - 4)) (pk_sub (by omega)) ?_
            refine lv_iload hx hb dMo_makeWords_111 (lv_at hl 1 rfl) ?_
            refine lv_iconst (v := nI 1) hx hb dMo_makeWords_113 (by decide) ?_
            refine lv_iadd hx hb dMo_makeWords_114 ?_
            refine ck_ri (y := nI 1) (by decide) ?_
            refine lv_iconst (v := nI 4) hx hb dMo_makeWords_115 (by decide) ?_
            refine lv_irem hx hb dMo_makeWords_116 (by decide) ?_
            refine ck_ri (y := nI 1) (by decide) ?_
            refine lv_iadd hx hb dMo_makeWords_117 ?_
            refine ck_ri (y := nI (4 * (n + 3) + 1)) (by rw [nI_add, show 4 * (n + 4) - 4 + 1 = 4 * (n + 3) + 1 by omega]) ?_
            refine ck_iald hx hb hG hP 2 rfl (by decide) (4 * (n + 3) + 1) (rfl) (by omega) dMo_makeWords_118 ?_
            refine ck_ri (y := nI (rW h1 l1 (4 * (n + 3) + 1))) (pN_lo _ _ (by omega)) ?_
            refine ck_iald hx hb hG hP 1 rfl (by decide) (rW h1 l1 (4 * (n + 3) + 1)) (rfl) (rW_lt _ _ _) dMo_makeWords_119 ?_
            refine ck_ri (y := nI (sB (rW h1 l1 (4 * (n + 3) + 1)))) (rfl) ?_
            refine lv_iload hx hb dMo_makeWords_120 (lv_at hl 1 rfl) ?_
            refine lv_if_ne (tgt := 130) hx hb dMo_makeWords_122 rfl (fun h => absurd (rfl) h) (fun _ => ?_)
            refine lv_iload hx hb dMo_makeWords_125 (lv_at hl 3 rfl) ?_
            refine lv_goto (tgt := 131) hx hb dMo_makeWords_127 rfl ?_
            refine lv_ixor hx hb dMo_makeWords_131 ?_
            refine ck_ri (y := nI (sB (rW h1 l1 (4 * (n + 3) + 1)) ^^^ kPw n)) (nI_xor _ _) ?_
            refine lv_istore (lv' := [(8, .int (nI (sB (rW h1 l1 (4 * (n + 3) + 1)) ^^^ kPw n))), (7, .int (nI 0)), (0, .ref oy), (5, .int (nI (kPw n))), (6, .int (nI (n + 4)))]) hx hb dMo_makeWords_132 hl (by decide) rfl (fun ls hl => ?_)
            refine lv_aload_n hx hb dMo_makeWords_134 rfl (lv_at hl 2 rfl) ?_
            refine gfMo_16 hx hb hts hown hG hP 0 rfl rfl dMo_makeWords_135 ?_
            refine lv_iconst (v := nI 4) hx hb dMo_makeWords_138 (by decide) ?_
            refine lv_iload hx hb dMo_makeWords_139 (lv_at hl 4 rfl) ?_
            refine lv_imul hx hb dMo_makeWords_141 ?_
            refine ck_ri (y := nI (4 * (n + 4))) (pk_mul 4 _) ?_
            refine lv_iload hx hb dMo_makeWords_142 (lv_at hl 1 rfl) ?_
            refine lv_iadd hx hb dMo_makeWords_144 ?_
            refine ck_ri (y := nI (4 * (n + 4) + 0)) (nI_add _ _) ?_
            refine lv_aload_n hx hb dMo_makeWords_145 rfl (lv_at hl 2 rfl) ?_
            refine gfMo_16 hx hb hts hown hG hP 0 rfl rfl dMo_makeWords_146 ?_
            refine lv_iconst (v := nI 4) hx hb dMo_makeWords_149 (by decide) ?_
            refine lv_iload hx hb dMo_makeWords_150 (lv_at hl 4 rfl) ?_
            refine lv_imul hx hb dMo_makeWords_152 ?_
            refine ck_ri (y := nI (4 * (n + 4))) (pk_mul 4 _) ?_
            refine lv_bipush (v := nI 16) hx hb dMo_makeWords_153 (by decide) ?_
            refine lv_isub hx hb dMo_makeWords_155 ?_
            refine ck_ri (y := nI (4 * (n + 4) - 16)) (pk_sub (by omega)) ?_
            refine lv_iload hx hb dMo_makeWords_156 (lv_at hl 1 rfl) ?_
            refine lv_iadd hx hb dMo_makeWords_158 ?_
            refine ck_ri (y := nI (4 * n + 0)) (by rw [nI_add, show 4 * (n + 4) - 16 + 0 = 4 * n + 0 by omega]) ?_
            refine ck_iald hx hb hG hP 2 rfl (by decide) (4 * n + 0) (rfl) (by omega) dMo_makeWords_159 ?_
            refine ck_ri (y := nI (rW h1 l1 (4 * n + 0))) (pN_lo _ _ (by omega)) ?_
            refine lv_iload hx hb dMo_makeWords_160 (lv_at hl 0 rfl) ?_
            refine lv_ixor hx hb dMo_makeWords_162 ?_
            refine ck_ri (y := nI (rW h1 l1 (4 * (n + 4) + 0))) ((nI_xor _ _).trans (congrArg nI (rW_p0 h1 l1 hm1).symm)) ?_
            refine ck_iast hx hb hG hP hD hS 2 rfl (by decide) (4 * (n + 4) + 0) (rfl) (by omega) dMo_makeWords_163 (fun H locs hP hD hS => ?_)
            have hP : va_P G.1 vwCl [moC oy r th fi se d sh sl az oh ol w0 w1 w2, aI G (r 0) 256 ckS, aI G (r 2) 176 (upd (pN (4 * (n + 4)) (rW h1 l1) f) (4 * (n + 4) + 0) (nI (rW h1 l1 (4 * (n + 4) + 0))))] H := hP
            have hD : va_D A [moC oy r th fi se d sh sl az oh ol w0 w1 w2, aI G (r 0) 256 ckS, aI G (r 2) 176 (upd (pN (4 * (n + 4)) (rW h1 l1) f) (4 * (n + 4) + 0) (nI (rW h1 l1 (4 * (n + 4) + 0))))] := hD
            have e0 : upd (pN (4 * (n + 4)) (rW h1 l1) f) (4 * (n + 4) + 0) (nI (rW h1 l1 (4 * (n + 4) + 0))) = pN (4 * (n + 4) + 0 + 1) (rW h1 l1) f := pN_upd (4 * (n + 4) + 0) (rW h1 l1) f
            rw [e0] at hP hD
            have hP : va_P G.1 vwCl [moC oy r th fi se d sh sl az oh ol w0 w1 w2, aI G (r 0) 256 ckS, aI G (r 2) 176 (pN (4 * (n + 4) + 1) (rW h1 l1) f)] H := hP
            have hD : va_D A [moC oy r th fi se d sh sl az oh ol w0 w1 w2, aI G (r 0) 256 ckS, aI G (r 2) 176 (pN (4 * (n + 4) + 1) (rW h1 l1) f)] := hD
            refine lv_iinc (v := nI 1) (lv' := [(7, .int (nI 1)), (8, .int (nI (sB (rW h1 l1 (4 * (n + 3) + 1)) ^^^ kPw n))), (0, .ref oy), (5, .int (nI (kPw n))), (6, .int (nI (n + 4)))]) hx hb dMo_makeWords_164 hl (k := 1) rfl (by decide) (by decide) rfl (fun ls hl => ?_)
            refine lv_goto (tgt := 68) hx hb dMo_makeWords_167 rfl ?_
            refine lv_iload hx hb dMo_makeWords_68 (lv_at hl 0 rfl) ?_
            refine lv_iconst (v := nI 4) hx hb dMo_makeWords_70 (by decide) ?_
            refine lv_icmp_ge (tgt := 170) hx hb dMo_makeWords_71 rfl (fun h => absurd h (by decide)) (fun _ => ?_)
            refine lv_aload_n hx hb dMo_makeWords_74 rfl (lv_at hl 2 rfl) ?_
            refine gfMo_16 hx hb hts hown hG hP 0 rfl rfl dMo_makeWords_75 ?_
            refine lv_iconst (v := nI 4) hx hb dMo_makeWords_78 (by decide) ?_
            refine lv_iload hx hb dMo_makeWords_79 (lv_at hl 4 rfl) ?_
            refine lv_imul hx hb dMo_makeWords_81 ?_
            refine ck_ri (y := nI (4 * (n + 4))) (pk_mul 4 _) ?_
            refine lv_iconst (v := nI 4) hx hb dMo_makeWords_82 (by decide) ?_
            refine lv_isub hx hb dMo_makeWords_83 ?_
            refine ck_ri (y := nI (4 * (n + 4) - 4)) (pk_sub (by omega)) ?_
            refine lv_iload hx hb dMo_makeWords_84 (lv_at hl 0 rfl) ?_
            refine lv_iadd hx hb dMo_makeWords_86 ?_
            refine ck_ri (y := nI (4 * (n + 3) + 1)) (by rw [nI_add, show 4 * (n + 4) - 4 + 1 = 4 * (n + 3) + 1 by omega]) ?_
            refine ck_iald hx hb hG hP 2 rfl (by decide) (4 * (n + 3) + 1) (rfl) (by omega) dMo_makeWords_87 ?_
            refine ck_ri (y := nI (rW h1 l1 (4 * (n + 3) + 1))) (pN_lo _ _ (by omega)) ?_
            refine lv_istore (lv' := [(8, .int (nI (rW h1 l1 (4 * (n + 3) + 1)))), (7, .int (nI 1)), (0, .ref oy), (5, .int (nI (kPw n))), (6, .int (nI (n + 4)))]) hx hb dMo_makeWords_88 hl (by decide) rfl (fun ls hl => ?_)
            refine lv_iload hx hb dMo_makeWords_90 (lv_at hl 4 rfl) ?_
            refine lv_iconst (v := nI 4) hx hb dMo_makeWords_92 (by decide) ?_
            refine lv_irem hx hb dMo_makeWords_93 (by decide) ?_
            refine ck_ri (y := nI (n % 4)) (by rw [show nI (n % 4) = nI ((n + 4) % 4) by rw [Nat.add_mod_right]]; exact pk_rem (by omega) (by omega) (by omega)) ?_
            refine lv_if_ne (tgt := 134) hx hb dMo_makeWords_94 rfl (fun h => absurd (by rw [hm1]; rfl) h) (fun _ => ?_)
            refine lv_aload_n hx hb dMo_makeWords_97 rfl (lv_at hl 2 rfl) ?_
            refine gfMo_7 hx hb hts hown hG hP 0 rfl rfl dMo_makeWords_98 ?_
            refine lv_aload_n hx hb dMo_makeWords_101 rfl (lv_at hl 2 rfl) ?_
            refine gfMo_16 hx hb hts hown hG hP 0 rfl rfl dMo_makeWords_102 ?_
            refine lv_iconst (v := nI 4) hx hb dMo_makeWords_105 (by decide) ?_
            refine lv_iload hx hb dMo_makeWords_106 (lv_at hl 4 rfl) ?_
            refine lv_imul hx hb dMo_makeWords_108 ?_
            refine ck_ri (y := nI (4 * (n + 4))) (pk_mul 4 _) ?_
            refine lv_iconst (v := nI 4) hx hb dMo_makeWords_109 (by decide) ?_
            refine lv_isub hx hb dMo_makeWords_110 ?_
            refine ck_ri (y := nI (4 * (n + 4) - 4)) (pk_sub (by omega)) ?_
            refine lv_iload hx hb dMo_makeWords_111 (lv_at hl 1 rfl) ?_
            refine lv_iconst (v := nI 1) hx hb dMo_makeWords_113 (by decide) ?_
            refine lv_iadd hx hb dMo_makeWords_114 ?_
            refine ck_ri (y := nI 2) (by decide) ?_
            refine lv_iconst (v := nI 4) hx hb dMo_makeWords_115 (by decide) ?_
            refine lv_irem hx hb dMo_makeWords_116 (by decide) ?_
            refine ck_ri (y := nI 2) (by decide) ?_
            refine lv_iadd hx hb dMo_makeWords_117 ?_
            refine ck_ri (y := nI (4 * (n + 3) + 2)) (by rw [nI_add, show 4 * (n + 4) - 4 + 2 = 4 * (n + 3) + 2 by omega]) ?_
            refine ck_iald hx hb hG hP 2 rfl (by decide) (4 * (n + 3) + 2) (rfl) (by omega) dMo_makeWords_118 ?_
            refine ck_ri (y := nI (rW h1 l1 (4 * (n + 3) + 2))) (pN_lo _ _ (by omega)) ?_
            refine ck_iald hx hb hG hP 1 rfl (by decide) (rW h1 l1 (4 * (n + 3) + 2)) (rfl) (rW_lt _ _ _) dMo_makeWords_119 ?_
            refine ck_ri (y := nI (sB (rW h1 l1 (4 * (n + 3) + 2)))) (rfl) ?_
            refine lv_iload hx hb dMo_makeWords_120 (lv_at hl 1 rfl) ?_
            refine lv_if_ne (tgt := 130) hx hb dMo_makeWords_122 rfl (fun _ => ?_) (fun h => absurd h (by decide))
            refine lv_iconst (v := nI 0) hx hb dMo_makeWords_130 (by decide) ?_
            refine lv_ixor hx hb dMo_makeWords_131 ?_
            refine ck_ri (y := nI (sB (rW h1 l1 (4 * (n + 3) + 2)) ^^^ 0)) (nI_xor _ _) ?_
            refine lv_istore (lv' := [(8, .int (nI (sB (rW h1 l1 (4 * (n + 3) + 2)) ^^^ 0))), (7, .int (nI 1)), (0, .ref oy), (5, .int (nI (kPw n))), (6, .int (nI (n + 4)))]) hx hb dMo_makeWords_132 hl (by decide) rfl (fun ls hl => ?_)
            refine lv_aload_n hx hb dMo_makeWords_134 rfl (lv_at hl 2 rfl) ?_
            refine gfMo_16 hx hb hts hown hG hP 0 rfl rfl dMo_makeWords_135 ?_
            refine lv_iconst (v := nI 4) hx hb dMo_makeWords_138 (by decide) ?_
            refine lv_iload hx hb dMo_makeWords_139 (lv_at hl 4 rfl) ?_
            refine lv_imul hx hb dMo_makeWords_141 ?_
            refine ck_ri (y := nI (4 * (n + 4))) (pk_mul 4 _) ?_
            refine lv_iload hx hb dMo_makeWords_142 (lv_at hl 1 rfl) ?_
            refine lv_iadd hx hb dMo_makeWords_144 ?_
            refine ck_ri (y := nI (4 * (n + 4) + 1)) (nI_add _ _) ?_
            refine lv_aload_n hx hb dMo_makeWords_145 rfl (lv_at hl 2 rfl) ?_
            refine gfMo_16 hx hb hts hown hG hP 0 rfl rfl dMo_makeWords_146 ?_
            refine lv_iconst (v := nI 4) hx hb dMo_makeWords_149 (by decide) ?_
            refine lv_iload hx hb dMo_makeWords_150 (lv_at hl 4 rfl) ?_
            refine lv_imul hx hb dMo_makeWords_152 ?_
            refine ck_ri (y := nI (4 * (n + 4))) (pk_mul 4 _) ?_
            refine lv_bipush (v := nI 16) hx hb dMo_makeWords_153 (by decide) ?_
            refine lv_isub hx hb dMo_makeWords_155 ?_
            refine ck_ri (y := nI (4 * (n + 4) - 16)) (pk_sub (by omega)) ?_
            refine lv_iload hx hb dMo_makeWords_156 (lv_at hl 1 rfl) ?_
            refine lv_iadd hx hb dMo_makeWords_158 ?_
            refine ck_ri (y := nI (4 * n + 1)) (by rw [nI_add, show 4 * (n + 4) - 16 + 1 = 4 * n + 1 by omega]) ?_
            refine ck_iald hx hb hG hP 2 rfl (by decide) (4 * n + 1) (rfl) (by omega) dMo_makeWords_159 ?_
            refine ck_ri (y := nI (rW h1 l1 (4 * n + 1))) (pN_lo _ _ (by omega)) ?_
            refine lv_iload hx hb dMo_makeWords_160 (lv_at hl 0 rfl) ?_
            refine lv_ixor hx hb dMo_makeWords_162 ?_
            refine ck_ri (y := nI (rW h1 l1 (4 * (n + 4) + 1))) ((nI_xor _ _).trans (congrArg nI (rW_p1 h1 l1 hm1).symm)) ?_
            refine ck_iast hx hb hG hP hD hS 2 rfl (by decide) (4 * (n + 4) + 1) (rfl) (by omega) dMo_makeWords_163 (fun H locs hP hD hS => ?_)
            have hP : va_P G.1 vwCl [moC oy r th fi se d sh sl az oh ol w0 w1 w2, aI G (r 0) 256 ckS, aI G (r 2) 176 (upd (pN (4 * (n + 4) + 1) (rW h1 l1) f) (4 * (n + 4) + 1) (nI (rW h1 l1 (4 * (n + 4) + 1))))] H := hP
            have hD : va_D A [moC oy r th fi se d sh sl az oh ol w0 w1 w2, aI G (r 0) 256 ckS, aI G (r 2) 176 (upd (pN (4 * (n + 4) + 1) (rW h1 l1) f) (4 * (n + 4) + 1) (nI (rW h1 l1 (4 * (n + 4) + 1))))] := hD
            have e1 : upd (pN (4 * (n + 4) + 1) (rW h1 l1) f) (4 * (n + 4) + 1) (nI (rW h1 l1 (4 * (n + 4) + 1))) = pN (4 * (n + 4) + 1 + 1) (rW h1 l1) f := pN_upd (4 * (n + 4) + 1) (rW h1 l1) f
            rw [e1] at hP hD
            have hP : va_P G.1 vwCl [moC oy r th fi se d sh sl az oh ol w0 w1 w2, aI G (r 0) 256 ckS, aI G (r 2) 176 (pN (4 * (n + 4) + 2) (rW h1 l1) f)] H := hP
            have hD : va_D A [moC oy r th fi se d sh sl az oh ol w0 w1 w2, aI G (r 0) 256 ckS, aI G (r 2) 176 (pN (4 * (n + 4) + 2) (rW h1 l1) f)] := hD
            refine lv_iinc (v := nI 2) (lv' := [(7, .int (nI 2)), (8, .int (nI (sB (rW h1 l1 (4 * (n + 3) + 2)) ^^^ 0))), (0, .ref oy), (5, .int (nI (kPw n))), (6, .int (nI (n + 4)))]) hx hb dMo_makeWords_164 hl (k := 1) rfl (by decide) (by decide) rfl (fun ls hl => ?_)
            refine lv_goto (tgt := 68) hx hb dMo_makeWords_167 rfl ?_
            refine lv_iload hx hb dMo_makeWords_68 (lv_at hl 0 rfl) ?_
            refine lv_iconst (v := nI 4) hx hb dMo_makeWords_70 (by decide) ?_
            refine lv_icmp_ge (tgt := 170) hx hb dMo_makeWords_71 rfl (fun h => absurd h (by decide)) (fun _ => ?_)
            refine lv_aload_n hx hb dMo_makeWords_74 rfl (lv_at hl 2 rfl) ?_
            refine gfMo_16 hx hb hts hown hG hP 0 rfl rfl dMo_makeWords_75 ?_
            refine lv_iconst (v := nI 4) hx hb dMo_makeWords_78 (by decide) ?_
            refine lv_iload hx hb dMo_makeWords_79 (lv_at hl 4 rfl) ?_
            refine lv_imul hx hb dMo_makeWords_81 ?_
            refine ck_ri (y := nI (4 * (n + 4))) (pk_mul 4 _) ?_
            refine lv_iconst (v := nI 4) hx hb dMo_makeWords_82 (by decide) ?_
            refine lv_isub hx hb dMo_makeWords_83 ?_
            refine ck_ri (y := nI (4 * (n + 4) - 4)) (pk_sub (by omega)) ?_
            refine lv_iload hx hb dMo_makeWords_84 (lv_at hl 0 rfl) ?_
            refine lv_iadd hx hb dMo_makeWords_86 ?_
            refine ck_ri (y := nI (4 * (n + 3) + 2)) (by rw [nI_add, show 4 * (n + 4) - 4 + 2 = 4 * (n + 3) + 2 by omega]) ?_
            refine ck_iald hx hb hG hP 2 rfl (by decide) (4 * (n + 3) + 2) (rfl) (by omega) dMo_makeWords_87 ?_
            refine ck_ri (y := nI (rW h1 l1 (4 * (n + 3) + 2))) (pN_lo _ _ (by omega)) ?_
            refine lv_istore (lv' := [(8, .int (nI (rW h1 l1 (4 * (n + 3) + 2)))), (7, .int (nI 2)), (0, .ref oy), (5, .int (nI (kPw n))), (6, .int (nI (n + 4)))]) hx hb dMo_makeWords_88 hl (by decide) rfl (fun ls hl => ?_)
            refine lv_iload hx hb dMo_makeWords_90 (lv_at hl 4 rfl) ?_
            refine lv_iconst (v := nI 4) hx hb dMo_makeWords_92 (by decide) ?_
            refine lv_irem hx hb dMo_makeWords_93 (by decide) ?_
            refine ck_ri (y := nI (n % 4)) (by rw [show nI (n % 4) = nI ((n + 4) % 4) by rw [Nat.add_mod_right]]; exact pk_rem (by omega) (by omega) (by omega)) ?_
            refine lv_if_ne (tgt := 134) hx hb dMo_makeWords_94 rfl (fun h => absurd (by rw [hm1]; rfl) h) (fun _ => ?_)
            refine lv_aload_n hx hb dMo_makeWords_97 rfl (lv_at hl 2 rfl) ?_
            refine gfMo_7 hx hb hts hown hG hP 0 rfl rfl dMo_makeWords_98 ?_
            refine lv_aload_n hx hb dMo_makeWords_101 rfl (lv_at hl 2 rfl) ?_
            refine gfMo_16 hx hb hts hown hG hP 0 rfl rfl dMo_makeWords_102 ?_
            refine lv_iconst (v := nI 4) hx hb dMo_makeWords_105 (by decide) ?_
            refine lv_iload hx hb dMo_makeWords_106 (lv_at hl 4 rfl) ?_
            refine lv_imul hx hb dMo_makeWords_108 ?_
            refine ck_ri (y := nI (4 * (n + 4))) (pk_mul 4 _) ?_
            refine lv_iconst (v := nI 4) hx hb dMo_makeWords_109 (by decide) ?_
            refine lv_isub hx hb dMo_makeWords_110 ?_
            refine ck_ri (y := nI (4 * (n + 4) - 4)) (pk_sub (by omega)) ?_
            refine lv_iload hx hb dMo_makeWords_111 (lv_at hl 1 rfl) ?_
            refine lv_iconst (v := nI 1) hx hb dMo_makeWords_113 (by decide) ?_
            refine lv_iadd hx hb dMo_makeWords_114 ?_
            refine ck_ri (y := nI 3) (by decide) ?_
            refine lv_iconst (v := nI 4) hx hb dMo_makeWords_115 (by decide) ?_
            refine lv_irem hx hb dMo_makeWords_116 (by decide) ?_
            refine ck_ri (y := nI 3) (by decide) ?_
            refine lv_iadd hx hb dMo_makeWords_117 ?_
            refine ck_ri (y := nI (4 * (n + 3) + 3)) (by rw [nI_add, show 4 * (n + 4) - 4 + 3 = 4 * (n + 3) + 3 by omega]) ?_
            refine ck_iald hx hb hG hP 2 rfl (by decide) (4 * (n + 3) + 3) (rfl) (by omega) dMo_makeWords_118 ?_
            refine ck_ri (y := nI (rW h1 l1 (4 * (n + 3) + 3))) (pN_lo _ _ (by omega)) ?_
            refine ck_iald hx hb hG hP 1 rfl (by decide) (rW h1 l1 (4 * (n + 3) + 3)) (rfl) (rW_lt _ _ _) dMo_makeWords_119 ?_
            refine ck_ri (y := nI (sB (rW h1 l1 (4 * (n + 3) + 3)))) (rfl) ?_
            refine lv_iload hx hb dMo_makeWords_120 (lv_at hl 1 rfl) ?_
            refine lv_if_ne (tgt := 130) hx hb dMo_makeWords_122 rfl (fun _ => ?_) (fun h => absurd h (by decide))
            refine lv_iconst (v := nI 0) hx hb dMo_makeWords_130 (by decide) ?_
            refine lv_ixor hx hb dMo_makeWords_131 ?_
            refine ck_ri (y := nI (sB (rW h1 l1 (4 * (n + 3) + 3)) ^^^ 0)) (nI_xor _ _) ?_
            refine lv_istore (lv' := [(8, .int (nI (sB (rW h1 l1 (4 * (n + 3) + 3)) ^^^ 0))), (7, .int (nI 2)), (0, .ref oy), (5, .int (nI (kPw n))), (6, .int (nI (n + 4)))]) hx hb dMo_makeWords_132 hl (by decide) rfl (fun ls hl => ?_)
            refine lv_aload_n hx hb dMo_makeWords_134 rfl (lv_at hl 2 rfl) ?_
            refine gfMo_16 hx hb hts hown hG hP 0 rfl rfl dMo_makeWords_135 ?_
            refine lv_iconst (v := nI 4) hx hb dMo_makeWords_138 (by decide) ?_
            refine lv_iload hx hb dMo_makeWords_139 (lv_at hl 4 rfl) ?_
            refine lv_imul hx hb dMo_makeWords_141 ?_
            refine ck_ri (y := nI (4 * (n + 4))) (pk_mul 4 _) ?_
            refine lv_iload hx hb dMo_makeWords_142 (lv_at hl 1 rfl) ?_
            refine lv_iadd hx hb dMo_makeWords_144 ?_
            refine ck_ri (y := nI (4 * (n + 4) + 2)) (nI_add _ _) ?_
            refine lv_aload_n hx hb dMo_makeWords_145 rfl (lv_at hl 2 rfl) ?_
            refine gfMo_16 hx hb hts hown hG hP 0 rfl rfl dMo_makeWords_146 ?_
            refine lv_iconst (v := nI 4) hx hb dMo_makeWords_149 (by decide) ?_
            refine lv_iload hx hb dMo_makeWords_150 (lv_at hl 4 rfl) ?_
            refine lv_imul hx hb dMo_makeWords_152 ?_
            refine ck_ri (y := nI (4 * (n + 4))) (pk_mul 4 _) ?_
            refine lv_bipush (v := nI 16) hx hb dMo_makeWords_153 (by decide) ?_
            refine lv_isub hx hb dMo_makeWords_155 ?_
            refine ck_ri (y := nI (4 * (n + 4) - 16)) (pk_sub (by omega)) ?_
            refine lv_iload hx hb dMo_makeWords_156 (lv_at hl 1 rfl) ?_
            refine lv_iadd hx hb dMo_makeWords_158 ?_
            refine ck_ri (y := nI (4 * n + 2)) (by rw [nI_add, show 4 * (n + 4) - 16 + 2 = 4 * n + 2 by omega]) ?_
            refine ck_iald hx hb hG hP 2 rfl (by decide) (4 * n + 2) (rfl) (by omega) dMo_makeWords_159 ?_
            refine ck_ri (y := nI (rW h1 l1 (4 * n + 2))) (pN_lo _ _ (by omega)) ?_
            refine lv_iload hx hb dMo_makeWords_160 (lv_at hl 0 rfl) ?_
            refine lv_ixor hx hb dMo_makeWords_162 ?_
            refine ck_ri (y := nI (rW h1 l1 (4 * (n + 4) + 2))) ((nI_xor _ _).trans (congrArg nI (rW_p2 h1 l1 hm1).symm)) ?_
            refine ck_iast hx hb hG hP hD hS 2 rfl (by decide) (4 * (n + 4) + 2) (rfl) (by omega) dMo_makeWords_163 (fun H locs hP hD hS => ?_)
            have hP : va_P G.1 vwCl [moC oy r th fi se d sh sl az oh ol w0 w1 w2, aI G (r 0) 256 ckS, aI G (r 2) 176 (upd (pN (4 * (n + 4) + 2) (rW h1 l1) f) (4 * (n + 4) + 2) (nI (rW h1 l1 (4 * (n + 4) + 2))))] H := hP
            have hD : va_D A [moC oy r th fi se d sh sl az oh ol w0 w1 w2, aI G (r 0) 256 ckS, aI G (r 2) 176 (upd (pN (4 * (n + 4) + 2) (rW h1 l1) f) (4 * (n + 4) + 2) (nI (rW h1 l1 (4 * (n + 4) + 2))))] := hD
            have e2 : upd (pN (4 * (n + 4) + 2) (rW h1 l1) f) (4 * (n + 4) + 2) (nI (rW h1 l1 (4 * (n + 4) + 2))) = pN (4 * (n + 4) + 2 + 1) (rW h1 l1) f := pN_upd (4 * (n + 4) + 2) (rW h1 l1) f
            rw [e2] at hP hD
            have hP : va_P G.1 vwCl [moC oy r th fi se d sh sl az oh ol w0 w1 w2, aI G (r 0) 256 ckS, aI G (r 2) 176 (pN (4 * (n + 4) + 3) (rW h1 l1) f)] H := hP
            have hD : va_D A [moC oy r th fi se d sh sl az oh ol w0 w1 w2, aI G (r 0) 256 ckS, aI G (r 2) 176 (pN (4 * (n + 4) + 3) (rW h1 l1) f)] := hD
            refine lv_iinc (v := nI 3) (lv' := [(7, .int (nI 3)), (8, .int (nI (sB (rW h1 l1 (4 * (n + 3) + 3)) ^^^ 0))), (0, .ref oy), (5, .int (nI (kPw n))), (6, .int (nI (n + 4)))]) hx hb dMo_makeWords_164 hl (k := 1) rfl (by decide) (by decide) rfl (fun ls hl => ?_)
            refine lv_goto (tgt := 68) hx hb dMo_makeWords_167 rfl ?_
            refine lv_iload hx hb dMo_makeWords_68 (lv_at hl 0 rfl) ?_
            refine lv_iconst (v := nI 4) hx hb dMo_makeWords_70 (by decide) ?_
            refine lv_icmp_ge (tgt := 170) hx hb dMo_makeWords_71 rfl (fun h => absurd h (by decide)) (fun _ => ?_)
            refine lv_aload_n hx hb dMo_makeWords_74 rfl (lv_at hl 2 rfl) ?_
            refine gfMo_16 hx hb hts hown hG hP 0 rfl rfl dMo_makeWords_75 ?_
            refine lv_iconst (v := nI 4) hx hb dMo_makeWords_78 (by decide) ?_
            refine lv_iload hx hb dMo_makeWords_79 (lv_at hl 4 rfl) ?_
            refine lv_imul hx hb dMo_makeWords_81 ?_
            refine ck_ri (y := nI (4 * (n + 4))) (pk_mul 4 _) ?_
            refine lv_iconst (v := nI 4) hx hb dMo_makeWords_82 (by decide) ?_
            refine lv_isub hx hb dMo_makeWords_83 ?_
            refine ck_ri (y := nI (4 * (n + 4) - 4)) (pk_sub (by omega)) ?_
            refine lv_iload hx hb dMo_makeWords_84 (lv_at hl 0 rfl) ?_
            refine lv_iadd hx hb dMo_makeWords_86 ?_
            refine ck_ri (y := nI (4 * (n + 3) + 3)) (by rw [nI_add, show 4 * (n + 4) - 4 + 3 = 4 * (n + 3) + 3 by omega]) ?_
            refine ck_iald hx hb hG hP 2 rfl (by decide) (4 * (n + 3) + 3) (rfl) (by omega) dMo_makeWords_87 ?_
            refine ck_ri (y := nI (rW h1 l1 (4 * (n + 3) + 3))) (pN_lo _ _ (by omega)) ?_
            refine lv_istore (lv' := [(8, .int (nI (rW h1 l1 (4 * (n + 3) + 3)))), (7, .int (nI 3)), (0, .ref oy), (5, .int (nI (kPw n))), (6, .int (nI (n + 4)))]) hx hb dMo_makeWords_88 hl (by decide) rfl (fun ls hl => ?_)
            refine lv_iload hx hb dMo_makeWords_90 (lv_at hl 4 rfl) ?_
            refine lv_iconst (v := nI 4) hx hb dMo_makeWords_92 (by decide) ?_
            refine lv_irem hx hb dMo_makeWords_93 (by decide) ?_
            refine ck_ri (y := nI (n % 4)) (by rw [show nI (n % 4) = nI ((n + 4) % 4) by rw [Nat.add_mod_right]]; exact pk_rem (by omega) (by omega) (by omega)) ?_
            refine lv_if_ne (tgt := 134) hx hb dMo_makeWords_94 rfl (fun h => absurd (by rw [hm1]; rfl) h) (fun _ => ?_)
            refine lv_aload_n hx hb dMo_makeWords_97 rfl (lv_at hl 2 rfl) ?_
            refine gfMo_7 hx hb hts hown hG hP 0 rfl rfl dMo_makeWords_98 ?_
            refine lv_aload_n hx hb dMo_makeWords_101 rfl (lv_at hl 2 rfl) ?_
            refine gfMo_16 hx hb hts hown hG hP 0 rfl rfl dMo_makeWords_102 ?_
            refine lv_iconst (v := nI 4) hx hb dMo_makeWords_105 (by decide) ?_
            refine lv_iload hx hb dMo_makeWords_106 (lv_at hl 4 rfl) ?_
            refine lv_imul hx hb dMo_makeWords_108 ?_
            refine ck_ri (y := nI (4 * (n + 4))) (pk_mul 4 _) ?_
            refine lv_iconst (v := nI 4) hx hb dMo_makeWords_109 (by decide) ?_
            refine lv_isub hx hb dMo_makeWords_110 ?_
            refine ck_ri (y := nI (4 * (n + 4) - 4)) (pk_sub (by omega)) ?_
            refine lv_iload hx hb dMo_makeWords_111 (lv_at hl 1 rfl) ?_
            refine lv_iconst (v := nI 1) hx hb dMo_makeWords_113 (by decide) ?_
            refine lv_iadd hx hb dMo_makeWords_114 ?_
            refine ck_ri (y := nI 4) (by decide) ?_
            refine lv_iconst (v := nI 4) hx hb dMo_makeWords_115 (by decide) ?_
            refine lv_irem hx hb dMo_makeWords_116 (by decide) ?_
            refine ck_ri (y := nI 0) (by decide) ?_
            refine lv_iadd hx hb dMo_makeWords_117 ?_
            refine ck_ri (y := nI (4 * (n + 3) + 0)) (by rw [nI_add, show 4 * (n + 4) - 4 + 0 = 4 * (n + 3) + 0 by omega]) ?_
            refine ck_iald hx hb hG hP 2 rfl (by decide) (4 * (n + 3) + 0) (rfl) (by omega) dMo_makeWords_118 ?_
            refine ck_ri (y := nI (rW h1 l1 (4 * (n + 3) + 0))) (pN_lo _ _ (by omega)) ?_
            refine ck_iald hx hb hG hP 1 rfl (by decide) (rW h1 l1 (4 * (n + 3) + 0)) (rfl) (rW_lt _ _ _) dMo_makeWords_119 ?_
            refine ck_ri (y := nI (sB (rW h1 l1 (4 * (n + 3) + 0)))) (rfl) ?_
            refine lv_iload hx hb dMo_makeWords_120 (lv_at hl 1 rfl) ?_
            refine lv_if_ne (tgt := 130) hx hb dMo_makeWords_122 rfl (fun _ => ?_) (fun h => absurd h (by decide))
            refine lv_iconst (v := nI 0) hx hb dMo_makeWords_130 (by decide) ?_
            refine lv_ixor hx hb dMo_makeWords_131 ?_
            refine ck_ri (y := nI (sB (rW h1 l1 (4 * (n + 3) + 0)) ^^^ 0)) (nI_xor _ _) ?_
            refine lv_istore (lv' := [(8, .int (nI (sB (rW h1 l1 (4 * (n + 3) + 0)) ^^^ 0))), (7, .int (nI 3)), (0, .ref oy), (5, .int (nI (kPw n))), (6, .int (nI (n + 4)))]) hx hb dMo_makeWords_132 hl (by decide) rfl (fun ls hl => ?_)
            refine lv_aload_n hx hb dMo_makeWords_134 rfl (lv_at hl 2 rfl) ?_
            refine gfMo_16 hx hb hts hown hG hP 0 rfl rfl dMo_makeWords_135 ?_
            refine lv_iconst (v := nI 4) hx hb dMo_makeWords_138 (by decide) ?_
            refine lv_iload hx hb dMo_makeWords_139 (lv_at hl 4 rfl) ?_
            refine lv_imul hx hb dMo_makeWords_141 ?_
            refine ck_ri (y := nI (4 * (n + 4))) (pk_mul 4 _) ?_
            refine lv_iload hx hb dMo_makeWords_142 (lv_at hl 1 rfl) ?_
            refine lv_iadd hx hb dMo_makeWords_144 ?_
            refine ck_ri (y := nI (4 * (n + 4) + 3)) (nI_add _ _) ?_
            refine lv_aload_n hx hb dMo_makeWords_145 rfl (lv_at hl 2 rfl) ?_
            refine gfMo_16 hx hb hts hown hG hP 0 rfl rfl dMo_makeWords_146 ?_
            refine lv_iconst (v := nI 4) hx hb dMo_makeWords_149 (by decide) ?_
            refine lv_iload hx hb dMo_makeWords_150 (lv_at hl 4 rfl) ?_
            refine lv_imul hx hb dMo_makeWords_152 ?_
            refine ck_ri (y := nI (4 * (n + 4))) (pk_mul 4 _) ?_
            refine lv_bipush (v := nI 16) hx hb dMo_makeWords_153 (by decide) ?_
            refine lv_isub hx hb dMo_makeWords_155 ?_
            refine ck_ri (y := nI (4 * (n + 4) - 16)) (pk_sub (by omega)) ?_
            refine lv_iload hx hb dMo_makeWords_156 (lv_at hl 1 rfl) ?_
            refine lv_iadd hx hb dMo_makeWords_158 ?_
            refine ck_ri (y := nI (4 * n + 3)) (by rw [nI_add, show 4 * (n + 4) - 16 + 3 = 4 * n + 3 by omega]) ?_
            refine ck_iald hx hb hG hP 2 rfl (by decide) (4 * n + 3) (rfl) (by omega) dMo_makeWords_159 ?_
            refine ck_ri (y := nI (rW h1 l1 (4 * n + 3))) (pN_lo _ _ (by omega)) ?_
            refine lv_iload hx hb dMo_makeWords_160 (lv_at hl 0 rfl) ?_
            refine lv_ixor hx hb dMo_makeWords_162 ?_
            refine ck_ri (y := nI (rW h1 l1 (4 * (n + 4) + 3))) ((nI_xor _ _).trans (congrArg nI (rW_p3 h1 l1 hm1).symm)) ?_
            refine ck_iast hx hb hG hP hD hS 2 rfl (by decide) (4 * (n + 4) + 3) (rfl) (by omega) dMo_makeWords_163 (fun H locs hP hD hS => ?_)
            have hP : va_P G.1 vwCl [moC oy r th fi se d sh sl az oh ol w0 w1 w2, aI G (r 0) 256 ckS, aI G (r 2) 176 (upd (pN (4 * (n + 4) + 3) (rW h1 l1) f) (4 * (n + 4) + 3) (nI (rW h1 l1 (4 * (n + 4) + 3))))] H := hP
            have hD : va_D A [moC oy r th fi se d sh sl az oh ol w0 w1 w2, aI G (r 0) 256 ckS, aI G (r 2) 176 (upd (pN (4 * (n + 4) + 3) (rW h1 l1) f) (4 * (n + 4) + 3) (nI (rW h1 l1 (4 * (n + 4) + 3))))] := hD
            have e3 : upd (pN (4 * (n + 4) + 3) (rW h1 l1) f) (4 * (n + 4) + 3) (nI (rW h1 l1 (4 * (n + 4) + 3))) = pN (4 * (n + 4) + 3 + 1) (rW h1 l1) f := pN_upd (4 * (n + 4) + 3) (rW h1 l1) f
            rw [e3] at hP hD
            have hP : va_P G.1 vwCl [moC oy r th fi se d sh sl az oh ol w0 w1 w2, aI G (r 0) 256 ckS, aI G (r 2) 176 (pN (4 * (n + 4) + 4) (rW h1 l1) f)] H := hP
            have hD : va_D A [moC oy r th fi se d sh sl az oh ol w0 w1 w2, aI G (r 0) 256 ckS, aI G (r 2) 176 (pN (4 * (n + 4) + 4) (rW h1 l1) f)] := hD
            refine lv_iinc (v := nI 4) (lv' := [(7, .int (nI 4)), (8, .int (nI (sB (rW h1 l1 (4 * (n + 3) + 0)) ^^^ 0))), (0, .ref oy), (5, .int (nI (kPw n))), (6, .int (nI (n + 4)))]) hx hb dMo_makeWords_164 hl (k := 1) rfl (by decide) (by decide) rfl (fun ls hl => ?_)
            refine lv_goto (tgt := 68) hx hb dMo_makeWords_167 rfl ?_
            refine lv_iload hx hb dMo_makeWords_68 (lv_at hl 0 rfl) ?_
            refine lv_iconst (v := nI 4) hx hb dMo_makeWords_70 (by decide) ?_
            refine lv_icmp_ge (tgt := 170) hx hb dMo_makeWords_71 rfl (fun _ => ?_) (fun h => absurd (by decide) h)
            refine lv_iload hx hb dMo_makeWords_170 (lv_at hl 4 rfl) ?_
            refine lv_iconst (v := nI 4) hx hb dMo_makeWords_172 (by decide) ?_
            refine lv_irem hx hb dMo_makeWords_173 (by decide) ?_
            refine ck_ri (y := nI (n % 4)) (by rw [show nI (n % 4) = nI ((n + 4) % 4) by rw [Nat.add_mod_right]]; exact pk_rem (by omega) (by omega) (by omega)) ?_
            refine lv_if_ne (tgt := 186) hx hb dMo_makeWords_174 rfl (fun h => absurd (by rw [hm1]; rfl) h) (fun _ => ?_)
            refine lv_iload hx hb dMo_makeWords_177 (lv_at hl 3 rfl) ?_
            refine lv_iconst (v := nI 2) hx hb dMo_makeWords_179 (by decide) ?_
            refine clMo_78 (As := [.int (nI (kPw n)), .int (nI 2)]) (rest := []) hx hb hml hown hts (k_Mo_product l G (kPw n) 2 (kPw_lt n) (by decide)) hG hA hP hD hS [] rfl rfl (fun _ => rfl) rfl hl.1 rfl (Nat.le_of_ble_eq_true rfl) ⟨by decide, by decide⟩ ⟨by decide, by decide⟩ dMo_makeWords_180 (fun _ H locs _ hP hD hS => ?_)
            have hP : va_P G.1 vwCl [moC oy r th fi se d sh sl az oh ol w0 w1 w2, aI G (r 0) 256 ckS, aI G (r 2) 176 (pN (4 * (n + 4) + 4) (rW h1 l1) f)] H := hP
            have hD : va_D A [moC oy r th fi se d sh sl az oh ol w0 w1 w2, aI G (r 0) 256 ckS, aI G (r 2) 176 (pN (4 * (n + 4) + 4) (rW h1 l1) f)] := hD
            refine W.cs (cells' := 0) (slots' := 0) rfl rfl ?_
            refine W.eq (g2 := F0 m 183 ls [.int (nI (rPd (kPw n) 2))]) rfl ?_
            refine lv_goto (tgt := 188) hx hb dMo_makeWords_183 rfl ?_
            refine lv_istore (lv' := [(5, .int (nI (rPd (kPw n) 2))), (7, .int (nI 4)), (8, .int (nI (sB (rW h1 l1 (4 * (n + 3) + 0)) ^^^ 0))), (0, .ref oy), (6, .int (nI (n + 4)))]) hx hb dMo_makeWords_188 hl (by decide) rfl (fun ls hl => ?_)
            refine lv_iinc (v := nI (n + 1 + 4)) (lv' := [(6, .int (nI (n + 1 + 4))), (5, .int (nI (rPd (kPw n) 2))), (7, .int (nI 4)), (8, .int (nI (sB (rW h1 l1 (4 * (n + 3) + 0)) ^^^ 0))), (0, .ref oy)]) hx hb dMo_makeWords_190 hl (k := 4) rfl (by rw [show n + 1 + 4 = (n + 4) + 1 by omega]; exact nI_1 (n + 4)) (by decide) rfl (fun ls hl => ?_)
            refine lv_goto (tgt := 58) hx hb dMo_makeWords_193 rfl ?_
            have e9 : kPw (n + 1) = rPd (kPw n) 2 := if_pos hm1
            exact ih (n + 1) _ _ _ (by omega) hP hD hS (by rw [e9]; exact lv_sub hl [4, 1, 0] rfl)
      exact loop1 40 0 _ _ _ (by omega) hP hD hS (lv_sub hl [2, 1, 0] rfl)
    | succ k ih =>
      intro n H locs ls hk hP hD hS hl
      refine lv_iload hx hb dMo_makeWords_3 (lv_at hl 3 rfl) ?_
      refine lv_bipush (v := nI 16) hx hb dMo_makeWords_5 (by decide) ?_
      refine lv_icmp_ge (tgt := 52) hx hb dMo_makeWords_7 rfl (fun h => absurd h (nI_ge (by omega) (by omega))) (fun _ => ?_)
      refine lv_aload_n hx hb dMo_makeWords_10 rfl (lv_at hl 0 rfl) ?_
      refine gfMo_16 hx hb hts hown hG hP 0 rfl rfl dMo_makeWords_11 ?_
      refine lv_iload hx hb dMo_makeWords_14 (lv_at hl 3 rfl) ?_
      refine lv_iload hx hb dMo_makeWords_16 (lv_at hl 3 rfl) ?_
      refine lv_bipush (v := nI 8) hx hb dMo_makeWords_18 (by decide) ?_
      refine lv_icmp_ge (tgt := 27) hx hb dMo_makeWords_20 rfl (fun h8 => ?_) (fun h8 => ?_)
      · have h9 : ¬ n < 8 := by have := (nI_leI (a := 8) (by omega) (by omega)).mp h8; omega
        refine lv_lload_n hx hb dMo_makeWords_27 rfl (lv_at hl 2 rfl) ?_
        refine lv_bipush (v := nI 56) hx hb dMo_makeWords_28 (by decide) ?_
        refine lv_bipush (v := nI 8) hx hb dMo_makeWords_30 (by decide) ?_
        refine lv_iload hx hb dMo_makeWords_32 (lv_at hl 3 rfl) ?_
        refine lv_bipush (v := nI 8) hx hb dMo_makeWords_34 (by decide) ?_
        refine lv_irem hx hb dMo_makeWords_36 (by decide) ?_
        refine ck_ri (y := nI (n % 8)) (irm_nI (by omega) (by decide) (by decide)) ?_
        refine lv_imul hx hb dMo_makeWords_37 ?_
        refine ck_ri (y := nI (8 * (n % 8))) (pk_mul 8 _) ?_
        refine lv_isub hx hb dMo_makeWords_38 ?_
        refine ck_ri (y := nI (56 - 8 * (n % 8))) (pk_sub (by omega)) ?_
        refine lv_lshr (v := lsr l1 (nI (56 - 8 * (n % 8)))) hx hb dMo_makeWords_39 rfl ?_
        refine lv_l2i (v := (lsr l1 (nI (56 - 8 * (n % 8)))).toInt32) hx hb dMo_makeWords_40 rfl ?_
        refine lv_sipush (v := nI 255) hx hb dMo_makeWords_41 (by decide) ?_
        refine lv_iand hx hb dMo_makeWords_44 ?_
        refine ck_ri (y := nI (rW h1 l1 n)) (by rw [rW_lo h1 l1 n (by omega)]; unfold rBy; rw [if_neg h9]; exact (nI_un _).symm) ?_
        refine ck_iast hx hb hG hP hD hS 2 rfl (by decide) n (rfl) (by omega) dMo_makeWords_45 (fun H locs hP hD hS => ?_)
        have hP : va_P G.1 vwCl [moC oy r th fi se d sh sl az oh ol w0 w1 w2, aI G (r 0) 256 ckS, aI G (r 2) 176 (upd (pN n (rW h1 l1) f) n (nI (rW h1 l1 n)))] H := hP
        have hD : va_D A [moC oy r th fi se d sh sl az oh ol w0 w1 w2, aI G (r 0) 256 ckS, aI G (r 2) 176 (upd (pN n (rW h1 l1) f) n (nI (rW h1 l1 n)))] := hD
        refine lv_iinc (v := nI (n + 1)) (lv' := [(5, .int (nI (n + 1))), (0, .ref oy), (1, .long h1), (3, .long l1)]) hx hb dMo_makeWords_46 hl (k := 3) rfl (nI_1 n) (by decide) rfl (fun ls hl => ?_)
        refine lv_goto (tgt := 3) hx hb dMo_makeWords_49 rfl ?_
        have e1 : upd (pN n (rW h1 l1) f) n (nI (rW h1 l1 n)) = pN (n + 1) (rW h1 l1) f := pN_upd n (rW h1 l1) f
        rw [e1] at hP hD
        exact ih (n + 1) _ _ _ (by omega) hP hD hS (lv_sub hl [1, 2, 3, 0] rfl)
      · have h9 : n < 8 := Nat.not_le.mp (fun z => h8 ((nI_leI (a := 8) (by omega) (by omega)).mpr z))
        refine lv_lload_n hx hb dMo_makeWords_23 rfl (lv_at hl 1 rfl) ?_
        refine lv_goto (tgt := 28) hx hb dMo_makeWords_24 rfl ?_
        refine lv_bipush (v := nI 56) hx hb dMo_makeWords_28 (by decide) ?_
        refine lv_bipush (v := nI 8) hx hb dMo_makeWords_30 (by decide) ?_
        refine lv_iload hx hb dMo_makeWords_32 (lv_at hl 3 rfl) ?_
        refine lv_bipush (v := nI 8) hx hb dMo_makeWords_34 (by decide) ?_
        refine lv_irem hx hb dMo_makeWords_36 (by decide) ?_
        refine ck_ri (y := nI (n % 8)) (irm_nI (by omega) (by decide) (by decide)) ?_
        refine lv_imul hx hb dMo_makeWords_37 ?_
        refine ck_ri (y := nI (8 * (n % 8))) (pk_mul 8 _) ?_
        refine lv_isub hx hb dMo_makeWords_38 ?_
        refine ck_ri (y := nI (56 - 8 * (n % 8))) (pk_sub (by omega)) ?_
        refine lv_lshr (v := lsr h1 (nI (56 - 8 * (n % 8)))) hx hb dMo_makeWords_39 rfl ?_
        refine lv_l2i (v := (lsr h1 (nI (56 - 8 * (n % 8)))).toInt32) hx hb dMo_makeWords_40 rfl ?_
        refine lv_sipush (v := nI 255) hx hb dMo_makeWords_41 (by decide) ?_
        refine lv_iand hx hb dMo_makeWords_44 ?_
        refine ck_ri (y := nI (rW h1 l1 n)) (by rw [rW_lo h1 l1 n (by omega)]; unfold rBy; rw [if_pos h9]; exact (nI_un _).symm) ?_
        refine ck_iast hx hb hG hP hD hS 2 rfl (by decide) n (rfl) (by omega) dMo_makeWords_45 (fun H locs hP hD hS => ?_)
        have hP : va_P G.1 vwCl [moC oy r th fi se d sh sl az oh ol w0 w1 w2, aI G (r 0) 256 ckS, aI G (r 2) 176 (upd (pN n (rW h1 l1) f) n (nI (rW h1 l1 n)))] H := hP
        have hD : va_D A [moC oy r th fi se d sh sl az oh ol w0 w1 w2, aI G (r 0) 256 ckS, aI G (r 2) 176 (upd (pN n (rW h1 l1) f) n (nI (rW h1 l1 n)))] := hD
        refine lv_iinc (v := nI (n + 1)) (lv' := [(5, .int (nI (n + 1))), (0, .ref oy), (1, .long h1), (3, .long l1)]) hx hb dMo_makeWords_46 hl (k := 3) rfl (nI_1 n) (by decide) rfl (fun ls hl => ?_)
        refine lv_goto (tgt := 3) hx hb dMo_makeWords_49 rfl ?_
        have e1 : upd (pN n (rW h1 l1) f) n (nI (rW h1 l1 n)) = pN (n + 1) (rW h1 l1) f := pN_upd n (rW h1 l1) f
        rw [e1] at hP hD
        exact ih (n + 1) _ _ _ (by omega) hP hD hS (lv_sub hl [1, 2, 3, 0] rfl)
  exact loop0 16 0 _ _ _ (by omega) hP hD hS (lv_sub hl [1, 2, 3, 0] rfl)
