/-! the reference: covers, periods -/
theorem x1_lt {v dp : Nat} (h : v < 2 * 2 ^ dp) : v ^^^ 1 < 2 * 2 ^ dp := by
  rw [show 2 * 2 ^ dp = 2 ^ (dp + 1) by rw [Nat.pow_succ]; omega] at h ⊢
  exact Nat.xor_lt_two_pow h (Nat.one_lt_two_pow (by omega))
theorem x1_pos {v : Nat} (h : 2 ≤ v) : 1 ≤ v ^^^ 1 := by
  have h1 : (v ^^^ 1) / 2 ^ 1 = v / 2 ^ 1 ^^^ 1 / 2 ^ 1 := Nat.xor_div_two_pow
  rw [show 1 / 2 ^ 1 = 0 from rfl, Nat.xor_zero] at h1
  omega
theorem x8_up {x y k : Nat} (h : 2 ^ 8 ≤ x * 2 ^ (k + 1)) (hy : 2 * x ≤ y) : 2 ^ 8 ≤ y * 2 ^ k := by
  have h1 : x * 2 ^ (k + 1) = 2 * x * 2 ^ k := by rw [Nat.pow_succ 2 k, Nat.mul_comm (2 ^ k) 2, ← Nat.mul_assoc, Nat.mul_comm x 2]
  have h2 := Nat.mul_le_mul_right (2 ^ k) hy
  rw [h1] at h
  exact Nat.le_trans h h2
theorem cvI_mf {M : Nat → Int32} {n : Nat} (fv fw : Nat → Int32) {i : Nat} (hB : ¬ cvB M n (i + 1)) : cvI M n fv fw (min (i + 1) (n - 1)) = cvI M n fv fw (min i (n - 1)) := by
  by_cases h : i + 1 ≤ n - 1
  · rw [Nat.min_eq_left h, Nat.min_eq_left (by omega)]
    exact cvI_f fv fw hB
  · rw [Nat.min_eq_right (by omega), Nat.min_eq_right (by omega)]
theorem cvR_t {M g : Nat → Int32} {dp : Nat} (hdp : dp ≤ 8) (hM : mkOk M g (2 ^ dp)) (fv fw : Nat → Int32) {i : Nat} (hB : cvB M (2 ^ dp) (i + 1)) {c4 q : Nat} {sv sw sv1 sw1 : Nat → Int32} (h : cvR c4 sv sw sv1 sw1 (cvI M (2 ^ dp) fv fw (min i (2 ^ dp - 1))) q) :
    cvR c4 sv sw (upd sv1 (256 * c4 + q) (nI (i + 1))) (upd sw1 (256 * c4 + q) (nI (jLast M (2 ^ dp) (i + 1)))) (cvI M (2 ^ dp) fv fw (min (i + 1) (2 ^ dp - 1))) (q + 1) := by
  have hv := (cvB_ch hB).1
  rw [Nat.min_eq_left (by omega)] at h
  rw [Nat.min_eq_left (by omega), cvI_t hdp hM fv fw hv hB]
  have hl := cvI_lt hdp hM fv fw hv hB
  rw [h.1] at hl
  exact cvR_add h hl _ _
set_option maxHeartbeats 4000000 in
set_option maxRecDepth 100000 in
theorem k_Mo_makeCover (l : Launch) (G : gG) (oy : Nat) (r : Nat → Nat) (th : Int32) (fi se : Int64) (dp : Nat) (hdp : dp ≤ 8) (sh sl : Int64) (az : Int32) (oh ol w0 w1 w2 : Int64) (c4 : Nat) (hc : c4 < 4) (sb mk sv sw ss M g fv fw : Nat → Int32) (hsb : ∀ j, j < 256 → sb (256 * c4 + j) = g j) (hM : mkOk M g (2 ^ dp)) : Cq l G yMo_makeCover cMo_makeCover 8 none { frames := 1, cells := 0, slots := 0, locals := 20 } [.ref oy, .int (nI c4)] [moC oy r th fi se (nI dp) sh sl az oh ol w0 w1 w2, aZ G (r 6) 1024 sb, aZ G (r 13) 512 mk, aI G (r 11) 1024 sv, aI G (r 12) 1024 sw, aI G (r 10) 4 ss] (S := (Nat → Int32) × (Nat → Int32) × (Nat → Int32)) (fun u => cvR c4 sv sw u.2.1 u.2.2 (jCov M (2 ^ dp) fv fw) (jCov M (2 ^ dp) fv fw).1) (fun u => none) (fun u => [moC oy r th fi se (nI dp) sh sl az oh ol w0 w1 w2, aZ G (r 6) 1024 sb, aZ G (r 13) 512 u.1, aI G (r 11) 1024 u.2.1, aI G (r 12) 1024 u.2.2, aI G (r 10) 4 (upd ss c4 (nI (jCov M (2 ^ dp) fv fw).1))]) := by
  refine Cq.of (by decide) (Nat.le_of_ble_eq_true rfl) ?_
  intro p e s m args below meth c A ls hx hb hr hml hts hown hlk hA hP hD hG hS hl
  have hp2 := p2_le hdp
  have hp1 := Nat.two_pow_pos dp
  have hl : lv_has ls 8 [(0, .ref oy), (1, .int (nI c4))] := hl
  refine lv_aload_n hx hb dMo_makeCover_0 rfl (lv_at hl 0 rfl) ?_
  refine clMo_139 (As := []) (rest := []) hx hb hml hown hts (k_Mo_leaves l G oy r th fi se dp hdp sh sl az oh ol w0 w1 w2) hG hA hP hD hS 0 rfl [0] rfl rfl (fun _ => rfl) rfl hl.1 rfl (Nat.le_of_ble_eq_true rfl) ⟨by decide, by decide⟩ ⟨by decide, by decide⟩ dMo_makeCover_1 (fun _ H locs _ hP hD hS => ?_)
  have hP : va_P G.1 vwCl [moC oy r th fi se (nI dp) sh sl az oh ol w0 w1 w2, aZ G (r 6) 1024 sb, aZ G (r 13) 512 mk, aI G (r 11) 1024 sv, aI G (r 12) 1024 sw, aI G (r 10) 4 ss] H := hP
  have hD : va_D A [moC oy r th fi se (nI dp) sh sl az oh ol w0 w1 w2, aZ G (r 6) 1024 sb, aZ G (r 13) 512 mk, aI G (r 11) 1024 sv, aI G (r 12) 1024 sw, aI G (r 10) 4 ss] := hD
  refine W.cs (cells' := 0) (slots' := 0) rfl rfl ?_
  refine W.eq (g2 := F0 m 4 ls [.int (nI (2 ^ dp))]) rfl ?_
  refine lv_istore_n (lv' := [(2, .int (nI (2 ^ dp))), (0, .ref oy), (1, .int (nI c4))]) hx hb dMo_makeCover_4 rfl hl (by decide) rfl (fun ls hl => ?_)
  refine lv_iconst (v := nI 2) hx hb dMo_makeCover_5 (by decide) ?_
  refine lv_iload_n hx hb dMo_makeCover_6 rfl (lv_at hl 0 rfl) ?_
  refine lv_imul hx hb dMo_makeCover_7 ?_
  refine ck_ri (y := nI (2 * 2 ^ dp)) (pk_mul 2 _) ?_
  refine lv_iconst (v := nI 1) hx hb dMo_makeCover_8 (by decide) ?_
  refine lv_isub hx hb dMo_makeCover_9 ?_
  refine ck_ri (y := nI (2 * 2 ^ dp - 1 - 0)) (pk_sub (by omega)) ?_
  refine lv_istore_n (lv' := [(3, .int (nI (2 * 2 ^ dp - 1 - 0))), (2, .int (nI (2 ^ dp))), (0, .ref oy), (1, .int (nI c4))]) hx hb dMo_makeCover_10 rfl hl (by decide) rfl (fun ls hl => ?_)
  have loop : ∀ (k : Nat) (i : Nat) (mk1 : Nat → Int32) (H : Heap) (locs : List Loc) (ls : Array Slot), i + k = 2 * 2 ^ dp - 1 → (∀ j, 2 * 2 ^ dp - 1 - i < j → j < 2 * 2 ^ dp → mk1 j = M j) → va_P G.1 vwCl [moC oy r th fi se (nI dp) sh sl az oh ol w0 w1 w2, aZ G (r 6) 1024 sb, aZ G (r 13) 512 mk1, aI G (r 11) 1024 sv, aI G (r 12) 1024 sw, aI G (r 10) 4 ss] H → va_D A [moC oy r th fi se (nI dp) sh sl az oh ol w0 w1 w2, aZ G (r 6) 1024 sb, aZ G (r 13) 512 mk1, aI G (r 11) 1024 sv, aI G (r 12) 1024 sw, aI G (r 10) 4 ss] → va_S A s.heap H locs → lv_has ls 8 [(0, .ref oy), (1, .int (nI c4)), (2, .int (nI (2 ^ dp))), (3, .int (nI (2 * 2 ^ dp - 1 - i)))] → W p l e { frames := 1, cells := 0, slots := 0, locals := 20 } s m args below meth c H locs 0 0 (MQ below (cq_out G (S := (Nat → Int32) × (Nat → Int32) × (Nat → Int32)) (fun u => cvR c4 sv sw u.2.1 u.2.2 (jCov M (2 ^ dp) fv fw) (jCov M (2 ^ dp) fv fw).1) (fun u => none) (fun u => [moC oy r th fi se (nI dp) sh sl az oh ol w0 w1 w2, aZ G (r 6) 1024 sb, aZ G (r 13) 512 u.1, aI G (r 11) 1024 u.2.1, aI G (r 12) 1024 u.2.2, aI G (r 10) 4 (upd ss c4 (nI (jCov M (2 ^ dp) fv fw).1))]) A) args s 0 0 A) (F0 m 11 ls []) := by
    intro k
    induction k with
    | zero =>
      intro i mk1 H locs ls hk hq hP hD hS hl
      refine lv_iload_n hx hb dMo_makeCover_11 rfl (lv_at hl 3 rfl) ?_
      refine lv_if_le (tgt := 86) hx hb dMo_makeCover_12 rfl (fun _ => ?_) (fun h => absurd (by rw [show 2 * 2 ^ dp - 1 - i = 0 by omega]; decide) h)
      refine lv_sipush (v := nI 256) hx hb dMo_makeCover_86 (by decide) ?_
      refine lv_iload_n hx hb dMo_makeCover_89 rfl (lv_at hl 1 rfl) ?_
      refine lv_imul hx hb dMo_makeCover_90 ?_
      refine ck_ri (y := nI (256 * c4)) (pk_mul 256 _) ?_
      refine lv_istore_n (lv' := [(3, .int (nI (256 * c4))), (0, .ref oy), (1, .int (nI c4)), (2, .int (nI (2 ^ dp)))]) hx hb dMo_makeCover_91 rfl hl (by decide) rfl (fun ls hl => ?_)
      have hM1 : ∀ j, 1 ≤ j → j < 2 * 2 ^ dp → mk1 j = M j := fun j a b => hq j (by omega) b
      have loop9 : ∀ (k9 : Nat) (i : Nat) (q : Nat) (sv1 : Nat → Int32) (sw1 : Nat → Int32) (H : Heap) (locs : List Loc) (ls : Array Slot), i + k9 = 2 * 2 ^ dp - 1 → cvR c4 sv sw sv1 sw1 (cvI M (2 ^ dp) fv fw (min i (2 ^ dp - 1))) q → va_P G.1 vwCl [moC oy r th fi se (nI dp) sh sl az oh ol w0 w1 w2, aZ G (r 6) 1024 sb, aZ G (r 13) 512 mk1, aI G (r 11) 1024 sv1, aI G (r 12) 1024 sw1, aI G (r 10) 4 ss] H → va_D A [moC oy r th fi se (nI dp) sh sl az oh ol w0 w1 w2, aZ G (r 6) 1024 sb, aZ G (r 13) 512 mk1, aI G (r 11) 1024 sv1, aI G (r 12) 1024 sw1, aI G (r 10) 4 ss] → va_S A s.heap H locs → lv_has ls 8 [(0, .ref oy), (1, .int (nI c4)), (2, .int (nI (2 ^ dp))), (3, .int (nI (256 * c4))), (4, .int (nI q)), (5, .int (nI (i + 1)))] → W p l e { frames := 1, cells := 0, slots := 0, locals := 20 } s m args below meth c H locs 0 0 (MQ below (cq_out G (S := (Nat → Int32) × (Nat → Int32) × (Nat → Int32)) (fun u => cvR c4 sv sw u.2.1 u.2.2 (jCov M (2 ^ dp) fv fw) (jCov M (2 ^ dp) fv fw).1) (fun u => none) (fun u => [moC oy r th fi se (nI dp) sh sl az oh ol w0 w1 w2, aZ G (r 6) 1024 sb, aZ G (r 13) 512 u.1, aI G (r 11) 1024 u.2.1, aI G (r 12) 1024 u.2.2, aI G (r 10) 4 (upd ss c4 (nI (jCov M (2 ^ dp) fv fw).1))]) A) args s 0 0 A) (F0 m 124 ls []) := by
        intro k9
        induction k9 with
        | zero =>
          intro i q sv1 sw1 H locs ls hk9 hR hP hD hS hl
          have hR2 : cvR c4 sv sw sv1 sw1 (jCov M (2 ^ dp) fv fw) q := by rw [Nat.min_eq_right (by omega), cvI_end] at hR; exact hR
          refine lv_iload hx hb dMo_makeCover_124 (lv_at hl 5 rfl) ?_
          refine lv_iconst (v := nI 2) hx hb dMo_makeCover_126 (by decide) ?_
          refine lv_iload_n hx hb dMo_makeCover_127 rfl (lv_at hl 2 rfl) ?_
          refine lv_imul hx hb dMo_makeCover_128 ?_
          refine ck_ri (y := nI (2 * 2 ^ dp)) (pk_mul 2 _) ?_
          refine lv_icmp_ge (tgt := 273) hx hb dMo_makeCover_129 rfl (fun _ => ?_) (fun h => absurd (nI_le (by omega) (by omega)) h)
          refine lv_aload_n hx hb dMo_makeCover_273 rfl (lv_at hl 0 rfl) ?_
          refine gfMo_42 hx hb hts hown hG hP 0 rfl rfl dMo_makeCover_274 ?_
          refine lv_iload_n hx hb dMo_makeCover_277 rfl (lv_at hl 1 rfl) ?_
          refine lv_iload hx hb dMo_makeCover_278 (lv_at hl 4 rfl) ?_
          refine ck_iast hx hb hG hP hD hS 5 rfl (by decide) c4 (rfl) (hc) dMo_makeCover_280 (fun H locs hP hD hS => ?_)
          have hP : va_P G.1 vwCl [moC oy r th fi se (nI dp) sh sl az oh ol w0 w1 w2, aZ G (r 6) 1024 sb, aZ G (r 13) 512 mk1, aI G (r 11) 1024 sv1, aI G (r 12) 1024 sw1, aI G (r 10) 4 (upd ss c4 (nI q))] H := hP
          have hD : va_D A [moC oy r th fi se (nI dp) sh sl az oh ol w0 w1 w2, aZ G (r 6) 1024 sb, aZ G (r 13) 512 mk1, aI G (r 11) 1024 sv1, aI G (r 12) 1024 sw1, aI G (r 10) 4 (upd ss c4 (nI q))] := hD
          exact cq_vret (mk1, sv1, sw1) (by show cvR c4 sv sw sv1 sw1 (jCov M (2 ^ dp) fv fw) (jCov M (2 ^ dp) fv fw).1; rw [hR2.1]; exact hR2) hx hb hr hlk hP hS rfl (by rw [hR2.1]) dMo_makeCover_281
        | succ k9 ih9 =>
          intro i q sv1 sw1 H locs ls hk9 hR hP hD hS hl
          have hq9 := hR.2.1
          refine lv_iload hx hb dMo_makeCover_124 (lv_at hl 5 rfl) ?_
          refine lv_iconst (v := nI 2) hx hb dMo_makeCover_126 (by decide) ?_
          refine lv_iload_n hx hb dMo_makeCover_127 rfl (lv_at hl 2 rfl) ?_
          refine lv_imul hx hb dMo_makeCover_128 ?_
          refine ck_ri (y := nI (2 * 2 ^ dp)) (pk_mul 2 _) ?_
          refine lv_icmp_ge (tgt := 273) hx hb dMo_makeCover_129 rfl (fun h => absurd h (nI_ge (by omega) (by omega))) (fun _ => ?_)
          refine lv_aload_n hx hb dMo_makeCover_132 rfl (lv_at hl 0 rfl) ?_
          refine gfMo_51 hx hb hts hown hG hP 0 rfl rfl dMo_makeCover_133 ?_
          refine lv_iload hx hb dMo_makeCover_136 (lv_at hl 5 rfl) ?_
          refine ck_zald hx hb hG hP 2 rfl (by decide) (i + 1) (rfl) (by omega) dMo_makeCover_138 ?_
          refine ck_ri (y := M (i + 1)) (hM1 _ (by omega) (by omega)) ?_
          refine lv_if_eq (tgt := 164) hx hb dMo_makeCover_139 rfl (fun h1 => ?_) (fun h1 => ?_)
          · have hv0 : M (i + 1) = 0 := h1
            refine lv_iconst (v := nI 0) hx hb dMo_makeCover_164 (by decide) ?_
            refine lv_istore (lv' := [(6, .int (nI 0)), (0, .ref oy), (1, .int (nI c4)), (2, .int (nI (2 ^ dp))), (3, .int (nI (256 * c4))), (4, .int (nI q)), (5, .int (nI (i + 1)))]) hx hb dMo_makeCover_165 hl (by decide) rfl (fun ls hl => ?_)
            refine lv_iload hx hb dMo_makeCover_167 (lv_at hl 6 rfl) ?_
            refine lv_istore (lv' := [(7, .int (nI (i + 1))), (6, .int (nI 0)), (0, .ref oy), (1, .int (nI c4)), (2, .int (nI (2 ^ dp))), (3, .int (nI (256 * c4))), (4, .int (nI q)), (5, .int (nI (i + 1)))]) hx hb dMo_makeCover_169 hl (by decide) rfl (fun ls hl => ?_)
            have hB : ¬ cvB M (2 ^ dp) (i + 1) := fun z => z.1 hv0
            refine lv_iload hx hb dMo_makeCover_171 (lv_at hl 1 rfl) ?_
            refine lv_if_eq (tgt := 235) hx hb dMo_makeCover_173 rfl (fun _ => ?_) (fun h => absurd (rfl) h)
            refine lv_iload hx hb dMo_makeCover_235 (lv_at hl 0 rfl) ?_
            refine lv_iload hx hb dMo_makeCover_237 (lv_at hl 7 rfl) ?_
            refine lv_icmp_eq (tgt := 267) hx hb dMo_makeCover_239 rfl (fun _ => ?_) (fun h => absurd (rfl) h)
            refine lv_iinc (v := nI (i + 1 + 1)) (lv' := [(5, .int (nI (i + 1 + 1))), (7, .int (nI (i + 1))), (6, .int (nI 0)), (0, .ref oy), (1, .int (nI c4)), (2, .int (nI (2 ^ dp))), (3, .int (nI (256 * c4))), (4, .int (nI q))]) hx hb dMo_makeCover_267 hl (k := 7) rfl (nI_1 (i + 1)) (by decide) rfl (fun ls hl => ?_)
            refine lv_goto (tgt := 124) hx hb dMo_makeCover_270 rfl ?_
            exact ih9 (i + 1) q _ _ _ _ _ (by omega) (by rw [cvI_mf fv fw hB]; exact hR) hP hD hS (lv_sub hl [3, 4, 5, 6, 7, 0] rfl)
          · have hv1 : ¬ M (i + 1) = 0 := h1
            refine lv_iload hx hb dMo_makeCover_142 (lv_at hl 5 rfl) ?_
            refine lv_iconst (v := nI 1) hx hb dMo_makeCover_144 (by decide) ?_
            refine lv_icmp_eq (tgt := 160) hx hb dMo_makeCover_145 rfl (fun h2 => ?_) (fun h2 => ?_)
            · have hs1 : i + 1 = 1 := (nI_eq (by omega) (by omega)).mp h2
              refine lv_iconst (v := nI 1) hx hb dMo_makeCover_160 (by decide) ?_
              refine lv_goto (tgt := 165) hx hb dMo_makeCover_161 rfl ?_
              refine lv_istore (lv' := [(6, .int (nI 1)), (0, .ref oy), (1, .int (nI c4)), (2, .int (nI (2 ^ dp))), (3, .int (nI (256 * c4))), (4, .int (nI q)), (5, .int (nI (i + 1)))]) hx hb dMo_makeCover_165 hl (by decide) rfl (fun ls hl => ?_)
              refine lv_iload hx hb dMo_makeCover_167 (lv_at hl 6 rfl) ?_
              refine lv_istore (lv' := [(7, .int (nI (i + 1))), (6, .int (nI 1)), (0, .ref oy), (1, .int (nI c4)), (2, .int (nI (2 ^ dp))), (3, .int (nI (256 * c4))), (4, .int (nI q)), (5, .int (nI (i + 1)))]) hx hb dMo_makeCover_169 hl (by decide) rfl (fun ls hl => ?_)
              have hs : i + 1 = 1 ∨ ¬ M ((i + 1) ^^^ 1) = 0 := Or.inl hs1
              have loop8 : ∀ (k8 : Nat) (x : Nat) (H : Heap) (locs : List Loc) (ls : Array Slot), 2 ^ 8 ≤ x * 2 ^ k8 → 1 ≤ x → x < 2 * 2 ^ dp → jLast M (2 ^ dp) (i + 1) = jLF M (2 ^ dp) k8 x → va_P G.1 vwCl [moC oy r th fi se (nI dp) sh sl az oh ol w0 w1 w2, aZ G (r 6) 1024 sb, aZ G (r 13) 512 mk1, aI G (r 11) 1024 sv1, aI G (r 12) 1024 sw1, aI G (r 10) 4 ss] H → va_D A [moC oy r th fi se (nI dp) sh sl az oh ol w0 w1 w2, aZ G (r 6) 1024 sb, aZ G (r 13) 512 mk1, aI G (r 11) 1024 sv1, aI G (r 12) 1024 sw1, aI G (r 10) 4 ss] → va_S A s.heap H locs → lv_has ls 8 [(0, .ref oy), (1, .int (nI c4)), (2, .int (nI (2 ^ dp))), (3, .int (nI (256 * c4))), (4, .int (nI q)), (5, .int (nI (i + 1))), (6, .int (nI 1)), (7, .int (nI x))] → W p l e { frames := 1, cells := 0, slots := 0, locals := 20 } s m args below meth c H locs 0 0 (MQ below (cq_out G (S := (Nat → Int32) × (Nat → Int32) × (Nat → Int32)) (fun u => cvR c4 sv sw u.2.1 u.2.2 (jCov M (2 ^ dp) fv fw) (jCov M (2 ^ dp) fv fw).1) (fun u => none) (fun u => [moC oy r th fi se (nI dp) sh sl az oh ol w0 w1 w2, aZ G (r 6) 1024 sb, aZ G (r 13) 512 u.1, aI G (r 11) 1024 u.2.1, aI G (r 12) 1024 u.2.2, aI G (r 10) 4 (upd ss c4 (nI (jCov M (2 ^ dp) fv fw).1))]) A) args s 0 0 A) (F0 m 171 ls []) := by
                intro k8
                induction k8 with
                | zero =>
                  intro x H locs ls hk8 hx1 hx2 hq8 hP hD hS hl
                  have hlast : jLast M (2 ^ dp) (i + 1) = x := hq8
                  refine lv_iload hx hb dMo_makeCover_171 (lv_at hl 6 rfl) ?_
                  refine lv_if_eq (tgt := 235) hx hb dMo_makeCover_173 rfl (fun h => absurd h (by decide)) (fun _ => ?_)
                  refine lv_iload hx hb dMo_makeCover_176 (lv_at hl 7 rfl) ?_
                  refine lv_iload_n hx hb dMo_makeCover_178 rfl (lv_at hl 2 rfl) ?_
                  refine lv_icmp_ge (tgt := 235) hx hb dMo_makeCover_179 rfl (fun _ => ?_) (fun h => absurd (nI_le (by omega) (by omega)) h)
                  refine lv_iload hx hb dMo_makeCover_235 (lv_at hl 7 rfl) ?_
                  refine lv_iload hx hb dMo_makeCover_237 (lv_at hl 5 rfl) ?_
                  refine lv_icmp_eq (tgt := 267) hx hb dMo_makeCover_239 rfl (fun h0 => ?_) (fun h0 => ?_)
                  · have hne : x = i + 1 := (nI_eq (by omega) (by omega)).mp h0
                    have hB : ¬ cvB M (2 ^ dp) (i + 1) := fun z => z.2.2 (by rw [hlast, hne])
                    refine lv_iinc (v := nI (i + 1 + 1)) (lv' := [(5, .int (nI (i + 1 + 1))), (0, .ref oy), (1, .int (nI c4)), (2, .int (nI (2 ^ dp))), (3, .int (nI (256 * c4))), (4, .int (nI q)), (6, .int (nI 1)), (7, .int (nI x))]) hx hb dMo_makeCover_267 hl (k := 5) rfl (nI_1 (i + 1)) (by decide) rfl (fun ls hl => ?_)
                    refine lv_goto (tgt := 124) hx hb dMo_makeCover_270 rfl ?_
                    exact ih9 (i + 1) q _ _ _ _ _ (by omega) (by rw [cvI_mf fv fw hB]; exact hR) hP hD hS (lv_sub hl [1, 2, 3, 4, 5, 0] rfl)
                  · have hne : ¬ x = i + 1 := fun z => h0 (by rw [z])
                    refine lv_aload_n hx hb dMo_makeCover_242 rfl (lv_at hl 0 rfl) ?_
                    refine gfMo_45 hx hb hts hown hG hP 0 rfl rfl dMo_makeCover_243 ?_
                    refine lv_iload_n hx hb dMo_makeCover_246 rfl (lv_at hl 3 rfl) ?_
                    refine lv_iload hx hb dMo_makeCover_247 (lv_at hl 4 rfl) ?_
                    refine lv_iadd hx hb dMo_makeCover_249 ?_
                    refine ck_ri (y := nI (256 * c4 + q)) (nI_add _ _) ?_
                    refine lv_iload hx hb dMo_makeCover_250 (lv_at hl 5 rfl) ?_
                    refine ck_iast hx hb hG hP hD hS 3 rfl (by decide) (256 * c4 + q) (rfl) (by omega) dMo_makeCover_252 (fun H locs hP hD hS => ?_)
                    have hP : va_P G.1 vwCl [moC oy r th fi se (nI dp) sh sl az oh ol w0 w1 w2, aZ G (r 6) 1024 sb, aZ G (r 13) 512 mk1, aI G (r 11) 1024 (upd sv1 (256 * c4 + q) (nI (i + 1))), aI G (r 12) 1024 sw1, aI G (r 10) 4 ss] H := hP
                    have hD : va_D A [moC oy r th fi se (nI dp) sh sl az oh ol w0 w1 w2, aZ G (r 6) 1024 sb, aZ G (r 13) 512 mk1, aI G (r 11) 1024 (upd sv1 (256 * c4 + q) (nI (i + 1))), aI G (r 12) 1024 sw1, aI G (r 10) 4 ss] := hD
                    refine lv_aload_n hx hb dMo_makeCover_253 rfl (lv_at hl 0 rfl) ?_
                    refine gfMo_48 hx hb hts hown hG hP 0 rfl rfl dMo_makeCover_254 ?_
                    refine lv_iload_n hx hb dMo_makeCover_257 rfl (lv_at hl 3 rfl) ?_
                    refine lv_iload hx hb dMo_makeCover_258 (lv_at hl 4 rfl) ?_
                    refine lv_iadd hx hb dMo_makeCover_260 ?_
                    refine ck_ri (y := nI (256 * c4 + q)) (nI_add _ _) ?_
                    refine lv_iload hx hb dMo_makeCover_261 (lv_at hl 7 rfl) ?_
                    refine ck_iast hx hb hG hP hD hS 4 rfl (by decide) (256 * c4 + q) (rfl) (by omega) dMo_makeCover_263 (fun H locs hP hD hS => ?_)
                    have hP : va_P G.1 vwCl [moC oy r th fi se (nI dp) sh sl az oh ol w0 w1 w2, aZ G (r 6) 1024 sb, aZ G (r 13) 512 mk1, aI G (r 11) 1024 (upd sv1 (256 * c4 + q) (nI (i + 1))), aI G (r 12) 1024 (upd sw1 (256 * c4 + q) (nI x)), aI G (r 10) 4 ss] H := hP
                    have hD : va_D A [moC oy r th fi se (nI dp) sh sl az oh ol w0 w1 w2, aZ G (r 6) 1024 sb, aZ G (r 13) 512 mk1, aI G (r 11) 1024 (upd sv1 (256 * c4 + q) (nI (i + 1))), aI G (r 12) 1024 (upd sw1 (256 * c4 + q) (nI x)), aI G (r 10) 4 ss] := hD
                    refine lv_iinc (v := nI (q + 1)) (lv' := [(4, .int (nI (q + 1))), (0, .ref oy), (1, .int (nI c4)), (2, .int (nI (2 ^ dp))), (3, .int (nI (256 * c4))), (5, .int (nI (i + 1))), (6, .int (nI 1)), (7, .int (nI x))]) hx hb dMo_makeCover_264 hl (k := 4) rfl (nI_1 q) (by decide) rfl (fun ls hl => ?_)
                    refine lv_iinc (v := nI (i + 1 + 1)) (lv' := [(5, .int (nI (i + 1 + 1))), (4, .int (nI (q + 1))), (0, .ref oy), (1, .int (nI c4)), (2, .int (nI (2 ^ dp))), (3, .int (nI (256 * c4))), (6, .int (nI 1)), (7, .int (nI x))]) hx hb dMo_makeCover_267 hl (k := 5) rfl (nI_1 (i + 1)) (by decide) rfl (fun ls hl => ?_)
                    refine lv_goto (tgt := 124) hx hb dMo_makeCover_270 rfl ?_
                    have hB : cvB M (2 ^ dp) (i + 1) := ⟨hv1, hs, fun z => hne (by rw [← z, hlast])⟩
                    have hR3 := cvR_t hdp hM fv fw hB hR
                    rw [hlast] at hR3
                    exact ih9 (i + 1) (q + 1) _ _ _ _ _ (by omega) hR3 hP hD hS (lv_sub hl [2, 3, 4, 5, 1, 0] rfl)
                | succ k8 ih8 =>
                  intro x H locs ls hk8 hx1 hx2 hq8 hP hD hS hl
                  refine lv_iload hx hb dMo_makeCover_171 (lv_at hl 6 rfl) ?_
                  refine lv_if_eq (tgt := 235) hx hb dMo_makeCover_173 rfl (fun h => absurd h (by decide)) (fun _ => ?_)
                  refine lv_iload hx hb dMo_makeCover_176 (lv_at hl 7 rfl) ?_
                  refine lv_iload_n hx hb dMo_makeCover_178 rfl (lv_at hl 2 rfl) ?_
                  refine lv_icmp_ge (tgt := 235) hx hb dMo_makeCover_179 rfl (fun h6 => ?_) (fun h6 => ?_)
                  · have h5 : 2 ^ dp ≤ x := (nI_leI (by omega) (by omega)).mp h6
                    have hlast : jLast M (2 ^ dp) (i + 1) = x := by rw [hq8, jLF, if_pos h5]
                    refine lv_iload hx hb dMo_makeCover_235 (lv_at hl 7 rfl) ?_
                    refine lv_iload hx hb dMo_makeCover_237 (lv_at hl 5 rfl) ?_
                    refine lv_icmp_eq (tgt := 267) hx hb dMo_makeCover_239 rfl (fun h0 => ?_) (fun h0 => ?_)
                    · have hne : x = i + 1 := (nI_eq (by omega) (by omega)).mp h0
                      have hB : ¬ cvB M (2 ^ dp) (i + 1) := fun z => z.2.2 (by rw [hlast, hne])
                      refine lv_iinc (v := nI (i + 1 + 1)) (lv' := [(5, .int (nI (i + 1 + 1))), (0, .ref oy), (1, .int (nI c4)), (2, .int (nI (2 ^ dp))), (3, .int (nI (256 * c4))), (4, .int (nI q)), (6, .int (nI 1)), (7, .int (nI x))]) hx hb dMo_makeCover_267 hl (k := 5) rfl (nI_1 (i + 1)) (by decide) rfl (fun ls hl => ?_)
                      refine lv_goto (tgt := 124) hx hb dMo_makeCover_270 rfl ?_
                      exact ih9 (i + 1) q _ _ _ _ _ (by omega) (by rw [cvI_mf fv fw hB]; exact hR) hP hD hS (lv_sub hl [1, 2, 3, 4, 5, 0] rfl)
                    · have hne : ¬ x = i + 1 := fun z => h0 (by rw [z])
                      refine lv_aload_n hx hb dMo_makeCover_242 rfl (lv_at hl 0 rfl) ?_
                      refine gfMo_45 hx hb hts hown hG hP 0 rfl rfl dMo_makeCover_243 ?_
                      refine lv_iload_n hx hb dMo_makeCover_246 rfl (lv_at hl 3 rfl) ?_
                      refine lv_iload hx hb dMo_makeCover_247 (lv_at hl 4 rfl) ?_
                      refine lv_iadd hx hb dMo_makeCover_249 ?_
                      refine ck_ri (y := nI (256 * c4 + q)) (nI_add _ _) ?_
                      refine lv_iload hx hb dMo_makeCover_250 (lv_at hl 5 rfl) ?_
                      refine ck_iast hx hb hG hP hD hS 3 rfl (by decide) (256 * c4 + q) (rfl) (by omega) dMo_makeCover_252 (fun H locs hP hD hS => ?_)
                      have hP : va_P G.1 vwCl [moC oy r th fi se (nI dp) sh sl az oh ol w0 w1 w2, aZ G (r 6) 1024 sb, aZ G (r 13) 512 mk1, aI G (r 11) 1024 (upd sv1 (256 * c4 + q) (nI (i + 1))), aI G (r 12) 1024 sw1, aI G (r 10) 4 ss] H := hP
                      have hD : va_D A [moC oy r th fi se (nI dp) sh sl az oh ol w0 w1 w2, aZ G (r 6) 1024 sb, aZ G (r 13) 512 mk1, aI G (r 11) 1024 (upd sv1 (256 * c4 + q) (nI (i + 1))), aI G (r 12) 1024 sw1, aI G (r 10) 4 ss] := hD
                      refine lv_aload_n hx hb dMo_makeCover_253 rfl (lv_at hl 0 rfl) ?_
                      refine gfMo_48 hx hb hts hown hG hP 0 rfl rfl dMo_makeCover_254 ?_
                      refine lv_iload_n hx hb dMo_makeCover_257 rfl (lv_at hl 3 rfl) ?_
                      refine lv_iload hx hb dMo_makeCover_258 (lv_at hl 4 rfl) ?_
                      refine lv_iadd hx hb dMo_makeCover_260 ?_
                      refine ck_ri (y := nI (256 * c4 + q)) (nI_add _ _) ?_
                      refine lv_iload hx hb dMo_makeCover_261 (lv_at hl 7 rfl) ?_
                      refine ck_iast hx hb hG hP hD hS 4 rfl (by decide) (256 * c4 + q) (rfl) (by omega) dMo_makeCover_263 (fun H locs hP hD hS => ?_)
                      have hP : va_P G.1 vwCl [moC oy r th fi se (nI dp) sh sl az oh ol w0 w1 w2, aZ G (r 6) 1024 sb, aZ G (r 13) 512 mk1, aI G (r 11) 1024 (upd sv1 (256 * c4 + q) (nI (i + 1))), aI G (r 12) 1024 (upd sw1 (256 * c4 + q) (nI x)), aI G (r 10) 4 ss] H := hP
                      have hD : va_D A [moC oy r th fi se (nI dp) sh sl az oh ol w0 w1 w2, aZ G (r 6) 1024 sb, aZ G (r 13) 512 mk1, aI G (r 11) 1024 (upd sv1 (256 * c4 + q) (nI (i + 1))), aI G (r 12) 1024 (upd sw1 (256 * c4 + q) (nI x)), aI G (r 10) 4 ss] := hD
                      refine lv_iinc (v := nI (q + 1)) (lv' := [(4, .int (nI (q + 1))), (0, .ref oy), (1, .int (nI c4)), (2, .int (nI (2 ^ dp))), (3, .int (nI (256 * c4))), (5, .int (nI (i + 1))), (6, .int (nI 1)), (7, .int (nI x))]) hx hb dMo_makeCover_264 hl (k := 4) rfl (nI_1 q) (by decide) rfl (fun ls hl => ?_)
                      refine lv_iinc (v := nI (i + 1 + 1)) (lv' := [(5, .int (nI (i + 1 + 1))), (4, .int (nI (q + 1))), (0, .ref oy), (1, .int (nI c4)), (2, .int (nI (2 ^ dp))), (3, .int (nI (256 * c4))), (6, .int (nI 1)), (7, .int (nI x))]) hx hb dMo_makeCover_267 hl (k := 5) rfl (nI_1 (i + 1)) (by decide) rfl (fun ls hl => ?_)
                      refine lv_goto (tgt := 124) hx hb dMo_makeCover_270 rfl ?_
                      have hB : cvB M (2 ^ dp) (i + 1) := ⟨hv1, hs, fun z => hne (by rw [← z, hlast])⟩
                      have hR3 := cvR_t hdp hM fv fw hB hR
                      rw [hlast] at hR3
                      exact ih9 (i + 1) (q + 1) _ _ _ _ _ (by omega) hR3 hP hD hS (lv_sub hl [2, 3, 4, 5, 1, 0] rfl)
                  · have h5 : ¬ 2 ^ dp ≤ x := fun z => h6 ((nI_leI (by omega) (by omega)).mpr z)
                    refine lv_aload_n hx hb dMo_makeCover_182 rfl (lv_at hl 0 rfl) ?_
                    refine gfMo_51 hx hb hts hown hG hP 0 rfl rfl dMo_makeCover_183 ?_
                    refine lv_iconst (v := nI 2) hx hb dMo_makeCover_186 (by decide) ?_
                    refine lv_iload hx hb dMo_makeCover_187 (lv_at hl 7 rfl) ?_
                    refine lv_imul hx hb dMo_makeCover_189 ?_
                    refine ck_ri (y := nI (2 * x)) (pk_mul 2 _) ?_
                    refine ck_zald hx hb hG hP 2 rfl (by decide) (2 * x) (rfl) (by omega) dMo_makeCover_190 ?_
                    refine ck_ri (y := M (2 * x)) (hM1 _ (by omega) (by omega)) ?_
                    refine lv_aload_n hx hb dMo_makeCover_191 rfl (lv_at hl 0 rfl) ?_
                    refine gfMo_51 hx hb hts hown hG hP 0 rfl rfl dMo_makeCover_192 ?_
                    refine lv_iconst (v := nI 2) hx hb dMo_makeCover_195 (by decide) ?_
                    refine lv_iload hx hb dMo_makeCover_196 (lv_at hl 7 rfl) ?_
                    refine lv_imul hx hb dMo_makeCover_198 ?_
                    refine ck_ri (y := nI (2 * x)) (pk_mul 2 _) ?_
                    refine lv_iconst (v := nI 1) hx hb dMo_makeCover_199 (by decide) ?_
                    refine lv_iadd hx hb dMo_makeCover_200 ?_
                    refine ck_ri (y := nI (2 * x + 1)) (nI_add _ 1) ?_
                    refine ck_zald hx hb hG hP 2 rfl (by decide) (2 * x + 1) (rfl) (by omega) dMo_makeCover_201 ?_
                    refine ck_ri (y := M (2 * x + 1)) (hM1 _ (by omega) (by omega)) ?_
                    refine lv_icmp_eq (tgt := 235) hx hb dMo_makeCover_202 rfl (fun h4 => ?_) (fun h4 => ?_)
                    · have h3 : M (2 * x) = M (2 * x + 1) := h4
                      have hlast : jLast M (2 ^ dp) (i + 1) = x := by rw [hq8, jLF, if_neg h5, if_pos h3]
                      refine lv_iload hx hb dMo_makeCover_235 (lv_at hl 7 rfl) ?_
                      refine lv_iload hx hb dMo_makeCover_237 (lv_at hl 5 rfl) ?_
                      refine lv_icmp_eq (tgt := 267) hx hb dMo_makeCover_239 rfl (fun h0 => ?_) (fun h0 => ?_)
                      · have hne : x = i + 1 := (nI_eq (by omega) (by omega)).mp h0
                        have hB : ¬ cvB M (2 ^ dp) (i + 1) := fun z => z.2.2 (by rw [hlast, hne])
                        refine lv_iinc (v := nI (i + 1 + 1)) (lv' := [(5, .int (nI (i + 1 + 1))), (0, .ref oy), (1, .int (nI c4)), (2, .int (nI (2 ^ dp))), (3, .int (nI (256 * c4))), (4, .int (nI q)), (6, .int (nI 1)), (7, .int (nI x))]) hx hb dMo_makeCover_267 hl (k := 5) rfl (nI_1 (i + 1)) (by decide) rfl (fun ls hl => ?_)
                        refine lv_goto (tgt := 124) hx hb dMo_makeCover_270 rfl ?_
                        exact ih9 (i + 1) q _ _ _ _ _ (by omega) (by rw [cvI_mf fv fw hB]; exact hR) hP hD hS (lv_sub hl [1, 2, 3, 4, 5, 0] rfl)
                      · have hne : ¬ x = i + 1 := fun z => h0 (by rw [z])
                        refine lv_aload_n hx hb dMo_makeCover_242 rfl (lv_at hl 0 rfl) ?_
                        refine gfMo_45 hx hb hts hown hG hP 0 rfl rfl dMo_makeCover_243 ?_
                        refine lv_iload_n hx hb dMo_makeCover_246 rfl (lv_at hl 3 rfl) ?_
                        refine lv_iload hx hb dMo_makeCover_247 (lv_at hl 4 rfl) ?_
                        refine lv_iadd hx hb dMo_makeCover_249 ?_
                        refine ck_ri (y := nI (256 * c4 + q)) (nI_add _ _) ?_
                        refine lv_iload hx hb dMo_makeCover_250 (lv_at hl 5 rfl) ?_
                        refine ck_iast hx hb hG hP hD hS 3 rfl (by decide) (256 * c4 + q) (rfl) (by omega) dMo_makeCover_252 (fun H locs hP hD hS => ?_)
                        have hP : va_P G.1 vwCl [moC oy r th fi se (nI dp) sh sl az oh ol w0 w1 w2, aZ G (r 6) 1024 sb, aZ G (r 13) 512 mk1, aI G (r 11) 1024 (upd sv1 (256 * c4 + q) (nI (i + 1))), aI G (r 12) 1024 sw1, aI G (r 10) 4 ss] H := hP
                        have hD : va_D A [moC oy r th fi se (nI dp) sh sl az oh ol w0 w1 w2, aZ G (r 6) 1024 sb, aZ G (r 13) 512 mk1, aI G (r 11) 1024 (upd sv1 (256 * c4 + q) (nI (i + 1))), aI G (r 12) 1024 sw1, aI G (r 10) 4 ss] := hD
                        refine lv_aload_n hx hb dMo_makeCover_253 rfl (lv_at hl 0 rfl) ?_
                        refine gfMo_48 hx hb hts hown hG hP 0 rfl rfl dMo_makeCover_254 ?_
                        refine lv_iload_n hx hb dMo_makeCover_257 rfl (lv_at hl 3 rfl) ?_
                        refine lv_iload hx hb dMo_makeCover_258 (lv_at hl 4 rfl) ?_
                        refine lv_iadd hx hb dMo_makeCover_260 ?_
                        refine ck_ri (y := nI (256 * c4 + q)) (nI_add _ _) ?_
                        refine lv_iload hx hb dMo_makeCover_261 (lv_at hl 7 rfl) ?_
                        refine ck_iast hx hb hG hP hD hS 4 rfl (by decide) (256 * c4 + q) (rfl) (by omega) dMo_makeCover_263 (fun H locs hP hD hS => ?_)
                        have hP : va_P G.1 vwCl [moC oy r th fi se (nI dp) sh sl az oh ol w0 w1 w2, aZ G (r 6) 1024 sb, aZ G (r 13) 512 mk1, aI G (r 11) 1024 (upd sv1 (256 * c4 + q) (nI (i + 1))), aI G (r 12) 1024 (upd sw1 (256 * c4 + q) (nI x)), aI G (r 10) 4 ss] H := hP
                        have hD : va_D A [moC oy r th fi se (nI dp) sh sl az oh ol w0 w1 w2, aZ G (r 6) 1024 sb, aZ G (r 13) 512 mk1, aI G (r 11) 1024 (upd sv1 (256 * c4 + q) (nI (i + 1))), aI G (r 12) 1024 (upd sw1 (256 * c4 + q) (nI x)), aI G (r 10) 4 ss] := hD
                        refine lv_iinc (v := nI (q + 1)) (lv' := [(4, .int (nI (q + 1))), (0, .ref oy), (1, .int (nI c4)), (2, .int (nI (2 ^ dp))), (3, .int (nI (256 * c4))), (5, .int (nI (i + 1))), (6, .int (nI 1)), (7, .int (nI x))]) hx hb dMo_makeCover_264 hl (k := 4) rfl (nI_1 q) (by decide) rfl (fun ls hl => ?_)
                        refine lv_iinc (v := nI (i + 1 + 1)) (lv' := [(5, .int (nI (i + 1 + 1))), (4, .int (nI (q + 1))), (0, .ref oy), (1, .int (nI c4)), (2, .int (nI (2 ^ dp))), (3, .int (nI (256 * c4))), (6, .int (nI 1)), (7, .int (nI x))]) hx hb dMo_makeCover_267 hl (k := 5) rfl (nI_1 (i + 1)) (by decide) rfl (fun ls hl => ?_)
                        refine lv_goto (tgt := 124) hx hb dMo_makeCover_270 rfl ?_
                        have hB : cvB M (2 ^ dp) (i + 1) := ⟨hv1, hs, fun z => hne (by rw [← z, hlast])⟩
                        have hR3 := cvR_t hdp hM fv fw hB hR
                        rw [hlast] at hR3
                        exact ih9 (i + 1) (q + 1) _ _ _ _ _ (by omega) hR3 hP hD hS (lv_sub hl [2, 3, 4, 5, 1, 0] rfl)
                    · have h3 : ¬ M (2 * x) = M (2 * x + 1) := h4
                      refine lv_aload_n hx hb dMo_makeCover_205 rfl (lv_at hl 0 rfl) ?_
                      refine gfMo_51 hx hb hts hown hG hP 0 rfl rfl dMo_makeCover_206 ?_
                      refine lv_iconst (v := nI 2) hx hb dMo_makeCover_209 (by decide) ?_
                      refine lv_iload hx hb dMo_makeCover_210 (lv_at hl 7 rfl) ?_
                      refine lv_imul hx hb dMo_makeCover_212 ?_
                      refine ck_ri (y := nI (2 * x)) (pk_mul 2 _) ?_
                      refine ck_zald hx hb hG hP 2 rfl (by decide) (2 * x) (rfl) (by omega) dMo_makeCover_213 ?_
                      refine ck_ri (y := M (2 * x)) (hM1 _ (by omega) (by omega)) ?_
                      refine lv_if_eq (tgt := 224) hx hb dMo_makeCover_214 rfl (fun h2 => ?_) (fun h2 => ?_)
                      · have h1 : M (2 * x) = 0 := h2
                        refine lv_iconst (v := nI 2) hx hb dMo_makeCover_224 (by decide) ?_
                        refine lv_iload hx hb dMo_makeCover_225 (lv_at hl 7 rfl) ?_
                        refine lv_imul hx hb dMo_makeCover_227 ?_
                        refine ck_ri (y := nI (2 * x)) (pk_mul 2 _) ?_
                        refine lv_iconst (v := nI 1) hx hb dMo_makeCover_228 (by decide) ?_
                        refine lv_iadd hx hb dMo_makeCover_229 ?_
                        refine ck_ri (y := nI (2 * x + 1)) (nI_add _ 1) ?_
                        refine lv_istore (lv' := [(7, .int (nI (2 * x + 1))), (0, .ref oy), (1, .int (nI c4)), (2, .int (nI (2 ^ dp))), (3, .int (nI (256 * c4))), (4, .int (nI q)), (5, .int (nI (i + 1))), (6, .int (nI 1))]) hx hb dMo_makeCover_230 hl (by decide) rfl (fun ls hl => ?_)
                        refine lv_goto (tgt := 171) hx hb dMo_makeCover_232 rfl ?_
                        exact ih8 (2 * x + 1) _ _ _ (x8_up hk8 (by omega)) (by omega) (by omega) (by rw [hq8, jLF, if_neg h5, if_neg h3, if_pos h1]) hP hD hS (lv_sub hl [1, 2, 3, 4, 5, 6, 7, 0] rfl)
                      · have h1 : ¬ M (2 * x) = 0 := h2
                        refine lv_iconst (v := nI 2) hx hb dMo_makeCover_217 (by decide) ?_
                        refine lv_iload hx hb dMo_makeCover_218 (lv_at hl 7 rfl) ?_
                        refine lv_imul hx hb dMo_makeCover_220 ?_
                        refine ck_ri (y := nI (2 * x)) (pk_mul 2 _) ?_
                        refine lv_goto (tgt := 230) hx hb dMo_makeCover_221 rfl ?_
                        refine lv_istore (lv' := [(7, .int (nI (2 * x))), (0, .ref oy), (1, .int (nI c4)), (2, .int (nI (2 ^ dp))), (3, .int (nI (256 * c4))), (4, .int (nI q)), (5, .int (nI (i + 1))), (6, .int (nI 1))]) hx hb dMo_makeCover_230 hl (by decide) rfl (fun ls hl => ?_)
                        refine lv_goto (tgt := 171) hx hb dMo_makeCover_232 rfl ?_
                        exact ih8 (2 * x) _ _ _ (x8_up hk8 (by omega)) (by omega) (by omega) (by rw [hq8, jLF, if_neg h5, if_neg h3, if_neg h1]) hP hD hS (lv_sub hl [1, 2, 3, 4, 5, 6, 7, 0] rfl)
              exact loop8 8 (i + 1) _ _ _ (by omega) (by omega) (by omega) rfl hP hD hS (lv_sub hl [2, 3, 4, 5, 6, 7, 1, 0] rfl)
            · have hs0 : ¬ i + 1 = 1 := fun z => h2 (by rw [z])
              refine lv_aload_n hx hb dMo_makeCover_148 rfl (lv_at hl 0 rfl) ?_
              refine gfMo_51 hx hb hts hown hG hP 0 rfl rfl dMo_makeCover_149 ?_
              refine lv_iload hx hb dMo_makeCover_152 (lv_at hl 5 rfl) ?_
              refine lv_iconst (v := nI 1) hx hb dMo_makeCover_154 (by decide) ?_
              refine lv_ixor hx hb dMo_makeCover_155 ?_
              refine ck_ri (y := nI ((i + 1) ^^^ 1)) (nI_xor _ 1) ?_
              refine ck_zald hx hb hG hP 2 rfl (by decide) ((i + 1) ^^^ 1) (rfl) (Nat.lt_of_lt_of_le (x1_lt (dp := dp) (by omega)) (by omega)) dMo_makeCover_156 ?_
              refine ck_ri (y := M ((i + 1) ^^^ 1)) (hM1 _ (x1_pos (by omega)) (x1_lt (by omega))) ?_
              refine lv_if_eq (tgt := 164) hx hb dMo_makeCover_157 rfl (fun h3 => ?_) (fun h3 => ?_)
              · have hz0 : M ((i + 1) ^^^ 1) = 0 := h3
                refine lv_iconst (v := nI 0) hx hb dMo_makeCover_164 (by decide) ?_
                refine lv_istore (lv' := [(6, .int (nI 0)), (0, .ref oy), (1, .int (nI c4)), (2, .int (nI (2 ^ dp))), (3, .int (nI (256 * c4))), (4, .int (nI q)), (5, .int (nI (i + 1)))]) hx hb dMo_makeCover_165 hl (by decide) rfl (fun ls hl => ?_)
                refine lv_iload hx hb dMo_makeCover_167 (lv_at hl 6 rfl) ?_
                refine lv_istore (lv' := [(7, .int (nI (i + 1))), (6, .int (nI 0)), (0, .ref oy), (1, .int (nI c4)), (2, .int (nI (2 ^ dp))), (3, .int (nI (256 * c4))), (4, .int (nI q)), (5, .int (nI (i + 1)))]) hx hb dMo_makeCover_169 hl (by decide) rfl (fun ls hl => ?_)
                have hB : ¬ cvB M (2 ^ dp) (i + 1) := fun z => z.2.1.elim hs0 (fun y => y hz0)
                refine lv_iload hx hb dMo_makeCover_171 (lv_at hl 1 rfl) ?_
                refine lv_if_eq (tgt := 235) hx hb dMo_makeCover_173 rfl (fun _ => ?_) (fun h => absurd (rfl) h)
                refine lv_iload hx hb dMo_makeCover_235 (lv_at hl 0 rfl) ?_
                refine lv_iload hx hb dMo_makeCover_237 (lv_at hl 7 rfl) ?_
                refine lv_icmp_eq (tgt := 267) hx hb dMo_makeCover_239 rfl (fun _ => ?_) (fun h => absurd (rfl) h)
                refine lv_iinc (v := nI (i + 1 + 1)) (lv' := [(5, .int (nI (i + 1 + 1))), (7, .int (nI (i + 1))), (6, .int (nI 0)), (0, .ref oy), (1, .int (nI c4)), (2, .int (nI (2 ^ dp))), (3, .int (nI (256 * c4))), (4, .int (nI q))]) hx hb dMo_makeCover_267 hl (k := 7) rfl (nI_1 (i + 1)) (by decide) rfl (fun ls hl => ?_)
                refine lv_goto (tgt := 124) hx hb dMo_makeCover_270 rfl ?_
                exact ih9 (i + 1) q _ _ _ _ _ (by omega) (by rw [cvI_mf fv fw hB]; exact hR) hP hD hS (lv_sub hl [3, 4, 5, 6, 7, 0] rfl)
              · have hz1 : ¬ M ((i + 1) ^^^ 1) = 0 := h3
                refine lv_iconst (v := nI 1) hx hb dMo_makeCover_160 (by decide) ?_
                refine lv_goto (tgt := 165) hx hb dMo_makeCover_161 rfl ?_
                refine lv_istore (lv' := [(6, .int (nI 1)), (0, .ref oy), (1, .int (nI c4)), (2, .int (nI (2 ^ dp))), (3, .int (nI (256 * c4))), (4, .int (nI q)), (5, .int (nI (i + 1)))]) hx hb dMo_makeCover_165 hl (by decide) rfl (fun ls hl => ?_)
                refine lv_iload hx hb dMo_makeCover_167 (lv_at hl 6 rfl) ?_
                refine lv_istore (lv' := [(7, .int (nI (i + 1))), (6, .int (nI 1)), (0, .ref oy), (1, .int (nI c4)), (2, .int (nI (2 ^ dp))), (3, .int (nI (256 * c4))), (4, .int (nI q)), (5, .int (nI (i + 1)))]) hx hb dMo_makeCover_169 hl (by decide) rfl (fun ls hl => ?_)
                have hs : i + 1 = 1 ∨ ¬ M ((i + 1) ^^^ 1) = 0 := Or.inr hz1
                have loop8 : ∀ (k8 : Nat) (x : Nat) (H : Heap) (locs : List Loc) (ls : Array Slot), 2 ^ 8 ≤ x * 2 ^ k8 → 1 ≤ x → x < 2 * 2 ^ dp → jLast M (2 ^ dp) (i + 1) = jLF M (2 ^ dp) k8 x → va_P G.1 vwCl [moC oy r th fi se (nI dp) sh sl az oh ol w0 w1 w2, aZ G (r 6) 1024 sb, aZ G (r 13) 512 mk1, aI G (r 11) 1024 sv1, aI G (r 12) 1024 sw1, aI G (r 10) 4 ss] H → va_D A [moC oy r th fi se (nI dp) sh sl az oh ol w0 w1 w2, aZ G (r 6) 1024 sb, aZ G (r 13) 512 mk1, aI G (r 11) 1024 sv1, aI G (r 12) 1024 sw1, aI G (r 10) 4 ss] → va_S A s.heap H locs → lv_has ls 8 [(0, .ref oy), (1, .int (nI c4)), (2, .int (nI (2 ^ dp))), (3, .int (nI (256 * c4))), (4, .int (nI q)), (5, .int (nI (i + 1))), (6, .int (nI 1)), (7, .int (nI x))] → W p l e { frames := 1, cells := 0, slots := 0, locals := 20 } s m args below meth c H locs 0 0 (MQ below (cq_out G (S := (Nat → Int32) × (Nat → Int32) × (Nat → Int32)) (fun u => cvR c4 sv sw u.2.1 u.2.2 (jCov M (2 ^ dp) fv fw) (jCov M (2 ^ dp) fv fw).1) (fun u => none) (fun u => [moC oy r th fi se (nI dp) sh sl az oh ol w0 w1 w2, aZ G (r 6) 1024 sb, aZ G (r 13) 512 u.1, aI G (r 11) 1024 u.2.1, aI G (r 12) 1024 u.2.2, aI G (r 10) 4 (upd ss c4 (nI (jCov M (2 ^ dp) fv fw).1))]) A) args s 0 0 A) (F0 m 171 ls []) := by
                  intro k8
                  induction k8 with
                  | zero =>
                    intro x H locs ls hk8 hx1 hx2 hq8 hP hD hS hl
                    have hlast : jLast M (2 ^ dp) (i + 1) = x := hq8
                    refine lv_iload hx hb dMo_makeCover_171 (lv_at hl 6 rfl) ?_
                    refine lv_if_eq (tgt := 235) hx hb dMo_makeCover_173 rfl (fun h => absurd h (by decide)) (fun _ => ?_)
                    refine lv_iload hx hb dMo_makeCover_176 (lv_at hl 7 rfl) ?_
                    refine lv_iload_n hx hb dMo_makeCover_178 rfl (lv_at hl 2 rfl) ?_
                    refine lv_icmp_ge (tgt := 235) hx hb dMo_makeCover_179 rfl (fun _ => ?_) (fun h => absurd (nI_le (by omega) (by omega)) h)
                    refine lv_iload hx hb dMo_makeCover_235 (lv_at hl 7 rfl) ?_
                    refine lv_iload hx hb dMo_makeCover_237 (lv_at hl 5 rfl) ?_
                    refine lv_icmp_eq (tgt := 267) hx hb dMo_makeCover_239 rfl (fun h0 => ?_) (fun h0 => ?_)
                    · have hne : x = i + 1 := (nI_eq (by omega) (by omega)).mp h0
                      have hB : ¬ cvB M (2 ^ dp) (i + 1) := fun z => z.2.2 (by rw [hlast, hne])
                      refine lv_iinc (v := nI (i + 1 + 1)) (lv' := [(5, .int (nI (i + 1 + 1))), (0, .ref oy), (1, .int (nI c4)), (2, .int (nI (2 ^ dp))), (3, .int (nI (256 * c4))), (4, .int (nI q)), (6, .int (nI 1)), (7, .int (nI x))]) hx hb dMo_makeCover_267 hl (k := 5) rfl (nI_1 (i + 1)) (by decide) rfl (fun ls hl => ?_)
                      refine lv_goto (tgt := 124) hx hb dMo_makeCover_270 rfl ?_
                      exact ih9 (i + 1) q _ _ _ _ _ (by omega) (by rw [cvI_mf fv fw hB]; exact hR) hP hD hS (lv_sub hl [1, 2, 3, 4, 5, 0] rfl)
                    · have hne : ¬ x = i + 1 := fun z => h0 (by rw [z])
                      refine lv_aload_n hx hb dMo_makeCover_242 rfl (lv_at hl 0 rfl) ?_
                      refine gfMo_45 hx hb hts hown hG hP 0 rfl rfl dMo_makeCover_243 ?_
                      refine lv_iload_n hx hb dMo_makeCover_246 rfl (lv_at hl 3 rfl) ?_
                      refine lv_iload hx hb dMo_makeCover_247 (lv_at hl 4 rfl) ?_
                      refine lv_iadd hx hb dMo_makeCover_249 ?_
                      refine ck_ri (y := nI (256 * c4 + q)) (nI_add _ _) ?_
                      refine lv_iload hx hb dMo_makeCover_250 (lv_at hl 5 rfl) ?_
                      refine ck_iast hx hb hG hP hD hS 3 rfl (by decide) (256 * c4 + q) (rfl) (by omega) dMo_makeCover_252 (fun H locs hP hD hS => ?_)
                      have hP : va_P G.1 vwCl [moC oy r th fi se (nI dp) sh sl az oh ol w0 w1 w2, aZ G (r 6) 1024 sb, aZ G (r 13) 512 mk1, aI G (r 11) 1024 (upd sv1 (256 * c4 + q) (nI (i + 1))), aI G (r 12) 1024 sw1, aI G (r 10) 4 ss] H := hP
                      have hD : va_D A [moC oy r th fi se (nI dp) sh sl az oh ol w0 w1 w2, aZ G (r 6) 1024 sb, aZ G (r 13) 512 mk1, aI G (r 11) 1024 (upd sv1 (256 * c4 + q) (nI (i + 1))), aI G (r 12) 1024 sw1, aI G (r 10) 4 ss] := hD
                      refine lv_aload_n hx hb dMo_makeCover_253 rfl (lv_at hl 0 rfl) ?_
                      refine gfMo_48 hx hb hts hown hG hP 0 rfl rfl dMo_makeCover_254 ?_
                      refine lv_iload_n hx hb dMo_makeCover_257 rfl (lv_at hl 3 rfl) ?_
                      refine lv_iload hx hb dMo_makeCover_258 (lv_at hl 4 rfl) ?_
                      refine lv_iadd hx hb dMo_makeCover_260 ?_
                      refine ck_ri (y := nI (256 * c4 + q)) (nI_add _ _) ?_
                      refine lv_iload hx hb dMo_makeCover_261 (lv_at hl 7 rfl) ?_
                      refine ck_iast hx hb hG hP hD hS 4 rfl (by decide) (256 * c4 + q) (rfl) (by omega) dMo_makeCover_263 (fun H locs hP hD hS => ?_)
                      have hP : va_P G.1 vwCl [moC oy r th fi se (nI dp) sh sl az oh ol w0 w1 w2, aZ G (r 6) 1024 sb, aZ G (r 13) 512 mk1, aI G (r 11) 1024 (upd sv1 (256 * c4 + q) (nI (i + 1))), aI G (r 12) 1024 (upd sw1 (256 * c4 + q) (nI x)), aI G (r 10) 4 ss] H := hP
                      have hD : va_D A [moC oy r th fi se (nI dp) sh sl az oh ol w0 w1 w2, aZ G (r 6) 1024 sb, aZ G (r 13) 512 mk1, aI G (r 11) 1024 (upd sv1 (256 * c4 + q) (nI (i + 1))), aI G (r 12) 1024 (upd sw1 (256 * c4 + q) (nI x)), aI G (r 10) 4 ss] := hD
                      refine lv_iinc (v := nI (q + 1)) (lv' := [(4, .int (nI (q + 1))), (0, .ref oy), (1, .int (nI c4)), (2, .int (nI (2 ^ dp))), (3, .int (nI (256 * c4))), (5, .int (nI (i + 1))), (6, .int (nI 1)), (7, .int (nI x))]) hx hb dMo_makeCover_264 hl (k := 4) rfl (nI_1 q) (by decide) rfl (fun ls hl => ?_)
                      refine lv_iinc (v := nI (i + 1 + 1)) (lv' := [(5, .int (nI (i + 1 + 1))), (4, .int (nI (q + 1))), (0, .ref oy), (1, .int (nI c4)), (2, .int (nI (2 ^ dp))), (3, .int (nI (256 * c4))), (6, .int (nI 1)), (7, .int (nI x))]) hx hb dMo_makeCover_267 hl (k := 5) rfl (nI_1 (i + 1)) (by decide) rfl (fun ls hl => ?_)
                      refine lv_goto (tgt := 124) hx hb dMo_makeCover_270 rfl ?_
                      have hB : cvB M (2 ^ dp) (i + 1) := ⟨hv1, hs, fun z => hne (by rw [← z, hlast])⟩
                      have hR3 := cvR_t hdp hM fv fw hB hR
                      rw [hlast] at hR3
                      exact ih9 (i + 1) (q + 1) _ _ _ _ _ (by omega) hR3 hP hD hS (lv_sub hl [2, 3, 4, 5, 1, 0] rfl)
                  | succ k8 ih8 =>
                    intro x H locs ls hk8 hx1 hx2 hq8 hP hD hS hl
                    refine lv_iload hx hb dMo_makeCover_171 (lv_at hl 6 rfl) ?_
                    refine lv_if_eq (tgt := 235) hx hb dMo_makeCover_173 rfl (fun h => absurd h (by decide)) (fun _ => ?_)
                    refine lv_iload hx hb dMo_makeCover_176 (lv_at hl 7 rfl) ?_
                    refine lv_iload_n hx hb dMo_makeCover_178 rfl (lv_at hl 2 rfl) ?_
                    refine lv_icmp_ge (tgt := 235) hx hb dMo_makeCover_179 rfl (fun h6 => ?_) (fun h6 => ?_)
                    · have h5 : 2 ^ dp ≤ x := (nI_leI (by omega) (by omega)).mp h6
                      have hlast : jLast M (2 ^ dp) (i + 1) = x := by rw [hq8, jLF, if_pos h5]
                      refine lv_iload hx hb dMo_makeCover_235 (lv_at hl 7 rfl) ?_
                      refine lv_iload hx hb dMo_makeCover_237 (lv_at hl 5 rfl) ?_
                      refine lv_icmp_eq (tgt := 267) hx hb dMo_makeCover_239 rfl (fun h0 => ?_) (fun h0 => ?_)
                      · have hne : x = i + 1 := (nI_eq (by omega) (by omega)).mp h0
                        have hB : ¬ cvB M (2 ^ dp) (i + 1) := fun z => z.2.2 (by rw [hlast, hne])
                        refine lv_iinc (v := nI (i + 1 + 1)) (lv' := [(5, .int (nI (i + 1 + 1))), (0, .ref oy), (1, .int (nI c4)), (2, .int (nI (2 ^ dp))), (3, .int (nI (256 * c4))), (4, .int (nI q)), (6, .int (nI 1)), (7, .int (nI x))]) hx hb dMo_makeCover_267 hl (k := 5) rfl (nI_1 (i + 1)) (by decide) rfl (fun ls hl => ?_)
                        refine lv_goto (tgt := 124) hx hb dMo_makeCover_270 rfl ?_
                        exact ih9 (i + 1) q _ _ _ _ _ (by omega) (by rw [cvI_mf fv fw hB]; exact hR) hP hD hS (lv_sub hl [1, 2, 3, 4, 5, 0] rfl)
                      · have hne : ¬ x = i + 1 := fun z => h0 (by rw [z])
                        refine lv_aload_n hx hb dMo_makeCover_242 rfl (lv_at hl 0 rfl) ?_
                        refine gfMo_45 hx hb hts hown hG hP 0 rfl rfl dMo_makeCover_243 ?_
                        refine lv_iload_n hx hb dMo_makeCover_246 rfl (lv_at hl 3 rfl) ?_
                        refine lv_iload hx hb dMo_makeCover_247 (lv_at hl 4 rfl) ?_
                        refine lv_iadd hx hb dMo_makeCover_249 ?_
                        refine ck_ri (y := nI (256 * c4 + q)) (nI_add _ _) ?_
                        refine lv_iload hx hb dMo_makeCover_250 (lv_at hl 5 rfl) ?_
                        refine ck_iast hx hb hG hP hD hS 3 rfl (by decide) (256 * c4 + q) (rfl) (by omega) dMo_makeCover_252 (fun H locs hP hD hS => ?_)
                        have hP : va_P G.1 vwCl [moC oy r th fi se (nI dp) sh sl az oh ol w0 w1 w2, aZ G (r 6) 1024 sb, aZ G (r 13) 512 mk1, aI G (r 11) 1024 (upd sv1 (256 * c4 + q) (nI (i + 1))), aI G (r 12) 1024 sw1, aI G (r 10) 4 ss] H := hP
                        have hD : va_D A [moC oy r th fi se (nI dp) sh sl az oh ol w0 w1 w2, aZ G (r 6) 1024 sb, aZ G (r 13) 512 mk1, aI G (r 11) 1024 (upd sv1 (256 * c4 + q) (nI (i + 1))), aI G (r 12) 1024 sw1, aI G (r 10) 4 ss] := hD
                        refine lv_aload_n hx hb dMo_makeCover_253 rfl (lv_at hl 0 rfl) ?_
                        refine gfMo_48 hx hb hts hown hG hP 0 rfl rfl dMo_makeCover_254 ?_
                        refine lv_iload_n hx hb dMo_makeCover_257 rfl (lv_at hl 3 rfl) ?_
                        refine lv_iload hx hb dMo_makeCover_258 (lv_at hl 4 rfl) ?_
                        refine lv_iadd hx hb dMo_makeCover_260 ?_
                        refine ck_ri (y := nI (256 * c4 + q)) (nI_add _ _) ?_
                        refine lv_iload hx hb dMo_makeCover_261 (lv_at hl 7 rfl) ?_
                        refine ck_iast hx hb hG hP hD hS 4 rfl (by decide) (256 * c4 + q) (rfl) (by omega) dMo_makeCover_263 (fun H locs hP hD hS => ?_)
                        have hP : va_P G.1 vwCl [moC oy r th fi se (nI dp) sh sl az oh ol w0 w1 w2, aZ G (r 6) 1024 sb, aZ G (r 13) 512 mk1, aI G (r 11) 1024 (upd sv1 (256 * c4 + q) (nI (i + 1))), aI G (r 12) 1024 (upd sw1 (256 * c4 + q) (nI x)), aI G (r 10) 4 ss] H := hP
                        have hD : va_D A [moC oy r th fi se (nI dp) sh sl az oh ol w0 w1 w2, aZ G (r 6) 1024 sb, aZ G (r 13) 512 mk1, aI G (r 11) 1024 (upd sv1 (256 * c4 + q) (nI (i + 1))), aI G (r 12) 1024 (upd sw1 (256 * c4 + q) (nI x)), aI G (r 10) 4 ss] := hD
                        refine lv_iinc (v := nI (q + 1)) (lv' := [(4, .int (nI (q + 1))), (0, .ref oy), (1, .int (nI c4)), (2, .int (nI (2 ^ dp))), (3, .int (nI (256 * c4))), (5, .int (nI (i + 1))), (6, .int (nI 1)), (7, .int (nI x))]) hx hb dMo_makeCover_264 hl (k := 4) rfl (nI_1 q) (by decide) rfl (fun ls hl => ?_)
                        refine lv_iinc (v := nI (i + 1 + 1)) (lv' := [(5, .int (nI (i + 1 + 1))), (4, .int (nI (q + 1))), (0, .ref oy), (1, .int (nI c4)), (2, .int (nI (2 ^ dp))), (3, .int (nI (256 * c4))), (6, .int (nI 1)), (7, .int (nI x))]) hx hb dMo_makeCover_267 hl (k := 5) rfl (nI_1 (i + 1)) (by decide) rfl (fun ls hl => ?_)
                        refine lv_goto (tgt := 124) hx hb dMo_makeCover_270 rfl ?_
                        have hB : cvB M (2 ^ dp) (i + 1) := ⟨hv1, hs, fun z => hne (by rw [← z, hlast])⟩
                        have hR3 := cvR_t hdp hM fv fw hB hR
                        rw [hlast] at hR3
                        exact ih9 (i + 1) (q + 1) _ _ _ _ _ (by omega) hR3 hP hD hS (lv_sub hl [2, 3, 4, 5, 1, 0] rfl)
                    · have h5 : ¬ 2 ^ dp ≤ x := fun z => h6 ((nI_leI (by omega) (by omega)).mpr z)
                      refine lv_aload_n hx hb dMo_makeCover_182 rfl (lv_at hl 0 rfl) ?_
                      refine gfMo_51 hx hb hts hown hG hP 0 rfl rfl dMo_makeCover_183 ?_
                      refine lv_iconst (v := nI 2) hx hb dMo_makeCover_186 (by decide) ?_
                      refine lv_iload hx hb dMo_makeCover_187 (lv_at hl 7 rfl) ?_
                      refine lv_imul hx hb dMo_makeCover_189 ?_
                      refine ck_ri (y := nI (2 * x)) (pk_mul 2 _) ?_
                      refine ck_zald hx hb hG hP 2 rfl (by decide) (2 * x) (rfl) (by omega) dMo_makeCover_190 ?_
                      refine ck_ri (y := M (2 * x)) (hM1 _ (by omega) (by omega)) ?_
                      refine lv_aload_n hx hb dMo_makeCover_191 rfl (lv_at hl 0 rfl) ?_
                      refine gfMo_51 hx hb hts hown hG hP 0 rfl rfl dMo_makeCover_192 ?_
                      refine lv_iconst (v := nI 2) hx hb dMo_makeCover_195 (by decide) ?_
                      refine lv_iload hx hb dMo_makeCover_196 (lv_at hl 7 rfl) ?_
                      refine lv_imul hx hb dMo_makeCover_198 ?_
                      refine ck_ri (y := nI (2 * x)) (pk_mul 2 _) ?_
                      refine lv_iconst (v := nI 1) hx hb dMo_makeCover_199 (by decide) ?_
                      refine lv_iadd hx hb dMo_makeCover_200 ?_
                      refine ck_ri (y := nI (2 * x + 1)) (nI_add _ 1) ?_
                      refine ck_zald hx hb hG hP 2 rfl (by decide) (2 * x + 1) (rfl) (by omega) dMo_makeCover_201 ?_
                      refine ck_ri (y := M (2 * x + 1)) (hM1 _ (by omega) (by omega)) ?_
                      refine lv_icmp_eq (tgt := 235) hx hb dMo_makeCover_202 rfl (fun h4 => ?_) (fun h4 => ?_)
                      · have h3 : M (2 * x) = M (2 * x + 1) := h4
                        have hlast : jLast M (2 ^ dp) (i + 1) = x := by rw [hq8, jLF, if_neg h5, if_pos h3]
                        refine lv_iload hx hb dMo_makeCover_235 (lv_at hl 7 rfl) ?_
                        refine lv_iload hx hb dMo_makeCover_237 (lv_at hl 5 rfl) ?_
                        refine lv_icmp_eq (tgt := 267) hx hb dMo_makeCover_239 rfl (fun h0 => ?_) (fun h0 => ?_)
                        · have hne : x = i + 1 := (nI_eq (by omega) (by omega)).mp h0
                          have hB : ¬ cvB M (2 ^ dp) (i + 1) := fun z => z.2.2 (by rw [hlast, hne])
                          refine lv_iinc (v := nI (i + 1 + 1)) (lv' := [(5, .int (nI (i + 1 + 1))), (0, .ref oy), (1, .int (nI c4)), (2, .int (nI (2 ^ dp))), (3, .int (nI (256 * c4))), (4, .int (nI q)), (6, .int (nI 1)), (7, .int (nI x))]) hx hb dMo_makeCover_267 hl (k := 5) rfl (nI_1 (i + 1)) (by decide) rfl (fun ls hl => ?_)
                          refine lv_goto (tgt := 124) hx hb dMo_makeCover_270 rfl ?_
                          exact ih9 (i + 1) q _ _ _ _ _ (by omega) (by rw [cvI_mf fv fw hB]; exact hR) hP hD hS (lv_sub hl [1, 2, 3, 4, 5, 0] rfl)
                        · have hne : ¬ x = i + 1 := fun z => h0 (by rw [z])
                          refine lv_aload_n hx hb dMo_makeCover_242 rfl (lv_at hl 0 rfl) ?_
                          refine gfMo_45 hx hb hts hown hG hP 0 rfl rfl dMo_makeCover_243 ?_
                          refine lv_iload_n hx hb dMo_makeCover_246 rfl (lv_at hl 3 rfl) ?_
                          refine lv_iload hx hb dMo_makeCover_247 (lv_at hl 4 rfl) ?_
                          refine lv_iadd hx hb dMo_makeCover_249 ?_
                          refine ck_ri (y := nI (256 * c4 + q)) (nI_add _ _) ?_
                          refine lv_iload hx hb dMo_makeCover_250 (lv_at hl 5 rfl) ?_
                          refine ck_iast hx hb hG hP hD hS 3 rfl (by decide) (256 * c4 + q) (rfl) (by omega) dMo_makeCover_252 (fun H locs hP hD hS => ?_)
                          have hP : va_P G.1 vwCl [moC oy r th fi se (nI dp) sh sl az oh ol w0 w1 w2, aZ G (r 6) 1024 sb, aZ G (r 13) 512 mk1, aI G (r 11) 1024 (upd sv1 (256 * c4 + q) (nI (i + 1))), aI G (r 12) 1024 sw1, aI G (r 10) 4 ss] H := hP
                          have hD : va_D A [moC oy r th fi se (nI dp) sh sl az oh ol w0 w1 w2, aZ G (r 6) 1024 sb, aZ G (r 13) 512 mk1, aI G (r 11) 1024 (upd sv1 (256 * c4 + q) (nI (i + 1))), aI G (r 12) 1024 sw1, aI G (r 10) 4 ss] := hD
                          refine lv_aload_n hx hb dMo_makeCover_253 rfl (lv_at hl 0 rfl) ?_
                          refine gfMo_48 hx hb hts hown hG hP 0 rfl rfl dMo_makeCover_254 ?_
                          refine lv_iload_n hx hb dMo_makeCover_257 rfl (lv_at hl 3 rfl) ?_
                          refine lv_iload hx hb dMo_makeCover_258 (lv_at hl 4 rfl) ?_
                          refine lv_iadd hx hb dMo_makeCover_260 ?_
                          refine ck_ri (y := nI (256 * c4 + q)) (nI_add _ _) ?_
                          refine lv_iload hx hb dMo_makeCover_261 (lv_at hl 7 rfl) ?_
                          refine ck_iast hx hb hG hP hD hS 4 rfl (by decide) (256 * c4 + q) (rfl) (by omega) dMo_makeCover_263 (fun H locs hP hD hS => ?_)
                          have hP : va_P G.1 vwCl [moC oy r th fi se (nI dp) sh sl az oh ol w0 w1 w2, aZ G (r 6) 1024 sb, aZ G (r 13) 512 mk1, aI G (r 11) 1024 (upd sv1 (256 * c4 + q) (nI (i + 1))), aI G (r 12) 1024 (upd sw1 (256 * c4 + q) (nI x)), aI G (r 10) 4 ss] H := hP
                          have hD : va_D A [moC oy r th fi se (nI dp) sh sl az oh ol w0 w1 w2, aZ G (r 6) 1024 sb, aZ G (r 13) 512 mk1, aI G (r 11) 1024 (upd sv1 (256 * c4 + q) (nI (i + 1))), aI G (r 12) 1024 (upd sw1 (256 * c4 + q) (nI x)), aI G (r 10) 4 ss] := hD
                          refine lv_iinc (v := nI (q + 1)) (lv' := [(4, .int (nI (q + 1))), (0, .ref oy), (1, .int (nI c4)), (2, .int (nI (2 ^ dp))), (3, .int (nI (256 * c4))), (5, .int (nI (i + 1))), (6, .int (nI 1)), (7, .int (nI x))]) hx hb dMo_makeCover_264 hl (k := 4) rfl (nI_1 q) (by decide) rfl (fun ls hl => ?_)
                          refine lv_iinc (v := nI (i + 1 + 1)) (lv' := [(5, .int (nI (i + 1 + 1))), (4, .int (nI (q + 1))), (0, .ref oy), (1, .int (nI c4)), (2, .int (nI (2 ^ dp))), (3, .int (nI (256 * c4))), (6, .int (nI 1)), (7, .int (nI x))]) hx hb dMo_makeCover_267 hl (k := 5) rfl (nI_1 (i + 1)) (by decide) rfl (fun ls hl => ?_)
                          refine lv_goto (tgt := 124) hx hb dMo_makeCover_270 rfl ?_
                          have hB : cvB M (2 ^ dp) (i + 1) := ⟨hv1, hs, fun z => hne (by rw [← z, hlast])⟩
                          have hR3 := cvR_t hdp hM fv fw hB hR
                          rw [hlast] at hR3
                          exact ih9 (i + 1) (q + 1) _ _ _ _ _ (by omega) hR3 hP hD hS (lv_sub hl [2, 3, 4, 5, 1, 0] rfl)
                      · have h3 : ¬ M (2 * x) = M (2 * x + 1) := h4
                        refine lv_aload_n hx hb dMo_makeCover_205 rfl (lv_at hl 0 rfl) ?_
                        refine gfMo_51 hx hb hts hown hG hP 0 rfl rfl dMo_makeCover_206 ?_
                        refine lv_iconst (v := nI 2) hx hb dMo_makeCover_209 (by decide) ?_
                        refine lv_iload hx hb dMo_makeCover_210 (lv_at hl 7 rfl) ?_
                        refine lv_imul hx hb dMo_makeCover_212 ?_
                        refine ck_ri (y := nI (2 * x)) (pk_mul 2 _) ?_
                        refine ck_zald hx hb hG hP 2 rfl (by decide) (2 * x) (rfl) (by omega) dMo_makeCover_213 ?_
                        refine ck_ri (y := M (2 * x)) (hM1 _ (by omega) (by omega)) ?_
                        refine lv_if_eq (tgt := 224) hx hb dMo_makeCover_214 rfl (fun h2 => ?_) (fun h2 => ?_)
                        · have h1 : M (2 * x) = 0 := h2
                          refine lv_iconst (v := nI 2) hx hb dMo_makeCover_224 (by decide) ?_
                          refine lv_iload hx hb dMo_makeCover_225 (lv_at hl 7 rfl) ?_
                          refine lv_imul hx hb dMo_makeCover_227 ?_
                          refine ck_ri (y := nI (2 * x)) (pk_mul 2 _) ?_
                          refine lv_iconst (v := nI 1) hx hb dMo_makeCover_228 (by decide) ?_
                          refine lv_iadd hx hb dMo_makeCover_229 ?_
                          refine ck_ri (y := nI (2 * x + 1)) (nI_add _ 1) ?_
                          refine lv_istore (lv' := [(7, .int (nI (2 * x + 1))), (0, .ref oy), (1, .int (nI c4)), (2, .int (nI (2 ^ dp))), (3, .int (nI (256 * c4))), (4, .int (nI q)), (5, .int (nI (i + 1))), (6, .int (nI 1))]) hx hb dMo_makeCover_230 hl (by decide) rfl (fun ls hl => ?_)
                          refine lv_goto (tgt := 171) hx hb dMo_makeCover_232 rfl ?_
                          exact ih8 (2 * x + 1) _ _ _ (x8_up hk8 (by omega)) (by omega) (by omega) (by rw [hq8, jLF, if_neg h5, if_neg h3, if_pos h1]) hP hD hS (lv_sub hl [1, 2, 3, 4, 5, 6, 7, 0] rfl)
                        · have h1 : ¬ M (2 * x) = 0 := h2
                          refine lv_iconst (v := nI 2) hx hb dMo_makeCover_217 (by decide) ?_
                          refine lv_iload hx hb dMo_makeCover_218 (lv_at hl 7 rfl) ?_
                          refine lv_imul hx hb dMo_makeCover_220 ?_
                          refine ck_ri (y := nI (2 * x)) (pk_mul 2 _) ?_
                          refine lv_goto (tgt := 230) hx hb dMo_makeCover_221 rfl ?_
                          refine lv_istore (lv' := [(7, .int (nI (2 * x))), (0, .ref oy), (1, .int (nI c4)), (2, .int (nI (2 ^ dp))), (3, .int (nI (256 * c4))), (4, .int (nI q)), (5, .int (nI (i + 1))), (6, .int (nI 1))]) hx hb dMo_makeCover_230 hl (by decide) rfl (fun ls hl => ?_)
                          refine lv_goto (tgt := 171) hx hb dMo_makeCover_232 rfl ?_
                          exact ih8 (2 * x) _ _ _ (x8_up hk8 (by omega)) (by omega) (by omega) (by rw [hq8, jLF, if_neg h5, if_neg h3, if_neg h1]) hP hD hS (lv_sub hl [1, 2, 3, 4, 5, 6, 7, 0] rfl)
                exact loop8 8 (i + 1) _ _ _ (by omega) (by omega) (by omega) rfl hP hD hS (lv_sub hl [2, 3, 4, 5, 6, 7, 1, 0] rfl)
      refine lv_iconst (v := nI 0) hx hb dMo_makeCover_92 (by decide) ?_
      refine lv_istore (lv' := [(4, .int (nI 0)), (3, .int (nI (256 * c4))), (0, .ref oy), (1, .int (nI c4)), (2, .int (nI (2 ^ dp)))]) hx hb dMo_makeCover_93 hl (by decide) rfl (fun ls hl => ?_)
      refine lv_aload_n hx hb dMo_makeCover_95 rfl (lv_at hl 2 rfl) ?_
      refine gfMo_51 hx hb hts hown hG hP 0 rfl rfl dMo_makeCover_96 ?_
      refine lv_iconst (v := nI 1) hx hb dMo_makeCover_99 (by decide) ?_
      refine ck_zald hx hb hG hP 2 rfl (by decide) 1 (rfl) (by decide) dMo_makeCover_100 ?_
      refine ck_ri (y := M 1) (hM1 1 (by omega) (by omega)) ?_
      refine lv_if_ne (tgt := 121) hx hb dMo_makeCover_101 rfl (fun h5 => ?_) (fun h5 => ?_)
      · have h4 : ¬ M 1 = 0 := h5
        refine lv_iconst (v := nI 1) hx hb dMo_makeCover_121 (by decide) ?_
        refine lv_istore (lv' := [(5, .int (nI 1)), (4, .int (nI 0)), (3, .int (nI (256 * c4))), (0, .ref oy), (1, .int (nI c4)), (2, .int (nI (2 ^ dp)))]) hx hb dMo_makeCover_122 hl (by decide) rfl (fun ls hl => ?_)
        have e0 : cvI M (2 ^ dp) fv fw (min 0 (2 ^ dp - 1)) = (0, fv, fw) := by rw [Nat.zero_min]; exact if_neg h4
        have hR0 : cvR c4 sv sw sv sw (cvI M (2 ^ dp) fv fw (min 0 (2 ^ dp - 1))) 0 := by
          rw [e0]; exact ⟨rfl, by decide, fun k hk => by omega, fun j _ => ⟨rfl, rfl⟩⟩
        exact loop9 (2 * 2 ^ dp - 1) 0 0 _ _ _ _ _ (by omega) hR0 hP hD hS (lv_sub hl [3, 4, 5, 2, 1, 0] rfl)
      · have h4 : M 1 = 0 := h5
        refine lv_aload_n hx hb dMo_makeCover_104 rfl (lv_at hl 2 rfl) ?_
        refine gfMo_45 hx hb hts hown hG hP 0 rfl rfl dMo_makeCover_105 ?_
        refine lv_iload_n hx hb dMo_makeCover_108 rfl (lv_at hl 1 rfl) ?_
        refine lv_iconst (v := nI 0) hx hb dMo_makeCover_109 (by decide) ?_
        refine ck_iast hx hb hG hP hD hS 3 rfl (by decide) (256 * c4) (rfl) (by omega) dMo_makeCover_110 (fun H locs hP hD hS => ?_)
        have hP : va_P G.1 vwCl [moC oy r th fi se (nI dp) sh sl az oh ol w0 w1 w2, aZ G (r 6) 1024 sb, aZ G (r 13) 512 mk1, aI G (r 11) 1024 (upd sv (256 * c4) (nI 0)), aI G (r 12) 1024 sw, aI G (r 10) 4 ss] H := hP
        have hD : va_D A [moC oy r th fi se (nI dp) sh sl az oh ol w0 w1 w2, aZ G (r 6) 1024 sb, aZ G (r 13) 512 mk1, aI G (r 11) 1024 (upd sv (256 * c4) (nI 0)), aI G (r 12) 1024 sw, aI G (r 10) 4 ss] := hD
        refine lv_aload_n hx hb dMo_makeCover_111 rfl (lv_at hl 2 rfl) ?_
        refine gfMo_48 hx hb hts hown hG hP 0 rfl rfl dMo_makeCover_112 ?_
        refine lv_iload_n hx hb dMo_makeCover_115 rfl (lv_at hl 1 rfl) ?_
        refine lv_iconst (v := nI 0) hx hb dMo_makeCover_116 (by decide) ?_
        refine ck_iast hx hb hG hP hD hS 4 rfl (by decide) (256 * c4) (rfl) (by omega) dMo_makeCover_117 (fun H locs hP hD hS => ?_)
        have hP : va_P G.1 vwCl [moC oy r th fi se (nI dp) sh sl az oh ol w0 w1 w2, aZ G (r 6) 1024 sb, aZ G (r 13) 512 mk1, aI G (r 11) 1024 (upd sv (256 * c4) (nI 0)), aI G (r 12) 1024 (upd sw (256 * c4) (nI 0)), aI G (r 10) 4 ss] H := hP
        have hD : va_D A [moC oy r th fi se (nI dp) sh sl az oh ol w0 w1 w2, aZ G (r 6) 1024 sb, aZ G (r 13) 512 mk1, aI G (r 11) 1024 (upd sv (256 * c4) (nI 0)), aI G (r 12) 1024 (upd sw (256 * c4) (nI 0)), aI G (r 10) 4 ss] := hD
        refine lv_iconst (v := nI 1) hx hb dMo_makeCover_118 (by decide) ?_
        refine lv_istore (lv' := [(4, .int (nI 1)), (3, .int (nI (256 * c4))), (0, .ref oy), (1, .int (nI c4)), (2, .int (nI (2 ^ dp)))]) hx hb dMo_makeCover_119 hl (by decide) rfl (fun ls hl => ?_)
        refine lv_iconst (v := nI 1) hx hb dMo_makeCover_121 (by decide) ?_
        refine lv_istore (lv' := [(5, .int (nI 1)), (4, .int (nI 1)), (3, .int (nI (256 * c4))), (0, .ref oy), (1, .int (nI c4)), (2, .int (nI (2 ^ dp)))]) hx hb dMo_makeCover_122 hl (by decide) rfl (fun ls hl => ?_)
        have e0 : cvI M (2 ^ dp) fv fw (min 0 (2 ^ dp - 1)) = (1, upd fv 0 (nI 0), upd fw 0 (nI 0)) := if_pos h4
        have hR0 : cvR c4 sv sw (upd sv (256 * c4) (nI 0)) (upd sw (256 * c4) (nI 0)) (cvI M (2 ^ dp) fv fw (min 0 (2 ^ dp - 1))) 1 := by
          rw [e0]; exact cvR_add (C := (0, fv, fw)) (q := 0) ⟨rfl, by decide, fun k hk => by omega, fun j _ => ⟨rfl, rfl⟩⟩ (by decide) (nI 0) (nI 0)
        exact loop9 (2 * 2 ^ dp - 1) 0 1 _ _ _ _ _ (by omega) hR0 hP hD hS (lv_sub hl [3, 4, 5, 2, 1, 0] rfl)
    | succ k ih =>
      intro i mk1 H locs ls hk hq hP hD hS hl
      refine lv_iload_n hx hb dMo_makeCover_11 rfl (lv_at hl 3 rfl) ?_
      refine lv_if_le (tgt := 86) hx hb dMo_makeCover_12 rfl (fun h => absurd h (fun z => by have := (nI_leI (b := 0) (by omega) (by omega)).mp z; omega)) (fun _ => ?_)
      refine lv_aload_n hx hb dMo_makeCover_15 rfl (lv_at hl 0 rfl) ?_
      refine gfMo_51 hx hb hts hown hG hP 0 rfl rfl dMo_makeCover_16 ?_
      refine lv_iload_n hx hb dMo_makeCover_19 rfl (lv_at hl 3 rfl) ?_
      refine lv_iload_n hx hb dMo_makeCover_20 rfl (lv_at hl 3 rfl) ?_
      refine lv_iload_n hx hb dMo_makeCover_21 rfl (lv_at hl 2 rfl) ?_
      refine lv_icmp_lt (tgt := 50) hx hb dMo_makeCover_22 rfl (fun h8 => ?_) (fun h8 => ?_)
      · have h7 : (2 * 2 ^ dp - 1 - i) < 2 ^ dp := (nI_ltI (by omega) (by omega)).mp h8
        refine lv_aload_n hx hb dMo_makeCover_50 rfl (lv_at hl 0 rfl) ?_
        refine gfMo_51 hx hb hts hown hG hP 0 rfl rfl dMo_makeCover_51 ?_
        refine lv_iconst (v := nI 2) hx hb dMo_makeCover_54 (by decide) ?_
        refine lv_iload_n hx hb dMo_makeCover_55 rfl (lv_at hl 3 rfl) ?_
        refine lv_imul hx hb dMo_makeCover_56 ?_
        refine ck_ri (y := nI (2 * (2 * 2 ^ dp - 1 - i))) (pk_mul 2 _) ?_
        refine ck_zald hx hb hG hP 2 rfl (by decide) (2 * (2 * 2 ^ dp - 1 - i)) (rfl) (by omega) dMo_makeCover_57 ?_
        refine ck_ri (y := M (2 * (2 * 2 ^ dp - 1 - i))) (hq _ (by omega) (by omega)) ?_
        refine lv_if_ne (tgt := 74) hx hb dMo_makeCover_58 rfl (fun h6 => ?_) (fun h6 => ?_)
        · have h5 : ¬ M (2 * (2 * 2 ^ dp - 1 - i)) = 0 := h6
          refine lv_iconst (v := nI 1) hx hb dMo_makeCover_74 (by decide) ?_
          refine lv_goto (tgt := 79) hx hb dMo_makeCover_75 rfl ?_
          refine ck_zast (x' := nI 1) hx hb hG hP hD hS 2 rfl (by decide) (2 * 2 ^ dp - 1 - i) (rfl) (by omega) (rfl) dMo_makeCover_79 (fun H locs hP hD hS => ?_)
          have hP : va_P G.1 vwCl [moC oy r th fi se (nI dp) sh sl az oh ol w0 w1 w2, aZ G (r 6) 1024 sb, aZ G (r 13) 512 (upd mk1 (2 * 2 ^ dp - 1 - i) (nI 1)), aI G (r 11) 1024 sv, aI G (r 12) 1024 sw, aI G (r 10) 4 ss] H := hP
          have hD : va_D A [moC oy r th fi se (nI dp) sh sl az oh ol w0 w1 w2, aZ G (r 6) 1024 sb, aZ G (r 13) 512 (upd mk1 (2 * 2 ^ dp - 1 - i) (nI 1)), aI G (r 11) 1024 sv, aI G (r 12) 1024 sw, aI G (r 10) 4 ss] := hD
          refine lv_iinc (v := nI (2 * 2 ^ dp - 1 - (i + 1))) (lv' := [(3, .int (nI (2 * 2 ^ dp - 1 - (i + 1)))), (0, .ref oy), (1, .int (nI c4)), (2, .int (nI (2 ^ dp)))]) hx hb dMo_makeCover_80 hl (k := 3) rfl (by rw [show 2 * 2 ^ dp - 1 - i = (2 * 2 ^ dp - 1 - (i + 1)) + 1 by omega]; exact pk_m1 _) (by decide) rfl (fun ls hl => ?_)
          refine lv_goto (tgt := 11) hx hb dMo_makeCover_83 rfl ?_
          have e9 : M (2 * 2 ^ dp - 1 - i) = nI 1 := by
            rw [hM.2 (2 * 2 ^ dp - 1 - i) (by omega) h7]; unfold jOr
            rw [if_neg h5]
          exact ih (i + 1) _ _ _ _ (by omega) (fun j j1 j2 => by unfold upd; by_cases hj : j = (2 * 2 ^ dp - 1 - i); rw [if_pos hj, hj, e9]; rw [if_neg hj]; exact hq j (by omega) j2) hP hD hS (lv_sub hl [1, 2, 3, 0] rfl)
        · have h5 : M (2 * (2 * 2 ^ dp - 1 - i)) = 0 := h6
          refine lv_aload_n hx hb dMo_makeCover_61 rfl (lv_at hl 0 rfl) ?_
          refine gfMo_51 hx hb hts hown hG hP 0 rfl rfl dMo_makeCover_62 ?_
          refine lv_iconst (v := nI 2) hx hb dMo_makeCover_65 (by decide) ?_
          refine lv_iload_n hx hb dMo_makeCover_66 rfl (lv_at hl 3 rfl) ?_
          refine lv_imul hx hb dMo_makeCover_67 ?_
          refine ck_ri (y := nI (2 * (2 * 2 ^ dp - 1 - i))) (pk_mul 2 _) ?_
          refine lv_iconst (v := nI 1) hx hb dMo_makeCover_68 (by decide) ?_
          refine lv_iadd hx hb dMo_makeCover_69 ?_
          refine ck_ri (y := nI (2 * (2 * 2 ^ dp - 1 - i) + 1)) (nI_add _ 1) ?_
          refine ck_zald hx hb hG hP 2 rfl (by decide) (2 * (2 * 2 ^ dp - 1 - i) + 1) (rfl) (by omega) dMo_makeCover_70 ?_
          refine ck_ri (y := M (2 * (2 * 2 ^ dp - 1 - i) + 1)) (hq _ (by omega) (by omega)) ?_
          refine lv_if_eq (tgt := 78) hx hb dMo_makeCover_71 rfl (fun h4 => ?_) (fun h4 => ?_)
          · have h3 : M (2 * (2 * 2 ^ dp - 1 - i) + 1) = 0 := h4
            refine lv_iconst (v := nI 0) hx hb dMo_makeCover_78 (by decide) ?_
            refine ck_zast (x' := nI 0) hx hb hG hP hD hS 2 rfl (by decide) (2 * 2 ^ dp - 1 - i) (rfl) (by omega) (rfl) dMo_makeCover_79 (fun H locs hP hD hS => ?_)
            have hP : va_P G.1 vwCl [moC oy r th fi se (nI dp) sh sl az oh ol w0 w1 w2, aZ G (r 6) 1024 sb, aZ G (r 13) 512 (upd mk1 (2 * 2 ^ dp - 1 - i) (nI 0)), aI G (r 11) 1024 sv, aI G (r 12) 1024 sw, aI G (r 10) 4 ss] H := hP
            have hD : va_D A [moC oy r th fi se (nI dp) sh sl az oh ol w0 w1 w2, aZ G (r 6) 1024 sb, aZ G (r 13) 512 (upd mk1 (2 * 2 ^ dp - 1 - i) (nI 0)), aI G (r 11) 1024 sv, aI G (r 12) 1024 sw, aI G (r 10) 4 ss] := hD
            refine lv_iinc (v := nI (2 * 2 ^ dp - 1 - (i + 1))) (lv' := [(3, .int (nI (2 * 2 ^ dp - 1 - (i + 1)))), (0, .ref oy), (1, .int (nI c4)), (2, .int (nI (2 ^ dp)))]) hx hb dMo_makeCover_80 hl (k := 3) rfl (by rw [show 2 * 2 ^ dp - 1 - i = (2 * 2 ^ dp - 1 - (i + 1)) + 1 by omega]; exact pk_m1 _) (by decide) rfl (fun ls hl => ?_)
            refine lv_goto (tgt := 11) hx hb dMo_makeCover_83 rfl ?_
            have e9 : M (2 * 2 ^ dp - 1 - i) = nI 0 := by
              rw [hM.2 (2 * 2 ^ dp - 1 - i) (by omega) h7]; unfold jOr
              rw [if_pos h5, if_pos h3]
            exact ih (i + 1) _ _ _ _ (by omega) (fun j j1 j2 => by unfold upd; by_cases hj : j = (2 * 2 ^ dp - 1 - i); rw [if_pos hj, hj, e9]; rw [if_neg hj]; exact hq j (by omega) j2) hP hD hS (lv_sub hl [1, 2, 3, 0] rfl)
          · have h3 : ¬ M (2 * (2 * 2 ^ dp - 1 - i) + 1) = 0 := h4
            refine lv_iconst (v := nI 1) hx hb dMo_makeCover_74 (by decide) ?_
            refine lv_goto (tgt := 79) hx hb dMo_makeCover_75 rfl ?_
            refine ck_zast (x' := nI 1) hx hb hG hP hD hS 2 rfl (by decide) (2 * 2 ^ dp - 1 - i) (rfl) (by omega) (rfl) dMo_makeCover_79 (fun H locs hP hD hS => ?_)
            have hP : va_P G.1 vwCl [moC oy r th fi se (nI dp) sh sl az oh ol w0 w1 w2, aZ G (r 6) 1024 sb, aZ G (r 13) 512 (upd mk1 (2 * 2 ^ dp - 1 - i) (nI 1)), aI G (r 11) 1024 sv, aI G (r 12) 1024 sw, aI G (r 10) 4 ss] H := hP
            have hD : va_D A [moC oy r th fi se (nI dp) sh sl az oh ol w0 w1 w2, aZ G (r 6) 1024 sb, aZ G (r 13) 512 (upd mk1 (2 * 2 ^ dp - 1 - i) (nI 1)), aI G (r 11) 1024 sv, aI G (r 12) 1024 sw, aI G (r 10) 4 ss] := hD
            refine lv_iinc (v := nI (2 * 2 ^ dp - 1 - (i + 1))) (lv' := [(3, .int (nI (2 * 2 ^ dp - 1 - (i + 1)))), (0, .ref oy), (1, .int (nI c4)), (2, .int (nI (2 ^ dp)))]) hx hb dMo_makeCover_80 hl (k := 3) rfl (by rw [show 2 * 2 ^ dp - 1 - i = (2 * 2 ^ dp - 1 - (i + 1)) + 1 by omega]; exact pk_m1 _) (by decide) rfl (fun ls hl => ?_)
            refine lv_goto (tgt := 11) hx hb dMo_makeCover_83 rfl ?_
            have e9 : M (2 * 2 ^ dp - 1 - i) = nI 1 := by
              rw [hM.2 (2 * 2 ^ dp - 1 - i) (by omega) h7]; unfold jOr
              rw [if_pos h5, if_neg h3]
            exact ih (i + 1) _ _ _ _ (by omega) (fun j j1 j2 => by unfold upd; by_cases hj : j = (2 * 2 ^ dp - 1 - i); rw [if_pos hj, hj, e9]; rw [if_neg hj]; exact hq j (by omega) j2) hP hD hS (lv_sub hl [1, 2, 3, 0] rfl)
      · have h7 : ¬ (2 * 2 ^ dp - 1 - i) < 2 ^ dp := fun z => h8 ((nI_ltI (by omega) (by omega)).mpr z)
        refine lv_aload_n hx hb dMo_makeCover_25 rfl (lv_at hl 0 rfl) ?_
        refine gfMo_29 hx hb hts hown hG hP 0 rfl rfl dMo_makeCover_26 ?_
        refine lv_sipush (v := nI 256) hx hb dMo_makeCover_29 (by decide) ?_
        refine lv_iload_n hx hb dMo_makeCover_32 rfl (lv_at hl 1 rfl) ?_
        refine lv_imul hx hb dMo_makeCover_33 ?_
        refine ck_ri (y := nI (256 * c4)) (pk_mul 256 _) ?_
        refine lv_iload_n hx hb dMo_makeCover_34 rfl (lv_at hl 3 rfl) ?_
        refine lv_iadd hx hb dMo_makeCover_35 ?_
        refine ck_ri (y := nI (256 * c4 + (2 * 2 ^ dp - 1 - i))) (nI_add _ _) ?_
        refine lv_iload_n hx hb dMo_makeCover_36 rfl (lv_at hl 2 rfl) ?_
        refine lv_isub hx hb dMo_makeCover_37 ?_
        refine ck_ri (y := nI (256 * c4 + ((2 * 2 ^ dp - 1 - i) - 2 ^ dp))) (by rw [pk_sub (by omega), show 256 * c4 + (2 * 2 ^ dp - 1 - i) - 2 ^ dp = 256 * c4 + ((2 * 2 ^ dp - 1 - i) - 2 ^ dp) by omega]) ?_
        refine ck_zald hx hb hG hP 1 rfl (by decide) (256 * c4 + ((2 * 2 ^ dp - 1 - i) - 2 ^ dp)) (rfl) (by omega) dMo_makeCover_38 ?_
        refine ck_ri (y := g ((2 * 2 ^ dp - 1 - i) - 2 ^ dp)) (hsb _ (by omega)) ?_
        refine lv_if_ne (tgt := 46) hx hb dMo_makeCover_39 rfl (fun h6 => ?_) (fun h6 => ?_)
        · have h5 : ¬ g ((2 * 2 ^ dp - 1 - i) - 2 ^ dp) = 0 := h6
          refine lv_iconst (v := nI 0) hx hb dMo_makeCover_46 (by decide) ?_
          refine lv_goto (tgt := 79) hx hb dMo_makeCover_47 rfl ?_
          refine ck_zast (x' := nI 0) hx hb hG hP hD hS 2 rfl (by decide) (2 * 2 ^ dp - 1 - i) (rfl) (by omega) (rfl) dMo_makeCover_79 (fun H locs hP hD hS => ?_)
          have hP : va_P G.1 vwCl [moC oy r th fi se (nI dp) sh sl az oh ol w0 w1 w2, aZ G (r 6) 1024 sb, aZ G (r 13) 512 (upd mk1 (2 * 2 ^ dp - 1 - i) (nI 0)), aI G (r 11) 1024 sv, aI G (r 12) 1024 sw, aI G (r 10) 4 ss] H := hP
          have hD : va_D A [moC oy r th fi se (nI dp) sh sl az oh ol w0 w1 w2, aZ G (r 6) 1024 sb, aZ G (r 13) 512 (upd mk1 (2 * 2 ^ dp - 1 - i) (nI 0)), aI G (r 11) 1024 sv, aI G (r 12) 1024 sw, aI G (r 10) 4 ss] := hD
          refine lv_iinc (v := nI (2 * 2 ^ dp - 1 - (i + 1))) (lv' := [(3, .int (nI (2 * 2 ^ dp - 1 - (i + 1)))), (0, .ref oy), (1, .int (nI c4)), (2, .int (nI (2 ^ dp)))]) hx hb dMo_makeCover_80 hl (k := 3) rfl (by rw [show 2 * 2 ^ dp - 1 - i = (2 * 2 ^ dp - 1 - (i + 1)) + 1 by omega]; exact pk_m1 _) (by decide) rfl (fun ls hl => ?_)
          refine lv_goto (tgt := 11) hx hb dMo_makeCover_83 rfl ?_
          have e9 : M (2 * 2 ^ dp - 1 - i) = nI 0 := by
            have := hM.1 ((2 * 2 ^ dp - 1 - i) - 2 ^ dp) (by omega)
            rw [show 2 ^ dp + ((2 * 2 ^ dp - 1 - i) - 2 ^ dp) = (2 * 2 ^ dp - 1 - i) by omega] at this
            rw [this]; unfold jN; rw [if_neg h5]
          exact ih (i + 1) _ _ _ _ (by omega) (fun j j1 j2 => by unfold upd; by_cases hj : j = (2 * 2 ^ dp - 1 - i); rw [if_pos hj, hj, e9]; rw [if_neg hj]; exact hq j (by omega) j2) hP hD hS (lv_sub hl [1, 2, 3, 0] rfl)
        · have h5 : g ((2 * 2 ^ dp - 1 - i) - 2 ^ dp) = 0 := h6
          refine lv_iconst (v := nI 1) hx hb dMo_makeCover_42 (by decide) ?_
          refine lv_goto (tgt := 79) hx hb dMo_makeCover_43 rfl ?_
          refine ck_zast (x' := nI 1) hx hb hG hP hD hS 2 rfl (by decide) (2 * 2 ^ dp - 1 - i) (rfl) (by omega) (rfl) dMo_makeCover_79 (fun H locs hP hD hS => ?_)
          have hP : va_P G.1 vwCl [moC oy r th fi se (nI dp) sh sl az oh ol w0 w1 w2, aZ G (r 6) 1024 sb, aZ G (r 13) 512 (upd mk1 (2 * 2 ^ dp - 1 - i) (nI 1)), aI G (r 11) 1024 sv, aI G (r 12) 1024 sw, aI G (r 10) 4 ss] H := hP
          have hD : va_D A [moC oy r th fi se (nI dp) sh sl az oh ol w0 w1 w2, aZ G (r 6) 1024 sb, aZ G (r 13) 512 (upd mk1 (2 * 2 ^ dp - 1 - i) (nI 1)), aI G (r 11) 1024 sv, aI G (r 12) 1024 sw, aI G (r 10) 4 ss] := hD
          refine lv_iinc (v := nI (2 * 2 ^ dp - 1 - (i + 1))) (lv' := [(3, .int (nI (2 * 2 ^ dp - 1 - (i + 1)))), (0, .ref oy), (1, .int (nI c4)), (2, .int (nI (2 ^ dp)))]) hx hb dMo_makeCover_80 hl (k := 3) rfl (by rw [show 2 * 2 ^ dp - 1 - i = (2 * 2 ^ dp - 1 - (i + 1)) + 1 by omega]; exact pk_m1 _) (by decide) rfl (fun ls hl => ?_)
          refine lv_goto (tgt := 11) hx hb dMo_makeCover_83 rfl ?_
          have e9 : M (2 * 2 ^ dp - 1 - i) = nI 1 := by
            have := hM.1 ((2 * 2 ^ dp - 1 - i) - 2 ^ dp) (by omega)
            rw [show 2 ^ dp + ((2 * 2 ^ dp - 1 - i) - 2 ^ dp) = (2 * 2 ^ dp - 1 - i) by omega] at this
            rw [this]; unfold jN; rw [if_pos h5]
          exact ih (i + 1) _ _ _ _ (by omega) (fun j j1 j2 => by unfold upd; by_cases hj : j = (2 * 2 ^ dp - 1 - i); rw [if_pos hj, hj, e9]; rw [if_neg hj]; exact hq j (by omega) j2) hP hD hS (lv_sub hl [1, 2, 3, 0] rfl)
  exact loop (2 * 2 ^ dp - 1) 0 _ _ _ _ (by omega) (fun j j1 j2 => by omega) hP hD hS (lv_sub hl [2, 3, 1, 0] rfl)
