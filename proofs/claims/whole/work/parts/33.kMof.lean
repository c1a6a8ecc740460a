/-! the reference: public methods -/
theorem k_Mo_isSub (l : Launch) (G : gG) (oy : Nat) (r : Nat → Nat) (th : Int32) (fi se : Int64) (dp : Nat) (hdp : dp ≤ 8) (sh sl : Int64) (az : Int32) (oh ol w0 w1 w2 : Int64) (v1 y1 : Int32) : Ck l G yMo_isSubset cMo_isSubset 3 (some .boolean) { frames := 1, cells := 0, slots := 0, locals := 22 } [.ref oy, .int v1, .int y1] [moC oy r th fi se (nI dp) sh sl az oh ol w0 w1 w2] (some (.int (jB (jSub dp v1 y1)))) [moC oy r th fi se (nI dp) sh sl az oh ol w0 w1 w2] := by
  have h := k_Mo_isSubset l G oy r th fi se dp hdp sh sl az oh ol w0 w1 w2 v1 y1
  rw [rSub_eq hdp] at h
  exact h
theorem k_Mo_hasLf (l : Launch) (G : gG) (oy : Nat) (r : Nat → Nat) (th : Int32) (fi se : Int64) (dp : Nat) (hdp : dp ≤ 8) (sh sl : Int64) (az : Int32) (oh ol w0 w1 w2 : Int64) (v1 y1 : Int32) (dd : Nat) (hd : dd < 2 ^ dp) (hs : jSub dp v1 y1 = true) : Ck l G yMo_hasLeaf cMo_hasLeaf 4 (some .boolean) { frames := 2, cells := 0, slots := 0, locals := 41 } [.ref oy, .int v1, .int y1, .int (nI dd)] [moC oy r th fi se (nI dp) sh sl az oh ol w0 w1 w2] (some (.int (jB (jDer dp (nI dd) v1 y1)))) [moC oy r th fi se (nI dp) sh sl az oh ol w0 w1 w2] := by
  obtain ⟨a, b, ha, hbb, rfl, rfl⟩ := jSub_ex hdp hs
  have h := k_Mo_hasLeaf l G oy r th fi se dp hdp sh sl az oh ol w0 w1 w2 a b dd ((jSub_N hdp (by omega) (by omega) hs).elim (fun z => Or.inl z.1) (fun z => Or.inr ⟨z.1, by omega⟩)) (by omega) (by omega) hd
  rw [rHl_eq hdp (by omega) (by omega) hd hs] at h
  exact h
theorem k_Mo_makeKy (l : Launch) (G : gG) (oy : Nat) (r : Nat → Nat) (th : Int32) (fi se : Int64) (dp : Nat) (hdp : dp ≤ 8) (sh sl : Int64) (az : Int32) (oh ol w0 w1 w2 : Int64) (f g m0 : Nat → Nat) (v1 y1 : Int32) (hs : jSub dp v1 y1 = true) : Cq l G yMo_makeKey cMo_makeKey 3 none { frames := 4, cells := 0, slots := 0, locals := 105 } [.ref oy, .int v1, .int y1] [moC oy r th fi se (nI dp) sh sl az oh ol w0 w1 w2, aI G (r 0) 256 ckS, aI G (r 2) 176 (bN f), aI G (r 3) 16 (bN g), aI G (r 4) 16 (bN m0)] (S := (Nat → Nat) × (Nat → Nat) × (Nat → Nat)) (fun _ => True) (fun u => none) (fun u => [moC oy r th (jKy sh sl v1 y1 (jLv y1 v1)).1 (jKy sh sl v1 y1 (jLv y1 v1)).2 (nI dp) sh sl az oh ol w0 w1 w2, aI G (r 0) 256 ckS, aI G (r 2) 176 (bN u.1), aI G (r 3) 16 (bN u.2.1), aI G (r 4) 16 (bN u.2.2)]) := by
  obtain ⟨a, b, ha, hbb, e1, e2⟩ := jSub_ex hdp hs
  have hl := jSub_lv hs
  have hle := jLv_le y1 v1
  generalize jLv y1 v1 = lv at hl hle ⊢
  rw [e2] at hl ⊢
  exact k_Mo_makeKey l G oy r th fi se (nI dp) sh sl az oh ol w0 w1 w2 f g m0 v1 b lv (by omega) hle hl
theorem mask_xor {x m : Int32} (hx : x &&& nI 255 = x) : (x ^^^ m) &&& nI 255 = x ^^^ (m &&& nI 255) := by
  rw [← hx]
  apply un_inj
  simp only [un_and, un_xor]
  apply Nat.eq_of_testBit_eq
  intro i
  simp only [Nat.testBit_and, Nat.testBit_xor]
  generalize (un x).testBit i = p
  generalize (un m).testBit i = q
  generalize (un (nI 255)).testBit i = t
  revert p q t
  decide
set_option maxHeartbeats 4000000 in
set_option maxRecDepth 100000 in
theorem k_Mo_clear (l : Launch) (G : gG) (oy : Nat) (r : Nat → Nat) (th : Int32) (fi se : Int64) (d : Int32) (sh sl : Int64) (az : Int32) (oh ol w0 w1 w2 : Int64) (f5 f6 f15 f7 f10 : Nat → Int32) (d1 : Int32) (h1 l1 : Int64) : Ck l G yMo_clear cMo_clear 7 none { frames := 0, cells := 0, slots := 0, locals := 0 } [.ref oy, .int d1, .long h1, .long l1] [moC oy r th fi se d sh sl az oh ol w0 w1 w2, aZ G (r 5) 256 f5, aZ G (r 6) 1024 f6, aI G (r 15) 1024 f15, aI G (r 7) 4 f7, aI G (r 10) 4 f10] (none) [moC oy r th fi se d1 h1 l1 (nI 0) oh ol w0 w1 w2, aZ G (r 5) 256 (fun _ => nI 0), aZ G (r 6) 1024 (fun _ => nI 0), aI G (r 15) 1024 (fun _ => (-1)), aI G (r 7) 4 (fun _ => nI 0), aI G (r 10) 4 (fun _ => nI 0)] := by
  refine Cq.of (by decide) (Nat.le_of_ble_eq_true rfl) ?_
  intro p e s m args below meth c A ls hx hb hr hml hts hown hlk hA hP hD hG hS hl
  have hl : lv_has ls 7 [(0, .ref oy), (1, .int d1), (2, .long h1), (4, .long l1)] := hl
  refine lv_aload_n hx hb dMo_clear_0 rfl (lv_at hl 0 rfl) ?_
  refine lv_iload_n hx hb dMo_clear_1 rfl (lv_at hl 1 rfl) ?_
  refine pfMo_127 hx hb hts hown hG hP hD hS 0 rfl rfl rfl (Nat.le_of_ble_eq_true rfl) dMo_clear_2 (fun H locs hP hD hS => ?_)
  have hP : va_P G.1 vwCl [moC oy r th fi se d1 sh sl az oh ol w0 w1 w2, aZ G (r 5) 256 f5, aZ G (r 6) 1024 f6, aI G (r 15) 1024 f15, aI G (r 7) 4 f7, aI G (r 10) 4 f10] H := hP
  have hD : va_D A [moC oy r th fi se d1 sh sl az oh ol w0 w1 w2, aZ G (r 5) 256 f5, aZ G (r 6) 1024 f6, aI G (r 15) 1024 f15, aI G (r 7) 4 f7, aI G (r 10) 4 f10] := hD
  refine lv_aload_n hx hb dMo_clear_5 rfl (lv_at hl 0 rfl) ?_
  refine lv_lload_n hx hb dMo_clear_6 rfl (lv_at hl 2 rfl) ?_
  refine pfMo_130 hx hb hts hown hG hP hD hS 0 rfl rfl rfl (Nat.le_of_ble_eq_true rfl) dMo_clear_7 (fun H locs hP hD hS => ?_)
  have hP : va_P G.1 vwCl [moC oy r th fi se d1 h1 sl az oh ol w0 w1 w2, aZ G (r 5) 256 f5, aZ G (r 6) 1024 f6, aI G (r 15) 1024 f15, aI G (r 7) 4 f7, aI G (r 10) 4 f10] H := hP
  have hD : va_D A [moC oy r th fi se d1 h1 sl az oh ol w0 w1 w2, aZ G (r 5) 256 f5, aZ G (r 6) 1024 f6, aI G (r 15) 1024 f15, aI G (r 7) 4 f7, aI G (r 10) 4 f10] := hD
  refine lv_aload_n hx hb dMo_clear_10 rfl (lv_at hl 0 rfl) ?_
  refine lv_lload hx hb dMo_clear_11 (lv_at hl 3 rfl) ?_
  refine pfMo_133 hx hb hts hown hG hP hD hS 0 rfl rfl rfl (Nat.le_of_ble_eq_true rfl) dMo_clear_13 (fun H locs hP hD hS => ?_)
  have hP : va_P G.1 vwCl [moC oy r th fi se d1 h1 l1 az oh ol w0 w1 w2, aZ G (r 5) 256 f5, aZ G (r 6) 1024 f6, aI G (r 15) 1024 f15, aI G (r 7) 4 f7, aI G (r 10) 4 f10] H := hP
  have hD : va_D A [moC oy r th fi se d1 h1 l1 az oh ol w0 w1 w2, aZ G (r 5) 256 f5, aZ G (r 6) 1024 f6, aI G (r 15) 1024 f15, aI G (r 7) 4 f7, aI G (r 10) 4 f10] := hD
  refine lv_aload_n hx hb dMo_clear_16 rfl (lv_at hl 0 rfl) ?_
  refine lv_iconst (v := nI 0) hx hb dMo_clear_17 (by decide) ?_
  refine pfMo_136 hx hb hts hown hG hP hD hS 0 rfl rfl rfl (Nat.le_of_ble_eq_true rfl) dMo_clear_18 (fun H locs hP hD hS => ?_)
  have hP : va_P G.1 vwCl [moC oy r th fi se d1 h1 l1 (nI 0) oh ol w0 w1 w2, aZ G (r 5) 256 f5, aZ G (r 6) 1024 f6, aI G (r 15) 1024 f15, aI G (r 7) 4 f7, aI G (r 10) 4 f10] H := hP
  have hD : va_D A [moC oy r th fi se d1 h1 l1 (nI 0) oh ol w0 w1 w2, aZ G (r 5) 256 f5, aZ G (r 6) 1024 f6, aI G (r 15) 1024 f15, aI G (r 7) 4 f7, aI G (r 10) 4 f10] := hD
  refine lv_iconst (v := nI 0) hx hb dMo_clear_21 (by decide) ?_
  refine lv_istore (lv' := [(6, .int (nI 0)), (0, .ref oy), (1, .int d1), (2, .long h1), (4, .long l1)]) hx hb dMo_clear_22 hl (by decide) rfl (fun ls hl => ?_)
  have loop1 : ∀ (k : Nat) (n : Nat) (H : Heap) (locs : List Loc) (ls : Array Slot), n + k = 256 → va_P G.1 vwCl [moC oy r th fi se d1 h1 l1 (nI 0) oh ol w0 w1 w2, aZ G (r 5) 256 (jFill f5 (nI 0) n), aZ G (r 6) 1024 f6, aI G (r 15) 1024 f15, aI G (r 7) 4 f7, aI G (r 10) 4 f10] H → va_D A [moC oy r th fi se d1 h1 l1 (nI 0) oh ol w0 w1 w2, aZ G (r 5) 256 (jFill f5 (nI 0) n), aZ G (r 6) 1024 f6, aI G (r 15) 1024 f15, aI G (r 7) 4 f7, aI G (r 10) 4 f10] → va_S A s.heap H locs → lv_has ls 7 [(0, .ref oy), (6, .int (nI n))] → W p l e { frames := 0, cells := 0, slots := 0, locals := 0 } s m args below meth c H locs 0 0 (MQ below (cq_out G (S := Unit) (fun _ => True) (fun _ => (none)) (fun _ => [moC oy r th fi se d1 h1 l1 (nI 0) oh ol w0 w1 w2, aZ G (r 5) 256 (fun _ => nI 0), aZ G (r 6) 1024 (fun _ => nI 0), aI G (r 15) 1024 (fun _ => (-1)), aI G (r 7) 4 (fun _ => nI 0), aI G (r 10) 4 (fun _ => nI 0)]) A) args s 0 0 A) (F0 m 24 ls []) := by
    intro k
    induction k with
    | zero =>
      intro n H locs ls hk hP hD hS hl
      have hP := ck_cg hP 1 rfl (g := fun _ => nI 0) (fun j hj => jFill_lt f5 (nI 0) n j (by omega))
      have hP : va_P G.1 vwCl [moC oy r th fi se d1 h1 l1 (nI 0) oh ol w0 w1 w2, aZ G (r 5) 256 (fun _ => nI 0), aZ G (r 6) 1024 f6, aI G (r 15) 1024 f15, aI G (r 7) 4 f7, aI G (r 10) 4 f10] H := hP
      have hD : va_D A [moC oy r th fi se d1 h1 l1 (nI 0) oh ol w0 w1 w2, aZ G (r 5) 256 (fun _ => nI 0), aZ G (r 6) 1024 f6, aI G (r 15) 1024 f15, aI G (r 7) 4 f7, aI G (r 10) 4 f10] := ck_Dsame (by rfl) hD
      refine lv_iload hx hb dMo_clear_24 (lv_at hl 1 rfl) ?_
      refine lv_sipush (v := nI 256) hx hb dMo_clear_26 (by decide) ?_
      refine lv_icmp_ge (tgt := 46) hx hb dMo_clear_29 rfl (fun _ => ?_) (fun h => absurd (nI_le (by omega) (by omega)) h)
      refine lv_iconst (v := nI 0) hx hb dMo_clear_46 (by decide) ?_
      refine lv_istore (lv' := [(6, .int (nI 0)), (0, .ref oy)]) hx hb dMo_clear_47 hl (by decide) rfl (fun ls hl => ?_)
      have loop2 : ∀ (k : Nat) (n : Nat) (H : Heap) (locs : List Loc) (ls : Array Slot), n + k = 1024 → va_P G.1 vwCl [moC oy r th fi se d1 h1 l1 (nI 0) oh ol w0 w1 w2, aZ G (r 5) 256 (fun _ => nI 0), aZ G (r 6) 1024 (jFill f6 (nI 0) n), aI G (r 15) 1024 (jFill f15 (-1) n), aI G (r 7) 4 f7, aI G (r 10) 4 f10] H → va_D A [moC oy r th fi se d1 h1 l1 (nI 0) oh ol w0 w1 w2, aZ G (r 5) 256 (fun _ => nI 0), aZ G (r 6) 1024 (jFill f6 (nI 0) n), aI G (r 15) 1024 (jFill f15 (-1) n), aI G (r 7) 4 f7, aI G (r 10) 4 f10] → va_S A s.heap H locs → lv_has ls 7 [(0, .ref oy), (6, .int (nI n))] → W p l e { frames := 0, cells := 0, slots := 0, locals := 0 } s m args below meth c H locs 0 0 (MQ below (cq_out G (S := Unit) (fun _ => True) (fun _ => (none)) (fun _ => [moC oy r th fi se d1 h1 l1 (nI 0) oh ol w0 w1 w2, aZ G (r 5) 256 (fun _ => nI 0), aZ G (r 6) 1024 (fun _ => nI 0), aI G (r 15) 1024 (fun _ => (-1)), aI G (r 7) 4 (fun _ => nI 0), aI G (r 10) 4 (fun _ => nI 0)]) A) args s 0 0 A) (F0 m 49 ls []) := by
        intro k
        induction k with
        | zero =>
          intro n H locs ls hk hP hD hS hl
          have hP := ck_cg hP 2 rfl (g := fun _ => nI 0) (fun j hj => jFill_lt f6 (nI 0) n j (by omega))
          have hP := ck_cg hP 3 rfl (g := fun _ => (-1)) (fun j hj => jFill_lt f15 (-1) n j (by omega))
          have hP : va_P G.1 vwCl [moC oy r th fi se d1 h1 l1 (nI 0) oh ol w0 w1 w2, aZ G (r 5) 256 (fun _ => nI 0), aZ G (r 6) 1024 (fun _ => nI 0), aI G (r 15) 1024 (fun _ => (-1)), aI G (r 7) 4 f7, aI G (r 10) 4 f10] H := hP
          have hD : va_D A [moC oy r th fi se d1 h1 l1 (nI 0) oh ol w0 w1 w2, aZ G (r 5) 256 (fun _ => nI 0), aZ G (r 6) 1024 (fun _ => nI 0), aI G (r 15) 1024 (fun _ => (-1)), aI G (r 7) 4 f7, aI G (r 10) 4 f10] := ck_Dsame (by rfl) hD
          refine lv_iload hx hb dMo_clear_49 (lv_at hl 1 rfl) ?_
          refine lv_sipush (v := nI 1024) hx hb dMo_clear_51 (by decide) ?_
          refine lv_icmp_ge (tgt := 79) hx hb dMo_clear_54 rfl (fun _ => ?_) (fun h => absurd (nI_le (by omega) (by omega)) h)
          refine lv_iconst (v := nI 0) hx hb dMo_clear_79 (by decide) ?_
          refine lv_istore (lv' := [(6, .int (nI 0)), (0, .ref oy)]) hx hb dMo_clear_80 hl (by decide) rfl (fun ls hl => ?_)
          have loop3 : ∀ (k : Nat) (n : Nat) (H : Heap) (locs : List Loc) (ls : Array Slot), n + k = 4 → va_P G.1 vwCl [moC oy r th fi se d1 h1 l1 (nI 0) oh ol w0 w1 w2, aZ G (r 5) 256 (fun _ => nI 0), aZ G (r 6) 1024 (fun _ => nI 0), aI G (r 15) 1024 (fun _ => (-1)), aI G (r 7) 4 (jFill f7 (nI 0) n), aI G (r 10) 4 (jFill f10 (nI 0) n)] H → va_D A [moC oy r th fi se d1 h1 l1 (nI 0) oh ol w0 w1 w2, aZ G (r 5) 256 (fun _ => nI 0), aZ G (r 6) 1024 (fun _ => nI 0), aI G (r 15) 1024 (fun _ => (-1)), aI G (r 7) 4 (jFill f7 (nI 0) n), aI G (r 10) 4 (jFill f10 (nI 0) n)] → va_S A s.heap H locs → lv_has ls 7 [(0, .ref oy), (6, .int (nI n))] → W p l e { frames := 0, cells := 0, slots := 0, locals := 0 } s m args below meth c H locs 0 0 (MQ below (cq_out G (S := Unit) (fun _ => True) (fun _ => (none)) (fun _ => [moC oy r th fi se d1 h1 l1 (nI 0) oh ol w0 w1 w2, aZ G (r 5) 256 (fun _ => nI 0), aZ G (r 6) 1024 (fun _ => nI 0), aI G (r 15) 1024 (fun _ => (-1)), aI G (r 7) 4 (fun _ => nI 0), aI G (r 10) 4 (fun _ => nI 0)]) A) args s 0 0 A) (F0 m 82 ls []) := by
            intro k
            induction k with
            | zero =>
              intro n H locs ls hk hP hD hS hl
              have hP := ck_cg hP 4 rfl (g := fun _ => nI 0) (fun j hj => jFill_lt f7 (nI 0) n j (by omega))
              have hP := ck_cg hP 5 rfl (g := fun _ => nI 0) (fun j hj => jFill_lt f10 (nI 0) n j (by omega))
              have hP : va_P G.1 vwCl [moC oy r th fi se d1 h1 l1 (nI 0) oh ol w0 w1 w2, aZ G (r 5) 256 (fun _ => nI 0), aZ G (r 6) 1024 (fun _ => nI 0), aI G (r 15) 1024 (fun _ => (-1)), aI G (r 7) 4 (fun _ => nI 0), aI G (r 10) 4 (fun _ => nI 0)] H := hP
              have hD : va_D A [moC oy r th fi se d1 h1 l1 (nI 0) oh ol w0 w1 w2, aZ G (r 5) 256 (fun _ => nI 0), aZ G (r 6) 1024 (fun _ => nI 0), aI G (r 15) 1024 (fun _ => (-1)), aI G (r 7) 4 (fun _ => nI 0), aI G (r 10) 4 (fun _ => nI 0)] := ck_Dsame (by rfl) hD
              refine lv_iload hx hb dMo_clear_82 (lv_at hl 1 rfl) ?_
              refine lv_iconst (v := nI 4) hx hb dMo_clear_84 (by decide) ?_
              refine lv_icmp_ge (tgt := 110) hx hb dMo_clear_85 rfl (fun _ => ?_) (fun h => absurd (nI_le (by omega) (by omega)) h)
              exact cq_vret () (trivial) hx hb hr hlk hP hS rfl (rfl) dMo_clear_110
            | succ k ih =>
              intro n H locs ls hk hP hD hS hl
              refine lv_iload hx hb dMo_clear_82 (lv_at hl 1 rfl) ?_
              refine lv_iconst (v := nI 4) hx hb dMo_clear_84 (by decide) ?_
              refine lv_icmp_ge (tgt := 110) hx hb dMo_clear_85 rfl (fun h => absurd h (nI_ge (by omega) (by omega))) (fun _ => ?_)
              refine lv_aload_n hx hb dMo_clear_88 rfl (lv_at hl 0 rfl) ?_
              refine gfMo_32 hx hb hts hown hG hP 0 rfl rfl dMo_clear_89 ?_
              refine lv_iload hx hb dMo_clear_92 (lv_at hl 1 rfl) ?_
              refine lv_iconst (v := nI 0) hx hb dMo_clear_94 (by decide) ?_
              refine ck_iast hx hb hG hP hD hS 4 rfl (by decide) n (rfl) (by omega) dMo_clear_95 (fun H locs hP hD hS => ?_)
              have hP : va_P G.1 vwCl [moC oy r th fi se d1 h1 l1 (nI 0) oh ol w0 w1 w2, aZ G (r 5) 256 (fun _ => nI 0), aZ G (r 6) 1024 (fun _ => nI 0), aI G (r 15) 1024 (fun _ => (-1)), aI G (r 7) 4 (upd (jFill f7 (nI 0) n) n (nI 0)), aI G (r 10) 4 (jFill f10 (nI 0) n)] H := hP
              have hD : va_D A [moC oy r th fi se d1 h1 l1 (nI 0) oh ol w0 w1 w2, aZ G (r 5) 256 (fun _ => nI 0), aZ G (r 6) 1024 (fun _ => nI 0), aI G (r 15) 1024 (fun _ => (-1)), aI G (r 7) 4 (upd (jFill f7 (nI 0) n) n (nI 0)), aI G (r 10) 4 (jFill f10 (nI 0) n)] := hD
              refine lv_aload_n hx hb dMo_clear_96 rfl (lv_at hl 0 rfl) ?_
              refine gfMo_42 hx hb hts hown hG hP 0 rfl rfl dMo_clear_97 ?_
              refine lv_iload hx hb dMo_clear_100 (lv_at hl 1 rfl) ?_
              refine lv_iconst (v := nI 0) hx hb dMo_clear_102 (by decide) ?_
              refine ck_iast hx hb hG hP hD hS 5 rfl (by decide) n (rfl) (by omega) dMo_clear_103 (fun H locs hP hD hS => ?_)
              have hP : va_P G.1 vwCl [moC oy r th fi se d1 h1 l1 (nI 0) oh ol w0 w1 w2, aZ G (r 5) 256 (fun _ => nI 0), aZ G (r 6) 1024 (fun _ => nI 0), aI G (r 15) 1024 (fun _ => (-1)), aI G (r 7) 4 (upd (jFill f7 (nI 0) n) n (nI 0)), aI G (r 10) 4 (upd (jFill f10 (nI 0) n) n (nI 0))] H := hP
              have hD : va_D A [moC oy r th fi se d1 h1 l1 (nI 0) oh ol w0 w1 w2, aZ G (r 5) 256 (fun _ => nI 0), aZ G (r 6) 1024 (fun _ => nI 0), aI G (r 15) 1024 (fun _ => (-1)), aI G (r 7) 4 (upd (jFill f7 (nI 0) n) n (nI 0)), aI G (r 10) 4 (upd (jFill f10 (nI 0) n) n (nI 0))] := hD
              refine lv_iinc (v := nI (n + 1)) (lv' := [(6, .int (nI (n + 1))), (0, .ref oy)]) hx hb dMo_clear_104 hl (k := 1) rfl (nI_1 n) (by decide) rfl (fun ls hl => ?_)
              refine lv_goto (tgt := 82) hx hb dMo_clear_107 rfl ?_
              exact ih (n + 1) _ _ _ (by omega) hP hD hS (lv_sub hl [1, 0] rfl)
          exact loop3 4 0 _ _ _ (by omega) hP hD hS (lv_sub hl [1, 0] rfl)
        | succ k ih =>
          intro n H locs ls hk hP hD hS hl
          refine lv_iload hx hb dMo_clear_49 (lv_at hl 1 rfl) ?_
          refine lv_sipush (v := nI 1024) hx hb dMo_clear_51 (by decide) ?_
          refine lv_icmp_ge (tgt := 79) hx hb dMo_clear_54 rfl (fun h => absurd h (nI_ge (by omega) (by omega))) (fun _ => ?_)
          refine lv_aload_n hx hb dMo_clear_57 rfl (lv_at hl 0 rfl) ?_
          refine gfMo_29 hx hb hts hown hG hP 0 rfl rfl dMo_clear_58 ?_
          refine lv_iload hx hb dMo_clear_61 (lv_at hl 1 rfl) ?_
          refine lv_iconst (v := nI 0) hx hb dMo_clear_63 (by decide) ?_
          refine ck_zast (x' := nI 0) hx hb hG hP hD hS 2 rfl (by decide) n (rfl) (by omega) (rfl) dMo_clear_64 (fun H locs hP hD hS => ?_)
          have hP : va_P G.1 vwCl [moC oy r th fi se d1 h1 l1 (nI 0) oh ol w0 w1 w2, aZ G (r 5) 256 (fun _ => nI 0), aZ G (r 6) 1024 (upd (jFill f6 (nI 0) n) n (nI 0)), aI G (r 15) 1024 (jFill f15 (-1) n), aI G (r 7) 4 f7, aI G (r 10) 4 f10] H := hP
          have hD : va_D A [moC oy r th fi se d1 h1 l1 (nI 0) oh ol w0 w1 w2, aZ G (r 5) 256 (fun _ => nI 0), aZ G (r 6) 1024 (upd (jFill f6 (nI 0) n) n (nI 0)), aI G (r 15) 1024 (jFill f15 (-1) n), aI G (r 7) 4 f7, aI G (r 10) 4 f10] := hD
          refine lv_aload_n hx hb dMo_clear_65 rfl (lv_at hl 0 rfl) ?_
          refine gfMo_57 hx hb hts hown hG hP 0 rfl rfl dMo_clear_66 ?_
          refine lv_iload hx hb dMo_clear_69 (lv_at hl 1 rfl) ?_
          refine lv_iconst (v := (-1)) hx hb dMo_clear_71 (by decide) ?_
          refine ck_iast hx hb hG hP hD hS 3 rfl (by decide) n (rfl) (by omega) dMo_clear_72 (fun H locs hP hD hS => ?_)
          have hP : va_P G.1 vwCl [moC oy r th fi se d1 h1 l1 (nI 0) oh ol w0 w1 w2, aZ G (r 5) 256 (fun _ => nI 0), aZ G (r 6) 1024 (upd (jFill f6 (nI 0) n) n (nI 0)), aI G (r 15) 1024 (upd (jFill f15 (-1) n) n (-1)), aI G (r 7) 4 f7, aI G (r 10) 4 f10] H := hP
          have hD : va_D A [moC oy r th fi se d1 h1 l1 (nI 0) oh ol w0 w1 w2, aZ G (r 5) 256 (fun _ => nI 0), aZ G (r 6) 1024 (upd (jFill f6 (nI 0) n) n (nI 0)), aI G (r 15) 1024 (upd (jFill f15 (-1) n) n (-1)), aI G (r 7) 4 f7, aI G (r 10) 4 f10] := hD
          refine lv_iinc (v := nI (n + 1)) (lv' := [(6, .int (nI (n + 1))), (0, .ref oy)]) hx hb dMo_clear_73 hl (k := 1) rfl (nI_1 n) (by decide) rfl (fun ls hl => ?_)
          refine lv_goto (tgt := 49) hx hb dMo_clear_76 rfl ?_
          exact ih (n + 1) _ _ _ (by omega) hP hD hS (lv_sub hl [1, 0] rfl)
      exact loop2 1024 0 _ _ _ (by omega) hP hD hS (lv_sub hl [1, 0] rfl)
    | succ k ih =>
      intro n H locs ls hk hP hD hS hl
      refine lv_iload hx hb dMo_clear_24 (lv_at hl 1 rfl) ?_
      refine lv_sipush (v := nI 256) hx hb dMo_clear_26 (by decide) ?_
      refine lv_icmp_ge (tgt := 46) hx hb dMo_clear_29 rfl (fun h => absurd h (nI_ge (by omega) (by omega))) (fun _ => ?_)
      refine lv_aload_n hx hb dMo_clear_32 rfl (lv_at hl 0 rfl) ?_
      refine gfMo_25 hx hb hts hown hG hP 0 rfl rfl dMo_clear_33 ?_
      refine lv_iload hx hb dMo_clear_36 (lv_at hl 1 rfl) ?_
      refine lv_iconst (v := nI 0) hx hb dMo_clear_38 (by decide) ?_
      refine ck_zast (x' := nI 0) hx hb hG hP hD hS 1 rfl (by decide) n (rfl) (by omega) (rfl) dMo_clear_39 (fun H locs hP hD hS => ?_)
      have hP : va_P G.1 vwCl [moC oy r th fi se d1 h1 l1 (nI 0) oh ol w0 w1 w2, aZ G (r 5) 256 (upd (jFill f5 (nI 0) n) n (nI 0)), aZ G (r 6) 1024 f6, aI G (r 15) 1024 f15, aI G (r 7) 4 f7, aI G (r 10) 4 f10] H := hP
      have hD : va_D A [moC oy r th fi se d1 h1 l1 (nI 0) oh ol w0 w1 w2, aZ G (r 5) 256 (upd (jFill f5 (nI 0) n) n (nI 0)), aZ G (r 6) 1024 f6, aI G (r 15) 1024 f15, aI G (r 7) 4 f7, aI G (r 10) 4 f10] := hD
      refine lv_iinc (v := nI (n + 1)) (lv' := [(6, .int (nI (n + 1))), (0, .ref oy)]) hx hb dMo_clear_40 hl (k := 1) rfl (nI_1 n) (by decide) rfl (fun ls hl => ?_)
      refine lv_goto (tgt := 24) hx hb dMo_clear_43 rfl ?_
      exact ih (n + 1) _ _ _ (by omega) hP hD hS (lv_sub hl [1, 0] rfl)
  exact loop1 256 0 _ _ _ (by omega) hP hD hS (lv_sub hl [1, 0] rfl)
set_option maxHeartbeats 4000000 in
set_option maxRecDepth 100000 in
theorem k_Mo_begin (l : Launch) (G : gG) (oy : Nat) (r : Nat → Nat) (th : Int32) (fi se : Int64) (d : Int32) (sh sl : Int64) (az : Int32) (oh ol w0 w1 w2 : Int64) (f5 f6 f15 f7 f10 : Nat → Int32) (dd : Nat) (hd1 : 1 ≤ dd) (hd2 : dd ≤ 8) (h1 l1 : Int64) : Ck l G yMo_begin cMo_begin 6 none { frames := 1, cells := 0, slots := 0, locals := 26 } [.ref oy, .int (nI dd), .long h1, .long l1] [moC oy r th fi se d sh sl az oh ol w0 w1 w2, aZ G (r 5) 256 f5, aZ G (r 6) 1024 f6, aI G (r 15) 1024 f15, aI G (r 7) 4 f7, aI G (r 10) 4 f10] (none) [moC oy r (nI 0) fi se (nI dd) h1 l1 (nI 0) oh ol w0 w1 w2, aZ G (r 5) 256 (fun _ => nI 0), aZ G (r 6) 1024 (fun _ => nI 0), aI G (r 15) 1024 (fun _ => (-1)), aI G (r 7) 4 (fun _ => nI 0), aI G (r 10) 4 (fun _ => nI 0)] := by
  refine Cq.of (by decide) (Nat.le_of_ble_eq_true rfl) ?_
  intro p e s m args below meth c A ls hx hb hr hml hts hown hlk hA hP hD hG hS hl
  have hl : lv_has ls 6 [(0, .ref oy), (1, .int (nI dd)), (2, .long h1), (4, .long l1)] := hl
  refine lv_aload_n hx hb dMo_begin_0 rfl (lv_at hl 0 rfl) ?_
  refine lv_iload_n hx hb dMo_begin_1 rfl (lv_at hl 1 rfl) ?_
  refine lv_iconst (v := nI 1) hx hb dMo_begin_2 (by decide) ?_
  refine lv_icmp_lt (tgt := 16) hx hb dMo_begin_3 rfl (fun h => absurd h (nI_nlt (by omega) (by omega))) (fun _ => ?_)
  refine lv_iload_n hx hb dMo_begin_6 rfl (lv_at hl 1 rfl) ?_
  refine lv_bipush (v := nI 8) hx hb dMo_begin_7 (by decide) ?_
  refine lv_icmp_gt (tgt := 16) hx hb dMo_begin_9 rfl (fun h => absurd h (nI_nlt (by omega) (by omega))) (fun _ => ?_)
  refine lv_iconst (v := nI 0) hx hb dMo_begin_12 (by decide) ?_
  refine lv_goto (tgt := 17) hx hb dMo_begin_13 rfl ?_
  refine pfMo_74 hx hb hts hown hG hP hD hS 0 rfl rfl rfl (Nat.le_of_ble_eq_true rfl) dMo_begin_17 (fun H locs hP hD hS => ?_)
  have hP : va_P G.1 vwCl [moC oy r (nI 0) fi se d sh sl az oh ol w0 w1 w2, aZ G (r 5) 256 f5, aZ G (r 6) 1024 f6, aI G (r 15) 1024 f15, aI G (r 7) 4 f7, aI G (r 10) 4 f10] H := hP
  have hD : va_D A [moC oy r (nI 0) fi se d sh sl az oh ol w0 w1 w2, aZ G (r 5) 256 f5, aZ G (r 6) 1024 f6, aI G (r 15) 1024 f15, aI G (r 7) 4 f7, aI G (r 10) 4 f10] := hD
  refine lv_aload_n hx hb dMo_begin_20 rfl (lv_at hl 0 rfl) ?_
  refine gfMo_74 hx hb hts hown hG hP 0 rfl rfl dMo_begin_21 ?_
  refine lv_if_ne (tgt := 35) hx hb dMo_begin_24 rfl (fun h => absurd (rfl) h) (fun _ => ?_)
  refine lv_aload_n hx hb dMo_begin_27 rfl (lv_at hl 0 rfl) ?_
  refine lv_iload_n hx hb dMo_begin_28 rfl (lv_at hl 1 rfl) ?_
  refine lv_lload_n hx hb dMo_begin_29 rfl (lv_at hl 2 rfl) ?_
  refine lv_lload hx hb dMo_begin_30 (lv_at hl 3 rfl) ?_
  refine clMo_70 (As := [.int (nI dd), .long h1, .long l1]) (rest := []) hx hb hml hown hts (k_Mo_clear l G oy r (nI 0) fi se d sh sl az oh ol w0 w1 w2 f5 f6 f15 f7 f10 (nI dd) h1 l1) hG hA hP hD hS 0 rfl [0, 1, 2, 3, 4, 5] rfl rfl (fun _ => rfl) rfl hl.1 rfl (Nat.le_of_ble_eq_true rfl) ⟨by decide, by decide⟩ ⟨by decide, by decide⟩ dMo_begin_32 (fun _ H locs _ hP hD hS => ?_)
  have hP : va_P G.1 vwCl [moC oy r (nI 0) fi se (nI dd) h1 l1 (nI 0) oh ol w0 w1 w2, aZ G (r 5) 256 (fun _ => nI 0), aZ G (r 6) 1024 (fun _ => nI 0), aI G (r 15) 1024 (fun _ => (-1)), aI G (r 7) 4 (fun _ => nI 0), aI G (r 10) 4 (fun _ => nI 0)] H := hP
  have hD : va_D A [moC oy r (nI 0) fi se (nI dd) h1 l1 (nI 0) oh ol w0 w1 w2, aZ G (r 5) 256 (fun _ => nI 0), aZ G (r 6) 1024 (fun _ => nI 0), aI G (r 15) 1024 (fun _ => (-1)), aI G (r 7) 4 (fun _ => nI 0), aI G (r 10) 4 (fun _ => nI 0)] := hD
  refine W.cs (cells' := 0) (slots' := 0) rfl rfl ?_
  refine W.eq (g2 := F0 m 35 ls []) rfl ?_
  exact cq_vret () (trivial) hx hb hr hlk hP hS rfl (rfl) dMo_begin_35
set_option maxHeartbeats 4000000 in
set_option maxRecDepth 100000 in
theorem k_Mo_begin_e (l : Launch) (G : gG) (oy : Nat) (r : Nat → Nat) (th : Int32) (fi se : Int64) (d : Int32) (sh sl : Int64) (az : Int32) (oh ol w0 w1 w2 : Int64) (d1 : Int32) (h1 l1 : Int64) (hd : (decide (d1 < nI 1) || !decide (d1 ≤ nI 8)) = true) : Ck l G yMo_begin cMo_begin 6 none { frames := 1, cells := 0, slots := 0, locals := 26 } [.ref oy, .int d1, .long h1, .long l1] [moC oy r th fi se d sh sl az oh ol w0 w1 w2] (none) [moC oy r (nI 1) fi se d sh sl az oh ol w0 w1 w2] := by
  refine Cq.of (by decide) (Nat.le_of_ble_eq_true rfl) ?_
  intro p e s m args below meth c A ls hx hb hr hml hts hown hlk hA hP hD hG hS hl
  have hl : lv_has ls 6 [(0, .ref oy), (1, .int d1), (2, .long h1), (4, .long l1)] := hl
  refine lv_aload_n hx hb dMo_begin_0 rfl (lv_at hl 0 rfl) ?_
  refine lv_iload_n hx hb dMo_begin_1 rfl (lv_at hl 1 rfl) ?_
  refine lv_iconst (v := nI 1) hx hb dMo_begin_2 (by decide) ?_
  refine lv_icmp_lt (tgt := 16) hx hb dMo_begin_3 rfl (fun hx1 => ?_) (fun hx1 => ?_)
  · have b_h1 := decide_eq_true hx1
    refine lv_iconst (v := nI 1) hx hb dMo_begin_16 (by decide) ?_
    refine pfMo_74 hx hb hts hown hG hP hD hS 0 rfl rfl rfl (Nat.le_of_ble_eq_true rfl) dMo_begin_17 (fun H locs hP hD hS => ?_)
    have hP : va_P G.1 vwCl [moC oy r (nI 1) fi se d sh sl az oh ol w0 w1 w2] H := hP
    have hD : va_D A [moC oy r (nI 1) fi se d sh sl az oh ol w0 w1 w2] := hD
    refine lv_aload_n hx hb dMo_begin_20 rfl (lv_at hl 0 rfl) ?_
    refine gfMo_74 hx hb hts hown hG hP 0 rfl rfl dMo_begin_21 ?_
    refine lv_if_ne (tgt := 35) hx hb dMo_begin_24 rfl (fun _ => ?_) (fun h => absurd h (by decide))
    exact cq_vret () (trivial) hx hb hr hlk hP hS rfl (rfl) dMo_begin_35
  · have b_h1 := decide_eq_false hx1
    refine lv_iload_n hx hb dMo_begin_6 rfl (lv_at hl 1 rfl) ?_
    refine lv_bipush (v := nI 8) hx hb dMo_begin_7 (by decide) ?_
    refine lv_icmp_gt (tgt := 16) hx hb dMo_begin_9 rfl (fun _ => ?_) (fun h => absurd (Int32.not_le.mp (fun z => by rw [b_h1, decide_eq_true z] at hd; cases hd)) h)
    refine lv_iconst (v := nI 1) hx hb dMo_begin_16 (by decide) ?_
    refine pfMo_74 hx hb hts hown hG hP hD hS 0 rfl rfl rfl (Nat.le_of_ble_eq_true rfl) dMo_begin_17 (fun H locs hP hD hS => ?_)
    have hP : va_P G.1 vwCl [moC oy r (nI 1) fi se d sh sl az oh ol w0 w1 w2] H := hP
    have hD : va_D A [moC oy r (nI 1) fi se d sh sl az oh ol w0 w1 w2] := hD
    refine lv_aload_n hx hb dMo_begin_20 rfl (lv_at hl 0 rfl) ?_
    refine gfMo_74 hx hb hts hown hG hP 0 rfl rfl dMo_begin_21 ?_
    refine lv_if_ne (tgt := 35) hx hb dMo_begin_24 rfl (fun _ => ?_) (fun h => absurd h (by decide))
    exact cq_vret () (trivial) hx hb hr hlk hP hS rfl (rfl) dMo_begin_35
set_option maxHeartbeats 4000000 in
set_option maxRecDepth 100000 in
theorem k_Mo_install_e1 (l : Launch) (G : gG) (oy : Nat) (r : Nat → Nat) (th : Int32) (fi se : Int64) (dp : Nat) (hdp : dp ≤ 8) (sh sl : Int64) (az : Int32) (oh ol w0 w1 w2 : Int64) (ins : Nat → Int32) (d1 : Int32) (hd : jIn (2 ^ dp) d1 = false) : Ck l G yMo_install cMo_install 2 (some .int) { frames := 2, cells := 0, slots := 0, locals := 41 } [.ref oy, .int d1] [moC oy r th fi se (nI dp) sh sl az oh ol w0 w1 w2] (some (.int (nI 0))) [moC oy r (nI 1) fi se (nI dp) sh sl az oh ol w0 w1 w2] := by
  refine Cq.of (by decide) (Nat.le_of_ble_eq_true rfl) ?_
  intro p e s m args below meth c A ls hx hb hr hml hts hown hlk hA hP hD hG hS hl
  have hl : lv_has ls 2 [(0, .ref oy), (1, .int d1)] := hl
  refine lv_aload_n hx hb dMo_install_0 rfl (lv_at hl 0 rfl) ?_
  refine lv_aload_n hx hb dMo_install_1 rfl (lv_at hl 0 rfl) ?_
  refine lv_iload_n hx hb dMo_install_2 rfl (lv_at hl 1 rfl) ?_
  refine clMo_158 (As := [.int d1]) (rest := [.ref oy]) hx hb hml hown hts (k_Mo_isDecoder l G oy r th fi se dp hdp sh sl az oh ol w0 w1 w2 d1) hG hA hP hD hS 0 rfl [0] rfl rfl (fun _ => rfl) rfl hl.1 rfl (Nat.le_of_ble_eq_true rfl) ⟨by decide, by decide⟩ ⟨by decide, by decide⟩ dMo_install_3 (fun _ H locs _ hP hD hS => ?_)
  have hP : va_P G.1 vwCl [moC oy r th fi se (nI dp) sh sl az oh ol w0 w1 w2] H := hP
  have hD : va_D A [moC oy r th fi se (nI dp) sh sl az oh ol w0 w1 w2] := hD
  refine W.cs (cells' := 0) (slots' := 0) rfl rfl ?_
  refine W.eq (g2 := F0 m 6 ls [.int (jB (jIn (2 ^ dp) d1)), .ref oy]) rfl ?_
  refine lv_if_ne (tgt := 13) hx hb dMo_install_6 rfl (fun h => absurd (by rw [hd]; rfl) h) (fun _ => ?_)
  refine lv_iconst (v := nI 1) hx hb dMo_install_9 (by decide) ?_
  refine lv_goto (tgt := 27) hx hb dMo_install_10 rfl ?_
  refine pfMo_74 hx hb hts hown hG hP hD hS 0 rfl rfl rfl (Nat.le_of_ble_eq_true rfl) dMo_install_27 (fun H locs hP hD hS => ?_)
  have hP : va_P G.1 vwCl [moC oy r (nI 1) fi se (nI dp) sh sl az oh ol w0 w1 w2] H := hP
  have hD : va_D A [moC oy r (nI 1) fi se (nI dp) sh sl az oh ol w0 w1 w2] := hD
  refine lv_aload_n hx hb dMo_install_30 rfl (lv_at hl 0 rfl) ?_
  refine gfMo_74 hx hb hts hown hG hP 0 rfl rfl dMo_install_31 ?_
  refine lv_if_le (tgt := 39) hx hb dMo_install_34 rfl (fun h => absurd h (by decide)) (fun _ => ?_)
  refine lv_iconst (v := nI 0) hx hb dMo_install_37 (by decide) ?_
  exact cq_iret () (trivial) hx hb hr hlk hP hS (rfl) (rfl) dMo_install_38
set_option maxHeartbeats 4000000 in
set_option maxRecDepth 100000 in
theorem k_Mo_install_e2 (l : Launch) (G : gG) (oy : Nat) (r : Nat → Nat) (th : Int32) (fi se : Int64) (dp : Nat) (hdp : dp ≤ 8) (sh sl : Int64) (az : Int32) (oh ol w0 w1 w2 : Int64) (ins : Nat → Int32) (dd : Nat) (hd : dd < 2 ^ dp) (hi : ¬ ins dd = 0) : Ck l G yMo_install cMo_install 2 (some .int) { frames := 2, cells := 0, slots := 0, locals := 41 } [.ref oy, .int (nI dd)] [moC oy r th fi se (nI dp) sh sl az oh ol w0 w1 w2, aZ G (r 5) 256 ins] (some (.int (nI 0))) [moC oy r (nI 2) fi se (nI dp) sh sl az oh ol w0 w1 w2, aZ G (r 5) 256 ins] := by
  refine Cq.of (by decide) (Nat.le_of_ble_eq_true rfl) ?_
  intro p e s m args below meth c A ls hx hb hr hml hts hown hlk hA hP hD hG hS hl
  have hp2 := p2_le hdp
  have hp1 := Nat.two_pow_pos dp
  have hdi := jIn_nI (show 2 ^ dp < 2 ^ 31 by omega) hd
  have hl : lv_has ls 2 [(0, .ref oy), (1, .int (nI dd))] := hl
  refine lv_aload_n hx hb dMo_install_0 rfl (lv_at hl 0 rfl) ?_
  refine lv_aload_n hx hb dMo_install_1 rfl (lv_at hl 0 rfl) ?_
  refine lv_iload_n hx hb dMo_install_2 rfl (lv_at hl 1 rfl) ?_
  refine clMo_158 (As := [.int (nI dd)]) (rest := [.ref oy]) hx hb hml hown hts (k_Mo_isDecoder l G oy r th fi se dp hdp sh sl az oh ol w0 w1 w2 (nI dd)) hG hA hP hD hS 0 rfl [0] rfl rfl (fun _ => rfl) rfl hl.1 rfl (Nat.le_of_ble_eq_true rfl) ⟨by decide, by decide⟩ ⟨by decide, by decide⟩ dMo_install_3 (fun _ H locs _ hP hD hS => ?_)
  have hP : va_P G.1 vwCl [moC oy r th fi se (nI dp) sh sl az oh ol w0 w1 w2, aZ G (r 5) 256 ins] H := hP
  have hD : va_D A [moC oy r th fi se (nI dp) sh sl az oh ol w0 w1 w2, aZ G (r 5) 256 ins] := hD
  refine W.cs (cells' := 0) (slots' := 0) rfl rfl ?_
  refine W.eq (g2 := F0 m 6 ls [.int (jB (jIn (2 ^ dp) (nI dd))), .ref oy]) rfl ?_
  refine lv_if_ne (tgt := 13) hx hb dMo_install_6 rfl (fun _ => ?_) (fun h => absurd h (by rw [hdi]; decide))
  refine lv_aload_n hx hb dMo_install_13 rfl (lv_at hl 0 rfl) ?_
  refine gfMo_25 hx hb hts hown hG hP 0 rfl rfl dMo_install_14 ?_
  refine lv_iload_n hx hb dMo_install_17 rfl (lv_at hl 1 rfl) ?_
  refine ck_zald hx hb hG hP 1 rfl (by decide) dd (rfl) (by omega) dMo_install_18 ?_
  refine lv_if_eq (tgt := 26) hx hb dMo_install_19 rfl (fun h => absurd h (hi)) (fun _ => ?_)
  refine lv_iconst (v := nI 2) hx hb dMo_install_22 (by decide) ?_
  refine lv_goto (tgt := 27) hx hb dMo_install_23 rfl ?_
  refine pfMo_74 hx hb hts hown hG hP hD hS 0 rfl rfl rfl (Nat.le_of_ble_eq_true rfl) dMo_install_27 (fun H locs hP hD hS => ?_)
  have hP : va_P G.1 vwCl [moC oy r (nI 2) fi se (nI dp) sh sl az oh ol w0 w1 w2, aZ G (r 5) 256 ins] H := hP
  have hD : va_D A [moC oy r (nI 2) fi se (nI dp) sh sl az oh ol w0 w1 w2, aZ G (r 5) 256 ins] := hD
  refine lv_aload_n hx hb dMo_install_30 rfl (lv_at hl 0 rfl) ?_
  refine gfMo_74 hx hb hts hown hG hP 0 rfl rfl dMo_install_31 ?_
  refine lv_if_le (tgt := 39) hx hb dMo_install_34 rfl (fun h => absurd h (by decide)) (fun _ => ?_)
  refine lv_iconst (v := nI 0) hx hb dMo_install_37 (by decide) ?_
  exact cq_iret () (trivial) hx hb hr hlk hP hS (rfl) (rfl) dMo_install_38
set_option maxHeartbeats 4000000 in
set_option maxRecDepth 100000 in
theorem k_Mo_install (l : Launch) (G : gG) (oy : Nat) (r : Nat → Nat) (th : Int32) (fi se : Int64) (dp : Nat) (hdp : dp ≤ 8) (sh sl : Int64) (az : Int32) (oh ol w0 w1 w2 : Int64) (ins : Nat → Int32) (dd : Nat) (hd : dd < 2 ^ dp) (hi : ins dd = 0) : Ck l G yMo_install cMo_install 2 (some .int) { frames := 2, cells := 0, slots := 0, locals := 41 } [.ref oy, .int (nI dd)] [moC oy r th fi se (nI dp) sh sl az oh ol w0 w1 w2, aZ G (r 5) 256 ins] (some (.int (nI (dp * (dp + 1) / 2)))) [moC oy r (nI 0) fi se (nI dp) sh sl az oh ol w0 w1 w2, aZ G (r 5) 256 (upd ins dd (nI 1))] := by
  refine Cq.of (by decide) (Nat.le_of_ble_eq_true rfl) ?_
  intro p e s m args below meth c A ls hx hb hr hml hts hown hlk hA hP hD hG hS hl
  have hp2 := p2_le hdp
  have hp1 := Nat.two_pow_pos dp
  have hdi := jIn_nI (show 2 ^ dp < 2 ^ 31 by omega) hd
  have hl : lv_has ls 2 [(0, .ref oy), (1, .int (nI dd))] := hl
  refine lv_aload_n hx hb dMo_install_0 rfl (lv_at hl 0 rfl) ?_
  refine lv_aload_n hx hb dMo_install_1 rfl (lv_at hl 0 rfl) ?_
  refine lv_iload_n hx hb dMo_install_2 rfl (lv_at hl 1 rfl) ?_
  refine clMo_158 (As := [.int (nI dd)]) (rest := [.ref oy]) hx hb hml hown hts (k_Mo_isDecoder l G oy r th fi se dp hdp sh sl az oh ol w0 w1 w2 (nI dd)) hG hA hP hD hS 0 rfl [0] rfl rfl (fun _ => rfl) rfl hl.1 rfl (Nat.le_of_ble_eq_true rfl) ⟨by decide, by decide⟩ ⟨by decide, by decide⟩ dMo_install_3 (fun _ H locs _ hP hD hS => ?_)
  have hP : va_P G.1 vwCl [moC oy r th fi se (nI dp) sh sl az oh ol w0 w1 w2, aZ G (r 5) 256 ins] H := hP
  have hD : va_D A [moC oy r th fi se (nI dp) sh sl az oh ol w0 w1 w2, aZ G (r 5) 256 ins] := hD
  refine W.cs (cells' := 0) (slots' := 0) rfl rfl ?_
  refine W.eq (g2 := F0 m 6 ls [.int (jB (jIn (2 ^ dp) (nI dd))), .ref oy]) rfl ?_
  refine lv_if_ne (tgt := 13) hx hb dMo_install_6 rfl (fun _ => ?_) (fun h => absurd h (by rw [hdi]; decide))
  refine lv_aload_n hx hb dMo_install_13 rfl (lv_at hl 0 rfl) ?_
  refine gfMo_25 hx hb hts hown hG hP 0 rfl rfl dMo_install_14 ?_
  refine lv_iload_n hx hb dMo_install_17 rfl (lv_at hl 1 rfl) ?_
  refine ck_zald hx hb hG hP 1 rfl (by decide) dd (rfl) (by omega) dMo_install_18 ?_
  refine lv_if_eq (tgt := 26) hx hb dMo_install_19 rfl (fun _ => ?_) (fun h => absurd (hi) h)
  refine lv_iconst (v := nI 0) hx hb dMo_install_26 (by decide) ?_
  refine pfMo_74 hx hb hts hown hG hP hD hS 0 rfl rfl rfl (Nat.le_of_ble_eq_true rfl) dMo_install_27 (fun H locs hP hD hS => ?_)
  have hP : va_P G.1 vwCl [moC oy r (nI 0) fi se (nI dp) sh sl az oh ol w0 w1 w2, aZ G (r 5) 256 ins] H := hP
  have hD : va_D A [moC oy r (nI 0) fi se (nI dp) sh sl az oh ol w0 w1 w2, aZ G (r 5) 256 ins] := hD
  refine lv_aload_n hx hb dMo_install_30 rfl (lv_at hl 0 rfl) ?_
  refine gfMo_74 hx hb hts hown hG hP 0 rfl rfl dMo_install_31 ?_
  refine lv_if_le (tgt := 39) hx hb dMo_install_34 rfl (fun _ => ?_) (fun h => absurd (by decide) h)
  refine lv_aload_n hx hb dMo_install_39 rfl (lv_at hl 0 rfl) ?_
  refine gfMo_25 hx hb hts hown hG hP 0 rfl rfl dMo_install_40 ?_
  refine lv_iload_n hx hb dMo_install_43 rfl (lv_at hl 1 rfl) ?_
  refine lv_iconst (v := nI 1) hx hb dMo_install_44 (by decide) ?_
  refine ck_zast (x' := nI 1) hx hb hG hP hD hS 1 rfl (by decide) dd (rfl) (by omega) (rfl) dMo_install_45 (fun H locs hP hD hS => ?_)
  have hP : va_P G.1 vwCl [moC oy r (nI 0) fi se (nI dp) sh sl az oh ol w0 w1 w2, aZ G (r 5) 256 (upd ins dd (nI 1))] H := hP
  have hD : va_D A [moC oy r (nI 0) fi se (nI dp) sh sl az oh ol w0 w1 w2, aZ G (r 5) 256 (upd ins dd (nI 1))] := hD
  refine lv_aload_n hx hb dMo_install_46 rfl (lv_at hl 0 rfl) ?_
  refine gfMo_127 hx hb hts hown hG hP 0 rfl rfl dMo_install_47 ?_
  refine lv_aload_n hx hb dMo_install_50 rfl (lv_at hl 0 rfl) ?_
  refine gfMo_127 hx hb hts hown hG hP 0 rfl rfl dMo_install_51 ?_
  refine lv_iconst (v := nI 1) hx hb dMo_install_54 (by decide) ?_
  refine lv_iadd hx hb dMo_install_55 ?_
  refine lv_imul hx hb dMo_install_56 ?_
  refine lv_iconst (v := nI 2) hx hb dMo_install_57 (by decide) ?_
  refine lv_idiv hx hb dMo_install_58 (by decide) ?_
  refine ck_ri (y := nI (dp * (dp + 1) / 2)) (by rw [nI_add, pk_mul]; exact pk_div (by have := Nat.mul_le_mul hdp (Nat.add_le_add_right hdp 1); omega) (by omega) (by omega)) ?_
  exact cq_iret () (trivial) hx hb hr hlk hP hS (rfl) (rfl) dMo_install_59
set_option maxHeartbeats 4000000 in
set_option maxRecDepth 100000 in
theorem k_Mo_subscribe_e (l : Launch) (G : gG) (oy : Nat) (r : Nat → Nat) (th : Int32) (fi se : Int64) (dp : Nat) (hdp : dp ≤ 8) (sh sl : Int64) (az : Int32) (oh ol w0 w1 w2 : Int64) (d1 c1 : Int32) (hd : (jIn (2 ^ dp) d1 && jIn 4 c1) = false) (b1 : Int32) : Ck l G yMo_subscribe cMo_subscribe 5 (some .boolean) { frames := 2, cells := 0, slots := 0, locals := 41 } [.ref oy, .int d1, .int c1, .int b1] [moC oy r th fi se (nI dp) sh sl az oh ol w0 w1 w2] (some (.int (nI 0))) [moC oy r (nI 1) fi se (nI dp) sh sl az oh ol w0 w1 w2] := by
  refine Cq.of (by decide) (Nat.le_of_ble_eq_true rfl) ?_
  intro p e s m args below meth c A ls hx hb hr hml hts hown hlk hA hP hD hG hS hl
  have hl : lv_has ls 5 [(0, .ref oy), (1, .int d1), (2, .int c1), (3, .int b1)] := hl
  refine lv_aload_n hx hb dMo_subscribe_0 rfl (lv_at hl 0 rfl) ?_
  refine lv_aload_n hx hb dMo_subscribe_1 rfl (lv_at hl 0 rfl) ?_
  refine lv_iload_n hx hb dMo_subscribe_2 rfl (lv_at hl 1 rfl) ?_
  refine clMo_158 (As := [.int d1]) (rest := [.ref oy]) hx hb hml hown hts (k_Mo_isDecoder l G oy r th fi se dp hdp sh sl az oh ol w0 w1 w2 d1) hG hA hP hD hS 0 rfl [0] rfl rfl (fun _ => rfl) rfl hl.1 rfl (Nat.le_of_ble_eq_true rfl) ⟨by decide, by decide⟩ ⟨by decide, by decide⟩ dMo_subscribe_3 (fun _ H locs _ hP hD hS => ?_)
  have hP : va_P G.1 vwCl [moC oy r th fi se (nI dp) sh sl az oh ol w0 w1 w2] H := hP
  have hD : va_D A [moC oy r th fi se (nI dp) sh sl az oh ol w0 w1 w2] := hD
  refine W.cs (cells' := 0) (slots' := 0) rfl rfl ?_
  refine W.eq (g2 := F0 m 6 ls [.int (jB (jIn (2 ^ dp) d1)), .ref oy]) rfl ?_
  refine lv_if_eq (tgt := 20) hx hb dMo_subscribe_6 rfl (fun hx1 => ?_) (fun hx1 => ?_)
  · have hx2 := (jB_0 _).mp hx1
    refine lv_iconst (v := nI 1) hx hb dMo_subscribe_20 (by decide) ?_
    refine pfMo_74 hx hb hts hown hG hP hD hS 0 rfl rfl rfl (Nat.le_of_ble_eq_true rfl) dMo_subscribe_21 (fun H locs hP hD hS => ?_)
    have hP : va_P G.1 vwCl [moC oy r (nI 1) fi se (nI dp) sh sl az oh ol w0 w1 w2] H := hP
    have hD : va_D A [moC oy r (nI 1) fi se (nI dp) sh sl az oh ol w0 w1 w2] := hD
    refine lv_aload_n hx hb dMo_subscribe_24 rfl (lv_at hl 0 rfl) ?_
    refine gfMo_74 hx hb hts hown hG hP 0 rfl rfl dMo_subscribe_25 ?_
    refine lv_if_le (tgt := 33) hx hb dMo_subscribe_28 rfl (fun h => absurd h (by decide)) (fun _ => ?_)
    refine lv_iconst (v := nI 0) hx hb dMo_subscribe_31 (by decide) ?_
    exact cq_zret () (trivial) hx hb hr hlk hP hS (rfl) (rfl) (rfl) dMo_subscribe_32
  · have hx2 := (jB_n0 _).mp hx1
    refine lv_iload_n hx hb dMo_subscribe_9 rfl (lv_at hl 2 rfl) ?_
    refine clMo_162 (As := [.int c1]) (rest := [.ref oy]) hx hb hml hown hts (k_Mo_isChannel l G c1) hG hA hP hD hS [] rfl rfl (fun _ => rfl) rfl hl.1 rfl (Nat.le_of_ble_eq_true rfl) ⟨by decide, by decide⟩ ⟨by decide, by decide⟩ dMo_subscribe_10 (fun _ H locs _ hP hD hS => ?_)
    have hP : va_P G.1 vwCl [moC oy r th fi se (nI dp) sh sl az oh ol w0 w1 w2] H := hP
    have hD : va_D A [moC oy r th fi se (nI dp) sh sl az oh ol w0 w1 w2] := hD
    refine W.cs (cells' := 0) (slots' := 0) rfl rfl ?_
    refine W.eq (g2 := F0 m 13 ls [.int (jB (jIn 4 c1)), .ref oy]) rfl ?_
    refine lv_if_eq (tgt := 20) hx hb dMo_subscribe_13 rfl (fun _ => ?_) (fun h => absurd (by rw [hx2, Bool.true_and] at hd; rw [hd]; rfl) h)
    refine lv_iconst (v := nI 1) hx hb dMo_subscribe_20 (by decide) ?_
    refine pfMo_74 hx hb hts hown hG hP hD hS 0 rfl rfl rfl (Nat.le_of_ble_eq_true rfl) dMo_subscribe_21 (fun H locs hP hD hS => ?_)
    have hP : va_P G.1 vwCl [moC oy r (nI 1) fi se (nI dp) sh sl az oh ol w0 w1 w2] H := hP
    have hD : va_D A [moC oy r (nI 1) fi se (nI dp) sh sl az oh ol w0 w1 w2] := hD
    refine lv_aload_n hx hb dMo_subscribe_24 rfl (lv_at hl 0 rfl) ?_
    refine gfMo_74 hx hb hts hown hG hP 0 rfl rfl dMo_subscribe_25 ?_
    refine lv_if_le (tgt := 33) hx hb dMo_subscribe_28 rfl (fun h => absurd h (by decide)) (fun _ => ?_)
    refine lv_iconst (v := nI 0) hx hb dMo_subscribe_31 (by decide) ?_
    exact cq_zret () (trivial) hx hb hr hlk hP hS (rfl) (rfl) (rfl) dMo_subscribe_32
set_option maxHeartbeats 4000000 in
set_option maxRecDepth 100000 in
theorem k_Mo_subscribe (l : Launch) (G : gG) (oy : Nat) (r : Nat → Nat) (th : Int32) (fi se : Int64) (dp : Nat) (hdp : dp ≤ 8) (sh sl : Int64) (az : Int32) (oh ol w0 w1 w2 : Int64) (dd : Nat) (hd : dd < 2 ^ dp) (c4 : Nat) (hc : c4 < 4) (sb : Nat → Int32) (b : Bool) : Ck l G yMo_subscribe cMo_subscribe 5 (some .boolean) { frames := 2, cells := 0, slots := 0, locals := 41 } [.ref oy, .int (nI dd), .int (nI c4), .int (jB b)] [moC oy r th fi se (nI dp) sh sl az oh ol w0 w1 w2, aZ G (r 6) 1024 sb] (some (.int (jB (!decide (sb (256 * c4 + dd) = jB b))))) [moC oy r (nI 0) fi se (nI dp) sh sl az oh ol w0 w1 w2, aZ G (r 6) 1024 (upd sb (256 * c4 + dd) (jB b))] := by
  refine Cq.of (by decide) (Nat.le_of_ble_eq_true rfl) ?_
  intro p e s m args below meth c A ls hx hb hr hml hts hown hlk hA hP hD hG hS hl
  have hp2 := p2_le hdp
  have hp1 := Nat.two_pow_pos dp
  have hdi := jIn_nI (show 2 ^ dp < 2 ^ 31 by omega) hd
  have hci := jIn_nI (show 4 < 2 ^ 31 by decide) hc
  have hl : lv_has ls 5 [(0, .ref oy), (1, .int (nI dd)), (2, .int (nI c4)), (3, .int (jB b))] := hl
  refine lv_aload_n hx hb dMo_subscribe_0 rfl (lv_at hl 0 rfl) ?_
  refine lv_aload_n hx hb dMo_subscribe_1 rfl (lv_at hl 0 rfl) ?_
  refine lv_iload_n hx hb dMo_subscribe_2 rfl (lv_at hl 1 rfl) ?_
  refine clMo_158 (As := [.int (nI dd)]) (rest := [.ref oy]) hx hb hml hown hts (k_Mo_isDecoder l G oy r th fi se dp hdp sh sl az oh ol w0 w1 w2 (nI dd)) hG hA hP hD hS 0 rfl [0] rfl rfl (fun _ => rfl) rfl hl.1 rfl (Nat.le_of_ble_eq_true rfl) ⟨by decide, by decide⟩ ⟨by decide, by decide⟩ dMo_subscribe_3 (fun _ H locs _ hP hD hS => ?_)
  have hP : va_P G.1 vwCl [moC oy r th fi se (nI dp) sh sl az oh ol w0 w1 w2, aZ G (r 6) 1024 sb] H := hP
  have hD : va_D A [moC oy r th fi se (nI dp) sh sl az oh ol w0 w1 w2, aZ G (r 6) 1024 sb] := hD
  refine W.cs (cells' := 0) (slots' := 0) rfl rfl ?_
  refine W.eq (g2 := F0 m 6 ls [.int (jB (jIn (2 ^ dp) (nI dd))), .ref oy]) rfl ?_
  refine lv_if_eq (tgt := 20) hx hb dMo_subscribe_6 rfl (fun h => absurd h (by rw [hdi]; decide)) (fun _ => ?_)
  refine lv_iload_n hx hb dMo_subscribe_9 rfl (lv_at hl 2 rfl) ?_
  refine clMo_162 (As := [.int (nI c4)]) (rest := [.ref oy]) hx hb hml hown hts (k_Mo_isChannel l G (nI c4)) hG hA hP hD hS [] rfl rfl (fun _ => rfl) rfl hl.1 rfl (Nat.le_of_ble_eq_true rfl) ⟨by decide, by decide⟩ ⟨by decide, by decide⟩ dMo_subscribe_10 (fun _ H locs _ hP hD hS => ?_)
  have hP : va_P G.1 vwCl [moC oy r th fi se (nI dp) sh sl az oh ol w0 w1 w2, aZ G (r 6) 1024 sb] H := hP
  have hD : va_D A [moC oy r th fi se (nI dp) sh sl az oh ol w0 w1 w2, aZ G (r 6) 1024 sb] := hD
  refine W.cs (cells' := 0) (slots' := 0) rfl rfl ?_
  refine W.eq (g2 := F0 m 13 ls [.int (jB (jIn 4 (nI c4))), .ref oy]) rfl ?_
  refine lv_if_eq (tgt := 20) hx hb dMo_subscribe_13 rfl (fun h => absurd h (by rw [hci]; decide)) (fun _ => ?_)
  refine lv_iconst (v := nI 0) hx hb dMo_subscribe_16 (by decide) ?_
  refine lv_goto (tgt := 21) hx hb dMo_subscribe_17 rfl ?_
  refine pfMo_74 hx hb hts hown hG hP hD hS 0 rfl rfl rfl (Nat.le_of_ble_eq_true rfl) dMo_subscribe_21 (fun H locs hP hD hS => ?_)
  have hP : va_P G.1 vwCl [moC oy r (nI 0) fi se (nI dp) sh sl az oh ol w0 w1 w2, aZ G (r 6) 1024 sb] H := hP
  have hD : va_D A [moC oy r (nI 0) fi se (nI dp) sh sl az oh ol w0 w1 w2, aZ G (r 6) 1024 sb] := hD
  refine lv_aload_n hx hb dMo_subscribe_24 rfl (lv_at hl 0 rfl) ?_
  refine gfMo_74 hx hb hts hown hG hP 0 rfl rfl dMo_subscribe_25 ?_
  refine lv_if_le (tgt := 33) hx hb dMo_subscribe_28 rfl (fun _ => ?_) (fun h => absurd (by decide) h)
  refine lv_aload_n hx hb dMo_subscribe_33 rfl (lv_at hl 0 rfl) ?_
  refine gfMo_29 hx hb hts hown hG hP 0 rfl rfl dMo_subscribe_34 ?_
  refine lv_sipush (v := nI 256) hx hb dMo_subscribe_37 (by decide) ?_
  refine lv_iload_n hx hb dMo_subscribe_40 rfl (lv_at hl 2 rfl) ?_
  refine lv_imul hx hb dMo_subscribe_41 ?_
  refine ck_ri (y := nI (256 * c4)) (pk_mul 256 _) ?_
  refine lv_iload_n hx hb dMo_subscribe_42 rfl (lv_at hl 1 rfl) ?_
  refine lv_iadd hx hb dMo_subscribe_43 ?_
  refine ck_ri (y := nI (256 * c4 + dd)) (nI_add _ _) ?_
  refine ck_zald hx hb hG hP 1 rfl (by decide) (256 * c4 + dd) (rfl) (by omega) dMo_subscribe_44 ?_
  refine lv_istore (lv' := [(4, .int (sb (256 * c4 + dd))), (0, .ref oy), (1, .int (nI dd)), (2, .int (nI c4)), (3, .int (jB b))]) hx hb dMo_subscribe_45 hl (by decide) rfl (fun ls hl => ?_)
  refine lv_aload_n hx hb dMo_subscribe_47 rfl (lv_at hl 1 rfl) ?_
  refine gfMo_29 hx hb hts hown hG hP 0 rfl rfl dMo_subscribe_48 ?_
  refine lv_sipush (v := nI 256) hx hb dMo_subscribe_51 (by decide) ?_
  refine lv_iload_n hx hb dMo_subscribe_54 rfl (lv_at hl 3 rfl) ?_
  refine lv_imul hx hb dMo_subscribe_55 ?_
  refine ck_ri (y := nI (256 * c4)) (pk_mul 256 _) ?_
  refine lv_iload_n hx hb dMo_subscribe_56 rfl (lv_at hl 2 rfl) ?_
  refine lv_iadd hx hb dMo_subscribe_57 ?_
  refine ck_ri (y := nI (256 * c4 + dd)) (nI_add _ _) ?_
  refine lv_iload_n hx hb dMo_subscribe_58 rfl (lv_at hl 4 rfl) ?_
  refine ck_zast (x' := jB b) hx hb hG hP hD hS 1 rfl (by decide) (256 * c4 + dd) (rfl) (by omega) (jB_vp b) dMo_subscribe_59 (fun H locs hP hD hS => ?_)
  have hP : va_P G.1 vwCl [moC oy r (nI 0) fi se (nI dp) sh sl az oh ol w0 w1 w2, aZ G (r 6) 1024 (upd sb (256 * c4 + dd) (jB b))] H := hP
  have hD : va_D A [moC oy r (nI 0) fi se (nI dp) sh sl az oh ol w0 w1 w2, aZ G (r 6) 1024 (upd sb (256 * c4 + dd) (jB b))] := hD
  refine lv_iload hx hb dMo_subscribe_60 (lv_at hl 0 rfl) ?_
  refine lv_iload_n hx hb dMo_subscribe_62 rfl (lv_at hl 4 rfl) ?_
  refine lv_icmp_eq (tgt := 70) hx hb dMo_subscribe_63 rfl (fun h9 => ?_) (fun h9 => ?_)
  · have h8 : sb (256 * c4 + dd) = jB b := h9
    refine lv_iconst (v := nI 0) hx hb dMo_subscribe_70 (by decide) ?_
    exact cq_zret () (trivial) hx hb hr hlk hP hS (rfl) (by rw [decide_eq_true h8]; rfl) (rfl) dMo_subscribe_71
  · have h8 : ¬ sb (256 * c4 + dd) = jB b := h9
    refine lv_iconst (v := nI 1) hx hb dMo_subscribe_66 (by decide) ?_
    refine lv_goto (tgt := 71) hx hb dMo_subscribe_67 rfl ?_
    exact cq_zret () (trivial) hx hb hr hlk hP hS (rfl) (by rw [decide_eq_false h8]; rfl) (rfl) dMo_subscribe_71
set_option maxHeartbeats 4000000 in
set_option maxRecDepth 100000 in
theorem k_Mo_has_e (l : Launch) (G : gG) (oy : Nat) (r : Nat → Nat) (th : Int32) (fi se : Int64) (dp : Nat) (hdp : dp ≤ 8) (sh sl : Int64) (az : Int32) (oh ol w0 w1 w2 : Int64) (d1 c1 : Int32) (hd : (jIn (2 ^ dp) d1 && jIn 4 c1) = false) : Ck l G yMo_has cMo_has 3 (some .int) { frames := 2, cells := 0, slots := 0, locals := 41 } [.ref oy, .int d1, .int c1] [moC oy r th fi se (nI dp) sh sl az oh ol w0 w1 w2] (some (.int (nI 0))) [moC oy r (nI 1) fi se (nI dp) sh sl az oh ol w0 w1 w2] := by
  refine Cq.of (by decide) (Nat.le_of_ble_eq_true rfl) ?_
  intro p e s m args below meth c A ls hx hb hr hml hts hown hlk hA hP hD hG hS hl
  have hl : lv_has ls 3 [(0, .ref oy), (1, .int d1), (2, .int c1)] := hl
  refine lv_aload_n hx hb dMo_has_0 rfl (lv_at hl 0 rfl) ?_
  refine lv_aload_n hx hb dMo_has_1 rfl (lv_at hl 0 rfl) ?_
  refine lv_iload_n hx hb dMo_has_2 rfl (lv_at hl 1 rfl) ?_
  refine clMo_158 (As := [.int d1]) (rest := [.ref oy]) hx hb hml hown hts (k_Mo_isDecoder l G oy r th fi se dp hdp sh sl az oh ol w0 w1 w2 d1) hG hA hP hD hS 0 rfl [0] rfl rfl (fun _ => rfl) rfl hl.1 rfl (Nat.le_of_ble_eq_true rfl) ⟨by decide, by decide⟩ ⟨by decide, by decide⟩ dMo_has_3 (fun _ H locs _ hP hD hS => ?_)
  have hP : va_P G.1 vwCl [moC oy r th fi se (nI dp) sh sl az oh ol w0 w1 w2] H := hP
  have hD : va_D A [moC oy r th fi se (nI dp) sh sl az oh ol w0 w1 w2] := hD
  refine W.cs (cells' := 0) (slots' := 0) rfl rfl ?_
  refine W.eq (g2 := F0 m 6 ls [.int (jB (jIn (2 ^ dp) d1)), .ref oy]) rfl ?_
  refine lv_if_eq (tgt := 20) hx hb dMo_has_6 rfl (fun hx1 => ?_) (fun hx1 => ?_)
  · have hx2 := (jB_0 _).mp hx1
    refine lv_iconst (v := nI 1) hx hb dMo_has_20 (by decide) ?_
    refine pfMo_74 hx hb hts hown hG hP hD hS 0 rfl rfl rfl (Nat.le_of_ble_eq_true rfl) dMo_has_21 (fun H locs hP hD hS => ?_)
    have hP : va_P G.1 vwCl [moC oy r (nI 1) fi se (nI dp) sh sl az oh ol w0 w1 w2] H := hP
    have hD : va_D A [moC oy r (nI 1) fi se (nI dp) sh sl az oh ol w0 w1 w2] := hD
    refine lv_aload_n hx hb dMo_has_24 rfl (lv_at hl 0 rfl) ?_
    refine gfMo_74 hx hb hts hown hG hP 0 rfl rfl dMo_has_25 ?_
    refine lv_if_le (tgt := 35) hx hb dMo_has_28 rfl (fun h => absurd h (by decide)) (fun _ => ?_)
    refine lv_iconst (v := nI 0) hx hb dMo_has_31 (by decide) ?_
    refine lv_goto (tgt := 47) hx hb dMo_has_32 rfl ?_
    exact cq_iret () (trivial) hx hb hr hlk hP hS (rfl) (rfl) dMo_has_47
  · have hx2 := (jB_n0 _).mp hx1
    refine lv_iload_n hx hb dMo_has_9 rfl (lv_at hl 2 rfl) ?_
    refine clMo_162 (As := [.int c1]) (rest := [.ref oy]) hx hb hml hown hts (k_Mo_isChannel l G c1) hG hA hP hD hS [] rfl rfl (fun _ => rfl) rfl hl.1 rfl (Nat.le_of_ble_eq_true rfl) ⟨by decide, by decide⟩ ⟨by decide, by decide⟩ dMo_has_10 (fun _ H locs _ hP hD hS => ?_)
    have hP : va_P G.1 vwCl [moC oy r th fi se (nI dp) sh sl az oh ol w0 w1 w2] H := hP
    have hD : va_D A [moC oy r th fi se (nI dp) sh sl az oh ol w0 w1 w2] := hD
    refine W.cs (cells' := 0) (slots' := 0) rfl rfl ?_
    refine W.eq (g2 := F0 m 13 ls [.int (jB (jIn 4 c1)), .ref oy]) rfl ?_
    refine lv_if_eq (tgt := 20) hx hb dMo_has_13 rfl (fun _ => ?_) (fun h => absurd (by rw [hx2, Bool.true_and] at hd; rw [hd]; rfl) h)
    refine lv_iconst (v := nI 1) hx hb dMo_has_20 (by decide) ?_
    refine pfMo_74 hx hb hts hown hG hP hD hS 0 rfl rfl rfl (Nat.le_of_ble_eq_true rfl) dMo_has_21 (fun H locs hP hD hS => ?_)
    have hP : va_P G.1 vwCl [moC oy r (nI 1) fi se (nI dp) sh sl az oh ol w0 w1 w2] H := hP
    have hD : va_D A [moC oy r (nI 1) fi se (nI dp) sh sl az oh ol w0 w1 w2] := hD
    refine lv_aload_n hx hb dMo_has_24 rfl (lv_at hl 0 rfl) ?_
    refine gfMo_74 hx hb hts hown hG hP 0 rfl rfl dMo_has_25 ?_
    refine lv_if_le (tgt := 35) hx hb dMo_has_28 rfl (fun h => absurd h (by decide)) (fun _ => ?_)
    refine lv_iconst (v := nI 0) hx hb dMo_has_31 (by decide) ?_
    refine lv_goto (tgt := 47) hx hb dMo_has_32 rfl ?_
    exact cq_iret () (trivial) hx hb hr hlk hP hS (rfl) (rfl) dMo_has_47
set_option maxHeartbeats 4000000 in
set_option maxRecDepth 100000 in
theorem k_Mo_has (l : Launch) (G : gG) (oy : Nat) (r : Nat → Nat) (th : Int32) (fi se : Int64) (dp : Nat) (hdp : dp ≤ 8) (sh sl : Int64) (az : Int32) (oh ol w0 w1 w2 : Int64) (dd : Nat) (hd : dd < 2 ^ dp) (c4 : Nat) (hc : c4 < 4) (hp : Nat → Int32) : Ck l G yMo_has cMo_has 3 (some .int) { frames := 2, cells := 0, slots := 0, locals := 41 } [.ref oy, .int (nI dd), .int (nI c4)] [moC oy r th fi se (nI dp) sh sl az oh ol w0 w1 w2, aI G (r 15) 1024 hp] (some (.int (hp (256 * c4 + dd)))) [moC oy r (nI 0) fi se (nI dp) sh sl az oh ol w0 w1 w2, aI G (r 15) 1024 hp] := by
  refine Cq.of (by decide) (Nat.le_of_ble_eq_true rfl) ?_
  intro p e s m args below meth c A ls hx hb hr hml hts hown hlk hA hP hD hG hS hl
  have hp2 := p2_le hdp
  have hp1 := Nat.two_pow_pos dp
  have hdi := jIn_nI (show 2 ^ dp < 2 ^ 31 by omega) hd
  have hci := jIn_nI (show 4 < 2 ^ 31 by decide) hc
  have hl : lv_has ls 3 [(0, .ref oy), (1, .int (nI dd)), (2, .int (nI c4))] := hl
  refine lv_aload_n hx hb dMo_has_0 rfl (lv_at hl 0 rfl) ?_
  refine lv_aload_n hx hb dMo_has_1 rfl (lv_at hl 0 rfl) ?_
  refine lv_iload_n hx hb dMo_has_2 rfl (lv_at hl 1 rfl) ?_
  refine clMo_158 (As := [.int (nI dd)]) (rest := [.ref oy]) hx hb hml hown hts (k_Mo_isDecoder l G oy r th fi se dp hdp sh sl az oh ol w0 w1 w2 (nI dd)) hG hA hP hD hS 0 rfl [0] rfl rfl (fun _ => rfl) rfl hl.1 rfl (Nat.le_of_ble_eq_true rfl) ⟨by decide, by decide⟩ ⟨by decide, by decide⟩ dMo_has_3 (fun _ H locs _ hP hD hS => ?_)
  have hP : va_P G.1 vwCl [moC oy r th fi se (nI dp) sh sl az oh ol w0 w1 w2, aI G (r 15) 1024 hp] H := hP
  have hD : va_D A [moC oy r th fi se (nI dp) sh sl az oh ol w0 w1 w2, aI G (r 15) 1024 hp] := hD
  refine W.cs (cells' := 0) (slots' := 0) rfl rfl ?_
  refine W.eq (g2 := F0 m 6 ls [.int (jB (jIn (2 ^ dp) (nI dd))), .ref oy]) rfl ?_
  refine lv_if_eq (tgt := 20) hx hb dMo_has_6 rfl (fun h => absurd h (by rw [hdi]; decide)) (fun _ => ?_)
  refine lv_iload_n hx hb dMo_has_9 rfl (lv_at hl 2 rfl) ?_
  refine clMo_162 (As := [.int (nI c4)]) (rest := [.ref oy]) hx hb hml hown hts (k_Mo_isChannel l G (nI c4)) hG hA hP hD hS [] rfl rfl (fun _ => rfl) rfl hl.1 rfl (Nat.le_of_ble_eq_true rfl) ⟨by decide, by decide⟩ ⟨by decide, by decide⟩ dMo_has_10 (fun _ H locs _ hP hD hS => ?_)
  have hP : va_P G.1 vwCl [moC oy r th fi se (nI dp) sh sl az oh ol w0 w1 w2, aI G (r 15) 1024 hp] H := hP
  have hD : va_D A [moC oy r th fi se (nI dp) sh sl az oh ol w0 w1 w2, aI G (r 15) 1024 hp] := hD
  refine W.cs (cells' := 0) (slots' := 0) rfl rfl ?_
  refine W.eq (g2 := F0 m 13 ls [.int (jB (jIn 4 (nI c4))), .ref oy]) rfl ?_
  refine lv_if_eq (tgt := 20) hx hb dMo_has_13 rfl (fun h => absurd h (by rw [hci]; decide)) (fun _ => ?_)
  refine lv_iconst (v := nI 0) hx hb dMo_has_16 (by decide) ?_
  refine lv_goto (tgt := 21) hx hb dMo_has_17 rfl ?_
  refine pfMo_74 hx hb hts hown hG hP hD hS 0 rfl rfl rfl (Nat.le_of_ble_eq_true rfl) dMo_has_21 (fun H locs hP hD hS => ?_)
  have hP : va_P G.1 vwCl [moC oy r (nI 0) fi se (nI dp) sh sl az oh ol w0 w1 w2, aI G (r 15) 1024 hp] H := hP
  have hD : va_D A [moC oy r (nI 0) fi se (nI dp) sh sl az oh ol w0 w1 w2, aI G (r 15) 1024 hp] := hD
  refine lv_aload_n hx hb dMo_has_24 rfl (lv_at hl 0 rfl) ?_
  refine gfMo_74 hx hb hts hown hG hP 0 rfl rfl dMo_has_25 ?_
  refine lv_if_le (tgt := 35) hx hb dMo_has_28 rfl (fun _ => ?_) (fun h => absurd (by decide) h)
  refine lv_aload_n hx hb dMo_has_35 rfl (lv_at hl 0 rfl) ?_
  refine gfMo_57 hx hb hts hown hG hP 0 rfl rfl dMo_has_36 ?_
  refine lv_sipush (v := nI 256) hx hb dMo_has_39 (by decide) ?_
  refine lv_iload_n hx hb dMo_has_42 rfl (lv_at hl 2 rfl) ?_
  refine lv_imul hx hb dMo_has_43 ?_
  refine ck_ri (y := nI (256 * c4)) (pk_mul 256 _) ?_
  refine lv_iload_n hx hb dMo_has_44 rfl (lv_at hl 1 rfl) ?_
  refine lv_iadd hx hb dMo_has_45 ?_
  refine ck_ri (y := nI (256 * c4 + dd)) (nI_add _ _) ?_
  refine ck_iald hx hb hG hP 1 rfl (by decide) (256 * c4 + dd) (rfl) (by omega) dMo_has_46 ?_
  exact cq_iret () (trivial) hx hb hr hlk hP hS (rfl) (rfl) dMo_has_47
set_option maxHeartbeats 4000000 in
set_option maxRecDepth 100000 in
theorem k_Mo_period_e1 (l : Launch) (G : gG) (oy : Nat) (r : Nat → Nat) (th : Int32) (fi se : Int64) (d : Int32) (sh sl : Int64) (az : Int32) (oh ol w0 w1 w2 : Int64) (c1 : Int32) (hc : jIn 4 c1 = false) (kh kl : Int64) : Ck l G yMo_period cMo_period 6 (some .int) { frames := 2, cells := 0, slots := 0, locals := 47 } [.ref oy, .int c1, .long kh, .long kl] [moC oy r th fi se d sh sl az oh ol w0 w1 w2] (some (.int (nI 0))) [moC oy r (nI 1) fi se d sh sl az oh ol w0 w1 w2] := by
  refine Cq.of (by decide) (Nat.le_of_ble_eq_true rfl) ?_
  intro p e s m args below meth c A ls hx hb hr hml hts hown hlk hA hP hD hG hS hl
  have hl : lv_has ls 6 [(0, .ref oy), (1, .int c1), (2, .long kh), (4, .long kl)] := hl
  refine lv_aload_n hx hb dMo_period_0 rfl (lv_at hl 0 rfl) ?_
  refine lv_iload_n hx hb dMo_period_1 rfl (lv_at hl 1 rfl) ?_
  refine clMo_162 (As := [.int c1]) (rest := [.ref oy]) hx hb hml hown hts (k_Mo_isChannel l G c1) hG hA hP hD hS [] rfl rfl (fun _ => rfl) rfl hl.1 rfl (Nat.le_of_ble_eq_true rfl) ⟨by decide, by decide⟩ ⟨by decide, by decide⟩ dMo_period_2 (fun _ H locs _ hP hD hS => ?_)
  have hP : va_P G.1 vwCl [moC oy r th fi se d sh sl az oh ol w0 w1 w2] H := hP
  have hD : va_D A [moC oy r th fi se d sh sl az oh ol w0 w1 w2] := hD
  refine W.cs (cells' := 0) (slots' := 0) rfl rfl ?_
  refine W.eq (g2 := F0 m 5 ls [.int (jB (jIn 4 c1)), .ref oy]) rfl ?_
  refine lv_if_ne (tgt := 12) hx hb dMo_period_5 rfl (fun h => absurd (by rw [hc]; rfl) h) (fun _ => ?_)
  refine lv_iconst (v := nI 1) hx hb dMo_period_8 (by decide) ?_
  refine lv_goto (tgt := 29) hx hb dMo_period_9 rfl ?_
  refine pfMo_74 hx hb hts hown hG hP hD hS 0 rfl rfl rfl (Nat.le_of_ble_eq_true rfl) dMo_period_29 (fun H locs hP hD hS => ?_)
  have hP : va_P G.1 vwCl [moC oy r (nI 1) fi se d sh sl az oh ol w0 w1 w2] H := hP
  have hD : va_D A [moC oy r (nI 1) fi se d sh sl az oh ol w0 w1 w2] := hD
  refine lv_aload_n hx hb dMo_period_32 rfl (lv_at hl 0 rfl) ?_
  refine gfMo_74 hx hb hts hown hG hP 0 rfl rfl dMo_period_33 ?_
  refine lv_if_le (tgt := 41) hx hb dMo_period_36 rfl (fun h => absurd h (by decide)) (fun _ => ?_)
  refine lv_iconst (v := nI 0) hx hb dMo_period_39 (by decide) ?_
  exact cq_iret () (trivial) hx hb hr hlk hP hS (rfl) (rfl) dMo_period_40
set_option maxHeartbeats 4000000 in
set_option maxRecDepth 100000 in
theorem k_Mo_period_e2 (l : Launch) (G : gG) (oy : Nat) (r : Nat → Nat) (th : Int32) (fi se : Int64) (d : Int32) (sh sl : Int64) (az : Int32) (oh ol w0 w1 w2 : Int64) (c4 : Nat) (hc : c4 < 4) (per : Nat → Int32) (hq : per c4 = nI 999) (kh kl : Int64) : Ck l G yMo_period cMo_period 6 (some .int) { frames := 2, cells := 0, slots := 0, locals := 47 } [.ref oy, .int (nI c4), .long kh, .long kl] [moC oy r th fi se d sh sl az oh ol w0 w1 w2, aI G (r 7) 4 per] (some (.int (nI 0))) [moC oy r (nI 2) fi se d sh sl az oh ol w0 w1 w2, aI G (r 7) 4 per] := by
  refine Cq.of (by decide) (Nat.le_of_ble_eq_true rfl) ?_
  intro p e s m args below meth c A ls hx hb hr hml hts hown hlk hA hP hD hG hS hl
  have hci := jIn_nI (show 4 < 2 ^ 31 by decide) hc
  have hl : lv_has ls 6 [(0, .ref oy), (1, .int (nI c4)), (2, .long kh), (4, .long kl)] := hl
  refine lv_aload_n hx hb dMo_period_0 rfl (lv_at hl 0 rfl) ?_
  refine lv_iload_n hx hb dMo_period_1 rfl (lv_at hl 1 rfl) ?_
  refine clMo_162 (As := [.int (nI c4)]) (rest := [.ref oy]) hx hb hml hown hts (k_Mo_isChannel l G (nI c4)) hG hA hP hD hS [] rfl rfl (fun _ => rfl) rfl hl.1 rfl (Nat.le_of_ble_eq_true rfl) ⟨by decide, by decide⟩ ⟨by decide, by decide⟩ dMo_period_2 (fun _ H locs _ hP hD hS => ?_)
  have hP : va_P G.1 vwCl [moC oy r th fi se d sh sl az oh ol w0 w1 w2, aI G (r 7) 4 per] H := hP
  have hD : va_D A [moC oy r th fi se d sh sl az oh ol w0 w1 w2, aI G (r 7) 4 per] := hD
  refine W.cs (cells' := 0) (slots' := 0) rfl rfl ?_
  refine W.eq (g2 := F0 m 5 ls [.int (jB (jIn 4 (nI c4))), .ref oy]) rfl ?_
  refine lv_if_ne (tgt := 12) hx hb dMo_period_5 rfl (fun _ => ?_) (fun h => absurd h (by rw [hci]; decide))
  refine lv_aload_n hx hb dMo_period_12 rfl (lv_at hl 0 rfl) ?_
  refine gfMo_32 hx hb hts hown hG hP 0 rfl rfl dMo_period_13 ?_
  refine lv_iload_n hx hb dMo_period_16 rfl (lv_at hl 1 rfl) ?_
  refine ck_iald hx hb hG hP 1 rfl (by decide) c4 (rfl) (hc) dMo_period_17 ?_
  refine lv_sipush (v := nI 999) hx hb dMo_period_18 (by decide) ?_
  refine lv_icmp_ne (tgt := 28) hx hb dMo_period_21 rfl (fun h => absurd (hq) h) (fun _ => ?_)
  refine lv_iconst (v := nI 2) hx hb dMo_period_24 (by decide) ?_
  refine lv_goto (tgt := 29) hx hb dMo_period_25 rfl ?_
  refine pfMo_74 hx hb hts hown hG hP hD hS 0 rfl rfl rfl (Nat.le_of_ble_eq_true rfl) dMo_period_29 (fun H locs hP hD hS => ?_)
  have hP : va_P G.1 vwCl [moC oy r (nI 2) fi se d sh sl az oh ol w0 w1 w2, aI G (r 7) 4 per] H := hP
  have hD : va_D A [moC oy r (nI 2) fi se d sh sl az oh ol w0 w1 w2, aI G (r 7) 4 per] := hD
  refine lv_aload_n hx hb dMo_period_32 rfl (lv_at hl 0 rfl) ?_
  refine gfMo_74 hx hb hts hown hG hP 0 rfl rfl dMo_period_33 ?_
  refine lv_if_le (tgt := 41) hx hb dMo_period_36 rfl (fun h => absurd h (by decide)) (fun _ => ?_)
  refine lv_iconst (v := nI 0) hx hb dMo_period_39 (by decide) ?_
  exact cq_iret () (trivial) hx hb hr hlk hP hS (rfl) (rfl) dMo_period_40
set_option maxHeartbeats 4000000 in
set_option maxRecDepth 100000 in
theorem k_Mo_period (l : Launch) (G : gG) (oy : Nat) (r : Nat → Nat) (th : Int32) (fi se : Int64) (dp : Nat) (hdp : dp ≤ 8) (sh sl : Int64) (az : Int32) (oh ol w0 w1 w2 : Int64) (c4 : Nat) (hc : c4 < 4) (sb mk sv sw ss M g fv fw : Nat → Int32) (hsb : ∀ j, j < 256 → sb (256 * c4 + j) = g j) (hM : mkOk M g (2 ^ dp)) (per : Nat → Int32) (ph pl : Nat → Int64) (q : Nat) (hq : per c4 = nI q) (hq9 : q < 999) (kh kl : Int64) : Cq l G yMo_period cMo_period 6 (some .int) { frames := 2, cells := 0, slots := 0, locals := 47 } [.ref oy, .int (nI c4), .long kh, .long kl] [moC oy r th fi se (nI dp) sh sl az oh ol w0 w1 w2, aZ G (r 6) 1024 sb, aZ G (r 13) 512 mk, aI G (r 11) 1024 sv, aI G (r 12) 1024 sw, aI G (r 10) 4 ss, aI G (r 7) 4 per, aJ G (r 8) 4 ph, aJ G (r 9) 4 pl] (S := (Nat → Int32) × (Nat → Int32) × (Nat → Int32)) (fun u => cvR c4 sv sw u.2.1 u.2.2 (jCov M (2 ^ dp) fv fw) (jCov M (2 ^ dp) fv fw).1) (fun u => some (.int (nI (jCov M (2 ^ dp) fv fw).1))) (fun u => [moC oy r (nI 0) fi se (nI dp) sh sl az oh ol w0 w1 w2, aZ G (r 6) 1024 sb, aZ G (r 13) 512 u.1, aI G (r 11) 1024 u.2.1, aI G (r 12) 1024 u.2.2, aI G (r 10) 4 (upd ss c4 (nI (jCov M (2 ^ dp) fv fw).1)), aI G (r 7) 4 (upd per c4 (nI (q + 1))), aJ G (r 8) 4 (vp_updL ph c4 kh), aJ G (r 9) 4 (vp_updL pl c4 kl)]) := by
  refine Cq.of (by decide) (Nat.le_of_ble_eq_true rfl) ?_
  intro p e s m args below meth c A ls hx hb hr hml hts hown hlk hA hP hD hG hS hl
  have hci := jIn_nI (show 4 < 2 ^ 31 by decide) hc
  have hp2 := p2_le hdp
  have hp1 := Nat.two_pow_pos dp
  have hl : lv_has ls 6 [(0, .ref oy), (1, .int (nI c4)), (2, .long kh), (4, .long kl)] := hl
  refine lv_aload_n hx hb dMo_period_0 rfl (lv_at hl 0 rfl) ?_
  refine lv_iload_n hx hb dMo_period_1 rfl (lv_at hl 1 rfl) ?_
  refine clMo_162 (As := [.int (nI c4)]) (rest := [.ref oy]) hx hb hml hown hts (k_Mo_isChannel l G (nI c4)) hG hA hP hD hS [] rfl rfl (fun _ => rfl) rfl hl.1 rfl (Nat.le_of_ble_eq_true rfl) ⟨by decide, by decide⟩ ⟨by decide, by decide⟩ dMo_period_2 (fun _ H locs _ hP hD hS => ?_)
  have hP : va_P G.1 vwCl [moC oy r th fi se (nI dp) sh sl az oh ol w0 w1 w2, aZ G (r 6) 1024 sb, aZ G (r 13) 512 mk, aI G (r 11) 1024 sv, aI G (r 12) 1024 sw, aI G (r 10) 4 ss, aI G (r 7) 4 per, aJ G (r 8) 4 ph, aJ G (r 9) 4 pl] H := hP
  have hD : va_D A [moC oy r th fi se (nI dp) sh sl az oh ol w0 w1 w2, aZ G (r 6) 1024 sb, aZ G (r 13) 512 mk, aI G (r 11) 1024 sv, aI G (r 12) 1024 sw, aI G (r 10) 4 ss, aI G (r 7) 4 per, aJ G (r 8) 4 ph, aJ G (r 9) 4 pl] := hD
  refine W.cs (cells' := 0) (slots' := 0) rfl rfl ?_
  refine W.eq (g2 := F0 m 5 ls [.int (jB (jIn 4 (nI c4))), .ref oy]) rfl ?_
  refine lv_if_ne (tgt := 12) hx hb dMo_period_5 rfl (fun _ => ?_) (fun h => absurd h (by rw [hci]; decide))
  refine lv_aload_n hx hb dMo_period_12 rfl (lv_at hl 0 rfl) ?_
  refine gfMo_32 hx hb hts hown hG hP 0 rfl rfl dMo_period_13 ?_
  refine lv_iload_n hx hb dMo_period_16 rfl (lv_at hl 1 rfl) ?_
  refine ck_iald hx hb hG hP 6 rfl (by decide) c4 (rfl) (hc) dMo_period_17 ?_
  refine lv_sipush (v := nI 999) hx hb dMo_period_18 (by decide) ?_
  refine lv_icmp_ne (tgt := 28) hx hb dMo_period_21 rfl (fun _ => ?_) (fun h => absurd h (by rw [hq]; exact fun z => by have := (nI_eq (by omega) (by omega)).mp z; omega))
  refine lv_iconst (v := nI 0) hx hb dMo_period_28 (by decide) ?_
  refine pfMo_74 hx hb hts hown hG hP hD hS 0 rfl rfl rfl (Nat.le_of_ble_eq_true rfl) dMo_period_29 (fun H locs hP hD hS => ?_)
  have hP : va_P G.1 vwCl [moC oy r (nI 0) fi se (nI dp) sh sl az oh ol w0 w1 w2, aZ G (r 6) 1024 sb, aZ G (r 13) 512 mk, aI G (r 11) 1024 sv, aI G (r 12) 1024 sw, aI G (r 10) 4 ss, aI G (r 7) 4 per, aJ G (r 8) 4 ph, aJ G (r 9) 4 pl] H := hP
  have hD : va_D A [moC oy r (nI 0) fi se (nI dp) sh sl az oh ol w0 w1 w2, aZ G (r 6) 1024 sb, aZ G (r 13) 512 mk, aI G (r 11) 1024 sv, aI G (r 12) 1024 sw, aI G (r 10) 4 ss, aI G (r 7) 4 per, aJ G (r 8) 4 ph, aJ G (r 9) 4 pl] := hD
  refine lv_aload_n hx hb dMo_period_32 rfl (lv_at hl 0 rfl) ?_
  refine gfMo_74 hx hb hts hown hG hP 0 rfl rfl dMo_period_33 ?_
  refine lv_if_le (tgt := 41) hx hb dMo_period_36 rfl (fun _ => ?_) (fun h => absurd (by decide) h)
  refine lv_aload_n hx hb dMo_period_41 rfl (lv_at hl 0 rfl) ?_
  refine gfMo_32 hx hb hts hown hG hP 0 rfl rfl dMo_period_42 ?_
  refine lv_iload_n hx hb dMo_period_45 rfl (lv_at hl 1 rfl) ?_
  refine lv_dup2_11 hx hb dMo_period_46 rfl rfl ?_
  refine ck_iald hx hb hG hP 6 rfl (by decide) c4 (rfl) (hc) dMo_period_47 ?_
  refine lv_iconst (v := nI 1) hx hb dMo_period_48 (by decide) ?_
  refine lv_iadd hx hb dMo_period_49 ?_
  refine ck_ri (y := nI (q + 1)) (by rw [hq]; exact nI_add q 1) ?_
  refine ck_iast hx hb hG hP hD hS 6 rfl (by decide) c4 (rfl) (hc) dMo_period_50 (fun H locs hP hD hS => ?_)
  have hP : va_P G.1 vwCl [moC oy r (nI 0) fi se (nI dp) sh sl az oh ol w0 w1 w2, aZ G (r 6) 1024 sb, aZ G (r 13) 512 mk, aI G (r 11) 1024 sv, aI G (r 12) 1024 sw, aI G (r 10) 4 ss, aI G (r 7) 4 (upd per c4 (nI (q + 1))), aJ G (r 8) 4 ph, aJ G (r 9) 4 pl] H := hP
  have hD : va_D A [moC oy r (nI 0) fi se (nI dp) sh sl az oh ol w0 w1 w2, aZ G (r 6) 1024 sb, aZ G (r 13) 512 mk, aI G (r 11) 1024 sv, aI G (r 12) 1024 sw, aI G (r 10) 4 ss, aI G (r 7) 4 (upd per c4 (nI (q + 1))), aJ G (r 8) 4 ph, aJ G (r 9) 4 pl] := hD
  refine lv_aload_n hx hb dMo_period_51 rfl (lv_at hl 0 rfl) ?_
  refine gfMo_35 hx hb hts hown hG hP 0 rfl rfl dMo_period_52 ?_
  refine lv_iload_n hx hb dMo_period_55 rfl (lv_at hl 1 rfl) ?_
  refine lv_lload_n hx hb dMo_period_56 rfl (lv_at hl 2 rfl) ?_
  refine ck_last hx hb hG hP hD hS 7 rfl (by decide) c4 (rfl) (hc) dMo_period_57 (fun H locs hP hD hS => ?_)
  have hP : va_P G.1 vwCl [moC oy r (nI 0) fi se (nI dp) sh sl az oh ol w0 w1 w2, aZ G (r 6) 1024 sb, aZ G (r 13) 512 mk, aI G (r 11) 1024 sv, aI G (r 12) 1024 sw, aI G (r 10) 4 ss, aI G (r 7) 4 (upd per c4 (nI (q + 1))), aJ G (r 8) 4 (vp_updL ph c4 kh), aJ G (r 9) 4 pl] H := hP
  have hD : va_D A [moC oy r (nI 0) fi se (nI dp) sh sl az oh ol w0 w1 w2, aZ G (r 6) 1024 sb, aZ G (r 13) 512 mk, aI G (r 11) 1024 sv, aI G (r 12) 1024 sw, aI G (r 10) 4 ss, aI G (r 7) 4 (upd per c4 (nI (q + 1))), aJ G (r 8) 4 (vp_updL ph c4 kh), aJ G (r 9) 4 pl] := hD
  refine lv_aload_n hx hb dMo_period_58 rfl (lv_at hl 0 rfl) ?_
  refine gfMo_39 hx hb hts hown hG hP 0 rfl rfl dMo_period_59 ?_
  refine lv_iload_n hx hb dMo_period_62 rfl (lv_at hl 1 rfl) ?_
  refine lv_lload hx hb dMo_period_63 (lv_at hl 3 rfl) ?_
  refine ck_last hx hb hG hP hD hS 8 rfl (by decide) c4 (rfl) (hc) dMo_period_65 (fun H locs hP hD hS => ?_)
  have hP : va_P G.1 vwCl [moC oy r (nI 0) fi se (nI dp) sh sl az oh ol w0 w1 w2, aZ G (r 6) 1024 sb, aZ G (r 13) 512 mk, aI G (r 11) 1024 sv, aI G (r 12) 1024 sw, aI G (r 10) 4 ss, aI G (r 7) 4 (upd per c4 (nI (q + 1))), aJ G (r 8) 4 (vp_updL ph c4 kh), aJ G (r 9) 4 (vp_updL pl c4 kl)] H := hP
  have hD : va_D A [moC oy r (nI 0) fi se (nI dp) sh sl az oh ol w0 w1 w2, aZ G (r 6) 1024 sb, aZ G (r 13) 512 mk, aI G (r 11) 1024 sv, aI G (r 12) 1024 sw, aI G (r 10) 4 ss, aI G (r 7) 4 (upd per c4 (nI (q + 1))), aJ G (r 8) 4 (vp_updL ph c4 kh), aJ G (r 9) 4 (vp_updL pl c4 kl)] := hD
  refine lv_aload_n hx hb dMo_period_66 rfl (lv_at hl 0 rfl) ?_
  refine lv_iload_n hx hb dMo_period_67 rfl (lv_at hl 1 rfl) ?_
  refine clMo_165 (As := [.int (nI c4)]) (rest := []) hx hb hml hown hts (k_Mo_makeCover l G oy r (nI 0) fi se dp hdp sh sl az oh ol w0 w1 w2 c4 hc sb mk sv sw ss M g fv fw hsb hM) hG hA hP hD hS 0 rfl [0, 1, 2, 3, 4, 5] rfl rfl (fun _ => rfl) rfl hl.1 rfl (Nat.le_of_ble_eq_true rfl) ⟨by decide, by decide⟩ ⟨by decide, by decide⟩ dMo_period_68 (fun u9 H locs hu9 hP hD hS => ?_)
  have hP : va_P G.1 vwCl [moC oy r (nI 0) fi se (nI dp) sh sl az oh ol w0 w1 w2, aZ G (r 6) 1024 sb, aZ G (r 13) 512 u9.1, aI G (r 11) 1024 u9.2.1, aI G (r 12) 1024 u9.2.2, aI G (r 10) 4 (upd ss c4 (nI (jCov M (2 ^ dp) fv fw).1)), aI G (r 7) 4 (upd per c4 (nI (q + 1))), aJ G (r 8) 4 (vp_updL ph c4 kh), aJ G (r 9) 4 (vp_updL pl c4 kl)] H := hP
  have hD : va_D A [moC oy r (nI 0) fi se (nI dp) sh sl az oh ol w0 w1 w2, aZ G (r 6) 1024 sb, aZ G (r 13) 512 u9.1, aI G (r 11) 1024 u9.2.1, aI G (r 12) 1024 u9.2.2, aI G (r 10) 4 (upd ss c4 (nI (jCov M (2 ^ dp) fv fw).1)), aI G (r 7) 4 (upd per c4 (nI (q + 1))), aJ G (r 8) 4 (vp_updL ph c4 kh), aJ G (r 9) 4 (vp_updL pl c4 kl)] := hD
  refine W.cs (cells' := 0) (slots' := 0) rfl rfl ?_
  refine W.eq (g2 := F0 m 71 ls []) rfl ?_
  refine lv_aload_n hx hb dMo_period_71 rfl (lv_at hl 0 rfl) ?_
  refine gfMo_42 hx hb hts hown hG hP 0 rfl rfl dMo_period_72 ?_
  refine lv_iload_n hx hb dMo_period_75 rfl (lv_at hl 1 rfl) ?_
  refine ck_iald hx hb hG hP 5 rfl (by decide) c4 (rfl) (hc) dMo_period_76 ?_
  refine ck_ri (y := nI (jCov M (2 ^ dp) fv fw).1) (by unfold upd; rw [if_pos rfl]) ?_
  exact cq_iret (u9.1, u9.2.1, u9.2.2) (hu9) hx hb hr hlk hP hS (rfl) (rfl) dMo_period_77
set_option maxHeartbeats 4000000 in
set_option maxRecDepth 100000 in
theorem k_Mo_air_e (l : Launch) (G : gG) (oy : Nat) (r : Nat → Nat) (th : Int32) (fi se : Int64) (d : Int32) (sh sl : Int64) (oh ol w0 w1 w2 : Int64) (q : Nat) (i1 : Int32) (hi : jIn q i1 = false) : Ck l G yMo_air cMo_air 2 (some .int) { frames := 0, cells := 0, slots := 0, locals := 0 } [.ref oy, .int i1] [moC oy r th fi se d sh sl (nI q) oh ol w0 w1 w2] (some (.int (nI 0))) [moC oy r (nI 1) fi se d sh sl (nI q) oh ol w0 w1 w2] := by
  refine Cq.of (by decide) (Nat.le_of_ble_eq_true rfl) ?_
  intro p e s m args below meth c A ls hx hb hr hml hts hown hlk hA hP hD hG hS hl
  have hl : lv_has ls 2 [(0, .ref oy), (1, .int i1)] := hl
  refine lv_aload_n hx hb dMo_air_0 rfl (lv_at hl 0 rfl) ?_
  refine lv_iload_n hx hb dMo_air_1 rfl (lv_at hl 1 rfl) ?_
  refine lv_if_lt (tgt := 17) hx hb dMo_air_2 rfl (fun hx1 => ?_) (fun hx1 => ?_)
  · have b_h1 := decide_eq_true hx1
    refine lv_iconst (v := nI 1) hx hb dMo_air_17 (by decide) ?_
    refine pfMo_74 hx hb hts hown hG hP hD hS 0 rfl rfl rfl (Nat.le_of_ble_eq_true rfl) dMo_air_18 (fun H locs hP hD hS => ?_)
    have hP : va_P G.1 vwCl [moC oy r (nI 1) fi se d sh sl (nI q) oh ol w0 w1 w2] H := hP
    have hD : va_D A [moC oy r (nI 1) fi se d sh sl (nI q) oh ol w0 w1 w2] := hD
    refine lv_aload_n hx hb dMo_air_21 rfl (lv_at hl 0 rfl) ?_
    refine gfMo_74 hx hb hts hown hG hP 0 rfl rfl dMo_air_22 ?_
    refine lv_if_le (tgt := 32) hx hb dMo_air_25 rfl (fun h => absurd h (by decide)) (fun _ => ?_)
    refine lv_iconst (v := nI 0) hx hb dMo_air_28 (by decide) ?_
    refine lv_goto (tgt := 38) hx hb dMo_air_29 rfl ?_
    exact cq_iret () (trivial) hx hb hr hlk hP hS (rfl) (rfl) dMo_air_38
  · have b_h1 := decide_eq_false hx1
    refine lv_iload_n hx hb dMo_air_5 rfl (lv_at hl 1 rfl) ?_
    refine lv_aload_n hx hb dMo_air_6 rfl (lv_at hl 0 rfl) ?_
    refine gfMo_136 hx hb hts hown hG hP 0 rfl rfl dMo_air_7 ?_
    refine lv_icmp_ge (tgt := 17) hx hb dMo_air_10 rfl (fun _ => ?_) (fun h => absurd (Int32.not_lt.mp (jIn_lt hi hx1)) h)
    refine lv_iconst (v := nI 1) hx hb dMo_air_17 (by decide) ?_
    refine pfMo_74 hx hb hts hown hG hP hD hS 0 rfl rfl rfl (Nat.le_of_ble_eq_true rfl) dMo_air_18 (fun H locs hP hD hS => ?_)
    have hP : va_P G.1 vwCl [moC oy r (nI 1) fi se d sh sl (nI q) oh ol w0 w1 w2] H := hP
    have hD : va_D A [moC oy r (nI 1) fi se d sh sl (nI q) oh ol w0 w1 w2] := hD
    refine lv_aload_n hx hb dMo_air_21 rfl (lv_at hl 0 rfl) ?_
    refine gfMo_74 hx hb hts hown hG hP 0 rfl rfl dMo_air_22 ?_
    refine lv_if_le (tgt := 32) hx hb dMo_air_25 rfl (fun h => absurd h (by decide)) (fun _ => ?_)
    refine lv_iconst (v := nI 0) hx hb dMo_air_28 (by decide) ?_
    refine lv_goto (tgt := 38) hx hb dMo_air_29 rfl ?_
    exact cq_iret () (trivial) hx hb hr hlk hP hS (rfl) (rfl) dMo_air_38
set_option maxHeartbeats 4000000 in
set_option maxRecDepth 100000 in
theorem k_Mo_air (l : Launch) (G : gG) (oy : Nat) (r : Nat → Nat) (th : Int32) (fi se : Int64) (d : Int32) (sh sl : Int64) (oh ol w0 w1 w2 : Int64) (q : Nat) (hq : q ≤ 229) (n1 : Nat) (hn : n1 < q) (f : Nat → Int32) : Ck l G yMo_air cMo_air 2 (some .int) { frames := 0, cells := 0, slots := 0, locals := 0 } [.ref oy, .int (nI n1)] [moC oy r th fi se d sh sl (nI q) oh ol w0 w1 w2, aI G (r 14) 229 f] (some (.int (f n1))) [moC oy r (nI 0) fi se d sh sl (nI q) oh ol w0 w1 w2, aI G (r 14) 229 f] := by
  refine Cq.of (by decide) (Nat.le_of_ble_eq_true rfl) ?_
  intro p e s m args below meth c A ls hx hb hr hml hts hown hlk hA hP hD hG hS hl
  have hl : lv_has ls 2 [(0, .ref oy), (1, .int (nI n1))] := hl
  refine lv_aload_n hx hb dMo_air_0 rfl (lv_at hl 0 rfl) ?_
  refine lv_iload_n hx hb dMo_air_1 rfl (lv_at hl 1 rfl) ?_
  refine lv_if_lt (tgt := 17) hx hb dMo_air_2 rfl (fun h => absurd h (nI_pos (by omega))) (fun _ => ?_)
  refine lv_iload_n hx hb dMo_air_5 rfl (lv_at hl 1 rfl) ?_
  refine lv_aload_n hx hb dMo_air_6 rfl (lv_at hl 0 rfl) ?_
  refine gfMo_136 hx hb hts hown hG hP 0 rfl rfl dMo_air_7 ?_
  refine lv_icmp_ge (tgt := 17) hx hb dMo_air_10 rfl (fun h => absurd h (nI_ge (by omega) (by omega))) (fun _ => ?_)
  refine lv_iconst (v := nI 0) hx hb dMo_air_13 (by decide) ?_
  refine lv_goto (tgt := 18) hx hb dMo_air_14 rfl ?_
  refine pfMo_74 hx hb hts hown hG hP hD hS 0 rfl rfl rfl (Nat.le_of_ble_eq_true rfl) dMo_air_18 (fun H locs hP hD hS => ?_)
  have hP : va_P G.1 vwCl [moC oy r (nI 0) fi se d sh sl (nI q) oh ol w0 w1 w2, aI G (r 14) 229 f] H := hP
  have hD : va_D A [moC oy r (nI 0) fi se d sh sl (nI q) oh ol w0 w1 w2, aI G (r 14) 229 f] := hD
  refine lv_aload_n hx hb dMo_air_21 rfl (lv_at hl 0 rfl) ?_
  refine gfMo_74 hx hb hts hown hG hP 0 rfl rfl dMo_air_22 ?_
  refine lv_if_le (tgt := 32) hx hb dMo_air_25 rfl (fun _ => ?_) (fun h => absurd (by decide) h)
  refine lv_aload_n hx hb dMo_air_32 rfl (lv_at hl 0 rfl) ?_
  refine gfMo_54 hx hb hts hown hG hP 0 rfl rfl dMo_air_33 ?_
  refine lv_iload_n hx hb dMo_air_36 rfl (lv_at hl 1 rfl) ?_
  refine ck_iald hx hb hG hP 1 rfl (by decide) n1 (rfl) (by omega) dMo_air_37 ?_
  exact cq_iret () (trivial) hx hb hr hlk hP hS (rfl) (rfl) dMo_air_38
set_option maxHeartbeats 4000000 in
set_option maxRecDepth 100000 in
theorem k_Mo_flip_e (l : Launch) (G : gG) (oy : Nat) (r : Nat → Nat) (th : Int32) (fi se : Int64) (d : Int32) (sh sl : Int64) (oh ol w0 w1 w2 : Int64) (q : Nat) (i1 : Int32) (hi : jIn q i1 = false) (m1 : Int32) : Ck l G yMo_flip cMo_flip 3 none { frames := 0, cells := 0, slots := 0, locals := 0 } [.ref oy, .int i1, .int m1] [moC oy r th fi se d sh sl (nI q) oh ol w0 w1 w2] (none) [moC oy r (nI 1) fi se d sh sl (nI q) oh ol w0 w1 w2] := by
  refine Cq.of (by decide) (Nat.le_of_ble_eq_true rfl) ?_
  intro p e s m args below meth c A ls hx hb hr hml hts hown hlk hA hP hD hG hS hl
  have hl : lv_has ls 3 [(0, .ref oy), (1, .int i1), (2, .int m1)] := hl
  refine lv_aload_n hx hb dMo_flip_0 rfl (lv_at hl 0 rfl) ?_
  refine lv_iload_n hx hb dMo_flip_1 rfl (lv_at hl 1 rfl) ?_
  refine lv_if_lt (tgt := 17) hx hb dMo_flip_2 rfl (fun hx1 => ?_) (fun hx1 => ?_)
  · have b_h1 := decide_eq_true hx1
    refine lv_iconst (v := nI 1) hx hb dMo_flip_17 (by decide) ?_
    refine pfMo_74 hx hb hts hown hG hP hD hS 0 rfl rfl rfl (Nat.le_of_ble_eq_true rfl) dMo_flip_18 (fun H locs hP hD hS => ?_)
    have hP : va_P G.1 vwCl [moC oy r (nI 1) fi se d sh sl (nI q) oh ol w0 w1 w2] H := hP
    have hD : va_D A [moC oy r (nI 1) fi se d sh sl (nI q) oh ol w0 w1 w2] := hD
    refine lv_aload_n hx hb dMo_flip_21 rfl (lv_at hl 0 rfl) ?_
    refine gfMo_74 hx hb hts hown hG hP 0 rfl rfl dMo_flip_22 ?_
    refine lv_if_ne (tgt := 46) hx hb dMo_flip_25 rfl (fun _ => ?_) (fun h => absurd h (by decide))
    exact cq_vret () (trivial) hx hb hr hlk hP hS rfl (rfl) dMo_flip_46
  · have b_h1 := decide_eq_false hx1
    refine lv_iload_n hx hb dMo_flip_5 rfl (lv_at hl 1 rfl) ?_
    refine lv_aload_n hx hb dMo_flip_6 rfl (lv_at hl 0 rfl) ?_
    refine gfMo_136 hx hb hts hown hG hP 0 rfl rfl dMo_flip_7 ?_
    refine lv_icmp_ge (tgt := 17) hx hb dMo_flip_10 rfl (fun _ => ?_) (fun h => absurd (Int32.not_lt.mp (jIn_lt hi hx1)) h)
    refine lv_iconst (v := nI 1) hx hb dMo_flip_17 (by decide) ?_
    refine pfMo_74 hx hb hts hown hG hP hD hS 0 rfl rfl rfl (Nat.le_of_ble_eq_true rfl) dMo_flip_18 (fun H locs hP hD hS => ?_)
    have hP : va_P G.1 vwCl [moC oy r (nI 1) fi se d sh sl (nI q) oh ol w0 w1 w2] H := hP
    have hD : va_D A [moC oy r (nI 1) fi se d sh sl (nI q) oh ol w0 w1 w2] := hD
    refine lv_aload_n hx hb dMo_flip_21 rfl (lv_at hl 0 rfl) ?_
    refine gfMo_74 hx hb hts hown hG hP 0 rfl rfl dMo_flip_22 ?_
    refine lv_if_ne (tgt := 46) hx hb dMo_flip_25 rfl (fun _ => ?_) (fun h => absurd h (by decide))
    exact cq_vret () (trivial) hx hb hr hlk hP hS rfl (rfl) dMo_flip_46
set_option maxHeartbeats 4000000 in
set_option maxRecDepth 100000 in
theorem k_Mo_flip (l : Launch) (G : gG) (oy : Nat) (r : Nat → Nat) (th : Int32) (fi se : Int64) (d : Int32) (sh sl : Int64) (oh ol w0 w1 w2 : Int64) (q : Nat) (hq : q ≤ 229) (n1 : Nat) (hn : n1 < q) (f : Nat → Int32) (m1 : Int32) : Ck l G yMo_flip cMo_flip 3 none { frames := 0, cells := 0, slots := 0, locals := 0 } [.ref oy, .int (nI n1), .int m1] [moC oy r th fi se d sh sl (nI q) oh ol w0 w1 w2, aI G (r 14) 229 f] (none) [moC oy r (nI 0) fi se d sh sl (nI q) oh ol w0 w1 w2, aI G (r 14) 229 (upd f n1 ((f n1 ^^^ m1) &&& nI 255))] := by
  refine Cq.of (by decide) (Nat.le_of_ble_eq_true rfl) ?_
  intro p e s m args below meth c A ls hx hb hr hml hts hown hlk hA hP hD hG hS hl
  have hl : lv_has ls 3 [(0, .ref oy), (1, .int (nI n1)), (2, .int m1)] := hl
  refine lv_aload_n hx hb dMo_flip_0 rfl (lv_at hl 0 rfl) ?_
  refine lv_iload_n hx hb dMo_flip_1 rfl (lv_at hl 1 rfl) ?_
  refine lv_if_lt (tgt := 17) hx hb dMo_flip_2 rfl (fun h => absurd h (nI_pos (by omega))) (fun _ => ?_)
  refine lv_iload_n hx hb dMo_flip_5 rfl (lv_at hl 1 rfl) ?_
  refine lv_aload_n hx hb dMo_flip_6 rfl (lv_at hl 0 rfl) ?_
  refine gfMo_136 hx hb hts hown hG hP 0 rfl rfl dMo_flip_7 ?_
  refine lv_icmp_ge (tgt := 17) hx hb dMo_flip_10 rfl (fun h => absurd h (nI_ge (by omega) (by omega))) (fun _ => ?_)
  refine lv_iconst (v := nI 0) hx hb dMo_flip_13 (by decide) ?_
  refine lv_goto (tgt := 18) hx hb dMo_flip_14 rfl ?_
  refine pfMo_74 hx hb hts hown hG hP hD hS 0 rfl rfl rfl (Nat.le_of_ble_eq_true rfl) dMo_flip_18 (fun H locs hP hD hS => ?_)
  have hP : va_P G.1 vwCl [moC oy r (nI 0) fi se d sh sl (nI q) oh ol w0 w1 w2, aI G (r 14) 229 f] H := hP
  have hD : va_D A [moC oy r (nI 0) fi se d sh sl (nI q) oh ol w0 w1 w2, aI G (r 14) 229 f] := hD
  refine lv_aload_n hx hb dMo_flip_21 rfl (lv_at hl 0 rfl) ?_
  refine gfMo_74 hx hb hts hown hG hP 0 rfl rfl dMo_flip_22 ?_
  refine lv_if_ne (tgt := 46) hx hb dMo_flip_25 rfl (fun h => absurd (rfl) h) (fun _ => ?_)
  refine lv_aload_n hx hb dMo_flip_28 rfl (lv_at hl 0 rfl) ?_
  refine gfMo_54 hx hb hts hown hG hP 0 rfl rfl dMo_flip_29 ?_
  refine lv_iload_n hx hb dMo_flip_32 rfl (lv_at hl 1 rfl) ?_
  refine lv_aload_n hx hb dMo_flip_33 rfl (lv_at hl 0 rfl) ?_
  refine gfMo_54 hx hb hts hown hG hP 0 rfl rfl dMo_flip_34 ?_
  refine lv_iload_n hx hb dMo_flip_37 rfl (lv_at hl 1 rfl) ?_
  refine ck_iald hx hb hG hP 1 rfl (by decide) n1 (rfl) (by omega) dMo_flip_38 ?_
  refine lv_iload_n hx hb dMo_flip_39 rfl (lv_at hl 2 rfl) ?_
  refine lv_ixor hx hb dMo_flip_40 ?_
  refine lv_sipush (v := nI 255) hx hb dMo_flip_41 (by decide) ?_
  refine lv_iand hx hb dMo_flip_44 ?_
  refine ck_iast hx hb hG hP hD hS 1 rfl (by decide) n1 (rfl) (by omega) dMo_flip_45 (fun H locs hP hD hS => ?_)
  have hP : va_P G.1 vwCl [moC oy r (nI 0) fi se d sh sl (nI q) oh ol w0 w1 w2, aI G (r 14) 229 (upd f n1 (((f n1) ^^^ m1) &&& (nI 255)))] H := hP
  have hD : va_D A [moC oy r (nI 0) fi se d sh sl (nI q) oh ol w0 w1 w2, aI G (r 14) 229 (upd f n1 (((f n1) ^^^ m1) &&& (nI 255)))] := hD
  exact cq_vret () (trivial) hx hb hr hlk hP hS rfl (rfl) dMo_flip_46
set_option maxHeartbeats 4000000 in
set_option maxRecDepth 100000 in
theorem k_Mo_airNumber (l : Launch) (G : gG) (oy : Nat) (r : Nat → Nat) (th : Int32) (fi se : Int64) (d : Int32) (sh sl : Int64) (az : Int32) (oh ol w0 w1 w2 : Int64) (a z : Nat) (haz : a + z ≤ 229) (f : Nat → Int32) : Ck l G yMo_airNumber cMo_airNumber 6 (some .long) { frames := 0, cells := 0, slots := 0, locals := 0 } [.ref oy, .int (nI a), .int (nI z)] [moC oy r th fi se d sh sl az oh ol w0 w1 w2, aI G (r 14) 229 f] (some (.long (jRd f a z))) [moC oy r th fi se d sh sl az oh ol w0 w1 w2, aI G (r 14) 229 f] := by
  refine Cq.of (by decide) (Nat.le_of_ble_eq_true rfl) ?_
  intro p e s m args below meth c A ls hx hb hr hml hts hown hlk hA hP hD hG hS hl
  have hl : lv_has ls 6 [(0, .ref oy), (1, .int (nI a)), (2, .int (nI z))] := hl
  refine lv_lconst (v := lN 0) hx hb dMo_airNumber_0 (by decide) ?_
  refine lv_lstore_n (lv' := [(3, .long (lN 0)), (0, .ref oy), (1, .int (nI a)), (2, .int (nI z))]) hx hb dMo_airNumber_1 rfl hl (by decide) rfl (fun ls hl => ?_)
  refine lv_iconst (v := nI 0) hx hb dMo_airNumber_2 (by decide) ?_
  refine lv_istore (lv' := [(5, .int (nI 0)), (3, .long (lN 0)), (0, .ref oy), (1, .int (nI a)), (2, .int (nI z))]) hx hb dMo_airNumber_3 hl (by decide) rfl (fun ls hl => ?_)
  have loop : ∀ (k : Nat) (n : Nat) (H : Heap) (locs : List Loc) (ls : Array Slot), n + k = z → va_P G.1 vwCl [moC oy r th fi se d sh sl az oh ol w0 w1 w2, aI G (r 14) 229 f] H → va_D A [moC oy r th fi se d sh sl az oh ol w0 w1 w2, aI G (r 14) 229 f] → va_S A s.heap H locs → lv_has ls 6 [(0, .ref oy), (1, .int (nI a)), (2, .int (nI z)), (3, .long (jRd f a n)), (5, .int (nI n))] → W p l e { frames := 0, cells := 0, slots := 0, locals := 0 } s m args below meth c H locs 0 0 (MQ below (cq_out G (S := Unit) (fun _ => True) (fun _ => (some (.long (jRd f a z)))) (fun _ => [moC oy r th fi se d sh sl az oh ol w0 w1 w2, aI G (r 14) 229 f]) A) args s 0 0 A) (F0 m 5 ls []) := by
    intro k
    induction k with
    | zero =>
      intro n H locs ls hk hP hD hS hl
      refine lv_iload hx hb dMo_airNumber_5 (lv_at hl 4 rfl) ?_
      refine lv_iload_n hx hb dMo_airNumber_7 rfl (lv_at hl 2 rfl) ?_
      refine lv_icmp_ge (tgt := 33) hx hb dMo_airNumber_8 rfl (fun _ => ?_) (fun h => absurd (nI_le (by omega) (by omega)) h)
      refine lv_lload_n hx hb dMo_airNumber_33 rfl (lv_at hl 3 rfl) ?_
      exact cq_lret () (trivial) hx hb hr hlk hP hS (by rw [show n = z by omega]) (rfl) dMo_airNumber_34
    | succ k ih =>
      intro n H locs ls hk hP hD hS hl
      refine lv_iload hx hb dMo_airNumber_5 (lv_at hl 4 rfl) ?_
      refine lv_iload_n hx hb dMo_airNumber_7 rfl (lv_at hl 2 rfl) ?_
      refine lv_icmp_ge (tgt := 33) hx hb dMo_airNumber_8 rfl (fun h => absurd h (nI_ge (by omega) (by omega))) (fun _ => ?_)
      refine lv_lload_n hx hb dMo_airNumber_11 rfl (lv_at hl 3 rfl) ?_
      refine lv_bipush (v := nI 8) hx hb dMo_airNumber_12 (by decide) ?_
      refine lv_lshl (v := lsh (jRd f a n) (nI 8)) hx hb dMo_airNumber_14 rfl ?_
      refine lv_aload_n hx hb dMo_airNumber_15 rfl (lv_at hl 0 rfl) ?_
      refine gfMo_54 hx hb hts hown hG hP 0 rfl rfl dMo_airNumber_16 ?_
      refine lv_iload_n hx hb dMo_airNumber_19 rfl (lv_at hl 1 rfl) ?_
      refine lv_iload hx hb dMo_airNumber_20 (lv_at hl 4 rfl) ?_
      refine lv_iadd hx hb dMo_airNumber_22 ?_
      refine ck_iald hx hb hG hP 1 rfl (by decide) (a + n) (nI_add a n) (by omega) dMo_airNumber_23 ?_
      refine lv_i2l (v := (f (a + n)).toInt64) hx hb dMo_airNumber_24 rfl ?_
      refine lv_lor hx hb dMo_airNumber_25 ?_
      refine lv_lstore_n (lv' := [(3, .long ((lsh (jRd f a n) (nI 8)) ||| ((f (a + n)).toInt64))), (0, .ref oy), (1, .int (nI a)), (2, .int (nI z)), (5, .int (nI n))]) hx hb dMo_airNumber_26 rfl hl (by decide) rfl (fun ls hl => ?_)
      refine lv_iinc (v := nI (n + 1)) (lv' := [(5, .int (nI (n + 1))), (3, .long ((lsh (jRd f a n) (nI 8)) ||| ((f (a + n)).toInt64))), (0, .ref oy), (1, .int (nI a)), (2, .int (nI z))]) hx hb dMo_airNumber_27 hl (k := 4) rfl (nI_1 n) (by decide) rfl (fun ls hl => ?_)
      refine lv_goto (tgt := 5) hx hb dMo_airNumber_30 rfl ?_
      exact ih (n + 1) _ _ _ (by omega) hP hD hS (lv_sub hl [2, 3, 4, 1, 0] rfl)
  exact loop z 0 _ _ _ (by omega) hP hD hS (lv_sub hl [2, 3, 4, 1, 0] rfl)
set_option maxHeartbeats 4000000 in
set_option maxRecDepth 100000 in
theorem k_Mo_putAir (l : Launch) (G : gG) (oy : Nat) (r : Nat → Nat) (th : Int32) (fi se : Int64) (d : Int32) (sh sl : Int64) (oh ol w0 w1 w2 : Int64) (q z : Nat) (hq : q + z ≤ 229) (hz : z ≤ 8) (f : Nat → Int32) (v : Int64) : Ck l G yMo_putAir cMo_putAir 5 none { frames := 0, cells := 0, slots := 0, locals := 0 } [.ref oy, .long v, .int (nI z)] [moC oy r th fi se d sh sl (nI q) oh ol w0 w1 w2, aI G (r 14) 229 f] (none) [moC oy r th fi se d sh sl (nI (q + z)) oh ol w0 w1 w2, aI G (r 14) 229 (jPut v z q f z)] := by
  refine Cq.of (by decide) (Nat.le_of_ble_eq_true rfl) ?_
  intro p e s m args below meth c A ls hx hb hr hml hts hown hlk hA hP hD hG hS hl
  have hl : lv_has ls 5 [(0, .ref oy), (1, .long v), (3, .int (nI z))] := hl
  refine lv_iload_n hx hb dMo_putAir_0 rfl (lv_at hl 2 rfl) ?_
  refine lv_iconst (v := nI 1) hx hb dMo_putAir_1 (by decide) ?_
  refine lv_isub hx hb dMo_putAir_2 ?_
  refine ck_ri (y := jm1 z) (jm1_sub z) ?_
  refine lv_istore (lv' := [(4, .int (jm1 z)), (0, .ref oy), (1, .long v), (3, .int (nI z))]) hx hb dMo_putAir_3 hl (by decide) rfl (fun ls hl => ?_)
  have loop : ∀ (k : Nat) (n : Nat) (H : Heap) (locs : List Loc) (ls : Array Slot), n + k = z → va_P G.1 vwCl [moC oy r th fi se d sh sl (nI (q + n)) oh ol w0 w1 w2, aI G (r 14) 229 (jPut v z q f n)] H → va_D A [moC oy r th fi se d sh sl (nI (q + n)) oh ol w0 w1 w2, aI G (r 14) 229 (jPut v z q f n)] → va_S A s.heap H locs → lv_has ls 5 [(0, .ref oy), (1, .long v), (4, .int (jm1 k))] → W p l e { frames := 0, cells := 0, slots := 0, locals := 0 } s m args below meth c H locs 0 0 (MQ below (cq_out G (S := Unit) (fun _ => True) (fun _ => (none)) (fun _ => [moC oy r th fi se d sh sl (nI (q + z)) oh ol w0 w1 w2, aI G (r 14) 229 (jPut v z q f z)]) A) args s 0 0 A) (F0 m 5 ls []) := by
    intro k
    induction k with
    | zero =>
      intro n H locs ls hk hP hD hS hl
      have hl : lv_has ls 5 [(0, .ref oy), (1, .long v), (4, .int (-1))] := hl
      refine lv_iload hx hb dMo_putAir_5 (lv_at hl 2 rfl) ?_
      refine lv_if_lt (tgt := 47) hx hb dMo_putAir_7 rfl (fun _ => ?_) (fun h => absurd (by decide) h)
      exact cq_vret () (trivial) hx hb hr hlk hP hS rfl (by rw [show n = z by omega]) dMo_putAir_47
    | succ k ih =>
      intro n H locs ls hk hP hD hS hl
      have hl : lv_has ls 5 [(0, .ref oy), (1, .long v), (4, .int (nI k))] := hl
      refine lv_iload hx hb dMo_putAir_5 (lv_at hl 2 rfl) ?_
      refine lv_if_lt (tgt := 47) hx hb dMo_putAir_7 rfl (fun h => absurd h (nI_pos (by omega))) (fun _ => ?_)
      refine lv_aload_n hx hb dMo_putAir_10 rfl (lv_at hl 0 rfl) ?_
      refine gfMo_54 hx hb hts hown hG hP 0 rfl rfl dMo_putAir_11 ?_
      refine lv_aload_n hx hb dMo_putAir_14 rfl (lv_at hl 0 rfl) ?_
      refine gfMo_136 hx hb hts hown hG hP 0 rfl rfl dMo_putAir_15 ?_
      refine lv_lload_n hx hb dMo_putAir_18 rfl (lv_at hl 1 rfl) ?_
      refine lv_bipush (v := nI 8) hx hb dMo_putAir_19 (by decide) ?_
      refine lv_iload hx hb dMo_putAir_21 (lv_at hl 2 rfl) ?_
      refine lv_imul hx hb dMo_putAir_23 ?_
      refine ck_ri (y := nI (8 * k)) (pk_mul 8 k) ?_
      refine lv_lshr (v := lsr v (nI (8 * k))) hx hb dMo_putAir_24 rfl ?_
      refine lv_l2i (v := (lsr v (nI (8 * k))).toInt32) hx hb dMo_putAir_25 rfl ?_
      refine lv_sipush (v := nI 255) hx hb dMo_putAir_26 (by decide) ?_
      refine lv_iand hx hb dMo_putAir_29 ?_
      refine ck_ri (y := (lush v (nI 8 * nI (z - 1 - n))).toInt32 &&& nI 255) (by rw [show z - 1 - n = k by omega, pk_mul]; exact lsr_lush8 v (by omega)) ?_
      refine ck_iast hx hb hG hP hD hS 1 rfl (by decide) (q + n) (rfl) (by omega) dMo_putAir_30 (fun H locs hP hD hS => ?_)
      have hP : va_P G.1 vwCl [moC oy r th fi se d sh sl (nI (q + n)) oh ol w0 w1 w2, aI G (r 14) 229 (upd (jPut v z q f n) (q + n) ((lush v (nI 8 * nI (z - 1 - n))).toInt32 &&& nI 255))] H := hP
      have hD : va_D A [moC oy r th fi se d sh sl (nI (q + n)) oh ol w0 w1 w2, aI G (r 14) 229 (upd (jPut v z q f n) (q + n) ((lush v (nI 8 * nI (z - 1 - n))).toInt32 &&& nI 255))] := hD
      refine lv_aload_n hx hb dMo_putAir_31 rfl (lv_at hl 0 rfl) ?_
      refine lv_dup hx hb dMo_putAir_32 rfl ?_
      refine gfMo_136 hx hb hts hown hG hP 0 rfl rfl dMo_putAir_33 ?_
      refine lv_iconst (v := nI 1) hx hb dMo_putAir_36 (by decide) ?_
      refine lv_iadd hx hb dMo_putAir_37 ?_
      refine ck_ri (y := nI (q + (n + 1))) (nI_1 (q + n)) ?_
      refine pfMo_136 hx hb hts hown hG hP hD hS 0 rfl rfl rfl (Nat.le_of_ble_eq_true rfl) dMo_putAir_38 (fun H locs hP hD hS => ?_)
      have hP : va_P G.1 vwCl [moC oy r th fi se d sh sl (nI (q + (n + 1))) oh ol w0 w1 w2, aI G (r 14) 229 (upd (jPut v z q f n) (q + n) ((lush v (nI 8 * nI (z - 1 - n))).toInt32 &&& nI 255))] H := hP
      have hD : va_D A [moC oy r th fi se d sh sl (nI (q + (n + 1))) oh ol w0 w1 w2, aI G (r 14) 229 (upd (jPut v z q f n) (q + n) ((lush v (nI 8 * nI (z - 1 - n))).toInt32 &&& nI 255))] := hD
      refine lv_iinc (v := jm1 k) (lv' := [(4, .int (jm1 k)), (0, .ref oy), (1, .long v)]) hx hb dMo_putAir_41 hl (k := 2) rfl (jm1_dec k) (by decide) rfl (fun ls hl => ?_)
      refine lv_goto (tgt := 5) hx hb dMo_putAir_44 rfl ?_
      exact ih (n + 1) _ _ _ (by omega) hP hD hS (lv_sub hl [1, 2, 0] rfl)
  exact loop z 0 _ _ _ (by omega) hP hD hS (lv_sub hl [1, 2, 0] rfl)
set_option maxHeartbeats 4000000 in
set_option maxRecDepth 100000 in
theorem k_Mo_out (l : Launch) (G : gG) (oy : Nat) (r : Nat → Nat) (th : Int32) (fi se : Int64) (d : Int32) (sh sl : Int64) (az : Int32) (oh ol w0 w1 w2 : Int64) (b1 : Int32) : Ck l G yMo_out cMo_out 2 (some .long) { frames := 0, cells := 0, slots := 0, locals := 0 } [.ref oy, .int b1] [moC oy r th fi se d sh sl az oh ol w0 w1 w2] (some (.long (jIf b1 ol oh))) [moC oy r (nI 0) fi se d sh sl az oh ol w0 w1 w2] := by
  refine Cq.of (by decide) (Nat.le_of_ble_eq_true rfl) ?_
  intro p e s m args below meth c A ls hx hb hr hml hts hown hlk hA hP hD hG hS hl
  have hl : lv_has ls 2 [(0, .ref oy), (1, .int b1)] := hl
  refine lv_aload_n hx hb dMo_out_0 rfl (lv_at hl 0 rfl) ?_
  refine lv_iconst (v := nI 0) hx hb dMo_out_1 (by decide) ?_
  refine pfMo_74 hx hb hts hown hG hP hD hS 0 rfl rfl rfl (Nat.le_of_ble_eq_true rfl) dMo_out_2 (fun H locs hP hD hS => ?_)
  have hP : va_P G.1 vwCl [moC oy r (nI 0) fi se d sh sl az oh ol w0 w1 w2] H := hP
  have hD : va_D A [moC oy r (nI 0) fi se d sh sl az oh ol w0 w1 w2] := hD
  refine lv_iload_n hx hb dMo_out_5 rfl (lv_at hl 1 rfl) ?_
  refine lv_if_eq (tgt := 16) hx hb dMo_out_6 rfl (fun h9 => ?_) (fun h9 => ?_)
  · have h8 : b1 = 0 := h9
    refine lv_aload_n hx hb dMo_out_16 rfl (lv_at hl 0 rfl) ?_
    refine gfMo_195 hx hb hts hown hG hP 0 rfl rfl dMo_out_17 ?_
    exact cq_lret () (trivial) hx hb hr hlk hP hS (by unfold jIf; rw [if_pos h8]) (rfl) dMo_out_20
  · have h8 : ¬ b1 = 0 := h9
    refine lv_aload_n hx hb dMo_out_9 rfl (lv_at hl 0 rfl) ?_
    refine gfMo_198 hx hb hts hown hG hP 0 rfl rfl dMo_out_10 ?_
    refine lv_goto (tgt := 20) hx hb dMo_out_13 rfl ?_
    exact cq_lret () (trivial) hx hb hr hlk hP hS (by unfold jIf; rw [if_neg h8]) (rfl) dMo_out_20
set_option maxHeartbeats 4000000 in
set_option maxRecDepth 100000 in
theorem k_Mo_stream (l : Launch) (G : gG) (oy : Nat) (r : Nat → Nat) (th : Int32) (fi se : Int64) (d : Int32) (sh sl : Int64) (az : Int32) (oh ol w0 w1 w2 : Int64) (f g m0 : Nat → Nat) (c1 p1 : Int32) (i1 kh kl h2 l2 : Int64) : Cq l G yMo_stream cMo_stream 13 none { frames := 3, cells := 0, slots := 0, locals := 81 } [.ref oy, .int c1, .int p1, .long i1, .long kh, .long kl, .long h2, .long l2] [moC oy r th fi se d sh sl az oh ol w0 w1 w2, aI G (r 0) 256 ckS, aI G (r 2) 176 (bN f), aI G (r 3) 16 (bN g), aI G (r 4) 16 (bN m0)] (S := (Nat → Nat) × (Nat → Nat) × (Nat → Nat)) (fun _ => True) (fun u => none) (fun u => [moC oy r th ((cE kh kl (lN 65536 * c1.toInt64 + p1.toInt64) i1).1) ((cE kh kl (lN 65536 * c1.toInt64 + p1.toInt64) i1).2) d sh sl az (h2 ^^^ (cE kh kl (lN 65536 * c1.toInt64 + p1.toInt64) i1).1) (l2 ^^^ (cE kh kl (lN 65536 * c1.toInt64 + p1.toInt64) i1).2) w0 w1 w2, aI G (r 0) 256 ckS, aI G (r 2) 176 (bN u.1), aI G (r 3) 16 (bN u.2.1), aI G (r 4) 16 (bN u.2.2)]) := by
  refine Cq.of (by decide) (Nat.le_of_ble_eq_true rfl) ?_
  intro p e s m args below meth c A ls hx hb hr hml hts hown hlk hA hP hD hG hS hl
  have hl : lv_has ls 13 [(0, .ref oy), (1, .int c1), (2, .int p1), (3, .long i1), (5, .long kh), (7, .long kl), (9, .long h2), (11, .long l2)] := hl
  refine lv_aload_n hx hb dMo_stream_0 rfl (lv_at hl 0 rfl) ?_
  refine lv_lload hx hb dMo_stream_1 (lv_at hl 4 rfl) ?_
  refine lv_lload hx hb dMo_stream_3 (lv_at hl 5 rfl) ?_
  refine lv_ldc2 (v := lN 65536) hx hb hown (hts _ kkMo_193) dMo_stream_5 ?_
  refine lv_iload_n hx hb dMo_stream_8 rfl (lv_at hl 1 rfl) ?_
  refine lv_i2l (v := c1.toInt64) hx hb dMo_stream_9 rfl ?_
  refine lv_lmul hx hb dMo_stream_10 ?_
  refine lv_iload_n hx hb dMo_stream_11 rfl (lv_at hl 2 rfl) ?_
  refine lv_i2l (v := p1.toInt64) hx hb dMo_stream_12 rfl ?_
  refine lv_ladd hx hb dMo_stream_13 ?_
  refine lv_lload_n hx hb dMo_stream_14 rfl (lv_at hl 3 rfl) ?_
  refine clMo_120 (As := [.long kh, .long kl, .long (((lN 65536) * c1.toInt64) + p1.toInt64), .long i1]) (rest := []) hx hb hml hown hts (k_Mo_enc l G oy r th fi se d sh sl az oh ol w0 w1 w2 f g m0 kh kl (((lN 65536) * c1.toInt64) + p1.toInt64) i1) hG hA hP hD hS 0 rfl [0, 1, 2, 3, 4] rfl rfl (fun _ => rfl) rfl hl.1 rfl (Nat.le_of_ble_eq_true rfl) ⟨by decide, by decide⟩ ⟨by decide, by decide⟩ dMo_stream_15 (fun u9 H locs _ hP hD hS => ?_)
  have hP : va_P G.1 vwCl [moC oy r th ((cE kh kl (((lN 65536) * c1.toInt64) + p1.toInt64) i1).1) ((cE kh kl (((lN 65536) * c1.toInt64) + p1.toInt64) i1).2) d sh sl az oh ol w0 w1 w2, aI G (r 0) 256 ckS, aI G (r 2) 176 (bN u9.1), aI G (r 3) 16 (bN u9.2.1), aI G (r 4) 16 (bN u9.2.2)] H := hP
  have hD : va_D A [moC oy r th ((cE kh kl (((lN 65536) * c1.toInt64) + p1.toInt64) i1).1) ((cE kh kl (((lN 65536) * c1.toInt64) + p1.toInt64) i1).2) d sh sl az oh ol w0 w1 w2, aI G (r 0) 256 ckS, aI G (r 2) 176 (bN u9.1), aI G (r 3) 16 (bN u9.2.1), aI G (r 4) 16 (bN u9.2.2)] := hD
  refine W.cs (cells' := 0) (slots' := 0) rfl rfl ?_
  refine W.eq (g2 := F0 m 18 ls []) rfl ?_
  refine lv_aload_n hx hb dMo_stream_18 rfl (lv_at hl 0 rfl) ?_
  refine lv_aload_n hx hb dMo_stream_19 rfl (lv_at hl 0 rfl) ?_
  refine gfMo_82 hx hb hts hown hG hP 0 rfl rfl dMo_stream_20 ?_
  refine lv_lload hx hb dMo_stream_23 (lv_at hl 6 rfl) ?_
  refine lv_lxor hx hb dMo_stream_25 ?_
  refine ck_rl (y := h2 ^^^ (cE kh kl (lN 65536 * c1.toInt64 + p1.toInt64) i1).1) (Int64.xor_comm _ _) ?_
  refine pfMo_195 hx hb hts hown hG hP hD hS 0 rfl rfl rfl (Nat.le_of_ble_eq_true rfl) dMo_stream_26 (fun H locs hP hD hS => ?_)
  have hP : va_P G.1 vwCl [moC oy r th ((cE kh kl (((lN 65536) * c1.toInt64) + p1.toInt64) i1).1) ((cE kh kl (((lN 65536) * c1.toInt64) + p1.toInt64) i1).2) d sh sl az (h2 ^^^ (cE kh kl (lN 65536 * c1.toInt64 + p1.toInt64) i1).1) ol w0 w1 w2, aI G (r 0) 256 ckS, aI G (r 2) 176 (bN u9.1), aI G (r 3) 16 (bN u9.2.1), aI G (r 4) 16 (bN u9.2.2)] H := hP
  have hD : va_D A [moC oy r th ((cE kh kl (((lN 65536) * c1.toInt64) + p1.toInt64) i1).1) ((cE kh kl (((lN 65536) * c1.toInt64) + p1.toInt64) i1).2) d sh sl az (h2 ^^^ (cE kh kl (lN 65536 * c1.toInt64 + p1.toInt64) i1).1) ol w0 w1 w2, aI G (r 0) 256 ckS, aI G (r 2) 176 (bN u9.1), aI G (r 3) 16 (bN u9.2.1), aI G (r 4) 16 (bN u9.2.2)] := hD
  refine lv_aload_n hx hb dMo_stream_29 rfl (lv_at hl 0 rfl) ?_
  refine lv_aload_n hx hb dMo_stream_30 rfl (lv_at hl 0 rfl) ?_
  refine gfMo_86 hx hb hts hown hG hP 0 rfl rfl dMo_stream_31 ?_
  refine lv_lload hx hb dMo_stream_34 (lv_at hl 7 rfl) ?_
  refine lv_lxor hx hb dMo_stream_36 ?_
  refine ck_rl (y := l2 ^^^ (cE kh kl (lN 65536 * c1.toInt64 + p1.toInt64) i1).2) (Int64.xor_comm _ _) ?_
  refine pfMo_198 hx hb hts hown hG hP hD hS 0 rfl rfl rfl (Nat.le_of_ble_eq_true rfl) dMo_stream_37 (fun H locs hP hD hS => ?_)
  have hP : va_P G.1 vwCl [moC oy r th ((cE kh kl (((lN 65536) * c1.toInt64) + p1.toInt64) i1).1) ((cE kh kl (((lN 65536) * c1.toInt64) + p1.toInt64) i1).2) d sh sl az (h2 ^^^ (cE kh kl (lN 65536 * c1.toInt64 + p1.toInt64) i1).1) (l2 ^^^ (cE kh kl (lN 65536 * c1.toInt64 + p1.toInt64) i1).2) w0 w1 w2, aI G (r 0) 256 ckS, aI G (r 2) 176 (bN u9.1), aI G (r 3) 16 (bN u9.2.1), aI G (r 4) 16 (bN u9.2.2)] H := hP
  have hD : va_D A [moC oy r th ((cE kh kl (((lN 65536) * c1.toInt64) + p1.toInt64) i1).1) ((cE kh kl (((lN 65536) * c1.toInt64) + p1.toInt64) i1).2) d sh sl az (h2 ^^^ (cE kh kl (lN 65536 * c1.toInt64 + p1.toInt64) i1).1) (l2 ^^^ (cE kh kl (lN 65536 * c1.toInt64 + p1.toInt64) i1).2) w0 w1 w2, aI G (r 0) 256 ckS, aI G (r 2) 176 (bN u9.1), aI G (r 3) 16 (bN u9.2.1), aI G (r 4) 16 (bN u9.2.2)] := hD
  exact cq_vret (u9.1, u9.2.1, u9.2.2) (trivial) hx hb hr hlk hP hS rfl (rfl) dMo_stream_40
set_option maxHeartbeats 4000000 in
set_option maxRecDepth 100000 in
theorem k_Mo_seal_e1 (l : Launch) (G : gG) (oy : Nat) (r : Nat → Nat) (th : Int32) (fi se : Int64) (d : Int32) (sh sl : Int64) (az : Int32) (oh ol w0 w1 w2 : Int64) (c1 : Int32) (hc : jIn 4 c1 = false) (i1 h2 l2 : Int64) : Ck l G yMo_seal cMo_seal 8 none { frames := 4, cells := 0, slots := 0, locals := 113 } [.ref oy, .int c1, .long i1, .long h2, .long l2] [moC oy r th fi se d sh sl az oh ol w0 w1 w2] (none) [moC oy r (nI 1) fi se d sh sl az oh ol w0 w1 w2] := by
  refine Cq.of (by decide) (Nat.le_of_ble_eq_true rfl) ?_
  intro p e s m args below meth c A ls hx hb hr hml hts hown hlk hA hP hD hG hS hl
  have hl : lv_has ls 8 [(0, .ref oy), (1, .int c1), (2, .long i1), (4, .long h2), (6, .long l2)] := hl
  refine lv_aload_n hx hb dMo_seal_0 rfl (lv_at hl 0 rfl) ?_
  refine lv_iload_n hx hb dMo_seal_1 rfl (lv_at hl 1 rfl) ?_
  refine clMo_162 (As := [.int c1]) (rest := [.ref oy]) hx hb hml hown hts (k_Mo_isChannel l G c1) hG hA hP hD hS [] rfl rfl (fun _ => rfl) rfl hl.1 rfl (Nat.le_of_ble_eq_true rfl) ⟨by decide, by decide⟩ ⟨by decide, by decide⟩ dMo_seal_2 (fun _ H locs _ hP hD hS => ?_)
  have hP : va_P G.1 vwCl [moC oy r th fi se d sh sl az oh ol w0 w1 w2] H := hP
  have hD : va_D A [moC oy r th fi se d sh sl az oh ol w0 w1 w2] := hD
  refine W.cs (cells' := 0) (slots' := 0) rfl rfl ?_
  refine W.eq (g2 := F0 m 5 ls [.int (jB (jIn 4 c1)), .ref oy]) rfl ?_
  refine lv_if_ne (tgt := 12) hx hb dMo_seal_5 rfl (fun h => absurd (by rw [hc]; rfl) h) (fun _ => ?_)
  refine lv_iconst (v := nI 1) hx hb dMo_seal_8 (by decide) ?_
  refine lv_goto (tgt := 26) hx hb dMo_seal_9 rfl ?_
  refine pfMo_74 hx hb hts hown hG hP hD hS 0 rfl rfl rfl (Nat.le_of_ble_eq_true rfl) dMo_seal_26 (fun H locs hP hD hS => ?_)
  have hP : va_P G.1 vwCl [moC oy r (nI 1) fi se d sh sl az oh ol w0 w1 w2] H := hP
  have hD : va_D A [moC oy r (nI 1) fi se d sh sl az oh ol w0 w1 w2] := hD
  refine lv_aload_n hx hb dMo_seal_29 rfl (lv_at hl 0 rfl) ?_
  refine gfMo_74 hx hb hts hown hG hP 0 rfl rfl dMo_seal_30 ?_
  refine lv_if_ne (tgt := 64) hx hb dMo_seal_33 rfl (fun _ => ?_) (fun h => absurd h (by decide))
  exact cq_vret () (trivial) hx hb hr hlk hP hS rfl (rfl) dMo_seal_64
set_option maxHeartbeats 4000000 in
set_option maxRecDepth 100000 in
theorem k_Mo_seal_e2 (l : Launch) (G : gG) (oy : Nat) (r : Nat → Nat) (th : Int32) (fi se : Int64) (d : Int32) (sh sl : Int64) (az : Int32) (oh ol w0 w1 w2 : Int64) (c4 : Nat) (hc : c4 < 4) (per : Nat → Int32) (hq : per c4 = nI 0) (i1 h2 l2 : Int64) : Ck l G yMo_seal cMo_seal 8 none { frames := 4, cells := 0, slots := 0, locals := 113 } [.ref oy, .int (nI c4), .long i1, .long h2, .long l2] [moC oy r th fi se d sh sl az oh ol w0 w1 w2, aI G (r 7) 4 per] (none) [moC oy r (nI 2) fi se d sh sl az oh ol w0 w1 w2, aI G (r 7) 4 per] := by
  refine Cq.of (by decide) (Nat.le_of_ble_eq_true rfl) ?_
  intro p e s m args below meth c A ls hx hb hr hml hts hown hlk hA hP hD hG hS hl
  have hci := jIn_nI (show 4 < 2 ^ 31 by decide) hc
  have hl : lv_has ls 8 [(0, .ref oy), (1, .int (nI c4)), (2, .long i1), (4, .long h2), (6, .long l2)] := hl
  refine lv_aload_n hx hb dMo_seal_0 rfl (lv_at hl 0 rfl) ?_
  refine lv_iload_n hx hb dMo_seal_1 rfl (lv_at hl 1 rfl) ?_
  refine clMo_162 (As := [.int (nI c4)]) (rest := [.ref oy]) hx hb hml hown hts (k_Mo_isChannel l G (nI c4)) hG hA hP hD hS [] rfl rfl (fun _ => rfl) rfl hl.1 rfl (Nat.le_of_ble_eq_true rfl) ⟨by decide, by decide⟩ ⟨by decide, by decide⟩ dMo_seal_2 (fun _ H locs _ hP hD hS => ?_)
  have hP : va_P G.1 vwCl [moC oy r th fi se d sh sl az oh ol w0 w1 w2, aI G (r 7) 4 per] H := hP
  have hD : va_D A [moC oy r th fi se d sh sl az oh ol w0 w1 w2, aI G (r 7) 4 per] := hD
  refine W.cs (cells' := 0) (slots' := 0) rfl rfl ?_
  refine W.eq (g2 := F0 m 5 ls [.int (jB (jIn 4 (nI c4))), .ref oy]) rfl ?_
  refine lv_if_ne (tgt := 12) hx hb dMo_seal_5 rfl (fun _ => ?_) (fun h => absurd h (by rw [hci]; decide))
  refine lv_aload_n hx hb dMo_seal_12 rfl (lv_at hl 0 rfl) ?_
  refine gfMo_32 hx hb hts hown hG hP 0 rfl rfl dMo_seal_13 ?_
  refine lv_iload_n hx hb dMo_seal_16 rfl (lv_at hl 1 rfl) ?_
  refine ck_iald hx hb hG hP 1 rfl (by decide) c4 (rfl) (hc) dMo_seal_17 ?_
  refine lv_if_ne (tgt := 25) hx hb dMo_seal_18 rfl (fun h => absurd (hq) h) (fun _ => ?_)
  refine lv_iconst (v := nI 2) hx hb dMo_seal_21 (by decide) ?_
  refine lv_goto (tgt := 26) hx hb dMo_seal_22 rfl ?_
  refine pfMo_74 hx hb hts hown hG hP hD hS 0 rfl rfl rfl (Nat.le_of_ble_eq_true rfl) dMo_seal_26 (fun H locs hP hD hS => ?_)
  have hP : va_P G.1 vwCl [moC oy r (nI 2) fi se d sh sl az oh ol w0 w1 w2, aI G (r 7) 4 per] H := hP
  have hD : va_D A [moC oy r (nI 2) fi se d sh sl az oh ol w0 w1 w2, aI G (r 7) 4 per] := hD
  refine lv_aload_n hx hb dMo_seal_29 rfl (lv_at hl 0 rfl) ?_
  refine gfMo_74 hx hb hts hown hG hP 0 rfl rfl dMo_seal_30 ?_
  refine lv_if_ne (tgt := 64) hx hb dMo_seal_33 rfl (fun _ => ?_) (fun h => absurd h (by decide))
  exact cq_vret () (trivial) hx hb hr hlk hP hS rfl (rfl) dMo_seal_64
set_option maxHeartbeats 4000000 in
set_option maxRecDepth 100000 in
theorem k_Mo_seal (l : Launch) (G : gG) (oy : Nat) (r : Nat → Nat) (th : Int32) (fi se : Int64) (d : Int32) (sh sl : Int64) (az : Int32) (oh ol w0 w1 w2 : Int64) (c4 : Nat) (hc : c4 < 4) (f g m0 : Nat → Nat) (per : Nat → Int32) (ph pl : Nat → Int64) (hq : ¬ per c4 = nI 0) (i1 h2 l2 : Int64) : Cq l G yMo_seal cMo_seal 8 none { frames := 4, cells := 0, slots := 0, locals := 113 } [.ref oy, .int (nI c4), .long i1, .long h2, .long l2] [moC oy r th fi se d sh sl az oh ol w0 w1 w2, aI G (r 0) 256 ckS, aI G (r 2) 176 (bN f), aI G (r 3) 16 (bN g), aI G (r 4) 16 (bN m0), aI G (r 7) 4 per, aJ G (r 8) 4 ph, aJ G (r 9) 4 pl] (S := (Nat → Nat) × (Nat → Nat) × (Nat → Nat)) (fun _ => True) (fun u => none) (fun u => [moC oy r (nI 0) ((cE (ph c4) (pl c4) (lN 65536 * (nI c4).toInt64 + (per c4).toInt64) i1).1) ((cE (ph c4) (pl c4) (lN 65536 * (nI c4).toInt64 + (per c4).toInt64) i1).2) d sh sl az (h2 ^^^ (cE (ph c4) (pl c4) (lN 65536 * (nI c4).toInt64 + (per c4).toInt64) i1).1) (l2 ^^^ (cE (ph c4) (pl c4) (lN 65536 * (nI c4).toInt64 + (per c4).toInt64) i1).2) w0 w1 w2, aI G (r 0) 256 ckS, aI G (r 2) 176 (bN u.1), aI G (r 3) 16 (bN u.2.1), aI G (r 4) 16 (bN u.2.2), aI G (r 7) 4 per, aJ G (r 8) 4 ph, aJ G (r 9) 4 pl]) := by
  refine Cq.of (by decide) (Nat.le_of_ble_eq_true rfl) ?_
  intro p e s m args below meth c A ls hx hb hr hml hts hown hlk hA hP hD hG hS hl
  have hci := jIn_nI (show 4 < 2 ^ 31 by decide) hc
  have hl : lv_has ls 8 [(0, .ref oy), (1, .int (nI c4)), (2, .long i1), (4, .long h2), (6, .long l2)] := hl
  refine lv_aload_n hx hb dMo_seal_0 rfl (lv_at hl 0 rfl) ?_
  refine lv_iload_n hx hb dMo_seal_1 rfl (lv_at hl 1 rfl) ?_
  refine clMo_162 (As := [.int (nI c4)]) (rest := [.ref oy]) hx hb hml hown hts (k_Mo_isChannel l G (nI c4)) hG hA hP hD hS [] rfl rfl (fun _ => rfl) rfl hl.1 rfl (Nat.le_of_ble_eq_true rfl) ⟨by decide, by decide⟩ ⟨by decide, by decide⟩ dMo_seal_2 (fun _ H locs _ hP hD hS => ?_)
  have hP : va_P G.1 vwCl [moC oy r th fi se d sh sl az oh ol w0 w1 w2, aI G (r 0) 256 ckS, aI G (r 2) 176 (bN f), aI G (r 3) 16 (bN g), aI G (r 4) 16 (bN m0), aI G (r 7) 4 per, aJ G (r 8) 4 ph, aJ G (r 9) 4 pl] H := hP
  have hD : va_D A [moC oy r th fi se d sh sl az oh ol w0 w1 w2, aI G (r 0) 256 ckS, aI G (r 2) 176 (bN f), aI G (r 3) 16 (bN g), aI G (r 4) 16 (bN m0), aI G (r 7) 4 per, aJ G (r 8) 4 ph, aJ G (r 9) 4 pl] := hD
  refine W.cs (cells' := 0) (slots' := 0) rfl rfl ?_
  refine W.eq (g2 := F0 m 5 ls [.int (jB (jIn 4 (nI c4))), .ref oy]) rfl ?_
  refine lv_if_ne (tgt := 12) hx hb dMo_seal_5 rfl (fun _ => ?_) (fun h => absurd h (by rw [hci]; decide))
  refine lv_aload_n hx hb dMo_seal_12 rfl (lv_at hl 0 rfl) ?_
  refine gfMo_32 hx hb hts hown hG hP 0 rfl rfl dMo_seal_13 ?_
  refine lv_iload_n hx hb dMo_seal_16 rfl (lv_at hl 1 rfl) ?_
  refine ck_iald hx hb hG hP 5 rfl (by decide) c4 (rfl) (hc) dMo_seal_17 ?_
  refine lv_if_ne (tgt := 25) hx hb dMo_seal_18 rfl (fun _ => ?_) (fun h => absurd h (hq))
  refine lv_iconst (v := nI 0) hx hb dMo_seal_25 (by decide) ?_
  refine pfMo_74 hx hb hts hown hG hP hD hS 0 rfl rfl rfl (Nat.le_of_ble_eq_true rfl) dMo_seal_26 (fun H locs hP hD hS => ?_)
  have hP : va_P G.1 vwCl [moC oy r (nI 0) fi se d sh sl az oh ol w0 w1 w2, aI G (r 0) 256 ckS, aI G (r 2) 176 (bN f), aI G (r 3) 16 (bN g), aI G (r 4) 16 (bN m0), aI G (r 7) 4 per, aJ G (r 8) 4 ph, aJ G (r 9) 4 pl] H := hP
  have hD : va_D A [moC oy r (nI 0) fi se d sh sl az oh ol w0 w1 w2, aI G (r 0) 256 ckS, aI G (r 2) 176 (bN f), aI G (r 3) 16 (bN g), aI G (r 4) 16 (bN m0), aI G (r 7) 4 per, aJ G (r 8) 4 ph, aJ G (r 9) 4 pl] := hD
  refine lv_aload_n hx hb dMo_seal_29 rfl (lv_at hl 0 rfl) ?_
  refine gfMo_74 hx hb hts hown hG hP 0 rfl rfl dMo_seal_30 ?_
  refine lv_if_ne (tgt := 64) hx hb dMo_seal_33 rfl (fun h => absurd (rfl) h) (fun _ => ?_)
  refine lv_aload_n hx hb dMo_seal_36 rfl (lv_at hl 0 rfl) ?_
  refine lv_iload_n hx hb dMo_seal_37 rfl (lv_at hl 1 rfl) ?_
  refine lv_aload_n hx hb dMo_seal_38 rfl (lv_at hl 0 rfl) ?_
  refine gfMo_32 hx hb hts hown hG hP 0 rfl rfl dMo_seal_39 ?_
  refine lv_iload_n hx hb dMo_seal_42 rfl (lv_at hl 1 rfl) ?_
  refine ck_iald hx hb hG hP 5 rfl (by decide) c4 (rfl) (hc) dMo_seal_43 ?_
  refine lv_lload_n hx hb dMo_seal_44 rfl (lv_at hl 2 rfl) ?_
  refine lv_aload_n hx hb dMo_seal_45 rfl (lv_at hl 0 rfl) ?_
  refine gfMo_35 hx hb hts hown hG hP 0 rfl rfl dMo_seal_46 ?_
  refine lv_iload_n hx hb dMo_seal_49 rfl (lv_at hl 1 rfl) ?_
  refine ck_lald hx hb hG hP 6 rfl (by decide) c4 (rfl) (hc) dMo_seal_50 ?_
  refine lv_aload_n hx hb dMo_seal_51 rfl (lv_at hl 0 rfl) ?_
  refine gfMo_39 hx hb hts hown hG hP 0 rfl rfl dMo_seal_52 ?_
  refine lv_iload_n hx hb dMo_seal_55 rfl (lv_at hl 1 rfl) ?_
  refine ck_lald hx hb hG hP 7 rfl (by decide) c4 (rfl) (hc) dMo_seal_56 ?_
  refine lv_lload hx hb dMo_seal_57 (lv_at hl 3 rfl) ?_
  refine lv_lload hx hb dMo_seal_59 (lv_at hl 4 rfl) ?_
  refine clMo_201 (As := [.int (nI c4), .int (per c4), .long i1, .long (ph c4), .long (pl c4), .long h2, .long l2]) (rest := []) hx hb hml hown hts (k_Mo_stream l G oy r (nI 0) fi se d sh sl az oh ol w0 w1 w2 f g m0 (nI c4) (per c4) i1 (ph c4) (pl c4) h2 l2) hG hA hP hD hS 0 rfl [0, 1, 2, 3, 4] rfl rfl (fun _ => rfl) rfl hl.1 rfl (Nat.le_of_ble_eq_true rfl) ⟨by decide, by decide⟩ ⟨by decide, by decide⟩ dMo_seal_61 (fun u9 H locs _ hP hD hS => ?_)
  have hP : va_P G.1 vwCl [moC oy r (nI 0) ((cE (ph c4) (pl c4) (lN 65536 * (nI c4).toInt64 + (per c4).toInt64) i1).1) ((cE (ph c4) (pl c4) (lN 65536 * (nI c4).toInt64 + (per c4).toInt64) i1).2) d sh sl az (h2 ^^^ (cE (ph c4) (pl c4) (lN 65536 * (nI c4).toInt64 + (per c4).toInt64) i1).1) (l2 ^^^ (cE (ph c4) (pl c4) (lN 65536 * (nI c4).toInt64 + (per c4).toInt64) i1).2) w0 w1 w2, aI G (r 0) 256 ckS, aI G (r 2) 176 (bN u9.1), aI G (r 3) 16 (bN u9.2.1), aI G (r 4) 16 (bN u9.2.2), aI G (r 7) 4 per, aJ G (r 8) 4 ph, aJ G (r 9) 4 pl] H := hP
  have hD : va_D A [moC oy r (nI 0) ((cE (ph c4) (pl c4) (lN 65536 * (nI c4).toInt64 + (per c4).toInt64) i1).1) ((cE (ph c4) (pl c4) (lN 65536 * (nI c4).toInt64 + (per c4).toInt64) i1).2) d sh sl az (h2 ^^^ (cE (ph c4) (pl c4) (lN 65536 * (nI c4).toInt64 + (per c4).toInt64) i1).1) (l2 ^^^ (cE (ph c4) (pl c4) (lN 65536 * (nI c4).toInt64 + (per c4).toInt64) i1).2) w0 w1 w2, aI G (r 0) 256 ckS, aI G (r 2) 176 (bN u9.1), aI G (r 3) 16 (bN u9.2.1), aI G (r 4) 16 (bN u9.2.2), aI G (r 7) 4 per, aJ G (r 8) 4 ph, aJ G (r 9) 4 pl] := hD
  refine W.cs (cells' := 0) (slots' := 0) rfl rfl ?_
  refine W.eq (g2 := F0 m 64 ls []) rfl ?_
  exact cq_vret (u9.1, u9.2.1, u9.2.2) (trivial) hx hb hr hlk hP hS rfl (rfl) dMo_seal_64
set_option maxHeartbeats 4000000 in
set_option maxRecDepth 100000 in
theorem k_Mo_open_e1 (l : Launch) (G : gG) (oy : Nat) (r : Nat → Nat) (th : Int32) (fi se : Int64) (dp : Nat) (hdp : dp ≤ 8) (sh sl : Int64) (az : Int32) (oh ol w0 w1 w2 : Int64) (d1 c1 : Int32) (hd : (jIn (2 ^ dp) d1 && jIn 4 c1) = false) (i1 h2 l2 : Int64) : Ck l G yMo_open cMo_open 10 none { frames := 4, cells := 0, slots := 0, locals := 113 } [.ref oy, .int d1, .int c1, .long i1, .long h2, .long l2] [moC oy r th fi se (nI dp) sh sl az oh ol w0 w1 w2] (none) [moC oy r (nI 1) fi se (nI dp) sh sl az oh ol w0 w1 w2] := by
  refine Cq.of (by decide) (Nat.le_of_ble_eq_true rfl) ?_
  intro p e s m args below meth c A ls hx hb hr hml hts hown hlk hA hP hD hG hS hl
  have hl : lv_has ls 10 [(0, .ref oy), (1, .int d1), (2, .int c1), (3, .long i1), (5, .long h2), (7, .long l2)] := hl
  refine lv_aload_n hx hb dMo_open_0 rfl (lv_at hl 0 rfl) ?_
  refine lv_aload_n hx hb dMo_open_1 rfl (lv_at hl 0 rfl) ?_
  refine lv_iload_n hx hb dMo_open_2 rfl (lv_at hl 1 rfl) ?_
  refine clMo_158 (As := [.int d1]) (rest := [.ref oy]) hx hb hml hown hts (k_Mo_isDecoder l G oy r th fi se dp hdp sh sl az oh ol w0 w1 w2 d1) hG hA hP hD hS 0 rfl [0] rfl rfl (fun _ => rfl) rfl hl.1 rfl (Nat.le_of_ble_eq_true rfl) ⟨by decide, by decide⟩ ⟨by decide, by decide⟩ dMo_open_3 (fun _ H locs _ hP hD hS => ?_)
  have hP : va_P G.1 vwCl [moC oy r th fi se (nI dp) sh sl az oh ol w0 w1 w2] H := hP
  have hD : va_D A [moC oy r th fi se (nI dp) sh sl az oh ol w0 w1 w2] := hD
  refine W.cs (cells' := 0) (slots' := 0) rfl rfl ?_
  refine W.eq (g2 := F0 m 6 ls [.int (jB (jIn (2 ^ dp) d1)), .ref oy]) rfl ?_
  refine lv_if_eq (tgt := 16) hx hb dMo_open_6 rfl (fun hx1 => ?_) (fun hx1 => ?_)
  · have hx2 := (jB_0 _).mp hx1
    refine lv_iconst (v := nI 1) hx hb dMo_open_16 (by decide) ?_
    refine lv_goto (tgt := 40) hx hb dMo_open_17 rfl ?_
    refine pfMo_74 hx hb hts hown hG hP hD hS 0 rfl rfl rfl (Nat.le_of_ble_eq_true rfl) dMo_open_40 (fun H locs hP hD hS => ?_)
    have hP : va_P G.1 vwCl [moC oy r (nI 1) fi se (nI dp) sh sl az oh ol w0 w1 w2] H := hP
    have hD : va_D A [moC oy r (nI 1) fi se (nI dp) sh sl az oh ol w0 w1 w2] := hD
    refine lv_aload_n hx hb dMo_open_43 rfl (lv_at hl 0 rfl) ?_
    refine gfMo_74 hx hb hts hown hG hP 0 rfl rfl dMo_open_44 ?_
    refine lv_if_ne (tgt := 90) hx hb dMo_open_47 rfl (fun _ => ?_) (fun h => absurd h (by decide))
    exact cq_vret () (trivial) hx hb hr hlk hP hS rfl (rfl) dMo_open_90
  · have hx2 := (jB_n0 _).mp hx1
    refine lv_iload_n hx hb dMo_open_9 rfl (lv_at hl 2 rfl) ?_
    refine clMo_162 (As := [.int c1]) (rest := [.ref oy]) hx hb hml hown hts (k_Mo_isChannel l G c1) hG hA hP hD hS [] rfl rfl (fun _ => rfl) rfl hl.1 rfl (Nat.le_of_ble_eq_true rfl) ⟨by decide, by decide⟩ ⟨by decide, by decide⟩ dMo_open_10 (fun _ H locs _ hP hD hS => ?_)
    have hP : va_P G.1 vwCl [moC oy r th fi se (nI dp) sh sl az oh ol w0 w1 w2] H := hP
    have hD : va_D A [moC oy r th fi se (nI dp) sh sl az oh ol w0 w1 w2] := hD
    refine W.cs (cells' := 0) (slots' := 0) rfl rfl ?_
    refine W.eq (g2 := F0 m 13 ls [.int (jB (jIn 4 c1)), .ref oy]) rfl ?_
    refine lv_if_ne (tgt := 20) hx hb dMo_open_13 rfl (fun h => absurd (by rw [hx2, Bool.true_and] at hd; rw [hd]; rfl) h) (fun _ => ?_)
    refine lv_iconst (v := nI 1) hx hb dMo_open_16 (by decide) ?_
    refine lv_goto (tgt := 40) hx hb dMo_open_17 rfl ?_
    refine pfMo_74 hx hb hts hown hG hP hD hS 0 rfl rfl rfl (Nat.le_of_ble_eq_true rfl) dMo_open_40 (fun H locs hP hD hS => ?_)
    have hP : va_P G.1 vwCl [moC oy r (nI 1) fi se (nI dp) sh sl az oh ol w0 w1 w2] H := hP
    have hD : va_D A [moC oy r (nI 1) fi se (nI dp) sh sl az oh ol w0 w1 w2] := hD
    refine lv_aload_n hx hb dMo_open_43 rfl (lv_at hl 0 rfl) ?_
    refine gfMo_74 hx hb hts hown hG hP 0 rfl rfl dMo_open_44 ?_
    refine lv_if_ne (tgt := 90) hx hb dMo_open_47 rfl (fun _ => ?_) (fun h => absurd h (by decide))
    exact cq_vret () (trivial) hx hb hr hlk hP hS rfl (rfl) dMo_open_90
set_option maxHeartbeats 4000000 in
set_option maxRecDepth 100000 in
theorem k_Mo_open_e2 (l : Launch) (G : gG) (oy : Nat) (r : Nat → Nat) (th : Int32) (fi se : Int64) (dp : Nat) (hdp : dp ≤ 8) (sh sl : Int64) (az : Int32) (oh ol w0 w1 w2 : Int64) (dd : Nat) (hd : dd < 2 ^ dp) (c4 : Nat) (hc : c4 < 4) (hp : Nat → Int32) (hq : hp (256 * c4 + dd) < 0) (i1 h2 l2 : Int64) : Ck l G yMo_open cMo_open 10 none { frames := 4, cells := 0, slots := 0, locals := 113 } [.ref oy, .int (nI dd), .int (nI c4), .long i1, .long h2, .long l2] [moC oy r th fi se (nI dp) sh sl az oh ol w0 w1 w2, aI G (r 15) 1024 hp] (none) [moC oy r (nI 2) fi se (nI dp) sh sl az oh ol w0 w1 w2, aI G (r 15) 1024 hp] := by
  refine Cq.of (by decide) (Nat.le_of_ble_eq_true rfl) ?_
  intro p e s m args below meth c A ls hx hb hr hml hts hown hlk hA hP hD hG hS hl
  have hp2 := p2_le hdp
  have hp1 := Nat.two_pow_pos dp
  have hdi := jIn_nI (show 2 ^ dp < 2 ^ 31 by omega) hd
  have hci := jIn_nI (show 4 < 2 ^ 31 by decide) hc
  have hl : lv_has ls 10 [(0, .ref oy), (1, .int (nI dd)), (2, .int (nI c4)), (3, .long i1), (5, .long h2), (7, .long l2)] := hl
  refine lv_aload_n hx hb dMo_open_0 rfl (lv_at hl 0 rfl) ?_
  refine lv_aload_n hx hb dMo_open_1 rfl (lv_at hl 0 rfl) ?_
  refine lv_iload_n hx hb dMo_open_2 rfl (lv_at hl 1 rfl) ?_
  refine clMo_158 (As := [.int (nI dd)]) (rest := [.ref oy]) hx hb hml hown hts (k_Mo_isDecoder l G oy r th fi se dp hdp sh sl az oh ol w0 w1 w2 (nI dd)) hG hA hP hD hS 0 rfl [0] rfl rfl (fun _ => rfl) rfl hl.1 rfl (Nat.le_of_ble_eq_true rfl) ⟨by decide, by decide⟩ ⟨by decide, by decide⟩ dMo_open_3 (fun _ H locs _ hP hD hS => ?_)
  have hP : va_P G.1 vwCl [moC oy r th fi se (nI dp) sh sl az oh ol w0 w1 w2, aI G (r 15) 1024 hp] H := hP
  have hD : va_D A [moC oy r th fi se (nI dp) sh sl az oh ol w0 w1 w2, aI G (r 15) 1024 hp] := hD
  refine W.cs (cells' := 0) (slots' := 0) rfl rfl ?_
  refine W.eq (g2 := F0 m 6 ls [.int (jB (jIn (2 ^ dp) (nI dd))), .ref oy]) rfl ?_
  refine lv_if_eq (tgt := 16) hx hb dMo_open_6 rfl (fun h => absurd h (by rw [hdi]; decide)) (fun _ => ?_)
  refine lv_iload_n hx hb dMo_open_9 rfl (lv_at hl 2 rfl) ?_
  refine clMo_162 (As := [.int (nI c4)]) (rest := [.ref oy]) hx hb hml hown hts (k_Mo_isChannel l G (nI c4)) hG hA hP hD hS [] rfl rfl (fun _ => rfl) rfl hl.1 rfl (Nat.le_of_ble_eq_true rfl) ⟨by decide, by decide⟩ ⟨by decide, by decide⟩ dMo_open_10 (fun _ H locs _ hP hD hS => ?_)
  have hP : va_P G.1 vwCl [moC oy r th fi se (nI dp) sh sl az oh ol w0 w1 w2, aI G (r 15) 1024 hp] H := hP
  have hD : va_D A [moC oy r th fi se (nI dp) sh sl az oh ol w0 w1 w2, aI G (r 15) 1024 hp] := hD
  refine W.cs (cells' := 0) (slots' := 0) rfl rfl ?_
  refine W.eq (g2 := F0 m 13 ls [.int (jB (jIn 4 (nI c4))), .ref oy]) rfl ?_
  refine lv_if_ne (tgt := 20) hx hb dMo_open_13 rfl (fun _ => ?_) (fun h => absurd h (by rw [hci]; decide))
  refine lv_aload_n hx hb dMo_open_20 rfl (lv_at hl 0 rfl) ?_
  refine gfMo_57 hx hb hts hown hG hP 0 rfl rfl dMo_open_21 ?_
  refine lv_sipush (v := nI 256) hx hb dMo_open_24 (by decide) ?_
  refine lv_iload_n hx hb dMo_open_27 rfl (lv_at hl 2 rfl) ?_
  refine lv_imul hx hb dMo_open_28 ?_
  refine ck_ri (y := nI (256 * c4)) (pk_mul 256 _) ?_
  refine lv_iload_n hx hb dMo_open_29 rfl (lv_at hl 1 rfl) ?_
  refine lv_iadd hx hb dMo_open_30 ?_
  refine ck_ri (y := nI (256 * c4 + dd)) (nI_add _ _) ?_
  refine ck_iald hx hb hG hP 1 rfl (by decide) (256 * c4 + dd) (rfl) (by omega) dMo_open_31 ?_
  refine lv_if_ge (tgt := 39) hx hb dMo_open_32 rfl (fun h => absurd h (Int32.not_le.mpr hq)) (fun _ => ?_)
  refine lv_iconst (v := nI 2) hx hb dMo_open_35 (by decide) ?_
  refine lv_goto (tgt := 40) hx hb dMo_open_36 rfl ?_
  refine pfMo_74 hx hb hts hown hG hP hD hS 0 rfl rfl rfl (Nat.le_of_ble_eq_true rfl) dMo_open_40 (fun H locs hP hD hS => ?_)
  have hP : va_P G.1 vwCl [moC oy r (nI 2) fi se (nI dp) sh sl az oh ol w0 w1 w2, aI G (r 15) 1024 hp] H := hP
  have hD : va_D A [moC oy r (nI 2) fi se (nI dp) sh sl az oh ol w0 w1 w2, aI G (r 15) 1024 hp] := hD
  refine lv_aload_n hx hb dMo_open_43 rfl (lv_at hl 0 rfl) ?_
  refine gfMo_74 hx hb hts hown hG hP 0 rfl rfl dMo_open_44 ?_
  refine lv_if_ne (tgt := 90) hx hb dMo_open_47 rfl (fun _ => ?_) (fun h => absurd h (by decide))
  exact cq_vret () (trivial) hx hb hr hlk hP hS rfl (rfl) dMo_open_90
set_option maxHeartbeats 4000000 in
set_option maxRecDepth 100000 in
theorem k_Mo_open (l : Launch) (G : gG) (oy : Nat) (r : Nat → Nat) (th : Int32) (fi se : Int64) (dp : Nat) (hdp : dp ≤ 8) (sh sl : Int64) (az : Int32) (oh ol w0 w1 w2 : Int64) (dd : Nat) (hd : dd < 2 ^ dp) (c4 : Nat) (hc : c4 < 4) (f g m0 : Nat → Nat) (hp : Nat → Int32) (hh hl9 : Nat → Int64) (hq : ¬ hp (256 * c4 + dd) < 0) (i1 h2 l2 : Int64) : Cq l G yMo_open cMo_open 10 none { frames := 4, cells := 0, slots := 0, locals := 113 } [.ref oy, .int (nI dd), .int (nI c4), .long i1, .long h2, .long l2] [moC oy r th fi se (nI dp) sh sl az oh ol w0 w1 w2, aI G (r 0) 256 ckS, aI G (r 2) 176 (bN f), aI G (r 3) 16 (bN g), aI G (r 4) 16 (bN m0), aI G (r 15) 1024 hp, aJ G (r 16) 1024 hh, aJ G (r 17) 1024 hl9] (S := (Nat → Nat) × (Nat → Nat) × (Nat → Nat)) (fun _ => True) (fun u => none) (fun u => [moC oy r (nI 0) ((cE (hh (256 * c4 + dd)) (hl9 (256 * c4 + dd)) (lN 65536 * (nI c4).toInt64 + (hp (256 * c4 + dd)).toInt64) i1).1) ((cE (hh (256 * c4 + dd)) (hl9 (256 * c4 + dd)) (lN 65536 * (nI c4).toInt64 + (hp (256 * c4 + dd)).toInt64) i1).2) (nI dp) sh sl az (h2 ^^^ (cE (hh (256 * c4 + dd)) (hl9 (256 * c4 + dd)) (lN 65536 * (nI c4).toInt64 + (hp (256 * c4 + dd)).toInt64) i1).1) (l2 ^^^ (cE (hh (256 * c4 + dd)) (hl9 (256 * c4 + dd)) (lN 65536 * (nI c4).toInt64 + (hp (256 * c4 + dd)).toInt64) i1).2) w0 w1 w2, aI G (r 0) 256 ckS, aI G (r 2) 176 (bN u.1), aI G (r 3) 16 (bN u.2.1), aI G (r 4) 16 (bN u.2.2), aI G (r 15) 1024 hp, aJ G (r 16) 1024 hh, aJ G (r 17) 1024 hl9]) := by
  refine Cq.of (by decide) (Nat.le_of_ble_eq_true rfl) ?_
  intro p e s m args below meth c A ls hx hb hr hml hts hown hlk hA hP hD hG hS hl
  have hp2 := p2_le hdp
  have hp1 := Nat.two_pow_pos dp
  have hdi := jIn_nI (show 2 ^ dp < 2 ^ 31 by omega) hd
  have hci := jIn_nI (show 4 < 2 ^ 31 by decide) hc
  have hl : lv_has ls 10 [(0, .ref oy), (1, .int (nI dd)), (2, .int (nI c4)), (3, .long i1), (5, .long h2), (7, .long l2)] := hl
  refine lv_aload_n hx hb dMo_open_0 rfl (lv_at hl 0 rfl) ?_
  refine lv_aload_n hx hb dMo_open_1 rfl (lv_at hl 0 rfl) ?_
  refine lv_iload_n hx hb dMo_open_2 rfl (lv_at hl 1 rfl) ?_
  refine clMo_158 (As := [.int (nI dd)]) (rest := [.ref oy]) hx hb hml hown hts (k_Mo_isDecoder l G oy r th fi se dp hdp sh sl az oh ol w0 w1 w2 (nI dd)) hG hA hP hD hS 0 rfl [0] rfl rfl (fun _ => rfl) rfl hl.1 rfl (Nat.le_of_ble_eq_true rfl) ⟨by decide, by decide⟩ ⟨by decide, by decide⟩ dMo_open_3 (fun _ H locs _ hP hD hS => ?_)
  have hP : va_P G.1 vwCl [moC oy r th fi se (nI dp) sh sl az oh ol w0 w1 w2, aI G (r 0) 256 ckS, aI G (r 2) 176 (bN f), aI G (r 3) 16 (bN g), aI G (r 4) 16 (bN m0), aI G (r 15) 1024 hp, aJ G (r 16) 1024 hh, aJ G (r 17) 1024 hl9] H := hP
  have hD : va_D A [moC oy r th fi se (nI dp) sh sl az oh ol w0 w1 w2, aI G (r 0) 256 ckS, aI G (r 2) 176 (bN f), aI G (r 3) 16 (bN g), aI G (r 4) 16 (bN m0), aI G (r 15) 1024 hp, aJ G (r 16) 1024 hh, aJ G (r 17) 1024 hl9] := hD
  refine W.cs (cells' := 0) (slots' := 0) rfl rfl ?_
  refine W.eq (g2 := F0 m 6 ls [.int (jB (jIn (2 ^ dp) (nI dd))), .ref oy]) rfl ?_
  refine lv_if_eq (tgt := 16) hx hb dMo_open_6 rfl (fun h => absurd h (by rw [hdi]; decide)) (fun _ => ?_)
  refine lv_iload_n hx hb dMo_open_9 rfl (lv_at hl 2 rfl) ?_
  refine clMo_162 (As := [.int (nI c4)]) (rest := [.ref oy]) hx hb hml hown hts (k_Mo_isChannel l G (nI c4)) hG hA hP hD hS [] rfl rfl (fun _ => rfl) rfl hl.1 rfl (Nat.le_of_ble_eq_true rfl) ⟨by decide, by decide⟩ ⟨by decide, by decide⟩ dMo_open_10 (fun _ H locs _ hP hD hS => ?_)
  have hP : va_P G.1 vwCl [moC oy r th fi se (nI dp) sh sl az oh ol w0 w1 w2, aI G (r 0) 256 ckS, aI G (r 2) 176 (bN f), aI G (r 3) 16 (bN g), aI G (r 4) 16 (bN m0), aI G (r 15) 1024 hp, aJ G (r 16) 1024 hh, aJ G (r 17) 1024 hl9] H := hP
  have hD : va_D A [moC oy r th fi se (nI dp) sh sl az oh ol w0 w1 w2, aI G (r 0) 256 ckS, aI G (r 2) 176 (bN f), aI G (r 3) 16 (bN g), aI G (r 4) 16 (bN m0), aI G (r 15) 1024 hp, aJ G (r 16) 1024 hh, aJ G (r 17) 1024 hl9] := hD
  refine W.cs (cells' := 0) (slots' := 0) rfl rfl ?_
  refine W.eq (g2 := F0 m 13 ls [.int (jB (jIn 4 (nI c4))), .ref oy]) rfl ?_
  refine lv_if_ne (tgt := 20) hx hb dMo_open_13 rfl (fun _ => ?_) (fun h => absurd h (by rw [hci]; decide))
  refine lv_aload_n hx hb dMo_open_20 rfl (lv_at hl 0 rfl) ?_
  refine gfMo_57 hx hb hts hown hG hP 0 rfl rfl dMo_open_21 ?_
  refine lv_sipush (v := nI 256) hx hb dMo_open_24 (by decide) ?_
  refine lv_iload_n hx hb dMo_open_27 rfl (lv_at hl 2 rfl) ?_
  refine lv_imul hx hb dMo_open_28 ?_
  refine ck_ri (y := nI (256 * c4)) (pk_mul 256 _) ?_
  refine lv_iload_n hx hb dMo_open_29 rfl (lv_at hl 1 rfl) ?_
  refine lv_iadd hx hb dMo_open_30 ?_
  refine ck_ri (y := nI (256 * c4 + dd)) (nI_add _ _) ?_
  refine ck_iald hx hb hG hP 5 rfl (by decide) (256 * c4 + dd) (rfl) (by omega) dMo_open_31 ?_
  refine lv_if_ge (tgt := 39) hx hb dMo_open_32 rfl (fun _ => ?_) (fun h => absurd (Int32.not_lt.mp hq) h)
  refine lv_iconst (v := nI 0) hx hb dMo_open_39 (by decide) ?_
  refine pfMo_74 hx hb hts hown hG hP hD hS 0 rfl rfl rfl (Nat.le_of_ble_eq_true rfl) dMo_open_40 (fun H locs hP hD hS => ?_)
  have hP : va_P G.1 vwCl [moC oy r (nI 0) fi se (nI dp) sh sl az oh ol w0 w1 w2, aI G (r 0) 256 ckS, aI G (r 2) 176 (bN f), aI G (r 3) 16 (bN g), aI G (r 4) 16 (bN m0), aI G (r 15) 1024 hp, aJ G (r 16) 1024 hh, aJ G (r 17) 1024 hl9] H := hP
  have hD : va_D A [moC oy r (nI 0) fi se (nI dp) sh sl az oh ol w0 w1 w2, aI G (r 0) 256 ckS, aI G (r 2) 176 (bN f), aI G (r 3) 16 (bN g), aI G (r 4) 16 (bN m0), aI G (r 15) 1024 hp, aJ G (r 16) 1024 hh, aJ G (r 17) 1024 hl9] := hD
  refine lv_aload_n hx hb dMo_open_43 rfl (lv_at hl 0 rfl) ?_
  refine gfMo_74 hx hb hts hown hG hP 0 rfl rfl dMo_open_44 ?_
  refine lv_if_ne (tgt := 90) hx hb dMo_open_47 rfl (fun h => absurd (rfl) h) (fun _ => ?_)
  refine lv_sipush (v := nI 256) hx hb dMo_open_50 (by decide) ?_
  refine lv_iload_n hx hb dMo_open_53 rfl (lv_at hl 2 rfl) ?_
  refine lv_imul hx hb dMo_open_54 ?_
  refine ck_ri (y := nI (256 * c4)) (pk_mul 256 _) ?_
  refine lv_iload_n hx hb dMo_open_55 rfl (lv_at hl 1 rfl) ?_
  refine lv_iadd hx hb dMo_open_56 ?_
  refine ck_ri (y := nI (256 * c4 + dd)) (nI_add _ _) ?_
  refine lv_istore (lv' := [(9, .int (nI (256 * c4 + dd))), (0, .ref oy), (1, .int (nI dd)), (2, .int (nI c4)), (3, .long i1), (5, .long h2), (7, .long l2)]) hx hb dMo_open_57 hl (by decide) rfl (fun ls hl => ?_)
  refine lv_aload_n hx hb dMo_open_59 rfl (lv_at hl 1 rfl) ?_
  refine lv_iload_n hx hb dMo_open_60 rfl (lv_at hl 3 rfl) ?_
  refine lv_aload_n hx hb dMo_open_61 rfl (lv_at hl 1 rfl) ?_
  refine gfMo_57 hx hb hts hown hG hP 0 rfl rfl dMo_open_62 ?_
  refine lv_iload hx hb dMo_open_65 (lv_at hl 0 rfl) ?_
  refine ck_iald hx hb hG hP 5 rfl (by decide) (256 * c4 + dd) (rfl) (by omega) dMo_open_67 ?_
  refine lv_lload_n hx hb dMo_open_68 rfl (lv_at hl 4 rfl) ?_
  refine lv_aload_n hx hb dMo_open_69 rfl (lv_at hl 1 rfl) ?_
  refine gfMo_60 hx hb hts hown hG hP 0 rfl rfl dMo_open_70 ?_
  refine lv_iload hx hb dMo_open_73 (lv_at hl 0 rfl) ?_
  refine ck_lald hx hb hG hP 6 rfl (by decide) (256 * c4 + dd) (rfl) (by omega) dMo_open_75 ?_
  refine lv_aload_n hx hb dMo_open_76 rfl (lv_at hl 1 rfl) ?_
  refine gfMo_63 hx hb hts hown hG hP 0 rfl rfl dMo_open_77 ?_
  refine lv_iload hx hb dMo_open_80 (lv_at hl 0 rfl) ?_
  refine ck_lald hx hb hG hP 7 rfl (by decide) (256 * c4 + dd) (rfl) (by omega) dMo_open_82 ?_
  refine lv_lload hx hb dMo_open_83 (lv_at hl 5 rfl) ?_
  refine lv_lload hx hb dMo_open_85 (lv_at hl 6 rfl) ?_
  refine clMo_201 (As := [.int (nI c4), .int (hp (256 * c4 + dd)), .long i1, .long (hh (256 * c4 + dd)), .long (hl9 (256 * c4 + dd)), .long h2, .long l2]) (rest := []) hx hb hml hown hts (k_Mo_stream l G oy r (nI 0) fi se (nI dp) sh sl az oh ol w0 w1 w2 f g m0 (nI c4) (hp (256 * c4 + dd)) i1 (hh (256 * c4 + dd)) (hl9 (256 * c4 + dd)) h2 l2) hG hA hP hD hS 0 rfl [0, 1, 2, 3, 4] rfl rfl (fun _ => rfl) rfl hl.1 rfl (Nat.le_of_ble_eq_true rfl) ⟨by decide, by decide⟩ ⟨by decide, by decide⟩ dMo_open_87 (fun u9 H locs _ hP hD hS => ?_)
  have hP : va_P G.1 vwCl [moC oy r (nI 0) ((cE (hh (256 * c4 + dd)) (hl9 (256 * c4 + dd)) (lN 65536 * (nI c4).toInt64 + (hp (256 * c4 + dd)).toInt64) i1).1) ((cE (hh (256 * c4 + dd)) (hl9 (256 * c4 + dd)) (lN 65536 * (nI c4).toInt64 + (hp (256 * c4 + dd)).toInt64) i1).2) (nI dp) sh sl az (h2 ^^^ (cE (hh (256 * c4 + dd)) (hl9 (256 * c4 + dd)) (lN 65536 * (nI c4).toInt64 + (hp (256 * c4 + dd)).toInt64) i1).1) (l2 ^^^ (cE (hh (256 * c4 + dd)) (hl9 (256 * c4 + dd)) (lN 65536 * (nI c4).toInt64 + (hp (256 * c4 + dd)).toInt64) i1).2) w0 w1 w2, aI G (r 0) 256 ckS, aI G (r 2) 176 (bN u9.1), aI G (r 3) 16 (bN u9.2.1), aI G (r 4) 16 (bN u9.2.2), aI G (r 15) 1024 hp, aJ G (r 16) 1024 hh, aJ G (r 17) 1024 hl9] H := hP
  have hD : va_D A [moC oy r (nI 0) ((cE (hh (256 * c4 + dd)) (hl9 (256 * c4 + dd)) (lN 65536 * (nI c4).toInt64 + (hp (256 * c4 + dd)).toInt64) i1).1) ((cE (hh (256 * c4 + dd)) (hl9 (256 * c4 + dd)) (lN 65536 * (nI c4).toInt64 + (hp (256 * c4 + dd)).toInt64) i1).2) (nI dp) sh sl az (h2 ^^^ (cE (hh (256 * c4 + dd)) (hl9 (256 * c4 + dd)) (lN 65536 * (nI c4).toInt64 + (hp (256 * c4 + dd)).toInt64) i1).1) (l2 ^^^ (cE (hh (256 * c4 + dd)) (hl9 (256 * c4 + dd)) (lN 65536 * (nI c4).toInt64 + (hp (256 * c4 + dd)).toInt64) i1).2) w0 w1 w2, aI G (r 0) 256 ckS, aI G (r 2) 176 (bN u9.1), aI G (r 3) 16 (bN u9.2.1), aI G (r 4) 16 (bN u9.2.2), aI G (r 15) 1024 hp, aJ G (r 16) 1024 hh, aJ G (r 17) 1024 hl9] := hD
  refine W.cs (cells' := 0) (slots' := 0) rfl rfl ?_
  refine W.eq (g2 := F0 m 90 ls []) rfl ?_
  exact cq_vret (u9.1, u9.2.1, u9.2.2) (trivial) hx hb hr hlk hP hS rfl (rfl) dMo_open_90
