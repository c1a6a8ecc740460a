/-! the reference: its cipher in the class's words; its tree -/
theorem k_Mo_enc (l : Launch) (G : gG) (oy : Nat) (r : Nat → Nat) (th : Int32) (fi se : Int64) (d : Int32) (sh sl : Int64) (az : Int32) (oh ol w0 w1 w2 : Int64) (f g m0 : Nat → Nat) (kh kl h1 l1 : Int64) : Cq l G yMo_encrypt cMo_encrypt 11 none { frames := 2, cells := 0, slots := 0, locals := 51 } [.ref oy, .long kh, .long kl, .long h1, .long l1] [moC oy r th fi se d sh sl az oh ol w0 w1 w2, aI G (r 0) 256 ckS, aI G (r 2) 176 (bN f), aI G (r 3) 16 (bN g), aI G (r 4) 16 (bN m0)] (S := (Nat → Nat) × (Nat → Nat) × (Nat → Nat)) (fun _ => True) (fun u => none) (fun u => [moC oy r th ((cE kh kl h1 l1).1) ((cE kh kl h1 l1).2) d sh sl az oh ol w0 w1 w2, aI G (r 0) 256 ckS, aI G (r 2) 176 (bN u.1), aI G (r 3) 16 (bN u.2.1), aI G (r 4) 16 (bN u.2.2)]) := by
  have h := k_Mo_encrypt l G oy r th fi se d sh sl az oh ol w0 w1 w2 f g m0 kh kl h1 l1
  rw [rF_eq, rS_eq] at h
  exact h
theorem k_Mo_wrp (l : Launch) (G : gG) (oy : Nat) (r : Nat → Nat) (th : Int32) (fi se : Int64) (d : Int32) (sh sl : Int64) (az : Int32) (oh ol w0 w1 w2 : Int64) (f g m0 : Nat → Nat) (kh kl h1 l1 : Int64) : Cq l G yMo_wrap cMo_wrap 10 none { frames := 3, cells := 0, slots := 0, locals := 81 } [.ref oy, .long kh, .long kl, .long h1, .long l1] [moC oy r th fi se d sh sl az oh ol w0 w1 w2, aI G (r 0) 256 ckS, aI G (r 2) 176 (bN f), aI G (r 3) 16 (bN g), aI G (r 4) 16 (bN m0)] (S := (Nat → Nat) × (Nat → Nat) × (Nat → Nat) × Int64 × Int64) (fun _ => True) (fun u => none) (fun u => [moC oy r th u.2.2.2.1 u.2.2.2.2 d sh sl az oh ol ((jWr (jKey kh kl) (jSeal, h1, l1) 12).1) ((jWr (jKey kh kl) (jSeal, h1, l1) 12).2.1) ((jWr (jKey kh kl) (jSeal, h1, l1) 12).2.2), aI G (r 0) 256 ckS, aI G (r 2) 176 (bN u.1), aI G (r 3) 16 (bN u.2.1), aI G (r 4) 16 (bN u.2.2.1)]) := by
  have h := k_Mo_wrap l G oy r th fi se d sh sl az oh ol w0 w1 w2 f g m0 kh kl h1 l1
  rw [rWr_eq] at h
  exact h
theorem k_Mo_unw (l : Launch) (G : gG) (oy : Nat) (r : Nat → Nat) (th : Int32) (fi se : Int64) (d : Int32) (sh sl : Int64) (az : Int32) (oh ol w0 w1 w2 : Int64) (f g m0 : Nat → Nat) (kh kl : Int64) : Cq l G yMo_unwrap cMo_unwrap 6 (some .boolean) { frames := 3, cells := 0, slots := 0, locals := 81 } [.ref oy, .long kh, .long kl] [moC oy r th fi se d sh sl az oh ol w0 w1 w2, aI G (r 0) 256 ckS, aI G (r 1) 256 ckU, aI G (r 2) 176 (bN f), aI G (r 3) 16 (bN g), aI G (r 4) 16 (bN m0)] (S := (Nat → Nat) × (Nat → Nat) × (Nat → Nat) × Int64 × Int64) (fun _ => True) (fun u => some (.int (jB (decide ((jUw (jKey kh kl) (w0, w1, w2) 12).1 = jSeal))))) (fun u => [moC oy r th u.2.2.2.1 u.2.2.2.2 d sh sl az oh ol ((jUw (jKey kh kl) (w0, w1, w2) 12).1) ((jUw (jKey kh kl) (w0, w1, w2) 12).2.1) ((jUw (jKey kh kl) (w0, w1, w2) 12).2.2), aI G (r 0) 256 ckS, aI G (r 1) 256 ckU, aI G (r 2) 176 (bN u.1), aI G (r 3) 16 (bN u.2.1), aI G (r 4) 16 (bN u.2.2.1)]) := by
  have h := k_Mo_unwrap l G oy r th fi se d sh sl az oh ol w0 w1 w2 f g m0 kh kl
  rw [rUw_eq] at h
  exact h
def abF (a : Nat) : Nat → Nat → Bool
  | 0, n => decide (n = a)
  | k + 1, n => if a < n then abF a k (n / 2) else decide (n = a)
/-- isAbove -/
def rAb (a b : Nat) : Bool := abF a b b
def tn (x : Int32) : Nat := x.toNatClampNeg
theorem tn_lt (x : Int32) : tn x < 2 ^ 31 := Int32.toNatClampNeg_lt x
theorem nI_tn {x : Int32} (h : ¬ x < 0) : nI (tn x) = x := by
  apply Int32.toInt_inj.mp
  have h1 : (nI (tn x)).toInt = tn x := Int32.toInt_ofNat_of_lt (tn_lt x)
  rw [h1]
  have h2 : 0 ≤ x.toInt := Int32.le_iff_toInt_le.mp (Int32.not_lt.mp h)
  exact Int.toNat_of_nonneg h2
theorem tn_nI {n : Nat} (h : n < 2 ^ 31) : tn (nI n) = n := by
  have h1 : (nI n).toInt = n := Int32.toInt_ofNat_of_lt h
  show (nI n).toInt.toNat = n
  rw [h1]
  exact Int.toNat_natCast n
def rSub (dp : Nat) (v w : Int32) : Bool := (decide (v = 0) && decide (w = 0)) || (!decide (v ≤ 0) && (!decide (w ≤ v) && (!decide (nI (2 * 2 ^ dp) ≤ w) && rAb (tn v) (tn w))))
def rHl (dp a b dd : Nat) : Bool := decide (a = 0) || (rAb a (2 ^ dp + dd) && !rAb b (2 ^ dp + dd))
theorem nI_inj32 {a b : Nat} (ha : a < 4294967296) (hb : b < 4294967296) : nI a = nI b ↔ a = b := ⟨fun h => by have := congrArg un h; rw [un_nI ha, un_nI hb] at this; exact this, fun h => by rw [h]⟩
theorem p2_le {dp : Nat} (h : dp ≤ 8) : 2 ^ dp ≤ 256 := Nat.pow_le_pow_right (by decide) h
set_option maxHeartbeats 4000000 in
set_option maxRecDepth 100000 in
theorem k_Mo_thrown (l : Launch) (G : gG) (oy : Nat) (r : Nat → Nat) (th : Int32) (fi se : Int64) (d : Int32) (sh sl : Int64) (az : Int32) (oh ol w0 w1 w2 : Int64) : Ck l G yMo_thrown cMo_thrown 1 (some .int) { frames := 0, cells := 0, slots := 0, locals := 0 } [.ref oy] [moC oy r th fi se d sh sl az oh ol w0 w1 w2] (some (.int th)) [moC oy r th fi se d sh sl az oh ol w0 w1 w2] := by
  refine Cq.of (by decide) (Nat.le_of_ble_eq_true rfl) ?_
  intro p e s m args below meth c A ls hx hb hr hml hts hown hlk hA hP hD hG hS hl
  have hl : lv_has ls 1 [(0, .ref oy)] := hl
  refine lv_aload_n hx hb dMo_thrown_0 rfl (lv_at hl 0 rfl) ?_
  refine gfMo_74 hx hb hts hown hG hP 0 rfl rfl dMo_thrown_1 ?_
  exact cq_iret () (trivial) hx hb hr hlk hP hS (rfl) (rfl) dMo_thrown_4
set_option maxHeartbeats 4000000 in
set_option maxRecDepth 100000 in
theorem k_Mo_leaves (l : Launch) (G : gG) (oy : Nat) (r : Nat → Nat) (th : Int32) (fi se : Int64) (dp : Nat) (hdp : dp ≤ 8) (sh sl : Int64) (az : Int32) (oh ol w0 w1 w2 : Int64) : Ck l G yMo_leaves cMo_leaves 1 (some .int) { frames := 0, cells := 0, slots := 0, locals := 0 } [.ref oy] [moC oy r th fi se (nI dp) sh sl az oh ol w0 w1 w2] (some (.int (nI (2 ^ dp)))) [moC oy r th fi se (nI dp) sh sl az oh ol w0 w1 w2] := by
  refine Cq.of (by decide) (Nat.le_of_ble_eq_true rfl) ?_
  intro p e s m args below meth c A ls hx hb hr hml hts hown hlk hA hP hD hG hS hl
  have hl : lv_has ls 1 [(0, .ref oy)] := hl
  refine lv_iconst (v := nI 1) hx hb dMo_leaves_0 (by decide) ?_
  refine lv_aload_n hx hb dMo_leaves_1 rfl (lv_at hl 0 rfl) ?_
  refine gfMo_127 hx hb hts hown hG hP 0 rfl rfl dMo_leaves_2 ?_
  refine lv_ishl hx hb dMo_leaves_5 ?_
  refine ck_ri (y := nI (2 ^ dp)) (j2_all dp hdp) ?_
  exact cq_iret () (trivial) hx hb hr hlk hP hS (rfl) (rfl) dMo_leaves_6
set_option maxHeartbeats 4000000 in
set_option maxRecDepth 100000 in
theorem k_Mo_leafOf (l : Launch) (G : gG) (oy : Nat) (r : Nat → Nat) (th : Int32) (fi se : Int64) (dp : Nat) (hdp : dp ≤ 8) (sh sl : Int64) (az : Int32) (oh ol w0 w1 w2 : Int64) (dd : Nat) : Ck l G yMo_leafOf cMo_leafOf 2 (some .int) { frames := 1, cells := 0, slots := 0, locals := 20 } [.ref oy, .int (nI dd)] [moC oy r th fi se (nI dp) sh sl az oh ol w0 w1 w2] (some (.int (nI (2 ^ dp + dd)))) [moC oy r th fi se (nI dp) sh sl az oh ol w0 w1 w2] := by
  refine Cq.of (by decide) (Nat.le_of_ble_eq_true rfl) ?_
  intro p e s m args below meth c A ls hx hb hr hml hts hown hlk hA hP hD hG hS hl
  have hl : lv_has ls 2 [(0, .ref oy), (1, .int (nI dd))] := hl
  refine lv_aload_n hx hb dMo_leafOf_0 rfl (lv_at hl 0 rfl) ?_
  refine clMo_139 (As := []) (rest := []) hx hb hml hown hts (k_Mo_leaves l G oy r th fi se dp hdp sh sl az oh ol w0 w1 w2) hG hA hP hD hS 0 rfl [0] rfl rfl (fun _ => rfl) rfl hl.1 rfl (Nat.le_of_ble_eq_true rfl) ⟨by decide, by decide⟩ ⟨by decide, by decide⟩ dMo_leafOf_1 (fun _ H locs _ hP hD hS => ?_)
  have hP : va_P G.1 vwCl [moC oy r th fi se (nI dp) sh sl az oh ol w0 w1 w2] H := hP
  have hD : va_D A [moC oy r th fi se (nI dp) sh sl az oh ol w0 w1 w2] := hD
  refine W.cs (cells' := 0) (slots' := 0) rfl rfl ?_
  refine W.eq (g2 := F0 m 4 ls [.int (nI (2 ^ dp))]) rfl ?_
  refine lv_iload_n hx hb dMo_leafOf_4 rfl (lv_at hl 1 rfl) ?_
  refine lv_iadd hx hb dMo_leafOf_5 ?_
  refine ck_ri (y := nI (2 ^ dp + dd)) (nI_add _ _) ?_
  exact cq_iret () (trivial) hx hb hr hlk hP hS (rfl) (rfl) dMo_leafOf_6
set_option maxHeartbeats 4000000 in
set_option maxRecDepth 100000 in
theorem k_Mo_isDecoder (l : Launch) (G : gG) (oy : Nat) (r : Nat → Nat) (th : Int32) (fi se : Int64) (dp : Nat) (hdp : dp ≤ 8) (sh sl : Int64) (az : Int32) (oh ol w0 w1 w2 : Int64) (d1 : Int32) : Ck l G yMo_isDecoder cMo_isDecoder 2 (some .boolean) { frames := 1, cells := 0, slots := 0, locals := 20 } [.ref oy, .int d1] [moC oy r th fi se (nI dp) sh sl az oh ol w0 w1 w2] (some (.int (jB (jIn (2 ^ dp) d1)))) [moC oy r th fi se (nI dp) sh sl az oh ol w0 w1 w2] := by
  refine Cq.of (by decide) (Nat.le_of_ble_eq_true rfl) ?_
  intro p e s m args below meth c A ls hx hb hr hml hts hown hlk hA hP hD hG hS hl
  have hl : lv_has ls 2 [(0, .ref oy), (1, .int d1)] := hl
  refine lv_iload_n hx hb dMo_isDecoder_0 rfl (lv_at hl 1 rfl) ?_
  refine lv_if_lt (tgt := 16) hx hb dMo_isDecoder_1 rfl (fun h1 => ?_) (fun h1 => ?_)
  · have b_h1 := decide_eq_true h1
    refine lv_iconst (v := nI 0) hx hb dMo_isDecoder_16 (by decide) ?_
    exact cq_zret () (trivial) hx hb hr hlk hP hS (rfl) (by rw [show jIn (2 ^ dp) d1 = false by simp only [jIn, b_h1, Bool.and_true, Bool.and_false, Bool.true_and, Bool.false_and, Bool.or_true, Bool.or_false, Bool.true_or, Bool.false_or, Bool.not_true, Bool.not_false]]; rfl) (rfl) dMo_isDecoder_17
  · have b_h1 := decide_eq_false h1
    refine lv_iload_n hx hb dMo_isDecoder_4 rfl (lv_at hl 1 rfl) ?_
    refine lv_aload_n hx hb dMo_isDecoder_5 rfl (lv_at hl 0 rfl) ?_
    refine clMo_139 (As := []) (rest := [.int d1]) hx hb hml hown hts (k_Mo_leaves l G oy r th fi se dp hdp sh sl az oh ol w0 w1 w2) hG hA hP hD hS 0 rfl [0] rfl rfl (fun _ => rfl) rfl hl.1 rfl (Nat.le_of_ble_eq_true rfl) ⟨by decide, by decide⟩ ⟨by decide, by decide⟩ dMo_isDecoder_6 (fun _ H locs _ hP hD hS => ?_)
    have hP : va_P G.1 vwCl [moC oy r th fi se (nI dp) sh sl az oh ol w0 w1 w2] H := hP
    have hD : va_D A [moC oy r th fi se (nI dp) sh sl az oh ol w0 w1 w2] := hD
    refine W.cs (cells' := 0) (slots' := 0) rfl rfl ?_
    refine W.eq (g2 := F0 m 9 ls [.int (nI (2 ^ dp)), .int d1]) rfl ?_
    refine lv_icmp_ge (tgt := 16) hx hb dMo_isDecoder_9 rfl (fun h2 => ?_) (fun h2 => ?_)
    · have b_2 : decide (d1 < nI (2 ^ dp)) = false := decide_eq_false (Int32.not_lt.mpr h2)
      refine lv_iconst (v := nI 0) hx hb dMo_isDecoder_16 (by decide) ?_
      exact cq_zret () (trivial) hx hb hr hlk hP hS (rfl) (by rw [show jIn (2 ^ dp) d1 = false by simp only [jIn, b_h1, b_2, Bool.and_true, Bool.and_false, Bool.true_and, Bool.false_and, Bool.or_true, Bool.or_false, Bool.true_or, Bool.false_or, Bool.not_true, Bool.not_false]]; rfl) (rfl) dMo_isDecoder_17
    · have b_2 : decide (d1 < nI (2 ^ dp)) = true := decide_eq_true (Int32.not_le.mp h2)
      refine lv_iconst (v := nI 1) hx hb dMo_isDecoder_12 (by decide) ?_
      refine lv_goto (tgt := 17) hx hb dMo_isDecoder_13 rfl ?_
      exact cq_zret () (trivial) hx hb hr hlk hP hS (rfl) (by rw [show jIn (2 ^ dp) d1 = true by simp only [jIn, b_h1, b_2, Bool.and_true, Bool.and_false, Bool.true_and, Bool.false_and, Bool.or_true, Bool.or_false, Bool.true_or, Bool.false_or, Bool.not_true, Bool.not_false]]; rfl) (rfl) dMo_isDecoder_17
set_option maxHeartbeats 4000000 in
set_option maxRecDepth 100000 in
theorem k_Mo_isChannel (l : Launch) (G : gG) (c1 : Int32) : Ck l G yMo_isChannel cMo_isChannel 1 (some .boolean) { frames := 0, cells := 0, slots := 0, locals := 0 } [.int c1] [] (some (.int (jB (jIn 4 c1)))) [] := by
  refine Cq.of (by decide) (Nat.le_of_ble_eq_true rfl) ?_
  intro p e s m args below meth c A ls hx hb hr hml hts hown hlk hA hP hD hG hS hl
  have hl : lv_has ls 1 [(0, .int c1)] := hl
  refine lv_iload_n hx hb dMo_isChannel_0 rfl (lv_at hl 0 rfl) ?_
  refine lv_if_lt (tgt := 13) hx hb dMo_isChannel_1 rfl (fun h1 => ?_) (fun h1 => ?_)
  · have b_h1 := decide_eq_true h1
    refine lv_iconst (v := nI 0) hx hb dMo_isChannel_13 (by decide) ?_
    exact cq_zret () (trivial) hx hb hr hlk hP hS (rfl) (by rw [show jIn 4 c1 = false by simp only [jIn, b_h1, Bool.and_true, Bool.and_false, Bool.true_and, Bool.false_and, Bool.or_true, Bool.or_false, Bool.true_or, Bool.false_or, Bool.not_true, Bool.not_false]]; rfl) (rfl) dMo_isChannel_14
  · have b_h1 := decide_eq_false h1
    refine lv_iload_n hx hb dMo_isChannel_4 rfl (lv_at hl 0 rfl) ?_
    refine lv_iconst (v := nI 4) hx hb dMo_isChannel_5 (by decide) ?_
    refine lv_icmp_ge (tgt := 13) hx hb dMo_isChannel_6 rfl (fun h2 => ?_) (fun h2 => ?_)
    · have b_2 : decide (c1 < nI 4) = false := decide_eq_false (Int32.not_lt.mpr h2)
      refine lv_iconst (v := nI 0) hx hb dMo_isChannel_13 (by decide) ?_
      exact cq_zret () (trivial) hx hb hr hlk hP hS (rfl) (by rw [show jIn 4 c1 = false by simp only [jIn, b_h1, b_2, Bool.and_true, Bool.and_false, Bool.true_and, Bool.false_and, Bool.or_true, Bool.or_false, Bool.true_or, Bool.false_or, Bool.not_true, Bool.not_false]]; rfl) (rfl) dMo_isChannel_14
    · have b_2 : decide (c1 < nI 4) = true := decide_eq_true (Int32.not_le.mp h2)
      refine lv_iconst (v := nI 1) hx hb dMo_isChannel_9 (by decide) ?_
      refine lv_goto (tgt := 14) hx hb dMo_isChannel_10 rfl ?_
      exact cq_zret () (trivial) hx hb hr hlk hP hS (rfl) (by rw [show jIn 4 c1 = true by simp only [jIn, b_h1, b_2, Bool.and_true, Bool.and_false, Bool.true_and, Bool.false_and, Bool.or_true, Bool.or_false, Bool.true_or, Bool.false_or, Bool.not_true, Bool.not_false]]; rfl) (rfl) dMo_isChannel_14
set_option maxHeartbeats 4000000 in
set_option maxRecDepth 100000 in
theorem k_Mo_isAbove (l : Launch) (G : gG) (a b : Nat) (ha : 1 ≤ a) (ha2 : a < 2 ^ 31) (hbb : b < 2 ^ 31) : Ck l G yMo_isAbove cMo_isAbove 3 (some .boolean) { frames := 0, cells := 0, slots := 0, locals := 0 } [.int (nI a), .int (nI b)] [] (some (.int (jB (rAb a b)))) [] := by
  refine Cq.of (by decide) (Nat.le_of_ble_eq_true rfl) ?_
  intro p e s m args below meth c A ls hx hb hr hml hts hown hlk hA hP hD hG hS hl
  have hl : lv_has ls 3 [(0, .int (nI a)), (1, .int (nI b))] := hl
  refine lv_iload_n hx hb dMo_isAbove_0 rfl (lv_at hl 1 rfl) ?_
  refine lv_istore_n (lv' := [(2, .int (nI b)), (0, .int (nI a)), (1, .int (nI b))]) hx hb dMo_isAbove_1 rfl hl (by decide) rfl (fun ls hl => ?_)
  have loop : ∀ (k : Nat) (n : Nat) (H : Heap) (locs : List Loc) (ls : Array Slot), n ≤ k → n < 2 ^ 31 → rAb a b = abF a k n → va_P G.1 vwCl [] H → va_D A [] → va_S A s.heap H locs → lv_has ls 3 [(0, .int (nI a)), (2, .int (nI n))] → W p l e { frames := 0, cells := 0, slots := 0, locals := 0 } s m args below meth c H locs 0 0 (MQ below (cq_out G (S := Unit) (fun _ => True) (fun _ => (some (.int (jB (rAb a b))))) (fun _ => []) A) args s 0 0 A) (F0 m 2 ls []) := by
    intro k
    induction k with
    | zero =>
      intro n H locs ls hk hn hq hP hD hS hl
      refine lv_iload_n hx hb dMo_isAbove_2 rfl (lv_at hl 1 rfl) ?_
      refine lv_iload_n hx hb dMo_isAbove_3 rfl (lv_at hl 0 rfl) ?_
      refine lv_icmp_le (tgt := 14) hx hb dMo_isAbove_4 rfl (fun _ => ?_) (fun h => absurd (nI_le (by omega) (by omega)) h)
      refine lv_iload_n hx hb dMo_isAbove_14 rfl (lv_at hl 1 rfl) ?_
      refine lv_iload_n hx hb dMo_isAbove_15 rfl (lv_at hl 0 rfl) ?_
      refine lv_icmp_ne (tgt := 23) hx hb dMo_isAbove_16 rfl (fun h8 => ?_) (fun h8 => ?_)
      · have h7 : ¬ n = a := fun z => h8 (by rw [z])
        refine lv_iconst (v := nI 0) hx hb dMo_isAbove_23 (by decide) ?_
        exact cq_zret () (trivial) hx hb hr hlk hP hS (rfl) (by rw [hq, abF, decide_eq_false h7]; rfl) (rfl) dMo_isAbove_24
      · have h7 : n = a := (nI_eq (by omega) (by omega)).mp h8
        refine lv_iconst (v := nI 1) hx hb dMo_isAbove_19 (by decide) ?_
        refine lv_goto (tgt := 24) hx hb dMo_isAbove_20 rfl ?_
        exact cq_zret () (trivial) hx hb hr hlk hP hS (rfl) (by rw [hq, abF, decide_eq_true h7]; rfl) (rfl) dMo_isAbove_24
    | succ k ih =>
      intro n H locs ls hk hn hq hP hD hS hl
      refine lv_iload_n hx hb dMo_isAbove_2 rfl (lv_at hl 1 rfl) ?_
      refine lv_iload_n hx hb dMo_isAbove_3 rfl (lv_at hl 0 rfl) ?_
      refine lv_icmp_le (tgt := 14) hx hb dMo_isAbove_4 rfl (fun h9 => ?_) (fun h9 => ?_)
      · have h6 : ¬ a < n := by have := (nI_leI (by omega) (by omega)).mp h9; omega
        refine lv_iload_n hx hb dMo_isAbove_14 rfl (lv_at hl 1 rfl) ?_
        refine lv_iload_n hx hb dMo_isAbove_15 rfl (lv_at hl 0 rfl) ?_
        refine lv_icmp_ne (tgt := 23) hx hb dMo_isAbove_16 rfl (fun h8 => ?_) (fun h8 => ?_)
        · have h7 : ¬ n = a := fun z => h8 (by rw [z])
          refine lv_iconst (v := nI 0) hx hb dMo_isAbove_23 (by decide) ?_
          exact cq_zret () (trivial) hx hb hr hlk hP hS (rfl) (by rw [hq, abF, if_neg h6, decide_eq_false h7]; rfl) (rfl) dMo_isAbove_24
        · have h7 : n = a := (nI_eq (by omega) (by omega)).mp h8
          refine lv_iconst (v := nI 1) hx hb dMo_isAbove_19 (by decide) ?_
          refine lv_goto (tgt := 24) hx hb dMo_isAbove_20 rfl ?_
          exact cq_zret () (trivial) hx hb hr hlk hP hS (rfl) (by rw [hq, abF, if_neg h6, decide_eq_true h7]; rfl) (rfl) dMo_isAbove_24
      · have h6 : a < n := Nat.not_le.mp (fun z => h9 ((nI_leI (by omega) (by omega)).mpr z))
        refine lv_iload_n hx hb dMo_isAbove_7 rfl (lv_at hl 1 rfl) ?_
        refine lv_iconst (v := nI 2) hx hb dMo_isAbove_8 (by decide) ?_
        refine lv_idiv hx hb dMo_isAbove_9 (by decide) ?_
        refine ck_ri (y := nI (n / 2)) (pk_div (by omega) (by omega) (by omega)) ?_
        refine lv_istore_n (lv' := [(2, .int (nI (n / 2))), (0, .int (nI a))]) hx hb dMo_isAbove_10 rfl hl (by decide) rfl (fun ls hl => ?_)
        refine lv_goto (tgt := 2) hx hb dMo_isAbove_11 rfl ?_
        exact ih (n / 2) _ _ _ (by omega) (by omega) (by rw [hq, abF, if_pos h6]) hP hD hS (lv_sub hl [1, 0] rfl)
  exact loop b b _ _ _ (Nat.le_refl _) hbb rfl hP hD hS (lv_sub hl [1, 0] rfl)
theorem k_Mo_isAbv (l : Launch) (G : gG) (v1 w1 : Int32) (hv : ¬ v1 ≤ 0) (hw : ¬ w1 ≤ v1) : Ck l G yMo_isAbove cMo_isAbove 3 (some .boolean) { frames := 0, cells := 0, slots := 0, locals := 0 } [.int v1, .int w1] [] (some (.int (jB (rAb (tn v1) (tn w1))))) [] := by
  have p1 : (0 : Int32) < v1 := Int32.not_le.mp hv
  have p2 : v1 < w1 := Int32.not_le.mp hw
  have e1 := nI_tn (x := v1) (Int32.not_lt.mpr (Int32.le_of_lt p1))
  have e2 := nI_tn (x := w1) (Int32.not_lt.mpr (Int32.le_of_lt (Int32.lt_trans p1 p2)))
  have h := k_Mo_isAbove l G (tn v1) (tn w1) (Nat.pos_of_ne_zero (fun z => by rw [z] at e1; rw [← e1] at hv; exact hv (by decide))) (tn_lt _) (tn_lt _)
  rw [e1, e2] at h
  exact h
set_option maxHeartbeats 4000000 in
set_option maxRecDepth 100000 in
theorem k_Mo_isSubset (l : Launch) (G : gG) (oy : Nat) (r : Nat → Nat) (th : Int32) (fi se : Int64) (dp : Nat) (hdp : dp ≤ 8) (sh sl : Int64) (az : Int32) (oh ol w0 w1 w2 : Int64) (v1 y1 : Int32) : Ck l G yMo_isSubset cMo_isSubset 3 (some .boolean) { frames := 1, cells := 0, slots := 0, locals := 22 } [.ref oy, .int v1, .int y1] [moC oy r th fi se (nI dp) sh sl az oh ol w0 w1 w2] (some (.int (jB (rSub dp v1 y1)))) [moC oy r th fi se (nI dp) sh sl az oh ol w0 w1 w2] := by
  refine Cq.of (by decide) (Nat.le_of_ble_eq_true rfl) ?_
  intro p e s m args below meth c A ls hx hb hr hml hts hown hlk hA hP hD hG hS hl
  have hl : lv_has ls 3 [(0, .ref oy), (1, .int v1), (2, .int y1)] := hl
  refine lv_iload_n hx hb dMo_isSubset_0 rfl (lv_at hl 1 rfl) ?_
  refine lv_if_ne (tgt := 8) hx hb dMo_isSubset_1 rfl (fun h1 => ?_) (fun h1 => ?_)
  · have b_h1 := decide_eq_false h1
    refine lv_iload_n hx hb dMo_isSubset_8 rfl (lv_at hl 1 rfl) ?_
    refine lv_if_le (tgt := 39) hx hb dMo_isSubset_9 rfl (fun h3 => ?_) (fun h3 => ?_)
    · have b_h3 := decide_eq_true h3
      refine lv_iconst (v := nI 0) hx hb dMo_isSubset_39 (by decide) ?_
      exact cq_zret () (trivial) hx hb hr hlk hP hS (rfl) (by rw [show rSub dp v1 y1 = false by simp only [rSub, b_h1, b_h3, Bool.and_true, Bool.and_false, Bool.true_and, Bool.false_and, Bool.or_true, Bool.or_false, Bool.true_or, Bool.false_or, Bool.not_true, Bool.not_false]]; rfl) (rfl) dMo_isSubset_40
    · have b_h3 := decide_eq_false h3
      refine lv_iload_n hx hb dMo_isSubset_12 rfl (lv_at hl 1 rfl) ?_
      refine lv_iload_n hx hb dMo_isSubset_13 rfl (lv_at hl 2 rfl) ?_
      refine lv_icmp_ge (tgt := 39) hx hb dMo_isSubset_14 rfl (fun h4 => ?_) (fun h4 => ?_)
      · have b_h4 := decide_eq_true h4
        refine lv_iconst (v := nI 0) hx hb dMo_isSubset_39 (by decide) ?_
        exact cq_zret () (trivial) hx hb hr hlk hP hS (rfl) (by rw [show rSub dp v1 y1 = false by simp only [rSub, b_h1, b_h3, b_h4, Bool.and_true, Bool.and_false, Bool.true_and, Bool.false_and, Bool.or_true, Bool.or_false, Bool.true_or, Bool.false_or, Bool.not_true, Bool.not_false]]; rfl) (rfl) dMo_isSubset_40
      · have b_h4 := decide_eq_false h4
        refine lv_iload_n hx hb dMo_isSubset_17 rfl (lv_at hl 2 rfl) ?_
        refine lv_iconst (v := nI 2) hx hb dMo_isSubset_18 (by decide) ?_
        refine lv_aload_n hx hb dMo_isSubset_19 rfl (lv_at hl 0 rfl) ?_
        refine clMo_139 (As := []) (rest := [.int (nI 2), .int y1]) hx hb hml hown hts (k_Mo_leaves l G oy r th fi se dp hdp sh sl az oh ol w0 w1 w2) hG hA hP hD hS 0 rfl [0] rfl rfl (fun _ => rfl) rfl hl.1 rfl (Nat.le_of_ble_eq_true rfl) ⟨by decide, by decide⟩ ⟨by decide, by decide⟩ dMo_isSubset_20 (fun _ H locs _ hP hD hS => ?_)
        have hP : va_P G.1 vwCl [moC oy r th fi se (nI dp) sh sl az oh ol w0 w1 w2] H := hP
        have hD : va_D A [moC oy r th fi se (nI dp) sh sl az oh ol w0 w1 w2] := hD
        refine W.cs (cells' := 0) (slots' := 0) rfl rfl ?_
        refine W.eq (g2 := F0 m 23 ls [.int (nI (2 ^ dp)), .int (nI 2), .int y1]) rfl ?_
        refine lv_imul hx hb dMo_isSubset_23 ?_
        refine ck_ri (y := nI (2 * 2 ^ dp)) (pk_mul 2 _) ?_
        refine lv_icmp_ge (tgt := 39) hx hb dMo_isSubset_24 rfl (fun h5 => ?_) (fun h5 => ?_)
        · have b_h5 := decide_eq_true h5
          refine lv_iconst (v := nI 0) hx hb dMo_isSubset_39 (by decide) ?_
          exact cq_zret () (trivial) hx hb hr hlk hP hS (rfl) (by rw [show rSub dp v1 y1 = false by simp only [rSub, b_h1, b_h3, b_h4, b_h5, Bool.and_true, Bool.and_false, Bool.true_and, Bool.false_and, Bool.or_true, Bool.or_false, Bool.true_or, Bool.false_or, Bool.not_true, Bool.not_false]]; rfl) (rfl) dMo_isSubset_40
        · have b_h5 := decide_eq_false h5
          refine lv_iload_n hx hb dMo_isSubset_27 rfl (lv_at hl 1 rfl) ?_
          refine lv_iload_n hx hb dMo_isSubset_28 rfl (lv_at hl 2 rfl) ?_
          refine clMo_143 (As := [.int v1, .int y1]) (rest := []) hx hb hml hown hts (k_Mo_isAbv l G v1 y1 h3 h4) hG hA hP hD hS [] rfl rfl (fun _ => rfl) rfl hl.1 rfl (Nat.le_of_ble_eq_true rfl) ⟨by decide, by decide⟩ ⟨by decide, by decide⟩ dMo_isSubset_29 (fun _ H locs _ hP hD hS => ?_)
          have hP : va_P G.1 vwCl [moC oy r th fi se (nI dp) sh sl az oh ol w0 w1 w2] H := hP
          have hD : va_D A [moC oy r th fi se (nI dp) sh sl az oh ol w0 w1 w2] := hD
          refine W.cs (cells' := 0) (slots' := 0) rfl rfl ?_
          refine W.eq (g2 := F0 m 32 ls [.int (jB (rAb (tn v1) (tn y1)))]) rfl ?_
          refine lv_if_eq (tgt := 39) hx hb dMo_isSubset_32 rfl (fun h6 => ?_) (fun h6 => ?_)
          · have b_6 := (jB_0 _).mp h6
            refine lv_iconst (v := nI 0) hx hb dMo_isSubset_39 (by decide) ?_
            exact cq_zret () (trivial) hx hb hr hlk hP hS (rfl) (by rw [show rSub dp v1 y1 = false by simp only [rSub, b_h1, b_h3, b_h4, b_h5, b_6, Bool.and_true, Bool.and_false, Bool.true_and, Bool.false_and, Bool.or_true, Bool.or_false, Bool.true_or, Bool.false_or, Bool.not_true, Bool.not_false]]; rfl) (rfl) dMo_isSubset_40
          · have b_6 := (jB_n0 _).mp h6
            refine lv_iconst (v := nI 1) hx hb dMo_isSubset_35 (by decide) ?_
            refine lv_goto (tgt := 40) hx hb dMo_isSubset_36 rfl ?_
            exact cq_zret () (trivial) hx hb hr hlk hP hS (rfl) (by rw [show rSub dp v1 y1 = true by simp only [rSub, b_h1, b_h3, b_h4, b_h5, b_6, Bool.and_true, Bool.and_false, Bool.true_and, Bool.false_and, Bool.or_true, Bool.or_false, Bool.true_or, Bool.false_or, Bool.not_true, Bool.not_false]]; rfl) (rfl) dMo_isSubset_40
  · have b_h1 := decide_eq_true h1
    refine lv_iload_n hx hb dMo_isSubset_4 rfl (lv_at hl 2 rfl) ?_
    refine lv_if_eq (tgt := 35) hx hb dMo_isSubset_5 rfl (fun h2 => ?_) (fun h2 => ?_)
    · have b_h2 := decide_eq_true h2
      refine lv_iconst (v := nI 1) hx hb dMo_isSubset_35 (by decide) ?_
      refine lv_goto (tgt := 40) hx hb dMo_isSubset_36 rfl ?_
      exact cq_zret () (trivial) hx hb hr hlk hP hS (rfl) (by rw [show rSub dp v1 y1 = true by simp only [rSub, b_h1, b_h2, Bool.and_true, Bool.and_false, Bool.true_and, Bool.false_and, Bool.or_true, Bool.or_false, Bool.true_or, Bool.false_or, Bool.not_true, Bool.not_false]]; rfl) (rfl) dMo_isSubset_40
    · have b_h2 := decide_eq_false h2
      refine lv_iload_n hx hb dMo_isSubset_8 rfl (lv_at hl 1 rfl) ?_
      refine lv_if_le (tgt := 39) hx hb dMo_isSubset_9 rfl (fun h3 => ?_) (fun h3 => ?_)
      · have b_h3 := decide_eq_true h3
        refine lv_iconst (v := nI 0) hx hb dMo_isSubset_39 (by decide) ?_
        exact cq_zret () (trivial) hx hb hr hlk hP hS (rfl) (by rw [show rSub dp v1 y1 = false by simp only [rSub, b_h1, b_h2, b_h3, Bool.and_true, Bool.and_false, Bool.true_and, Bool.false_and, Bool.or_true, Bool.or_false, Bool.true_or, Bool.false_or, Bool.not_true, Bool.not_false]]; rfl) (rfl) dMo_isSubset_40
      · have b_h3 := decide_eq_false h3
        refine lv_iload_n hx hb dMo_isSubset_12 rfl (lv_at hl 1 rfl) ?_
        refine lv_iload_n hx hb dMo_isSubset_13 rfl (lv_at hl 2 rfl) ?_
        refine lv_icmp_ge (tgt := 39) hx hb dMo_isSubset_14 rfl (fun h4 => ?_) (fun h4 => ?_)
        · have b_h4 := decide_eq_true h4
          refine lv_iconst (v := nI 0) hx hb dMo_isSubset_39 (by decide) ?_
          exact cq_zret () (trivial) hx hb hr hlk hP hS (rfl) (by rw [show rSub dp v1 y1 = false by simp only [rSub, b_h1, b_h2, b_h3, b_h4, Bool.and_true, Bool.and_false, Bool.true_and, Bool.false_and, Bool.or_true, Bool.or_false, Bool.true_or, Bool.false_or, Bool.not_true, Bool.not_false]]; rfl) (rfl) dMo_isSubset_40
        · have b_h4 := decide_eq_false h4
          refine lv_iload_n hx hb dMo_isSubset_17 rfl (lv_at hl 2 rfl) ?_
          refine lv_iconst (v := nI 2) hx hb dMo_isSubset_18 (by decide) ?_
          refine lv_aload_n hx hb dMo_isSubset_19 rfl (lv_at hl 0 rfl) ?_
          refine clMo_139 (As := []) (rest := [.int (nI 2), .int y1]) hx hb hml hown hts (k_Mo_leaves l G oy r th fi se dp hdp sh sl az oh ol w0 w1 w2) hG hA hP hD hS 0 rfl [0] rfl rfl (fun _ => rfl) rfl hl.1 rfl (Nat.le_of_ble_eq_true rfl) ⟨by decide, by decide⟩ ⟨by decide, by decide⟩ dMo_isSubset_20 (fun _ H locs _ hP hD hS => ?_)
          have hP : va_P G.1 vwCl [moC oy r th fi se (nI dp) sh sl az oh ol w0 w1 w2] H := hP
          have hD : va_D A [moC oy r th fi se (nI dp) sh sl az oh ol w0 w1 w2] := hD
          refine W.cs (cells' := 0) (slots' := 0) rfl rfl ?_
          refine W.eq (g2 := F0 m 23 ls [.int (nI (2 ^ dp)), .int (nI 2), .int y1]) rfl ?_
          refine lv_imul hx hb dMo_isSubset_23 ?_
          refine ck_ri (y := nI (2 * 2 ^ dp)) (pk_mul 2 _) ?_
          refine lv_icmp_ge (tgt := 39) hx hb dMo_isSubset_24 rfl (fun h5 => ?_) (fun h5 => ?_)
          · have b_h5 := decide_eq_true h5
            refine lv_iconst (v := nI 0) hx hb dMo_isSubset_39 (by decide) ?_
            exact cq_zret () (trivial) hx hb hr hlk hP hS (rfl) (by rw [show rSub dp v1 y1 = false by simp only [rSub, b_h1, b_h2, b_h3, b_h4, b_h5, Bool.and_true, Bool.and_false, Bool.true_and, Bool.false_and, Bool.or_true, Bool.or_false, Bool.true_or, Bool.false_or, Bool.not_true, Bool.not_false]]; rfl) (rfl) dMo_isSubset_40
          · have b_h5 := decide_eq_false h5
            refine lv_iload_n hx hb dMo_isSubset_27 rfl (lv_at hl 1 rfl) ?_
            refine lv_iload_n hx hb dMo_isSubset_28 rfl (lv_at hl 2 rfl) ?_
            refine clMo_143 (As := [.int v1, .int y1]) (rest := []) hx hb hml hown hts (k_Mo_isAbv l G v1 y1 h3 h4) hG hA hP hD hS [] rfl rfl (fun _ => rfl) rfl hl.1 rfl (Nat.le_of_ble_eq_true rfl) ⟨by decide, by decide⟩ ⟨by decide, by decide⟩ dMo_isSubset_29 (fun _ H locs _ hP hD hS => ?_)
            have hP : va_P G.1 vwCl [moC oy r th fi se (nI dp) sh sl az oh ol w0 w1 w2] H := hP
            have hD : va_D A [moC oy r th fi se (nI dp) sh sl az oh ol w0 w1 w2] := hD
            refine W.cs (cells' := 0) (slots' := 0) rfl rfl ?_
            refine W.eq (g2 := F0 m 32 ls [.int (jB (rAb (tn v1) (tn y1)))]) rfl ?_
            refine lv_if_eq (tgt := 39) hx hb dMo_isSubset_32 rfl (fun h6 => ?_) (fun h6 => ?_)
            · have b_6 := (jB_0 _).mp h6
              refine lv_iconst (v := nI 0) hx hb dMo_isSubset_39 (by decide) ?_
              exact cq_zret () (trivial) hx hb hr hlk hP hS (rfl) (by rw [show rSub dp v1 y1 = false by simp only [rSub, b_h1, b_h2, b_h3, b_h4, b_h5, b_6, Bool.and_true, Bool.and_false, Bool.true_and, Bool.false_and, Bool.or_true, Bool.or_false, Bool.true_or, Bool.false_or, Bool.not_true, Bool.not_false]]; rfl) (rfl) dMo_isSubset_40
            · have b_6 := (jB_n0 _).mp h6
              refine lv_iconst (v := nI 1) hx hb dMo_isSubset_35 (by decide) ?_
              refine lv_goto (tgt := 40) hx hb dMo_isSubset_36 rfl ?_
              exact cq_zret () (trivial) hx hb hr hlk hP hS (rfl) (by rw [show rSub dp v1 y1 = true by simp only [rSub, b_h1, b_h2, b_h3, b_h4, b_h5, b_6, Bool.and_true, Bool.and_false, Bool.true_and, Bool.false_and, Bool.or_true, Bool.or_false, Bool.true_or, Bool.false_or, Bool.not_true, Bool.not_false]]; rfl) (rfl) dMo_isSubset_40
set_option maxHeartbeats 4000000 in
set_option maxRecDepth 100000 in
theorem k_Mo_hasLeaf (l : Launch) (G : gG) (oy : Nat) (r : Nat → Nat) (th : Int32) (fi se : Int64) (dp : Nat) (hdp : dp ≤ 8) (sh sl : Int64) (az : Int32) (oh ol w0 w1 w2 : Int64) (a b dd : Nat) (ha : a = 0 ∨ (1 ≤ a ∧ 1 ≤ b)) (ha2 : a < 2 ^ 31) (hb2 : b < 2 ^ 31) (hd : dd < 2 ^ dp) : Ck l G yMo_hasLeaf cMo_hasLeaf 4 (some .boolean) { frames := 2, cells := 0, slots := 0, locals := 41 } [.ref oy, .int (nI a), .int (nI b), .int (nI dd)] [moC oy r th fi se (nI dp) sh sl az oh ol w0 w1 w2] (some (.int (jB (rHl dp a b dd)))) [moC oy r th fi se (nI dp) sh sl az oh ol w0 w1 w2] := by
  refine Cq.of (by decide) (Nat.le_of_ble_eq_true rfl) ?_
  intro p e s m args below meth c A ls hx hb hr hml hts hown hlk hA hP hD hG hS hl
  have h2 := p2_le hdp
  have hl : lv_has ls 4 [(0, .ref oy), (1, .int (nI a)), (2, .int (nI b)), (3, .int (nI dd))] := hl
  refine lv_iload_n hx hb dMo_hasLeaf_0 rfl (lv_at hl 1 rfl) ?_
  refine lv_if_eq (tgt := 28) hx hb dMo_hasLeaf_1 rfl (fun h1 => ?_) (fun h1 => ?_)
  · have h3 : a = 0 := (nI_eq (b := 0) (by omega) (by omega)).mp h1
    refine lv_iconst (v := nI 1) hx hb dMo_hasLeaf_28 (by decide) ?_
    refine lv_goto (tgt := 33) hx hb dMo_hasLeaf_29 rfl ?_
    exact cq_zret () (trivial) hx hb hr hlk hP hS (rfl) (by rw [show rHl dp a b dd = true by simp only [rHl, decide_eq_true h3, Bool.and_true, Bool.and_false, Bool.true_and, Bool.false_and, Bool.or_true, Bool.or_false, Bool.true_or, Bool.false_or, Bool.not_true, Bool.not_false]]; rfl) (rfl) dMo_hasLeaf_33
  · have h3 : ¬ a = 0 := fun z => h1 (by rw [z]; rfl)
    refine lv_iload_n hx hb dMo_hasLeaf_4 rfl (lv_at hl 1 rfl) ?_
    refine lv_aload_n hx hb dMo_hasLeaf_5 rfl (lv_at hl 0 rfl) ?_
    refine lv_iload_n hx hb dMo_hasLeaf_6 rfl (lv_at hl 3 rfl) ?_
    refine clMo_147 (As := [.int (nI dd)]) (rest := [.int (nI a)]) hx hb hml hown hts (k_Mo_leafOf l G oy r th fi se dp hdp sh sl az oh ol w0 w1 w2 dd) hG hA hP hD hS 0 rfl [0] rfl rfl (fun _ => rfl) rfl hl.1 rfl (Nat.le_of_ble_eq_true rfl) ⟨by decide, by decide⟩ ⟨by decide, by decide⟩ dMo_hasLeaf_7 (fun _ H locs _ hP hD hS => ?_)
    have hP : va_P G.1 vwCl [moC oy r th fi se (nI dp) sh sl az oh ol w0 w1 w2] H := hP
    have hD : va_D A [moC oy r th fi se (nI dp) sh sl az oh ol w0 w1 w2] := hD
    refine W.cs (cells' := 0) (slots' := 0) rfl rfl ?_
    refine W.eq (g2 := F0 m 10 ls [.int (nI (2 ^ dp + dd)), .int (nI a)]) rfl ?_
    refine clMo_143 (As := [.int (nI a), .int (nI (2 ^ dp + dd))]) (rest := []) hx hb hml hown hts (k_Mo_isAbove l G a (2 ^ dp + dd) (by omega) (by omega) (by omega)) hG hA hP hD hS [] rfl rfl (fun _ => rfl) rfl hl.1 rfl (Nat.le_of_ble_eq_true rfl) ⟨by decide, by decide⟩ ⟨by decide, by decide⟩ dMo_hasLeaf_10 (fun _ H locs _ hP hD hS => ?_)
    have hP : va_P G.1 vwCl [moC oy r th fi se (nI dp) sh sl az oh ol w0 w1 w2] H := hP
    have hD : va_D A [moC oy r th fi se (nI dp) sh sl az oh ol w0 w1 w2] := hD
    refine W.cs (cells' := 0) (slots' := 0) rfl rfl ?_
    refine W.eq (g2 := F0 m 13 ls [.int (jB (rAb a (2 ^ dp + dd)))]) rfl ?_
    refine lv_if_eq (tgt := 32) hx hb dMo_hasLeaf_13 rfl (fun h4 => ?_) (fun h4 => ?_)
    · have b_4 := (jB_0 _).mp h4
      refine lv_iconst (v := nI 0) hx hb dMo_hasLeaf_32 (by decide) ?_
      exact cq_zret () (trivial) hx hb hr hlk hP hS (rfl) (by rw [show rHl dp a b dd = false by simp only [rHl, decide_eq_false h3, b_4, Bool.and_true, Bool.and_false, Bool.true_and, Bool.false_and, Bool.or_true, Bool.or_false, Bool.true_or, Bool.false_or, Bool.not_true, Bool.not_false]]; rfl) (rfl) dMo_hasLeaf_33
    · have b_4 := (jB_n0 _).mp h4
      refine lv_iload_n hx hb dMo_hasLeaf_16 rfl (lv_at hl 2 rfl) ?_
      refine lv_aload_n hx hb dMo_hasLeaf_17 rfl (lv_at hl 0 rfl) ?_
      refine lv_iload_n hx hb dMo_hasLeaf_18 rfl (lv_at hl 3 rfl) ?_
      refine clMo_147 (As := [.int (nI dd)]) (rest := [.int (nI b)]) hx hb hml hown hts (k_Mo_leafOf l G oy r th fi se dp hdp sh sl az oh ol w0 w1 w2 dd) hG hA hP hD hS 0 rfl [0] rfl rfl (fun _ => rfl) rfl hl.1 rfl (Nat.le_of_ble_eq_true rfl) ⟨by decide, by decide⟩ ⟨by decide, by decide⟩ dMo_hasLeaf_19 (fun _ H locs _ hP hD hS => ?_)
      have hP : va_P G.1 vwCl [moC oy r th fi se (nI dp) sh sl az oh ol w0 w1 w2] H := hP
      have hD : va_D A [moC oy r th fi se (nI dp) sh sl az oh ol w0 w1 w2] := hD
      refine W.cs (cells' := 0) (slots' := 0) rfl rfl ?_
      refine W.eq (g2 := F0 m 22 ls [.int (nI (2 ^ dp + dd)), .int (nI b)]) rfl ?_
      refine clMo_143 (As := [.int (nI b), .int (nI (2 ^ dp + dd))]) (rest := []) hx hb hml hown hts (k_Mo_isAbove l G b (2 ^ dp + dd) (by omega) (by omega) (by omega)) hG hA hP hD hS [] rfl rfl (fun _ => rfl) rfl hl.1 rfl (Nat.le_of_ble_eq_true rfl) ⟨by decide, by decide⟩ ⟨by decide, by decide⟩ dMo_hasLeaf_22 (fun _ H locs _ hP hD hS => ?_)
      have hP : va_P G.1 vwCl [moC oy r th fi se (nI dp) sh sl az oh ol w0 w1 w2] H := hP
      have hD : va_D A [moC oy r th fi se (nI dp) sh sl az oh ol w0 w1 w2] := hD
      refine W.cs (cells' := 0) (slots' := 0) rfl rfl ?_
      refine W.eq (g2 := F0 m 25 ls [.int (jB (rAb b (2 ^ dp + dd)))]) rfl ?_
      refine lv_if_ne (tgt := 32) hx hb dMo_hasLeaf_25 rfl (fun h5 => ?_) (fun h5 => ?_)
      · have b_5 := (jB_n0 _).mp h5
        refine lv_iconst (v := nI 0) hx hb dMo_hasLeaf_32 (by decide) ?_
        exact cq_zret () (trivial) hx hb hr hlk hP hS (rfl) (by rw [show rHl dp a b dd = false by simp only [rHl, decide_eq_false h3, b_4, b_5, Bool.and_true, Bool.and_false, Bool.true_and, Bool.false_and, Bool.or_true, Bool.or_false, Bool.true_or, Bool.false_or, Bool.not_true, Bool.not_false]]; rfl) (rfl) dMo_hasLeaf_33
      · have b_5 := (jB_0 _).mp h5
        refine lv_iconst (v := nI 1) hx hb dMo_hasLeaf_28 (by decide) ?_
        refine lv_goto (tgt := 33) hx hb dMo_hasLeaf_29 rfl ?_
        exact cq_zret () (trivial) hx hb hr hlk hP hS (rfl) (by rw [show rHl dp a b dd = true by simp only [rHl, decide_eq_false h3, b_4, b_5, Bool.and_true, Bool.and_false, Bool.true_and, Bool.false_and, Bool.or_true, Bool.or_false, Bool.true_or, Bool.false_or, Bool.not_true, Bool.not_false]]; rfl) (rfl) dMo_hasLeaf_33
set_option maxHeartbeats 4000000 in
set_option maxRecDepth 100000 in
theorem k_Mo_makeLabel (l : Launch) (G : gG) (oy : Nat) (r : Nat → Nat) (th : Int32) (fi se : Int64) (d : Int32) (sh sl : Int64) (az : Int32) (oh ol w0 w1 w2 : Int64) (f g m0 : Nat → Nat) (v1 : Int32) (b lv : Nat) (hbb : b < 2 ^ 31) (hv : lv ≤ 8) (hlv : jLb (nI b) v1 = nI lv) : Cq l G yMo_makeLabel cMo_makeLabel 5 none { frames := 3, cells := 0, slots := 0, locals := 81 } [.ref oy, .int v1, .int (nI b)] [moC oy r th fi se d sh sl az oh ol w0 w1 w2, aI G (r 0) 256 ckS, aI G (r 2) 176 (bN f), aI G (r 3) 16 (bN g), aI G (r 4) 16 (bN m0)] (S := (Nat → Nat) × (Nat → Nat) × (Nat → Nat)) (fun _ => True) (fun u => none) (fun u => [moC oy r th ((jLab sh sl v1 (nI b) lv lv).1) ((jLab sh sl v1 (nI b) lv lv).2) d sh sl az oh ol w0 w1 w2, aI G (r 0) 256 ckS, aI G (r 2) 176 (bN u.1), aI G (r 3) 16 (bN u.2.1), aI G (r 4) 16 (bN u.2.2)]) := by
  refine Cq.of (by decide) (Nat.le_of_ble_eq_true rfl) ?_
  intro p e s m args below meth c A ls hx hb hr hml hts hown hlk hA hP hD hG hS hl
  have hl : lv_has ls 5 [(0, .ref oy), (1, .int v1), (2, .int (nI b))] := hl
  refine lv_iconst (v := nI 0) hx hb dMo_makeLabel_0 (by decide) ?_
  refine lv_istore_n (lv' := [(3, .int (nI 0)), (0, .ref oy), (1, .int v1), (2, .int (nI b))]) hx hb dMo_makeLabel_1 rfl hl (by decide) rfl (fun ls hl => ?_)
  have loop : ∀ (k : Nat) (n : Nat) (H : Heap) (locs : List Loc) (ls : Array Slot), n + k = 9 → jLb (nI b) v1 = lbF (nI b) v1 k n → va_P G.1 vwCl [moC oy r th fi se d sh sl az oh ol w0 w1 w2, aI G (r 0) 256 ckS, aI G (r 2) 176 (bN f), aI G (r 3) 16 (bN g), aI G (r 4) 16 (bN m0)] H → va_D A [moC oy r th fi se d sh sl az oh ol w0 w1 w2, aI G (r 0) 256 ckS, aI G (r 2) 176 (bN f), aI G (r 3) 16 (bN g), aI G (r 4) 16 (bN m0)] → va_S A s.heap H locs → lv_has ls 5 [(0, .ref oy), (1, .int v1), (2, .int (nI b)), (3, .int (nI n))] → W p l e { frames := 3, cells := 0, slots := 0, locals := 81 } s m args below meth c H locs 0 0 (MQ below (cq_out G (S := (Nat → Nat) × (Nat → Nat) × (Nat → Nat)) (fun _ => True) (fun u => none) (fun u => [moC oy r th ((jLab sh sl v1 (nI b) lv lv).1) ((jLab sh sl v1 (nI b) lv lv).2) d sh sl az oh ol w0 w1 w2, aI G (r 0) 256 ckS, aI G (r 2) 176 (bN u.1), aI G (r 3) 16 (bN u.2.1), aI G (r 4) 16 (bN u.2.2)]) A) args s 0 0 A) (F0 m 2 ls []) := by
    intro k
    induction k with
    | zero =>
      intro n H locs ls hk hq hP hD hS hl
      have z9 := hlv.symm.trans hq
      rw [show lbF (nI b) v1 0 n = -1 from rfl, show (-1 : Int32) = nI 4294967295 by decide] at z9
      have z8 := (nI_inj32 (by omega) (by omega)).mp z9
      omega
    | succ k ih =>
      intro n H locs ls hk hq hP hD hS hl
      refine lv_iload_n hx hb dMo_makeLabel_2 rfl (lv_at hl 2 rfl) ?_
      refine lv_iload_n hx hb dMo_makeLabel_3 rfl (lv_at hl 3 rfl) ?_
      refine lv_ishr hx hb dMo_makeLabel_4 ?_
      refine lv_iload_n hx hb dMo_makeLabel_5 rfl (lv_at hl 1 rfl) ?_
      refine lv_icmp_eq (tgt := 15) hx hb dMo_makeLabel_6 rfl (fun h9 => ?_) (fun h9 => ?_)
      · have b_h9 := decide_eq_true h9
        obtain rfl : lv = n := by have := (hlv.symm.trans (hq.trans (if_pos h9))); have := (nI_inj32 (by omega) (by omega)).mp this; omega
        refine lv_aload_n hx hb dMo_makeLabel_15 rfl (lv_at hl 0 rfl) ?_
        refine lv_aload_n hx hb dMo_makeLabel_16 rfl (lv_at hl 0 rfl) ?_
        refine gfMo_130 hx hb hts hown hG hP 0 rfl rfl dMo_makeLabel_17 ?_
        refine lv_aload_n hx hb dMo_makeLabel_20 rfl (lv_at hl 0 rfl) ?_
        refine gfMo_133 hx hb hts hown hG hP 0 rfl rfl dMo_makeLabel_21 ?_
        refine lv_lconst (v := lN 0) hx hb dMo_makeLabel_24 (by decide) ?_
        refine lv_iload_n hx hb dMo_makeLabel_25 rfl (lv_at hl 1 rfl) ?_
        refine lv_i2l (v := v1.toInt64) hx hb dMo_makeLabel_26 rfl ?_
        refine clMo_120 (As := [.long sh, .long sl, .long (lN 0), .long v1.toInt64]) (rest := []) hx hb hml hown hts (k_Mo_enc l G oy r th fi se d sh sl az oh ol w0 w1 w2 f g m0 sh sl (lN 0) v1.toInt64) hG hA hP hD hS 0 rfl [0, 1, 2, 3, 4] rfl rfl (fun _ => rfl) rfl hl.1 rfl (Nat.le_of_ble_eq_true rfl) ⟨by decide, by decide⟩ ⟨by decide, by decide⟩ dMo_makeLabel_27 (fun u9 H locs _ hP hD hS => ?_)
        have hP : va_P G.1 vwCl [moC oy r th ((cE sh sl (lN 0) v1.toInt64).1) ((cE sh sl (lN 0) v1.toInt64).2) d sh sl az oh ol w0 w1 w2, aI G (r 0) 256 ckS, aI G (r 2) 176 (bN u9.1), aI G (r 3) 16 (bN u9.2.1), aI G (r 4) 16 (bN u9.2.2)] H := hP
        have hD : va_D A [moC oy r th ((cE sh sl (lN 0) v1.toInt64).1) ((cE sh sl (lN 0) v1.toInt64).2) d sh sl az oh ol w0 w1 w2, aI G (r 0) 256 ckS, aI G (r 2) 176 (bN u9.1), aI G (r 3) 16 (bN u9.2.1), aI G (r 4) 16 (bN u9.2.2)] := hD
        refine W.cs (cells' := 0) (slots' := 0) rfl rfl ?_
        refine W.eq (g2 := F0 m 30 ls []) rfl ?_
        refine lv_iload_n hx hb dMo_makeLabel_30 rfl (lv_at hl 3 rfl) ?_
        refine lv_iconst (v := nI 1) hx hb dMo_makeLabel_31 (by decide) ?_
        refine lv_isub hx hb dMo_makeLabel_32 ?_
        refine ck_ri (y := jm1 lv) (jm1_sub lv) ?_
        refine lv_istore (lv' := [(4, .int (jm1 lv)), (0, .ref oy), (1, .int v1), (2, .int (nI b)), (3, .int (nI lv))]) hx hb dMo_makeLabel_33 hl (by decide) rfl (fun ls hl => ?_)
        have loop9 : ∀ (k9 : Nat) (i : Nat) (a1 : Int64) (b1 : Int64) (x1 : Nat → Nat) (x2 : Nat → Nat) (x3 : Nat → Nat) (H : Heap) (locs : List Loc) (ls : Array Slot), i + k9 = lv → jLab sh sl v1 (nI b) lv i = (a1, b1) → va_P G.1 vwCl [moC oy r th a1 b1 d sh sl az oh ol w0 w1 w2, aI G (r 0) 256 ckS, aI G (r 2) 176 (bN x1), aI G (r 3) 16 (bN x2), aI G (r 4) 16 (bN x3)] H → va_D A [moC oy r th a1 b1 d sh sl az oh ol w0 w1 w2, aI G (r 0) 256 ckS, aI G (r 2) 176 (bN x1), aI G (r 3) 16 (bN x2), aI G (r 4) 16 (bN x3)] → va_S A s.heap H locs → lv_has ls 5 [(0, .ref oy), (2, .int (nI b)), (4, .int (jm1 k9))] → W p l e { frames := 3, cells := 0, slots := 0, locals := 81 } s m args below meth c H locs 0 0 (MQ below (cq_out G (S := (Nat → Nat) × (Nat → Nat) × (Nat → Nat)) (fun _ => True) (fun u => none) (fun u => [moC oy r th ((jLab sh sl v1 (nI b) lv lv).1) ((jLab sh sl v1 (nI b) lv lv).2) d sh sl az oh ol w0 w1 w2, aI G (r 0) 256 ckS, aI G (r 2) 176 (bN u.1), aI G (r 3) 16 (bN u.2.1), aI G (r 4) 16 (bN u.2.2)]) A) args s 0 0 A) (F0 m 35 ls []) := by
          intro k9
          induction k9 with
          | zero =>
            intro i a1 b1 x1 x2 x3 H locs ls hk9 hq1 hP hD hS hl
            have hl : lv_has ls 5 [(0, .ref oy), (2, .int (nI b)), (4, .int (-1))] := hl
            obtain rfl : lv = i := by omega
            refine lv_iload hx hb dMo_makeLabel_35 (lv_at hl 2 rfl) ?_
            refine lv_if_lt (tgt := 75) hx hb dMo_makeLabel_37 rfl (fun _ => ?_) (fun h => absurd (by decide) h)
            exact cq_vret (x1, x2, x3) (trivial) hx hb hr hlk hP hS rfl (by rw [hq1]) dMo_makeLabel_75
          | succ k9 ih9 =>
            intro i a1 b1 x1 x2 x3 H locs ls hk9 hq1 hP hD hS hl
            have hl : lv_has ls 5 [(0, .ref oy), (2, .int (nI b)), (4, .int (nI k9))] := hl
            have hdv : b / 2 ^ k9 < 2 ^ 31 := Nat.lt_of_le_of_lt (Nat.div_le_self _ _) hbb
            refine lv_iload hx hb dMo_makeLabel_35 (lv_at hl 2 rfl) ?_
            refine lv_if_lt (tgt := 75) hx hb dMo_makeLabel_37 rfl (fun h => absurd h (nI_pos (by omega))) (fun _ => ?_)
            refine lv_aload_n hx hb dMo_makeLabel_40 rfl (lv_at hl 0 rfl) ?_
            refine lv_aload_n hx hb dMo_makeLabel_41 rfl (lv_at hl 0 rfl) ?_
            refine gfMo_82 hx hb hts hown hG hP 0 rfl rfl dMo_makeLabel_42 ?_
            refine lv_aload_n hx hb dMo_makeLabel_45 rfl (lv_at hl 0 rfl) ?_
            refine gfMo_86 hx hb hts hown hG hP 0 rfl rfl dMo_makeLabel_46 ?_
            refine lv_lconst (v := lN 0) hx hb dMo_makeLabel_49 (by decide) ?_
            refine lv_iload_n hx hb dMo_makeLabel_50 rfl (lv_at hl 1 rfl) ?_
            refine lv_iload hx hb dMo_makeLabel_51 (lv_at hl 2 rfl) ?_
            refine lv_ishr hx hb dMo_makeLabel_53 ?_
            refine ck_ri (y := nI (b / 2 ^ k9)) (isr_nI (by omega) (by omega)) ?_
            refine lv_iconst (v := nI 2) hx hb dMo_makeLabel_54 (by decide) ?_
            refine lv_irem hx hb dMo_makeLabel_55 (by decide) ?_
            refine ck_ri (y := nI (b / 2 ^ k9 % 2)) (irm_nI hdv (by decide) (by decide)) ?_
            refine lv_if_ne (tgt := 63) hx hb dMo_makeLabel_56 rfl (fun h8 => ?_) (fun h8 => ?_)
            · have h7 : b / 2 ^ k9 % 2 = 1 := by have h6 : ¬ b / 2 ^ k9 % 2 = 0 := (fun z => h8 (by rw [z]; rfl)); omega
              refine lv_ldc2 (v := lN 2) hx hb hown (hts _ kkMo_150) dMo_makeLabel_63 ?_
              refine clMo_120 (As := [.long a1, .long b1, .long (lN 0), .long (lN 2)]) (rest := []) hx hb hml hown hts (k_Mo_enc l G oy r th a1 b1 d sh sl az oh ol w0 w1 w2 x1 x2 x3 a1 b1 (lN 0) (lN 2)) hG hA hP hD hS 0 rfl [0, 1, 2, 3, 4] rfl rfl (fun _ => rfl) rfl hl.1 rfl (Nat.le_of_ble_eq_true rfl) ⟨by decide, by decide⟩ ⟨by decide, by decide⟩ dMo_makeLabel_66 (fun u9 H locs _ hP hD hS => ?_)
              have hP : va_P G.1 vwCl [moC oy r th ((cE a1 b1 (lN 0) (lN 2)).1) ((cE a1 b1 (lN 0) (lN 2)).2) d sh sl az oh ol w0 w1 w2, aI G (r 0) 256 ckS, aI G (r 2) 176 (bN u9.1), aI G (r 3) 16 (bN u9.2.1), aI G (r 4) 16 (bN u9.2.2)] H := hP
              have hD : va_D A [moC oy r th ((cE a1 b1 (lN 0) (lN 2)).1) ((cE a1 b1 (lN 0) (lN 2)).2) d sh sl az oh ol w0 w1 w2, aI G (r 0) 256 ckS, aI G (r 2) 176 (bN u9.1), aI G (r 3) 16 (bN u9.2.1), aI G (r 4) 16 (bN u9.2.2)] := hD
              refine W.cs (cells' := 0) (slots' := 0) rfl rfl ?_
              refine W.eq (g2 := F0 m 69 ls []) rfl ?_
              refine lv_iinc (v := jm1 k9) (lv' := [(4, .int (jm1 k9)), (0, .ref oy), (2, .int (nI b))]) hx hb dMo_makeLabel_69 hl (k := 2) rfl (jm1_dec k9) (by decide) rfl (fun ls hl => ?_)
              refine lv_goto (tgt := 35) hx hb dMo_makeLabel_72 rfl ?_
              have e9 : jLab sh sl v1 (nI b) lv (i + 1) = ((cE a1 b1 (lN 0) (lN 2)).1, (cE a1 b1 (lN 0) (lN 2)).2) := by
                show cE ((jLab sh sl v1 (nI b) lv i).1) ((jLab sh sl v1 (nI b) lv i).2) (lN 0) (nI 1 + (isr (nI b) (nI (lv - 1 - i)) &&& nI 1)).toInt64 = _
                rw [hq1, show lv - 1 - i = k9 by omega, isr_nI hbb (by omega), and_nI (nI (b / 2 ^ k9)) (m := 1) 1 rfl (by decide), un_nI (by omega), show (2 : Nat) ^ 1 = 2 from rfl, h7]
                rfl
              exact ih9 (i + 1) _ _ _ _ _ _ _ _ (by omega) e9 hP hD hS (lv_sub hl [1, 2, 0] rfl)
            · have h7 : b / 2 ^ k9 % 2 = 0 := (nI_eq (b := 0) (by omega) (by omega)).mp h8
              refine lv_lconst (v := lN 1) hx hb dMo_makeLabel_59 (by decide) ?_
              refine lv_goto (tgt := 66) hx hb dMo_makeLabel_60 rfl ?_
              refine clMo_120 (As := [.long a1, .long b1, .long (lN 0), .long (lN 1)]) (rest := []) hx hb hml hown hts (k_Mo_enc l G oy r th a1 b1 d sh sl az oh ol w0 w1 w2 x1 x2 x3 a1 b1 (lN 0) (lN 1)) hG hA hP hD hS 0 rfl [0, 1, 2, 3, 4] rfl rfl (fun _ => rfl) rfl hl.1 rfl (Nat.le_of_ble_eq_true rfl) ⟨by decide, by decide⟩ ⟨by decide, by decide⟩ dMo_makeLabel_66 (fun u9 H locs _ hP hD hS => ?_)
              have hP : va_P G.1 vwCl [moC oy r th ((cE a1 b1 (lN 0) (lN 1)).1) ((cE a1 b1 (lN 0) (lN 1)).2) d sh sl az oh ol w0 w1 w2, aI G (r 0) 256 ckS, aI G (r 2) 176 (bN u9.1), aI G (r 3) 16 (bN u9.2.1), aI G (r 4) 16 (bN u9.2.2)] H := hP
              have hD : va_D A [moC oy r th ((cE a1 b1 (lN 0) (lN 1)).1) ((cE a1 b1 (lN 0) (lN 1)).2) d sh sl az oh ol w0 w1 w2, aI G (r 0) 256 ckS, aI G (r 2) 176 (bN u9.1), aI G (r 3) 16 (bN u9.2.1), aI G (r 4) 16 (bN u9.2.2)] := hD
              refine W.cs (cells' := 0) (slots' := 0) rfl rfl ?_
              refine W.eq (g2 := F0 m 69 ls []) rfl ?_
              refine lv_iinc (v := jm1 k9) (lv' := [(4, .int (jm1 k9)), (0, .ref oy), (2, .int (nI b))]) hx hb dMo_makeLabel_69 hl (k := 2) rfl (jm1_dec k9) (by decide) rfl (fun ls hl => ?_)
              refine lv_goto (tgt := 35) hx hb dMo_makeLabel_72 rfl ?_
              have e9 : jLab sh sl v1 (nI b) lv (i + 1) = ((cE a1 b1 (lN 0) (lN 1)).1, (cE a1 b1 (lN 0) (lN 1)).2) := by
                show cE ((jLab sh sl v1 (nI b) lv i).1) ((jLab sh sl v1 (nI b) lv i).2) (lN 0) (nI 1 + (isr (nI b) (nI (lv - 1 - i)) &&& nI 1)).toInt64 = _
                rw [hq1, show lv - 1 - i = k9 by omega, isr_nI hbb (by omega), and_nI (nI (b / 2 ^ k9)) (m := 1) 1 rfl (by decide), un_nI (by omega), show (2 : Nat) ^ 1 = 2 from rfl, h7]
                rfl
              exact ih9 (i + 1) _ _ _ _ _ _ _ _ (by omega) e9 hP hD hS (lv_sub hl [1, 2, 0] rfl)
        exact loop9 lv 0 _ _ _ _ _ _ _ _ (by omega) rfl hP hD hS (lv_sub hl [1, 3, 0] rfl)
      · have b_h9 := decide_eq_false h9
        refine lv_iinc (v := nI (n + 1)) (lv' := [(3, .int (nI (n + 1))), (0, .ref oy), (1, .int v1), (2, .int (nI b))]) hx hb dMo_makeLabel_9 hl (k := 3) rfl (nI_1 n) (by decide) rfl (fun ls hl => ?_)
        refine lv_goto (tgt := 2) hx hb dMo_makeLabel_12 rfl ?_
        exact ih (n + 1) _ _ _ (by omega) (hq.trans (if_neg h9)) hP hD hS (lv_sub hl [1, 2, 3, 0] rfl)
  exact loop 9 0 _ _ _ (by omega) rfl hP hD hS (lv_sub hl [1, 2, 3, 0] rfl)
set_option maxHeartbeats 4000000 in
set_option maxRecDepth 100000 in
theorem k_Mo_makeKey0 (l : Launch) (G : gG) (oy : Nat) (r : Nat → Nat) (th : Int32) (fi se : Int64) (d : Int32) (sh sl : Int64) (az : Int32) (oh ol w0 w1 w2 : Int64) (f g m0 : Nat → Nat) (v1 w9 : Int32) (h0 : v1 = 0) : Cq l G yMo_makeKey cMo_makeKey 3 none { frames := 4, cells := 0, slots := 0, locals := 105 } [.ref oy, .int v1, .int w9] [moC oy r th fi se d sh sl az oh ol w0 w1 w2, aI G (r 0) 256 ckS, aI G (r 2) 176 (bN f), aI G (r 3) 16 (bN g), aI G (r 4) 16 (bN m0)] (S := (Nat → Nat) × (Nat → Nat) × (Nat → Nat)) (fun _ => True) (fun u => none) (fun u => [moC oy r th ((cE sh sl (lN 0) (lN 0)).1) ((cE sh sl (lN 0) (lN 0)).2) d sh sl az oh ol w0 w1 w2, aI G (r 0) 256 ckS, aI G (r 2) 176 (bN u.1), aI G (r 3) 16 (bN u.2.1), aI G (r 4) 16 (bN u.2.2)]) := by
  refine Cq.of (by decide) (Nat.le_of_ble_eq_true rfl) ?_
  intro p e s m args below meth c A ls hx hb hr hml hts hown hlk hA hP hD hG hS hl
  have hl : lv_has ls 3 [(0, .ref oy), (1, .int v1), (2, .int w9)] := hl
  refine lv_iload_n hx hb dMo_makeKey_0 rfl (lv_at hl 1 rfl) ?_
  refine lv_if_ne (tgt := 21) hx hb dMo_makeKey_1 rfl (fun h => absurd (h0) h) (fun _ => ?_)
  refine lv_aload_n hx hb dMo_makeKey_4 rfl (lv_at hl 0 rfl) ?_
  refine lv_aload_n hx hb dMo_makeKey_5 rfl (lv_at hl 0 rfl) ?_
  refine gfMo_130 hx hb hts hown hG hP 0 rfl rfl dMo_makeKey_6 ?_
  refine lv_aload_n hx hb dMo_makeKey_9 rfl (lv_at hl 0 rfl) ?_
  refine gfMo_133 hx hb hts hown hG hP 0 rfl rfl dMo_makeKey_10 ?_
  refine lv_lconst (v := lN 0) hx hb dMo_makeKey_13 (by decide) ?_
  refine lv_lconst (v := lN 0) hx hb dMo_makeKey_14 (by decide) ?_
  refine clMo_120 (As := [.long sh, .long sl, .long (lN 0), .long (lN 0)]) (rest := []) hx hb hml hown hts (k_Mo_enc l G oy r th fi se d sh sl az oh ol w0 w1 w2 f g m0 sh sl (lN 0) (lN 0)) hG hA hP hD hS 0 rfl [0, 1, 2, 3, 4] rfl rfl (fun _ => rfl) rfl hl.1 rfl (Nat.le_of_ble_eq_true rfl) ⟨by decide, by decide⟩ ⟨by decide, by decide⟩ dMo_makeKey_15 (fun u9 H locs _ hP hD hS => ?_)
  have hP : va_P G.1 vwCl [moC oy r th ((cE sh sl (lN 0) (lN 0)).1) ((cE sh sl (lN 0) (lN 0)).2) d sh sl az oh ol w0 w1 w2, aI G (r 0) 256 ckS, aI G (r 2) 176 (bN u9.1), aI G (r 3) 16 (bN u9.2.1), aI G (r 4) 16 (bN u9.2.2)] H := hP
  have hD : va_D A [moC oy r th ((cE sh sl (lN 0) (lN 0)).1) ((cE sh sl (lN 0) (lN 0)).2) d sh sl az oh ol w0 w1 w2, aI G (r 0) 256 ckS, aI G (r 2) 176 (bN u9.1), aI G (r 3) 16 (bN u9.2.1), aI G (r 4) 16 (bN u9.2.2)] := hD
  refine W.cs (cells' := 0) (slots' := 0) rfl rfl ?_
  refine W.eq (g2 := F0 m 18 ls []) rfl ?_
  refine lv_goto (tgt := 43) hx hb dMo_makeKey_18 rfl ?_
  exact cq_vret (u9.1, u9.2.1, u9.2.2) (trivial) hx hb hr hlk hP hS rfl (rfl) dMo_makeKey_43
set_option maxHeartbeats 4000000 in
set_option maxRecDepth 100000 in
theorem k_Mo_makeKey1 (l : Launch) (G : gG) (oy : Nat) (r : Nat → Nat) (th : Int32) (fi se : Int64) (d : Int32) (sh sl : Int64) (az : Int32) (oh ol w0 w1 w2 : Int64) (f g m0 : Nat → Nat) (v1 : Int32) (b lv : Nat) (hbb : b < 2 ^ 31) (hv : lv ≤ 8) (h0 : ¬ v1 = 0) (hlv : jLb (nI b) v1 = nI lv) : Cq l G yMo_makeKey cMo_makeKey 3 none { frames := 4, cells := 0, slots := 0, locals := 105 } [.ref oy, .int v1, .int (nI b)] [moC oy r th fi se d sh sl az oh ol w0 w1 w2, aI G (r 0) 256 ckS, aI G (r 2) 176 (bN f), aI G (r 3) 16 (bN g), aI G (r 4) 16 (bN m0)] (S := (Nat → Nat) × (Nat → Nat) × (Nat → Nat)) (fun _ => True) (fun u => none) (fun u => [moC oy r th ((cE (jLab sh sl v1 (nI b) lv lv).1 (jLab sh sl v1 (nI b) lv lv).2 (lN 0) (lN 3)).1) ((cE (jLab sh sl v1 (nI b) lv lv).1 (jLab sh sl v1 (nI b) lv lv).2 (lN 0) (lN 3)).2) d sh sl az oh ol w0 w1 w2, aI G (r 0) 256 ckS, aI G (r 2) 176 (bN u.1), aI G (r 3) 16 (bN u.2.1), aI G (r 4) 16 (bN u.2.2)]) := by
  refine Cq.of (by decide) (Nat.le_of_ble_eq_true rfl) ?_
  intro p e s m args below meth c A ls hx hb hr hml hts hown hlk hA hP hD hG hS hl
  have hl : lv_has ls 3 [(0, .ref oy), (1, .int v1), (2, .int (nI b))] := hl
  refine lv_iload_n hx hb dMo_makeKey_0 rfl (lv_at hl 1 rfl) ?_
  refine lv_if_ne (tgt := 21) hx hb dMo_makeKey_1 rfl (fun _ => ?_) (fun h => absurd h (h0))
  refine lv_aload_n hx hb dMo_makeKey_21 rfl (lv_at hl 0 rfl) ?_
  refine lv_iload_n hx hb dMo_makeKey_22 rfl (lv_at hl 1 rfl) ?_
  refine lv_iload_n hx hb dMo_makeKey_23 rfl (lv_at hl 2 rfl) ?_
  refine clMo_152 (As := [.int v1, .int (nI b)]) (rest := []) hx hb hml hown hts (k_Mo_makeLabel l G oy r th fi se d sh sl az oh ol w0 w1 w2 f g m0 v1 b lv hbb hv hlv) hG hA hP hD hS 0 rfl [0, 1, 2, 3, 4] rfl rfl (fun _ => rfl) rfl hl.1 rfl (Nat.le_of_ble_eq_true rfl) ⟨by decide, by decide⟩ ⟨by decide, by decide⟩ dMo_makeKey_24 (fun u8 H locs _ hP hD hS => ?_)
  have hP : va_P G.1 vwCl [moC oy r th ((jLab sh sl v1 (nI b) lv lv).1) ((jLab sh sl v1 (nI b) lv lv).2) d sh sl az oh ol w0 w1 w2, aI G (r 0) 256 ckS, aI G (r 2) 176 (bN u8.1), aI G (r 3) 16 (bN u8.2.1), aI G (r 4) 16 (bN u8.2.2)] H := hP
  have hD : va_D A [moC oy r th ((jLab sh sl v1 (nI b) lv lv).1) ((jLab sh sl v1 (nI b) lv lv).2) d sh sl az oh ol w0 w1 w2, aI G (r 0) 256 ckS, aI G (r 2) 176 (bN u8.1), aI G (r 3) 16 (bN u8.2.1), aI G (r 4) 16 (bN u8.2.2)] := hD
  refine W.cs (cells' := 0) (slots' := 0) rfl rfl ?_
  refine W.eq (g2 := F0 m 27 ls []) rfl ?_
  refine lv_aload_n hx hb dMo_makeKey_27 rfl (lv_at hl 0 rfl) ?_
  refine lv_aload_n hx hb dMo_makeKey_28 rfl (lv_at hl 0 rfl) ?_
  refine gfMo_82 hx hb hts hown hG hP 0 rfl rfl dMo_makeKey_29 ?_
  refine lv_aload_n hx hb dMo_makeKey_32 rfl (lv_at hl 0 rfl) ?_
  refine gfMo_86 hx hb hts hown hG hP 0 rfl rfl dMo_makeKey_33 ?_
  refine lv_lconst (v := lN 0) hx hb dMo_makeKey_36 (by decide) ?_
  refine lv_ldc2 (v := lN 3) hx hb hown (hts _ kkMo_156) dMo_makeKey_37 ?_
  refine clMo_120 (As := [.long ((jLab sh sl v1 (nI b) lv lv).1), .long ((jLab sh sl v1 (nI b) lv lv).2), .long (lN 0), .long (lN 3)]) (rest := []) hx hb hml hown hts (k_Mo_enc l G oy r th ((jLab sh sl v1 (nI b) lv lv).1) ((jLab sh sl v1 (nI b) lv lv).2) d sh sl az oh ol w0 w1 w2 u8.1 u8.2.1 u8.2.2 ((jLab sh sl v1 (nI b) lv lv).1) ((jLab sh sl v1 (nI b) lv lv).2) (lN 0) (lN 3)) hG hA hP hD hS 0 rfl [0, 1, 2, 3, 4] rfl rfl (fun _ => rfl) rfl hl.1 rfl (Nat.le_of_ble_eq_true rfl) ⟨by decide, by decide⟩ ⟨by decide, by decide⟩ dMo_makeKey_40 (fun u9 H locs _ hP hD hS => ?_)
  have hP : va_P G.1 vwCl [moC oy r th ((cE ((jLab sh sl v1 (nI b) lv lv).1) ((jLab sh sl v1 (nI b) lv lv).2) (lN 0) (lN 3)).1) ((cE ((jLab sh sl v1 (nI b) lv lv).1) ((jLab sh sl v1 (nI b) lv lv).2) (lN 0) (lN 3)).2) d sh sl az oh ol w0 w1 w2, aI G (r 0) 256 ckS, aI G (r 2) 176 (bN u9.1), aI G (r 3) 16 (bN u9.2.1), aI G (r 4) 16 (bN u9.2.2)] H := hP
  have hD : va_D A [moC oy r th ((cE ((jLab sh sl v1 (nI b) lv lv).1) ((jLab sh sl v1 (nI b) lv lv).2) (lN 0) (lN 3)).1) ((cE ((jLab sh sl v1 (nI b) lv lv).1) ((jLab sh sl v1 (nI b) lv lv).2) (lN 0) (lN 3)).2) d sh sl az oh ol w0 w1 w2, aI G (r 0) 256 ckS, aI G (r 2) 176 (bN u9.1), aI G (r 3) 16 (bN u9.2.1), aI G (r 4) 16 (bN u9.2.2)] := hD
  refine W.cs (cells' := 0) (slots' := 0) rfl rfl ?_
  refine W.eq (g2 := F0 m 43 ls []) rfl ?_
  exact cq_vret (u9.1, u9.2.1, u9.2.2) (trivial) hx hb hr hlk hP hS rfl (rfl) dMo_makeKey_43
theorem k_Mo_makeKey (l : Launch) (G : gG) (oy : Nat) (r : Nat → Nat) (th : Int32) (fi se : Int64) (d : Int32) (sh sl : Int64) (az : Int32) (oh ol w0 w1 w2 : Int64) (f g m0 : Nat → Nat) (v1 : Int32) (b lv : Nat) (hbb : b < 2 ^ 31) (hv : lv ≤ 8) (hlv : ¬ v1 = 0 → jLb (nI b) v1 = nI lv) : Cq l G yMo_makeKey cMo_makeKey 3 none { frames := 4, cells := 0, slots := 0, locals := 105 } [.ref oy, .int v1, .int (nI b)] [moC oy r th fi se d sh sl az oh ol w0 w1 w2, aI G (r 0) 256 ckS, aI G (r 2) 176 (bN f), aI G (r 3) 16 (bN g), aI G (r 4) 16 (bN m0)] (S := (Nat → Nat) × (Nat → Nat) × (Nat → Nat)) (fun _ => True) (fun u => none) (fun u => [moC oy r th ((jKy sh sl v1 (nI b) lv).1) ((jKy sh sl v1 (nI b) lv).2) d sh sl az oh ol w0 w1 w2, aI G (r 0) 256 ckS, aI G (r 2) 176 (bN u.1), aI G (r 3) 16 (bN u.2.1), aI G (r 4) 16 (bN u.2.2)]) := by
  unfold jKy
  by_cases h0 : v1 = 0
  · rw [if_pos h0]; exact k_Mo_makeKey0 l G oy r th fi se d sh sl az oh ol w0 w1 w2 f g m0 v1 (nI b) h0
  · rw [if_neg h0]; exact k_Mo_makeKey1 l G oy r th fi se d sh sl az oh ol w0 w1 w2 f g m0 v1 b lv hbb hv h0 (hlv h0)
