/-! the tree; the cipher's key said by itself -/
def jKey (kh kl : Int64) : Nat → Int32 := (jKs (jKw kh kl (fun _ => 0)) 40).1
theorem jKs_cg (kh kl : Int64) (w w' : Nat → Int32) : ∀ n : Nat, (jKs (jKw kh kl w) n).2 = (jKs (jKw kh kl w') n).2 ∧ ∀ j, j < n + 4 → (jKs (jKw kh kl w) n).1 j = (jKs (jKw kh kl w') n).1 j
  | 0 => by
    refine ⟨rfl, fun j hj => ?_⟩
    show jKw kh kl w j = jKw kh kl w' j
    unfold jKw upd
    by_cases h3 : j = 3
    · simp [h3]
    by_cases h2 : j = 2
    · simp [h2]
    by_cases h1 : j = 1
    · simp [h1]
    by_cases h0 : j = 0
    · simp [h0]
    omega
  | n + 1 => by
    obtain ⟨h1, h2⟩ := jKs_cg kh kl w w' n
    show (jKst n (jKs (jKw kh kl w) n)).2 = (jKst n (jKs (jKw kh kl w') n)).2 ∧ ∀ j, j < n + 1 + 4 → (jKst n (jKs (jKw kh kl w) n)).1 j = (jKst n (jKs (jKw kh kl w') n)).1 j
    unfold jKst
    by_cases hm : n % 4 = 0
    · rw [if_pos hm, if_pos hm]
      refine ⟨by show jTwice _ = jTwice _; rw [h1], fun j hj => ?_⟩
      show upd _ _ _ j = upd _ _ _ j
      unfold upd
      by_cases hj2 : j = n + 4
      · rw [if_pos hj2, if_pos hj2, h1, h2 n (by omega), h2 (n + 3) (by omega)]
      · rw [if_neg hj2, if_neg hj2]; exact h2 j (by omega)
    · rw [if_neg hm, if_neg hm]
      refine ⟨h1, fun j hj => ?_⟩
      show upd _ _ _ j = upd _ _ _ j
      unfold upd
      by_cases hj2 : j = n + 4
      · rw [if_pos hj2, if_pos hj2, h2 n (by omega), h2 (n + 3) (by omega)]
      · rw [if_neg hj2, if_neg hj2]; exact h2 j (by omega)
theorem k_Ci_key (l : Launch) (G : gG) (oc ow : Nat) (w : Nat → Int32) (h0 l0 kh kl : Int64) : Ck l G yCi_setKey cCi_setKey 9 none { frames := 1, cells := 0, slots := 0, locals := 24 } [.ref oc, .long kh, .long kl] [oC oc 1 [.ref ow, .long h0, .long l0], aI G ow 44 w] none [oC oc 1 [.ref ow, .long h0, .long l0], aI G ow 44 (jKey kh kl)] :=
  (k_Ci_setKey l G oc ow w h0 l0 kh kl).imp id (fun _ h => h) (fun _ _ => rfl) (fun _ H _ h => ck_cg h 1 rfl (fun j hj => (jKs_cg kh kl w (fun _ => 0) 40).2 j hj))
/-- the cipher -/
def cE (kh kl ph pl : Int64) : Int64 × Int64 := (jEH (jKey kh kl) ph pl, jEL (jKey kh kl) ph pl)
theorem j2_all : ∀ d, d ≤ 8 → ish (nI 1) (nI d) = nI (2 ^ d) := by decide +kernel
def lbF (w v : Int32) : Nat → Nat → Int32
  | 0, _ => -1
  | k + 1, n => if isr w (nI n) = v then nI n else lbF w v k (n + 1)
/-- levelsBelow -/
def jLb (w v : Int32) : Int32 := lbF w v 9 0
def jSub (dp : Nat) (v w : Int32) : Bool := (decide (v = 0) && decide (w = 0)) || (!decide (v < nI 1) && (!decide (nI (2 * 2 ^ dp) ≤ w) && !decide (jLb w v < nI 1)))
def jDer (dp : Nat) (d v w : Int32) : Bool := jSub dp v w && (decide (v = 0) || (!decide (jLb (nI (2 ^ dp) + d) v < nI 1) && decide (jLb (nI (2 ^ dp) + d) w = -1)))
def jLa (dp : Nat) (x : Int32) : Int32 := x * nI dp - x * (x - nI 1) / nI 2
def lotF (dp : Nat) (k1 : Int32) : Nat → Nat → Int32
  | 0, n => nI n
  | f + 1, n => if nI (dp - 1) ≤ nI n then nI n else if k1 < jLa dp (nI (n + 1)) then nI n else lotF dp k1 f (n + 1)
def jLot (dp : Nat) (k1 : Int32) : Int32 := lotF dp k1 dp 0
def jTop (dp : Nat) (d k1 : Int32) : Int32 := isr (nI (2 ^ dp) + d) (nI dp - jLot dp k1)
def jFoot (dp : Nat) (d k1 : Int32) : Int32 := isr (nI (2 ^ dp) + d) (nI dp - (jLot dp k1 + nI 1 + k1 - jLa dp (jLot dp k1))) ^^^ nI 1
/-- the label of v, then down to w, lv levels below: n of them -/
def jLab (sh sl : Int64) (v w : Int32) (lv : Nat) : Nat → Int64 × Int64
  | 0 => cE sh sl (lN 0) v.toInt64
  | n + 1 => cE (jLab sh sl v w lv n).1 (jLab sh sl v w lv n).2 (lN 0) (nI 1 + (isr w (nI (lv - 1 - n)) &&& nI 1)).toInt64
def jKy (sh sl : Int64) (v w : Int32) (lv : Nat) : Int64 × Int64 := if v = 0 then cE sh sl (lN 0) (lN 0) else cE (jLab sh sl v w lv lv).1 (jLab sh sl v w lv lv).2 (lN 0) (lN 3)
set_option maxHeartbeats 4000000 in
set_option maxRecDepth 100000 in
theorem k_Tr_plant (l : Launch) (G : gG) (ot : Nat) (d0 d1 : Int32) (sh0 sl0 sh sl : Int64) : Ck l G yTr_plant cTr_plant 6 none { frames := 0, cells := 0, slots := 0, locals := 0 } [.ref ot, .int d1, .long sh, .long sl] [oC ot 6 [.int d0, .long sh0, .long sl0]] (none) [oC ot 6 [.int d1, .long sh, .long sl]] := by
  refine Cq.of (by decide) (Nat.le_of_ble_eq_true rfl) ?_
  intro p e s m args below meth c A ls hx hb hr hml hts hown hlk hA hP hD hG hS hl
  have hl : lv_has ls 6 [(0, .ref ot), (1, .int d1), (2, .long sh), (4, .long sl)] := hl
  refine lv_aload_n hx hb dTr_plant_0 rfl (lv_at hl 0 rfl) ?_
  refine lv_iload_n hx hb dTr_plant_1 rfl (lv_at hl 1 rfl) ?_
  refine pfTr_9 hx hb hts hown hG hP hD hS 0 rfl rfl rfl (Nat.le_of_ble_eq_true rfl) dTr_plant_2 (fun H locs hP hD hS => ?_)
  have hP : va_P G.1 vwCl [oC ot 6 [.int d1, .long sh0, .long sl0]] H := hP
  have hD : va_D A [oC ot 6 [.int d1, .long sh0, .long sl0]] := hD
  refine lv_aload_n hx hb dTr_plant_5 rfl (lv_at hl 0 rfl) ?_
  refine lv_lload_n hx hb dTr_plant_6 rfl (lv_at hl 2 rfl) ?_
  refine pfTr_15 hx hb hts hown hG hP hD hS 0 rfl rfl rfl (Nat.le_of_ble_eq_true rfl) dTr_plant_7 (fun H locs hP hD hS => ?_)
  have hP : va_P G.1 vwCl [oC ot 6 [.int d1, .long sh, .long sl0]] H := hP
  have hD : va_D A [oC ot 6 [.int d1, .long sh, .long sl0]] := hD
  refine lv_aload_n hx hb dTr_plant_10 rfl (lv_at hl 0 rfl) ?_
  refine lv_lload hx hb dTr_plant_11 (lv_at hl 3 rfl) ?_
  refine pfTr_19 hx hb hts hown hG hP hD hS 0 rfl rfl rfl (Nat.le_of_ble_eq_true rfl) dTr_plant_13 (fun H locs hP hD hS => ?_)
  have hP : va_P G.1 vwCl [oC ot 6 [.int d1, .long sh, .long sl]] H := hP
  have hD : va_D A [oC ot 6 [.int d1, .long sh, .long sl]] := hD
  exact cq_vret () (trivial) hx hb hr hlk hP hS rfl (rfl) dTr_plant_16
set_option maxHeartbeats 4000000 in
set_option maxRecDepth 100000 in
theorem k_Tr_leaves (l : Launch) (G : gG) (ot dp : Nat) (hdp : dp ≤ 8) (sh sl : Int64) : Ck l G yTr_leaves cTr_leaves 1 (some .int) { frames := 0, cells := 0, slots := 0, locals := 0 } [.ref ot] [oC ot 6 [.int (nI dp), .long sh, .long sl]] (some (.int (nI (2 ^ dp)))) [oC ot 6 [.int (nI dp), .long sh, .long sl]] := by
  refine Cq.of (by decide) (Nat.le_of_ble_eq_true rfl) ?_
  intro p e s m args below meth c A ls hx hb hr hml hts hown hlk hA hP hD hG hS hl
  have hl : lv_has ls 1 [(0, .ref ot)] := hl
  refine lv_iconst (v := nI 1) hx hb dTr_leaves_0 (by decide) ?_
  refine lv_aload_n hx hb dTr_leaves_1 rfl (lv_at hl 0 rfl) ?_
  refine gfTr_9 hx hb hts hown hG hP 0 rfl rfl dTr_leaves_2 ?_
  refine lv_ishl hx hb dTr_leaves_5 ?_
  refine ck_ri (y := nI (2 ^ dp)) (j2_all dp hdp) ?_
  exact cq_iret () (trivial) hx hb hr hlk hP hS (rfl) (rfl) dTr_leaves_6
set_option maxHeartbeats 4000000 in
set_option maxRecDepth 100000 in
theorem k_Tr_labelsEach (l : Launch) (G : gG) (ot dp : Nat) (hdp : dp ≤ 8) (sh sl : Int64) : Ck l G yTr_labelsEach cTr_labelsEach 1 (some .int) { frames := 0, cells := 0, slots := 0, locals := 0 } [.ref ot] [oC ot 6 [.int (nI dp), .long sh, .long sl]] (some (.int (nI (dp * (dp + 1) / 2)))) [oC ot 6 [.int (nI dp), .long sh, .long sl]] := by
  refine Cq.of (by decide) (Nat.le_of_ble_eq_true rfl) ?_
  intro p e s m args below meth c A ls hx hb hr hml hts hown hlk hA hP hD hG hS hl
  have hl : lv_has ls 1 [(0, .ref ot)] := hl
  refine lv_aload_n hx hb dTr_labelsEach_0 rfl (lv_at hl 0 rfl) ?_
  refine gfTr_9 hx hb hts hown hG hP 0 rfl rfl dTr_labelsEach_1 ?_
  refine lv_aload_n hx hb dTr_labelsEach_4 rfl (lv_at hl 0 rfl) ?_
  refine gfTr_9 hx hb hts hown hG hP 0 rfl rfl dTr_labelsEach_5 ?_
  refine lv_iconst (v := nI 1) hx hb dTr_labelsEach_8 (by decide) ?_
  refine lv_iadd hx hb dTr_labelsEach_9 ?_
  refine lv_imul hx hb dTr_labelsEach_10 ?_
  refine lv_iconst (v := nI 2) hx hb dTr_labelsEach_11 (by decide) ?_
  refine lv_idiv hx hb dTr_labelsEach_12 (by decide) ?_
  refine ck_ri (y := nI (dp * (dp + 1) / 2)) (by rw [nI_add, pk_mul]; exact pk_div (by have := Nat.mul_le_mul hdp (Nat.add_le_add_right hdp 1); omega) (by omega) (by omega)) ?_
  exact cq_iret () (trivial) hx hb hr hlk hP hS (rfl) (rfl) dTr_labelsEach_13
set_option maxHeartbeats 4000000 in
set_option maxRecDepth 100000 in
theorem k_Tr_levelsBelow (l : Launch) (G : gG) (w1 v1 : Int32) : Ck l G yTr_levelsBelow cTr_levelsBelow 3 (some .int) { frames := 0, cells := 0, slots := 0, locals := 0 } [.int w1, .int v1] [] (some (.int (jLb w1 v1))) [] := by
  refine Cq.of (by decide) (Nat.le_of_ble_eq_true rfl) ?_
  intro p e s m args below meth c A ls hx hb hr hml hts hown hlk hA hP hD hG hS hl
  have hl : lv_has ls 3 [(0, .int w1), (1, .int v1)] := hl
  refine lv_iconst (v := nI 0) hx hb dTr_levelsBelow_0 (by decide) ?_
  refine lv_istore_n (lv' := [(2, .int (nI 0)), (0, .int w1), (1, .int v1)]) hx hb dTr_levelsBelow_1 rfl hl (by decide) rfl (fun ls hl => ?_)
  have loop : ∀ (k : Nat) (n : Nat) (H : Heap) (locs : List Loc) (ls : Array Slot), n + k = 9 → jLb w1 v1 = lbF w1 v1 k n → va_P G.1 vwCl [] H → va_D A [] → va_S A s.heap H locs → lv_has ls 3 [(0, .int w1), (1, .int v1), (2, .int (nI n))] → W p l e { frames := 0, cells := 0, slots := 0, locals := 0 } s m args below meth c H locs 0 0 (MQ below (cq_out G (S := Unit) (fun _ => True) (fun _ => (some (.int (jLb w1 v1)))) (fun _ => []) A) args s 0 0 A) (F0 m 2 ls []) := by
    intro k
    induction k with
    | zero =>
      intro n H locs ls hk hq hP hD hS hl
      refine lv_iload_n hx hb dTr_levelsBelow_2 rfl (lv_at hl 2 rfl) ?_
      refine lv_bipush (v := nI 8) hx hb dTr_levelsBelow_3 (by decide) ?_
      refine lv_icmp_gt (tgt := 23) hx hb dTr_levelsBelow_5 rfl (fun _ => ?_) (fun h => absurd (nI_lt (by omega) (by omega)) h)
      refine lv_iconst (v := (-1)) hx hb dTr_levelsBelow_23 (by decide) ?_
      exact cq_iret () (trivial) hx hb hr hlk hP hS (by rw [hq]; rfl) (rfl) dTr_levelsBelow_24
    | succ k ih =>
      intro n H locs ls hk hq hP hD hS hl
      refine lv_iload_n hx hb dTr_levelsBelow_2 rfl (lv_at hl 2 rfl) ?_
      refine lv_bipush (v := nI 8) hx hb dTr_levelsBelow_3 (by decide) ?_
      refine lv_icmp_gt (tgt := 23) hx hb dTr_levelsBelow_5 rfl (fun h => absurd h (nI_nlt (by omega) (by omega))) (fun _ => ?_)
      refine lv_iload_n hx hb dTr_levelsBelow_8 rfl (lv_at hl 0 rfl) ?_
      refine lv_iload_n hx hb dTr_levelsBelow_9 rfl (lv_at hl 2 rfl) ?_
      refine lv_ishr hx hb dTr_levelsBelow_10 ?_
      refine lv_iload_n hx hb dTr_levelsBelow_11 rfl (lv_at hl 1 rfl) ?_
      refine lv_icmp_ne (tgt := 17) hx hb dTr_levelsBelow_12 rfl (fun h9 => ?_) (fun h9 => ?_)
      · have b_h9 := decide_eq_false h9
        refine lv_iinc (v := nI (n + 1)) (lv' := [(2, .int (nI (n + 1))), (0, .int w1), (1, .int v1)]) hx hb dTr_levelsBelow_17 hl (k := 2) rfl (nI_1 n) (by decide) rfl (fun ls hl => ?_)
        refine lv_goto (tgt := 2) hx hb dTr_levelsBelow_20 rfl ?_
        exact ih (n + 1) _ _ _ (by omega) (hq.trans (if_neg h9)) hP hD hS (lv_sub hl [1, 2, 0] rfl)
      · have b_h9 := decide_eq_true h9
        refine lv_iload_n hx hb dTr_levelsBelow_15 rfl (lv_at hl 2 rfl) ?_
        exact cq_iret () (trivial) hx hb hr hlk hP hS (congrArg (fun z => some (Value.int z)) (hq.trans (if_pos h9)).symm) (rfl) dTr_levelsBelow_16
  exact loop 9 0 _ _ _ (by omega) rfl hP hD hS (lv_sub hl [1, 2, 0] rfl)
set_option maxHeartbeats 4000000 in
set_option maxRecDepth 100000 in
theorem k_Tr_isSubset (l : Launch) (G : gG) (ot dp : Nat) (hdp : dp ≤ 8) (sh sl : Int64) (v1 w1 : Int32) : Ck l G yTr_isSubset cTr_isSubset 3 (some .boolean) { frames := 1, cells := 0, slots := 0, locals := 22 } [.ref ot, .int v1, .int w1] [oC ot 6 [.int (nI dp), .long sh, .long sl]] (some (.int (jB (jSub dp v1 w1)))) [oC ot 6 [.int (nI dp), .long sh, .long sl]] := by
  refine Cq.of (by decide) (Nat.le_of_ble_eq_true rfl) ?_
  intro p e s m args below meth c A ls hx hb hr hml hts hown hlk hA hP hD hG hS hl
  have hl : lv_has ls 3 [(0, .ref ot), (1, .int v1), (2, .int w1)] := hl
  refine lv_iload_n hx hb dTr_isSubset_0 rfl (lv_at hl 1 rfl) ?_
  refine lv_if_ne (tgt := 10) hx hb dTr_isSubset_1 rfl (fun h1 => ?_) (fun h1 => ?_)
  · have b_h1 := decide_eq_false h1
    refine lv_iload_n hx hb dTr_isSubset_10 rfl (lv_at hl 1 rfl) ?_
    refine lv_iconst (v := nI 1) hx hb dTr_isSubset_11 (by decide) ?_
    refine lv_icmp_lt (tgt := 38) hx hb dTr_isSubset_12 rfl (fun h3 => ?_) (fun h3 => ?_)
    · have b_h3 := decide_eq_true h3
      refine lv_iconst (v := nI 0) hx hb dTr_isSubset_38 (by decide) ?_
      exact cq_zret () (trivial) hx hb hr hlk hP hS (rfl) (by rw [show jSub dp v1 w1 = false by simp only [jSub, b_h1, b_h3, Bool.and_true, Bool.and_false, Bool.true_and, Bool.false_and, Bool.or_true, Bool.or_false, Bool.true_or, Bool.false_or, Bool.not_true, Bool.not_false]]; rfl) (rfl) dTr_isSubset_39
    · have b_h3 := decide_eq_false h3
      refine lv_iload_n hx hb dTr_isSubset_15 rfl (lv_at hl 2 rfl) ?_
      refine lv_iconst (v := nI 2) hx hb dTr_isSubset_16 (by decide) ?_
      refine lv_aload_n hx hb dTr_isSubset_17 rfl (lv_at hl 0 rfl) ?_
      refine clTr_22 (As := []) (rest := [.int (nI 2), .int w1]) hx hb hml hown hts (k_Tr_leaves l G ot dp hdp sh sl) hG hA hP hD hS 0 rfl [0] rfl rfl (fun _ => rfl) rfl hl.1 rfl (Nat.le_of_ble_eq_true rfl) ⟨by decide, by decide⟩ ⟨by decide, by decide⟩ dTr_isSubset_18 (fun _ H locs _ hP hD hS => ?_)
      have hP : va_P G.1 vwCl [oC ot 6 [.int (nI dp), .long sh, .long sl]] H := hP
      have hD : va_D A [oC ot 6 [.int (nI dp), .long sh, .long sl]] := hD
      refine W.cs (cells' := 0) (slots' := 0) rfl rfl ?_
      refine W.eq (g2 := F0 m 21 ls [.int (nI (2 ^ dp)), .int (nI 2), .int w1]) rfl ?_
      refine lv_imul hx hb dTr_isSubset_21 ?_
      refine ck_ri (y := nI (2 * 2 ^ dp)) (pk_mul 2 _) ?_
      refine lv_icmp_ge (tgt := 38) hx hb dTr_isSubset_22 rfl (fun h4 => ?_) (fun h4 => ?_)
      · have b_h4 := decide_eq_true h4
        refine lv_iconst (v := nI 0) hx hb dTr_isSubset_38 (by decide) ?_
        exact cq_zret () (trivial) hx hb hr hlk hP hS (rfl) (by rw [show jSub dp v1 w1 = false by simp only [jSub, b_h1, b_h3, b_h4, Bool.and_true, Bool.and_false, Bool.true_and, Bool.false_and, Bool.or_true, Bool.or_false, Bool.true_or, Bool.false_or, Bool.not_true, Bool.not_false]]; rfl) (rfl) dTr_isSubset_39
      · have b_h4 := decide_eq_false h4
        refine lv_iload_n hx hb dTr_isSubset_25 rfl (lv_at hl 2 rfl) ?_
        refine lv_iload_n hx hb dTr_isSubset_26 rfl (lv_at hl 1 rfl) ?_
        refine clTr_26 (As := [.int w1, .int v1]) (rest := []) hx hb hml hown hts (k_Tr_levelsBelow l G w1 v1) hG hA hP hD hS [] rfl rfl (fun _ => rfl) rfl hl.1 rfl (Nat.le_of_ble_eq_true rfl) ⟨by decide, by decide⟩ ⟨by decide, by decide⟩ dTr_isSubset_27 (fun _ H locs _ hP hD hS => ?_)
        have hP : va_P G.1 vwCl [oC ot 6 [.int (nI dp), .long sh, .long sl]] H := hP
        have hD : va_D A [oC ot 6 [.int (nI dp), .long sh, .long sl]] := hD
        refine W.cs (cells' := 0) (slots' := 0) rfl rfl ?_
        refine W.eq (g2 := F0 m 30 ls [.int (jLb w1 v1)]) rfl ?_
        refine lv_iconst (v := nI 1) hx hb dTr_isSubset_30 (by decide) ?_
        refine lv_icmp_lt (tgt := 38) hx hb dTr_isSubset_31 rfl (fun h5 => ?_) (fun h5 => ?_)
        · have b_h5 := decide_eq_true h5
          refine lv_iconst (v := nI 0) hx hb dTr_isSubset_38 (by decide) ?_
          exact cq_zret () (trivial) hx hb hr hlk hP hS (rfl) (by rw [show jSub dp v1 w1 = false by simp only [jSub, b_h1, b_h3, b_h4, b_h5, Bool.and_true, Bool.and_false, Bool.true_and, Bool.false_and, Bool.or_true, Bool.or_false, Bool.true_or, Bool.false_or, Bool.not_true, Bool.not_false]]; rfl) (rfl) dTr_isSubset_39
        · have b_h5 := decide_eq_false h5
          refine lv_iconst (v := nI 1) hx hb dTr_isSubset_34 (by decide) ?_
          refine lv_goto (tgt := 39) hx hb dTr_isSubset_35 rfl ?_
          exact cq_zret () (trivial) hx hb hr hlk hP hS (rfl) (by rw [show jSub dp v1 w1 = true by simp only [jSub, b_h1, b_h3, b_h4, b_h5, Bool.and_true, Bool.and_false, Bool.true_and, Bool.false_and, Bool.or_true, Bool.or_false, Bool.true_or, Bool.false_or, Bool.not_true, Bool.not_false]]; rfl) (rfl) dTr_isSubset_39
  · have b_h1 := decide_eq_true h1
    refine lv_iload_n hx hb dTr_isSubset_4 rfl (lv_at hl 2 rfl) ?_
    refine lv_if_ne (tgt := 10) hx hb dTr_isSubset_5 rfl (fun h2 => ?_) (fun h2 => ?_)
    · have b_h2 := decide_eq_false h2
      refine lv_iload_n hx hb dTr_isSubset_10 rfl (lv_at hl 1 rfl) ?_
      refine lv_iconst (v := nI 1) hx hb dTr_isSubset_11 (by decide) ?_
      refine lv_icmp_lt (tgt := 38) hx hb dTr_isSubset_12 rfl (fun h3 => ?_) (fun h3 => ?_)
      · have b_h3 := decide_eq_true h3
        refine lv_iconst (v := nI 0) hx hb dTr_isSubset_38 (by decide) ?_
        exact cq_zret () (trivial) hx hb hr hlk hP hS (rfl) (by rw [show jSub dp v1 w1 = false by simp only [jSub, b_h1, b_h2, b_h3, Bool.and_true, Bool.and_false, Bool.true_and, Bool.false_and, Bool.or_true, Bool.or_false, Bool.true_or, Bool.false_or, Bool.not_true, Bool.not_false]]; rfl) (rfl) dTr_isSubset_39
      · have b_h3 := decide_eq_false h3
        refine lv_iload_n hx hb dTr_isSubset_15 rfl (lv_at hl 2 rfl) ?_
        refine lv_iconst (v := nI 2) hx hb dTr_isSubset_16 (by decide) ?_
        refine lv_aload_n hx hb dTr_isSubset_17 rfl (lv_at hl 0 rfl) ?_
        refine clTr_22 (As := []) (rest := [.int (nI 2), .int w1]) hx hb hml hown hts (k_Tr_leaves l G ot dp hdp sh sl) hG hA hP hD hS 0 rfl [0] rfl rfl (fun _ => rfl) rfl hl.1 rfl (Nat.le_of_ble_eq_true rfl) ⟨by decide, by decide⟩ ⟨by decide, by decide⟩ dTr_isSubset_18 (fun _ H locs _ hP hD hS => ?_)
        have hP : va_P G.1 vwCl [oC ot 6 [.int (nI dp), .long sh, .long sl]] H := hP
        have hD : va_D A [oC ot 6 [.int (nI dp), .long sh, .long sl]] := hD
        refine W.cs (cells' := 0) (slots' := 0) rfl rfl ?_
        refine W.eq (g2 := F0 m 21 ls [.int (nI (2 ^ dp)), .int (nI 2), .int w1]) rfl ?_
        refine lv_imul hx hb dTr_isSubset_21 ?_
        refine ck_ri (y := nI (2 * 2 ^ dp)) (pk_mul 2 _) ?_
        refine lv_icmp_ge (tgt := 38) hx hb dTr_isSubset_22 rfl (fun h4 => ?_) (fun h4 => ?_)
        · have b_h4 := decide_eq_true h4
          refine lv_iconst (v := nI 0) hx hb dTr_isSubset_38 (by decide) ?_
          exact cq_zret () (trivial) hx hb hr hlk hP hS (rfl) (by rw [show jSub dp v1 w1 = false by simp only [jSub, b_h1, b_h2, b_h3, b_h4, Bool.and_true, Bool.and_false, Bool.true_and, Bool.false_and, Bool.or_true, Bool.or_false, Bool.true_or, Bool.false_or, Bool.not_true, Bool.not_false]]; rfl) (rfl) dTr_isSubset_39
        · have b_h4 := decide_eq_false h4
          refine lv_iload_n hx hb dTr_isSubset_25 rfl (lv_at hl 2 rfl) ?_
          refine lv_iload_n hx hb dTr_isSubset_26 rfl (lv_at hl 1 rfl) ?_
          refine clTr_26 (As := [.int w1, .int v1]) (rest := []) hx hb hml hown hts (k_Tr_levelsBelow l G w1 v1) hG hA hP hD hS [] rfl rfl (fun _ => rfl) rfl hl.1 rfl (Nat.le_of_ble_eq_true rfl) ⟨by decide, by decide⟩ ⟨by decide, by decide⟩ dTr_isSubset_27 (fun _ H locs _ hP hD hS => ?_)
          have hP : va_P G.1 vwCl [oC ot 6 [.int (nI dp), .long sh, .long sl]] H := hP
          have hD : va_D A [oC ot 6 [.int (nI dp), .long sh, .long sl]] := hD
          refine W.cs (cells' := 0) (slots' := 0) rfl rfl ?_
          refine W.eq (g2 := F0 m 30 ls [.int (jLb w1 v1)]) rfl ?_
          refine lv_iconst (v := nI 1) hx hb dTr_isSubset_30 (by decide) ?_
          refine lv_icmp_lt (tgt := 38) hx hb dTr_isSubset_31 rfl (fun h5 => ?_) (fun h5 => ?_)
          · have b_h5 := decide_eq_true h5
            refine lv_iconst (v := nI 0) hx hb dTr_isSubset_38 (by decide) ?_
            exact cq_zret () (trivial) hx hb hr hlk hP hS (rfl) (by rw [show jSub dp v1 w1 = false by simp only [jSub, b_h1, b_h2, b_h3, b_h4, b_h5, Bool.and_true, Bool.and_false, Bool.true_and, Bool.false_and, Bool.or_true, Bool.or_false, Bool.true_or, Bool.false_or, Bool.not_true, Bool.not_false]]; rfl) (rfl) dTr_isSubset_39
          · have b_h5 := decide_eq_false h5
            refine lv_iconst (v := nI 1) hx hb dTr_isSubset_34 (by decide) ?_
            refine lv_goto (tgt := 39) hx hb dTr_isSubset_35 rfl ?_
            exact cq_zret () (trivial) hx hb hr hlk hP hS (rfl) (by rw [show jSub dp v1 w1 = true by simp only [jSub, b_h1, b_h2, b_h3, b_h4, b_h5, Bool.and_true, Bool.and_false, Bool.true_and, Bool.false_and, Bool.or_true, Bool.or_false, Bool.true_or, Bool.false_or, Bool.not_true, Bool.not_false]]; rfl) (rfl) dTr_isSubset_39
    · have b_h2 := decide_eq_true h2
      refine lv_iconst (v := nI 1) hx hb dTr_isSubset_8 (by decide) ?_
      exact cq_zret () (trivial) hx hb hr hlk hP hS (rfl) (by rw [show jSub dp v1 w1 = true by simp only [jSub, b_h1, b_h2, Bool.and_true, Bool.and_false, Bool.true_and, Bool.false_and, Bool.or_true, Bool.or_false, Bool.true_or, Bool.false_or, Bool.not_true, Bool.not_false]]; rfl) (rfl) dTr_isSubset_9
set_option maxHeartbeats 4000000 in
set_option maxRecDepth 100000 in
theorem k_Tr_derives (l : Launch) (G : gG) (ot dp : Nat) (hdp : dp ≤ 8) (sh sl : Int64) (d1 v1 w1 : Int32) : Ck l G yTr_derives cTr_derives 5 (some .boolean) { frames := 2, cells := 0, slots := 0, locals := 44 } [.ref ot, .int d1, .int v1, .int w1] [oC ot 6 [.int (nI dp), .long sh, .long sl]] (some (.int (jB (jDer dp d1 v1 w1)))) [oC ot 6 [.int (nI dp), .long sh, .long sl]] := by
  refine Cq.of (by decide) (Nat.le_of_ble_eq_true rfl) ?_
  intro p e s m args below meth c A ls hx hb hr hml hts hown hlk hA hP hD hG hS hl
  have hl : lv_has ls 5 [(0, .ref ot), (1, .int d1), (2, .int v1), (3, .int w1)] := hl
  refine lv_aload_n hx hb dTr_derives_0 rfl (lv_at hl 0 rfl) ?_
  refine lv_iload_n hx hb dTr_derives_1 rfl (lv_at hl 2 rfl) ?_
  refine lv_iload_n hx hb dTr_derives_2 rfl (lv_at hl 3 rfl) ?_
  refine clTr_30 (As := [.int v1, .int w1]) (rest := []) hx hb hml hown hts (k_Tr_isSubset l G ot dp hdp sh sl v1 w1) hG hA hP hD hS 0 rfl [0] rfl rfl (fun _ => rfl) rfl hl.1 rfl (Nat.le_of_ble_eq_true rfl) ⟨by decide, by decide⟩ ⟨by decide, by decide⟩ dTr_derives_3 (fun _ H locs _ hP hD hS => ?_)
  have hP : va_P G.1 vwCl [oC ot 6 [.int (nI dp), .long sh, .long sl]] H := hP
  have hD : va_D A [oC ot 6 [.int (nI dp), .long sh, .long sl]] := hD
  refine W.cs (cells' := 0) (slots' := 0) rfl rfl ?_
  refine W.eq (g2 := F0 m 6 ls [.int (jB (jSub dp v1 w1))]) rfl ?_
  refine lv_if_ne (tgt := 11) hx hb dTr_derives_6 rfl (fun h0 => ?_) (fun h0 => ?_)
  · have h1 : jSub dp v1 w1 = true := (jB_n0 _).mp h0
    refine lv_aload_n hx hb dTr_derives_11 rfl (lv_at hl 0 rfl) ?_
    refine clTr_22 (As := []) (rest := []) hx hb hml hown hts (k_Tr_leaves l G ot dp hdp sh sl) hG hA hP hD hS 0 rfl [0] rfl rfl (fun _ => rfl) rfl hl.1 rfl (Nat.le_of_ble_eq_true rfl) ⟨by decide, by decide⟩ ⟨by decide, by decide⟩ dTr_derives_12 (fun _ H locs _ hP hD hS => ?_)
    have hP : va_P G.1 vwCl [oC ot 6 [.int (nI dp), .long sh, .long sl]] H := hP
    have hD : va_D A [oC ot 6 [.int (nI dp), .long sh, .long sl]] := hD
    refine W.cs (cells' := 0) (slots' := 0) rfl rfl ?_
    refine W.eq (g2 := F0 m 15 ls [.int (nI (2 ^ dp))]) rfl ?_
    refine lv_iload_n hx hb dTr_derives_15 rfl (lv_at hl 1 rfl) ?_
    refine lv_iadd hx hb dTr_derives_16 ?_
    refine lv_istore (lv' := [(4, .int ((nI (2 ^ dp)) + d1)), (0, .ref ot), (1, .int d1), (2, .int v1), (3, .int w1)]) hx hb dTr_derives_17 hl (by decide) rfl (fun ls hl => ?_)
    refine lv_iload_n hx hb dTr_derives_19 rfl (lv_at hl 3 rfl) ?_
    refine lv_if_eq (tgt := 43) hx hb dTr_derives_20 rfl (fun h2 => ?_) (fun h2 => ?_)
    · have b_h2 := decide_eq_true h2
      refine lv_iconst (v := nI 1) hx hb dTr_derives_43 (by decide) ?_
      refine lv_goto (tgt := 48) hx hb dTr_derives_44 rfl ?_
      exact cq_zret () (trivial) hx hb hr hlk hP hS (rfl) (by rw [show jDer dp d1 v1 w1 = true by simp only [jDer, h1, b_h2, Bool.and_true, Bool.and_false, Bool.true_and, Bool.false_and, Bool.or_true, Bool.or_false, Bool.true_or, Bool.false_or, Bool.not_true, Bool.not_false]]; rfl) (rfl) dTr_derives_48
    · have b_h2 := decide_eq_false h2
      refine lv_iload hx hb dTr_derives_23 (lv_at hl 0 rfl) ?_
      refine lv_iload_n hx hb dTr_derives_25 rfl (lv_at hl 3 rfl) ?_
      refine clTr_26 (As := [.int ((nI (2 ^ dp)) + d1), .int v1]) (rest := []) hx hb hml hown hts (k_Tr_levelsBelow l G ((nI (2 ^ dp)) + d1) v1) hG hA hP hD hS [] rfl rfl (fun _ => rfl) rfl hl.1 rfl (Nat.le_of_ble_eq_true rfl) ⟨by decide, by decide⟩ ⟨by decide, by decide⟩ dTr_derives_26 (fun _ H locs _ hP hD hS => ?_)
      have hP : va_P G.1 vwCl [oC ot 6 [.int (nI dp), .long sh, .long sl]] H := hP
      have hD : va_D A [oC ot 6 [.int (nI dp), .long sh, .long sl]] := hD
      refine W.cs (cells' := 0) (slots' := 0) rfl rfl ?_
      refine W.eq (g2 := F0 m 29 ls [.int (jLb ((nI (2 ^ dp)) + d1) v1)]) rfl ?_
      refine lv_iconst (v := nI 1) hx hb dTr_derives_29 (by decide) ?_
      refine lv_icmp_lt (tgt := 47) hx hb dTr_derives_30 rfl (fun h3 => ?_) (fun h3 => ?_)
      · have b_h3 := decide_eq_true h3
        refine lv_iconst (v := nI 0) hx hb dTr_derives_47 (by decide) ?_
        exact cq_zret () (trivial) hx hb hr hlk hP hS (rfl) (by rw [show jDer dp d1 v1 w1 = false by simp only [jDer, h1, b_h2, b_h3, Bool.and_true, Bool.and_false, Bool.true_and, Bool.false_and, Bool.or_true, Bool.or_false, Bool.true_or, Bool.false_or, Bool.not_true, Bool.not_false]]; rfl) (rfl) dTr_derives_48
      · have b_h3 := decide_eq_false h3
        refine lv_iload hx hb dTr_derives_33 (lv_at hl 0 rfl) ?_
        refine lv_iload_n hx hb dTr_derives_35 rfl (lv_at hl 4 rfl) ?_
        refine clTr_26 (As := [.int ((nI (2 ^ dp)) + d1), .int w1]) (rest := []) hx hb hml hown hts (k_Tr_levelsBelow l G ((nI (2 ^ dp)) + d1) w1) hG hA hP hD hS [] rfl rfl (fun _ => rfl) rfl hl.1 rfl (Nat.le_of_ble_eq_true rfl) ⟨by decide, by decide⟩ ⟨by decide, by decide⟩ dTr_derives_36 (fun _ H locs _ hP hD hS => ?_)
        have hP : va_P G.1 vwCl [oC ot 6 [.int (nI dp), .long sh, .long sl]] H := hP
        have hD : va_D A [oC ot 6 [.int (nI dp), .long sh, .long sl]] := hD
        refine W.cs (cells' := 0) (slots' := 0) rfl rfl ?_
        refine W.eq (g2 := F0 m 39 ls [.int (jLb ((nI (2 ^ dp)) + d1) w1)]) rfl ?_
        refine lv_iconst (v := (-1)) hx hb dTr_derives_39 (by decide) ?_
        refine lv_icmp_ne (tgt := 47) hx hb dTr_derives_40 rfl (fun h4 => ?_) (fun h4 => ?_)
        · have b_h4 := decide_eq_false h4
          refine lv_iconst (v := nI 0) hx hb dTr_derives_47 (by decide) ?_
          exact cq_zret () (trivial) hx hb hr hlk hP hS (rfl) (by rw [show jDer dp d1 v1 w1 = false by simp only [jDer, h1, b_h2, b_h3, b_h4, Bool.and_true, Bool.and_false, Bool.true_and, Bool.false_and, Bool.or_true, Bool.or_false, Bool.true_or, Bool.false_or, Bool.not_true, Bool.not_false]]; rfl) (rfl) dTr_derives_48
        · have b_h4 := decide_eq_true h4
          refine lv_iconst (v := nI 1) hx hb dTr_derives_43 (by decide) ?_
          refine lv_goto (tgt := 48) hx hb dTr_derives_44 rfl ?_
          exact cq_zret () (trivial) hx hb hr hlk hP hS (rfl) (by rw [show jDer dp d1 v1 w1 = true by simp only [jDer, h1, b_h2, b_h3, b_h4, Bool.and_true, Bool.and_false, Bool.true_and, Bool.false_and, Bool.or_true, Bool.or_false, Bool.true_or, Bool.false_or, Bool.not_true, Bool.not_false]]; rfl) (rfl) dTr_derives_48
  · have h1 : jSub dp v1 w1 = false := (jB_0 _).mp h0
    refine lv_iconst (v := nI 0) hx hb dTr_derives_9 (by decide) ?_
    exact cq_zret () (trivial) hx hb hr hlk hP hS (rfl) (by rw [show jDer dp d1 v1 w1 = false by simp only [jDer, h1, Bool.and_true, Bool.and_false, Bool.true_and, Bool.false_and, Bool.or_true, Bool.or_false, Bool.true_or, Bool.false_or, Bool.not_true, Bool.not_false]]; rfl) (rfl) dTr_derives_10
set_option maxHeartbeats 4000000 in
set_option maxRecDepth 100000 in
theorem k_Tr_labelsAbove (l : Launch) (G : gG) (ot dp : Nat) (sh sl : Int64) (x1 : Int32) : Ck l G yTr_labelsAbove cTr_labelsAbove 2 (some .int) { frames := 0, cells := 0, slots := 0, locals := 0 } [.ref ot, .int x1] [oC ot 6 [.int (nI dp), .long sh, .long sl]] (some (.int (jLa dp x1))) [oC ot 6 [.int (nI dp), .long sh, .long sl]] := by
  refine Cq.of (by decide) (Nat.le_of_ble_eq_true rfl) ?_
  intro p e s m args below meth c A ls hx hb hr hml hts hown hlk hA hP hD hG hS hl
  have hl : lv_has ls 2 [(0, .ref ot), (1, .int x1)] := hl
  refine lv_iload_n hx hb dTr_labelsAbove_0 rfl (lv_at hl 1 rfl) ?_
  refine lv_aload_n hx hb dTr_labelsAbove_1 rfl (lv_at hl 0 rfl) ?_
  refine gfTr_9 hx hb hts hown hG hP 0 rfl rfl dTr_labelsAbove_2 ?_
  refine lv_imul hx hb dTr_labelsAbove_5 ?_
  refine lv_iload_n hx hb dTr_labelsAbove_6 rfl (lv_at hl 1 rfl) ?_
  refine lv_iload_n hx hb dTr_labelsAbove_7 rfl (lv_at hl 1 rfl) ?_
  refine lv_iconst (v := nI 1) hx hb dTr_labelsAbove_8 (by decide) ?_
  refine lv_isub hx hb dTr_labelsAbove_9 ?_
  refine lv_imul hx hb dTr_labelsAbove_10 ?_
  refine lv_iconst (v := nI 2) hx hb dTr_labelsAbove_11 (by decide) ?_
  refine lv_idiv hx hb dTr_labelsAbove_12 (by decide) ?_
  refine lv_isub hx hb dTr_labelsAbove_13 ?_
  exact cq_iret () (trivial) hx hb hr hlk hP hS (rfl) (rfl) dTr_labelsAbove_14
set_option maxHeartbeats 4000000 in
set_option maxRecDepth 100000 in
theorem k_Tr_levelOfTop (l : Launch) (G : gG) (ot dp : Nat) (hdp : dp ≤ 8) (hd1 : 1 ≤ dp) (sh sl : Int64) (k1 : Int32) : Ck l G yTr_levelOfTop cTr_levelOfTop 3 (some .int) { frames := 1, cells := 0, slots := 0, locals := 21 } [.ref ot, .int k1] [oC ot 6 [.int (nI dp), .long sh, .long sl]] (some (.int (jLot dp k1))) [oC ot 6 [.int (nI dp), .long sh, .long sl]] := by
  refine Cq.of (by decide) (Nat.le_of_ble_eq_true rfl) ?_
  intro p e s m args below meth c A ls hx hb hr hml hts hown hlk hA hP hD hG hS hl
  have hl : lv_has ls 3 [(0, .ref ot), (1, .int k1)] := hl
  refine lv_iconst (v := nI 0) hx hb dTr_levelOfTop_0 (by decide) ?_
  refine lv_istore_n (lv' := [(2, .int (nI 0)), (0, .ref ot), (1, .int k1)]) hx hb dTr_levelOfTop_1 rfl hl (by decide) rfl (fun ls hl => ?_)
  have loop : ∀ (k : Nat) (n : Nat) (H : Heap) (locs : List Loc) (ls : Array Slot), n + k = dp → jLot dp k1 = lotF dp k1 k n → va_P G.1 vwCl [oC ot 6 [.int (nI dp), .long sh, .long sl]] H → va_D A [oC ot 6 [.int (nI dp), .long sh, .long sl]] → va_S A s.heap H locs → lv_has ls 3 [(0, .ref ot), (1, .int k1), (2, .int (nI n))] → W p l e { frames := 1, cells := 0, slots := 0, locals := 21 } s m args below meth c H locs 0 0 (MQ below (cq_out G (S := Unit) (fun _ => True) (fun _ => (some (.int (jLot dp k1)))) (fun _ => [oC ot 6 [.int (nI dp), .long sh, .long sl]]) A) args s 0 0 A) (F0 m 2 ls []) := by
    intro k
    induction k with
    | zero =>
      intro n H locs ls hk hq hP hD hS hl
      refine lv_iload_n hx hb dTr_levelOfTop_2 rfl (lv_at hl 2 rfl) ?_
      refine lv_aload_n hx hb dTr_levelOfTop_3 rfl (lv_at hl 0 rfl) ?_
      refine gfTr_9 hx hb hts hown hG hP 0 rfl rfl dTr_levelOfTop_4 ?_
      refine lv_iconst (v := nI 1) hx hb dTr_levelOfTop_7 (by decide) ?_
      refine lv_isub hx hb dTr_levelOfTop_8 ?_
      refine ck_ri (y := nI (dp - 1)) (pk_sub (by omega)) ?_
      refine lv_icmp_ge (tgt := 29) hx hb dTr_levelOfTop_9 rfl (fun _ => ?_) (fun h => absurd (nI_le (by omega) (by omega)) h)
      refine lv_iload_n hx hb dTr_levelOfTop_29 rfl (lv_at hl 2 rfl) ?_
      exact cq_iret () (trivial) hx hb hr hlk hP hS (by rw [hq]; rfl) (rfl) dTr_levelOfTop_30
    | succ k ih =>
      intro n H locs ls hk hq hP hD hS hl
      refine lv_iload_n hx hb dTr_levelOfTop_2 rfl (lv_at hl 2 rfl) ?_
      refine lv_aload_n hx hb dTr_levelOfTop_3 rfl (lv_at hl 0 rfl) ?_
      refine gfTr_9 hx hb hts hown hG hP 0 rfl rfl dTr_levelOfTop_4 ?_
      refine lv_iconst (v := nI 1) hx hb dTr_levelOfTop_7 (by decide) ?_
      refine lv_isub hx hb dTr_levelOfTop_8 ?_
      refine ck_ri (y := nI (dp - 1)) (pk_sub (by omega)) ?_
      refine lv_icmp_ge (tgt := 29) hx hb dTr_levelOfTop_9 rfl (fun h8 => ?_) (fun h8 => ?_)
      · have b_h8 := decide_eq_true h8
        refine lv_iload_n hx hb dTr_levelOfTop_29 rfl (lv_at hl 2 rfl) ?_
        exact cq_iret () (trivial) hx hb hr hlk hP hS (congrArg (fun z => some (Value.int z)) (hq.trans (if_pos h8)).symm) (rfl) dTr_levelOfTop_30
      · have b_h8 := decide_eq_false h8
        refine lv_iload_n hx hb dTr_levelOfTop_12 rfl (lv_at hl 1 rfl) ?_
        refine lv_aload_n hx hb dTr_levelOfTop_13 rfl (lv_at hl 0 rfl) ?_
        refine lv_iload_n hx hb dTr_levelOfTop_14 rfl (lv_at hl 2 rfl) ?_
        refine lv_iconst (v := nI 1) hx hb dTr_levelOfTop_15 (by decide) ?_
        refine lv_iadd hx hb dTr_levelOfTop_16 ?_
        refine ck_ri (y := nI (n + 1)) (nI_add n 1) ?_
        refine clTr_38 (As := [.int (nI (n + 1))]) (rest := [.int k1]) hx hb hml hown hts (k_Tr_labelsAbove l G ot dp sh sl (nI (n + 1))) hG hA hP hD hS 0 rfl [0] rfl rfl (fun _ => rfl) rfl hl.1 rfl (Nat.le_of_ble_eq_true rfl) ⟨by decide, by decide⟩ ⟨by decide, by decide⟩ dTr_levelOfTop_17 (fun _ H locs _ hP hD hS => ?_)
        have hP : va_P G.1 vwCl [oC ot 6 [.int (nI dp), .long sh, .long sl]] H := hP
        have hD : va_D A [oC ot 6 [.int (nI dp), .long sh, .long sl]] := hD
        refine W.cs (cells' := 0) (slots' := 0) rfl rfl ?_
        refine W.eq (g2 := F0 m 20 ls [.int (jLa dp (nI (n + 1))), .int k1]) rfl ?_
        refine lv_icmp_lt (tgt := 29) hx hb dTr_levelOfTop_20 rfl (fun h9 => ?_) (fun h9 => ?_)
        · have b_h9 := decide_eq_true h9
          refine lv_iload_n hx hb dTr_levelOfTop_29 rfl (lv_at hl 2 rfl) ?_
          exact cq_iret () (trivial) hx hb hr hlk hP hS (congrArg (fun z => some (Value.int z)) (hq.trans ((if_neg h8).trans (if_pos h9))).symm) (rfl) dTr_levelOfTop_30
        · have b_h9 := decide_eq_false h9
          refine lv_iinc (v := nI (n + 1)) (lv' := [(2, .int (nI (n + 1))), (0, .ref ot), (1, .int k1)]) hx hb dTr_levelOfTop_23 hl (k := 2) rfl (nI_1 n) (by decide) rfl (fun ls hl => ?_)
          refine lv_goto (tgt := 2) hx hb dTr_levelOfTop_26 rfl ?_
          exact ih (n + 1) _ _ _ (by omega) (hq.trans ((if_neg h8).trans (if_neg h9))) hP hD hS (lv_sub hl [1, 2, 0] rfl)
  exact loop dp 0 _ _ _ (by omega) rfl hP hD hS (lv_sub hl [1, 2, 0] rfl)
set_option maxHeartbeats 4000000 in
set_option maxRecDepth 100000 in
theorem k_Tr_labelTop (l : Launch) (G : gG) (ot dp : Nat) (hdp : dp ≤ 8) (hd1 : 1 ≤ dp) (sh sl : Int64) (d1 k1 : Int32) : Ck l G yTr_labelTop cTr_labelTop 3 (some .int) { frames := 2, cells := 0, slots := 0, locals := 43 } [.ref ot, .int d1, .int k1] [oC ot 6 [.int (nI dp), .long sh, .long sl]] (some (.int (jTop dp d1 k1))) [oC ot 6 [.int (nI dp), .long sh, .long sl]] := by
  refine Cq.of (by decide) (Nat.le_of_ble_eq_true rfl) ?_
  intro p e s m args below meth c A ls hx hb hr hml hts hown hlk hA hP hD hG hS hl
  have hl : lv_has ls 3 [(0, .ref ot), (1, .int d1), (2, .int k1)] := hl
  refine lv_aload_n hx hb dTr_labelTop_0 rfl (lv_at hl 0 rfl) ?_
  refine clTr_22 (As := []) (rest := []) hx hb hml hown hts (k_Tr_leaves l G ot dp hdp sh sl) hG hA hP hD hS 0 rfl [0] rfl rfl (fun _ => rfl) rfl hl.1 rfl (Nat.le_of_ble_eq_true rfl) ⟨by decide, by decide⟩ ⟨by decide, by decide⟩ dTr_labelTop_1 (fun _ H locs _ hP hD hS => ?_)
  have hP : va_P G.1 vwCl [oC ot 6 [.int (nI dp), .long sh, .long sl]] H := hP
  have hD : va_D A [oC ot 6 [.int (nI dp), .long sh, .long sl]] := hD
  refine W.cs (cells' := 0) (slots' := 0) rfl rfl ?_
  refine W.eq (g2 := F0 m 4 ls [.int (nI (2 ^ dp))]) rfl ?_
  refine lv_iload_n hx hb dTr_labelTop_4 rfl (lv_at hl 1 rfl) ?_
  refine lv_iadd hx hb dTr_labelTop_5 ?_
  refine lv_aload_n hx hb dTr_labelTop_6 rfl (lv_at hl 0 rfl) ?_
  refine gfTr_9 hx hb hts hown hG hP 0 rfl rfl dTr_labelTop_7 ?_
  refine lv_aload_n hx hb dTr_labelTop_10 rfl (lv_at hl 0 rfl) ?_
  refine lv_iload_n hx hb dTr_labelTop_11 rfl (lv_at hl 2 rfl) ?_
  refine clTr_34 (As := [.int k1]) (rest := [.int (nI dp), .int ((nI (2 ^ dp)) + d1)]) hx hb hml hown hts (k_Tr_levelOfTop l G ot dp hdp hd1 sh sl k1) hG hA hP hD hS 0 rfl [0] rfl rfl (fun _ => rfl) rfl hl.1 rfl (Nat.le_of_ble_eq_true rfl) ⟨by decide, by decide⟩ ⟨by decide, by decide⟩ dTr_labelTop_12 (fun _ H locs _ hP hD hS => ?_)
  have hP : va_P G.1 vwCl [oC ot 6 [.int (nI dp), .long sh, .long sl]] H := hP
  have hD : va_D A [oC ot 6 [.int (nI dp), .long sh, .long sl]] := hD
  refine W.cs (cells' := 0) (slots' := 0) rfl rfl ?_
  refine W.eq (g2 := F0 m 15 ls [.int (jLot dp k1), .int (nI dp), .int ((nI (2 ^ dp)) + d1)]) rfl ?_
  refine lv_isub hx hb dTr_labelTop_15 ?_
  refine lv_ishr hx hb dTr_labelTop_16 ?_
  exact cq_iret () (trivial) hx hb hr hlk hP hS (rfl) (rfl) dTr_labelTop_17
set_option maxHeartbeats 4000000 in
set_option maxRecDepth 100000 in
theorem k_Tr_labelFoot (l : Launch) (G : gG) (ot dp : Nat) (hdp : dp ≤ 8) (hd1 : 1 ≤ dp) (sh sl : Int64) (d1 k1 : Int32) : Ck l G yTr_labelFoot cTr_labelFoot 5 (some .int) { frames := 2, cells := 0, slots := 0, locals := 43 } [.ref ot, .int d1, .int k1] [oC ot 6 [.int (nI dp), .long sh, .long sl]] (some (.int (jFoot dp d1 k1))) [oC ot 6 [.int (nI dp), .long sh, .long sl]] := by
  refine Cq.of (by decide) (Nat.le_of_ble_eq_true rfl) ?_
  intro p e s m args below meth c A ls hx hb hr hml hts hown hlk hA hP hD hG hS hl
  have hl : lv_has ls 5 [(0, .ref ot), (1, .int d1), (2, .int k1)] := hl
  refine lv_aload_n hx hb dTr_labelFoot_0 rfl (lv_at hl 0 rfl) ?_
  refine lv_iload_n hx hb dTr_labelFoot_1 rfl (lv_at hl 2 rfl) ?_
  refine clTr_34 (As := [.int k1]) (rest := []) hx hb hml hown hts (k_Tr_levelOfTop l G ot dp hdp hd1 sh sl k1) hG hA hP hD hS 0 rfl [0] rfl rfl (fun _ => rfl) rfl hl.1 rfl (Nat.le_of_ble_eq_true rfl) ⟨by decide, by decide⟩ ⟨by decide, by decide⟩ dTr_labelFoot_2 (fun _ H locs _ hP hD hS => ?_)
  have hP : va_P G.1 vwCl [oC ot 6 [.int (nI dp), .long sh, .long sl]] H := hP
  have hD : va_D A [oC ot 6 [.int (nI dp), .long sh, .long sl]] := hD
  refine W.cs (cells' := 0) (slots' := 0) rfl rfl ?_
  refine W.eq (g2 := F0 m 5 ls [.int (jLot dp k1)]) rfl ?_
  refine lv_istore_n (lv' := [(3, .int (jLot dp k1)), (0, .ref ot), (1, .int d1), (2, .int k1)]) hx hb dTr_labelFoot_5 rfl hl (by decide) rfl (fun ls hl => ?_)
  refine lv_iload_n hx hb dTr_labelFoot_6 rfl (lv_at hl 0 rfl) ?_
  refine lv_iconst (v := nI 1) hx hb dTr_labelFoot_7 (by decide) ?_
  refine lv_iadd hx hb dTr_labelFoot_8 ?_
  refine lv_iload_n hx hb dTr_labelFoot_9 rfl (lv_at hl 3 rfl) ?_
  refine lv_iadd hx hb dTr_labelFoot_10 ?_
  refine lv_aload_n hx hb dTr_labelFoot_11 rfl (lv_at hl 1 rfl) ?_
  refine lv_iload_n hx hb dTr_labelFoot_12 rfl (lv_at hl 0 rfl) ?_
  refine clTr_38 (As := [.int (jLot dp k1)]) (rest := [.int (((jLot dp k1) + (nI 1)) + k1)]) hx hb hml hown hts (k_Tr_labelsAbove l G ot dp sh sl (jLot dp k1)) hG hA hP hD hS 0 rfl [0] rfl rfl (fun _ => rfl) rfl hl.1 rfl (Nat.le_of_ble_eq_true rfl) ⟨by decide, by decide⟩ ⟨by decide, by decide⟩ dTr_labelFoot_13 (fun _ H locs _ hP hD hS => ?_)
  have hP : va_P G.1 vwCl [oC ot 6 [.int (nI dp), .long sh, .long sl]] H := hP
  have hD : va_D A [oC ot 6 [.int (nI dp), .long sh, .long sl]] := hD
  refine W.cs (cells' := 0) (slots' := 0) rfl rfl ?_
  refine W.eq (g2 := F0 m 16 ls [.int (jLa dp (jLot dp k1)), .int (((jLot dp k1) + (nI 1)) + k1)]) rfl ?_
  refine lv_isub hx hb dTr_labelFoot_16 ?_
  refine lv_istore (lv' := [(4, .int ((((jLot dp k1) + (nI 1)) + k1) - (jLa dp (jLot dp k1)))), (3, .int (jLot dp k1)), (0, .ref ot), (1, .int d1), (2, .int k1)]) hx hb dTr_labelFoot_17 hl (by decide) rfl (fun ls hl => ?_)
  refine lv_aload_n hx hb dTr_labelFoot_19 rfl (lv_at hl 2 rfl) ?_
  refine clTr_22 (As := []) (rest := []) hx hb hml hown hts (k_Tr_leaves l G ot dp hdp sh sl) hG hA hP hD hS 0 rfl [0] rfl rfl (fun _ => rfl) rfl hl.1 rfl (Nat.le_of_ble_eq_true rfl) ⟨by decide, by decide⟩ ⟨by decide, by decide⟩ dTr_labelFoot_20 (fun _ H locs _ hP hD hS => ?_)
  have hP : va_P G.1 vwCl [oC ot 6 [.int (nI dp), .long sh, .long sl]] H := hP
  have hD : va_D A [oC ot 6 [.int (nI dp), .long sh, .long sl]] := hD
  refine W.cs (cells' := 0) (slots' := 0) rfl rfl ?_
  refine W.eq (g2 := F0 m 23 ls [.int (nI (2 ^ dp))]) rfl ?_
  refine lv_iload_n hx hb dTr_labelFoot_23 rfl (lv_at hl 3 rfl) ?_
  refine lv_iadd hx hb dTr_labelFoot_24 ?_
  refine lv_aload_n hx hb dTr_labelFoot_25 rfl (lv_at hl 2 rfl) ?_
  refine gfTr_9 hx hb hts hown hG hP 0 rfl rfl dTr_labelFoot_26 ?_
  refine lv_iload hx hb dTr_labelFoot_29 (lv_at hl 0 rfl) ?_
  refine lv_isub hx hb dTr_labelFoot_31 ?_
  refine lv_ishr hx hb dTr_labelFoot_32 ?_
  refine lv_iconst (v := nI 1) hx hb dTr_labelFoot_33 (by decide) ?_
  refine lv_ixor hx hb dTr_labelFoot_34 ?_
  exact cq_iret () (trivial) hx hb hr hlk hP hS (rfl) (rfl) dTr_labelFoot_35
set_option maxHeartbeats 4000000 in
set_option maxRecDepth 100000 in
theorem k_Tr_findLabel (l : Launch) (G : gG) (ot oc ow dp : Nat) (sh sl e0 f0 : Int64) (g : Nat → Int32) (v1 w1 : Int32) (lv : Nat) (hv : lv ≤ 8) (hlv : jLb w1 v1 = nI lv) : Cq l G yTr_findLabel cTr_findLabel 5 none { frames := 3, cells := 0, slots := 0, locals := 76 } [.ref ot, .ref oc, .int v1, .int w1] [oC ot 6 [.int (nI dp), .long sh, .long sl], oC oc 1 [.ref ow, .long e0, .long f0], aI G ow 44 g] (S := Nat → Int32) (fun _ => True) (fun u => none) (fun u => [oC ot 6 [.int (nI dp), .long sh, .long sl], oC oc 1 [.ref ow, .long ((jLab sh sl v1 w1 lv lv).1), .long ((jLab sh sl v1 w1 lv lv).2)], aI G ow 44 u]) := by
  refine Cq.of (by decide) (Nat.le_of_ble_eq_true rfl) ?_
  intro p e s m args below meth c A ls hx hb hr hml hts hown hlk hA hP hD hG hS hl
  have hl : lv_has ls 5 [(0, .ref ot), (1, .ref oc), (2, .int v1), (3, .int w1)] := hl
  refine lv_aload_n hx hb dTr_findLabel_0 rfl (lv_at hl 1 rfl) ?_
  refine lv_aload_n hx hb dTr_findLabel_1 rfl (lv_at hl 0 rfl) ?_
  refine gfTr_15 hx hb hts hown hG hP 0 rfl rfl dTr_findLabel_2 ?_
  refine lv_aload_n hx hb dTr_findLabel_5 rfl (lv_at hl 0 rfl) ?_
  refine gfTr_19 hx hb hts hown hG hP 0 rfl rfl dTr_findLabel_6 ?_
  refine clTr_41 (As := [.long sh, .long sl]) (rest := []) hx hb hml hown hts (k_Ci_key l G oc ow g e0 f0 sh sl) hG hA hP hD hS 1 rfl [1, 2] rfl rfl (fun _ => rfl) rfl hl.1 rfl (Nat.le_of_ble_eq_true rfl) ⟨by decide, by decide⟩ ⟨by decide, by decide⟩ dTr_findLabel_9 (fun _ H locs _ hP hD hS => ?_)
  have hP : va_P G.1 vwCl [oC ot 6 [.int (nI dp), .long sh, .long sl], oC oc 1 [.ref ow, .long e0, .long f0], aI G ow 44 (jKey sh sl)] H := hP
  have hD : va_D A [oC ot 6 [.int (nI dp), .long sh, .long sl], oC oc 1 [.ref ow, .long e0, .long f0], aI G ow 44 (jKey sh sl)] := hD
  refine W.cs (cells' := 0) (slots' := 0) rfl rfl ?_
  refine W.eq (g2 := F0 m 12 ls []) rfl ?_
  refine lv_aload_n hx hb dTr_findLabel_12 rfl (lv_at hl 1 rfl) ?_
  refine lv_lconst (v := lN 0) hx hb dTr_findLabel_13 (by decide) ?_
  refine lv_iload_n hx hb dTr_findLabel_14 rfl (lv_at hl 2 rfl) ?_
  refine lv_i2l (v := v1.toInt64) hx hb dTr_findLabel_15 rfl ?_
  refine clTr_47 (As := [.long (lN 0), .long v1.toInt64]) (rest := []) hx hb hml hown hts (k_Ci_encrypt l G oc ow (jKey sh sl) e0 f0 (lN 0) v1.toInt64) hG hA hP hD hS 1 rfl [1, 2] rfl rfl (fun _ => rfl) rfl hl.1 rfl (Nat.le_of_ble_eq_true rfl) ⟨by decide, by decide⟩ ⟨by decide, by decide⟩ dTr_findLabel_16 (fun _ H locs _ hP hD hS => ?_)
  have hP : va_P G.1 vwCl [oC ot 6 [.int (nI dp), .long sh, .long sl], oC oc 1 [.ref ow, .long ((cE sh sl (lN 0) v1.toInt64).1), .long ((cE sh sl (lN 0) v1.toInt64).2)], aI G ow 44 (jKey sh sl)] H := hP
  have hD : va_D A [oC ot 6 [.int (nI dp), .long sh, .long sl], oC oc 1 [.ref ow, .long ((cE sh sl (lN 0) v1.toInt64).1), .long ((cE sh sl (lN 0) v1.toInt64).2)], aI G ow 44 (jKey sh sl)] := hD
  refine W.cs (cells' := 0) (slots' := 0) rfl rfl ?_
  refine W.eq (g2 := F0 m 19 ls []) rfl ?_
  refine lv_iload_n hx hb dTr_findLabel_19 rfl (lv_at hl 3 rfl) ?_
  refine lv_iload_n hx hb dTr_findLabel_20 rfl (lv_at hl 2 rfl) ?_
  refine clTr_26 (As := [.int w1, .int v1]) (rest := []) hx hb hml hown hts (k_Tr_levelsBelow l G w1 v1) hG hA hP hD hS [] rfl rfl (fun _ => rfl) rfl hl.1 rfl (Nat.le_of_ble_eq_true rfl) ⟨by decide, by decide⟩ ⟨by decide, by decide⟩ dTr_findLabel_21 (fun _ H locs _ hP hD hS => ?_)
  have hP : va_P G.1 vwCl [oC ot 6 [.int (nI dp), .long sh, .long sl], oC oc 1 [.ref ow, .long ((cE sh sl (lN 0) v1.toInt64).1), .long ((cE sh sl (lN 0) v1.toInt64).2)], aI G ow 44 (jKey sh sl)] H := hP
  have hD : va_D A [oC ot 6 [.int (nI dp), .long sh, .long sl], oC oc 1 [.ref ow, .long ((cE sh sl (lN 0) v1.toInt64).1), .long ((cE sh sl (lN 0) v1.toInt64).2)], aI G ow 44 (jKey sh sl)] := hD
  refine W.cs (cells' := 0) (slots' := 0) rfl rfl ?_
  refine W.eq (g2 := F0 m 24 ls [.int (jLb w1 v1)]) rfl ?_
  refine ck_ri (y := nI lv) (hlv) ?_
  refine lv_iconst (v := nI 1) hx hb dTr_findLabel_24 (by decide) ?_
  refine lv_isub hx hb dTr_findLabel_25 ?_
  refine ck_ri (y := jm1 lv) (jm1_sub lv) ?_
  refine lv_istore (lv' := [(4, .int (jm1 lv)), (0, .ref ot), (1, .ref oc), (2, .int v1), (3, .int w1)]) hx hb dTr_findLabel_26 hl (by decide) rfl (fun ls hl => ?_)
  have loop : ∀ (k : Nat) (n : Nat) (g1 : Nat → Int32) (H : Heap) (locs : List Loc) (ls : Array Slot), n + k = lv → va_P G.1 vwCl [oC ot 6 [.int (nI dp), .long sh, .long sl], oC oc 1 [.ref ow, .long ((jLab sh sl v1 w1 lv n).1), .long ((jLab sh sl v1 w1 lv n).2)], aI G ow 44 g1] H → va_D A [oC ot 6 [.int (nI dp), .long sh, .long sl], oC oc 1 [.ref ow, .long ((jLab sh sl v1 w1 lv n).1), .long ((jLab sh sl v1 w1 lv n).2)], aI G ow 44 g1] → va_S A s.heap H locs → lv_has ls 5 [(0, .ref ot), (1, .ref oc), (3, .int w1), (4, .int (jm1 k))] → W p l e { frames := 3, cells := 0, slots := 0, locals := 76 } s m args below meth c H locs 0 0 (MQ below (cq_out G (S := Nat → Int32) (fun _ => True) (fun u => none) (fun u => [oC ot 6 [.int (nI dp), .long sh, .long sl], oC oc 1 [.ref ow, .long ((jLab sh sl v1 w1 lv lv).1), .long ((jLab sh sl v1 w1 lv lv).2)], aI G ow 44 u]) A) args s 0 0 A) (F0 m 28 ls []) := by
    intro k
    induction k with
    | zero =>
      intro n g1 H locs ls hk hP hD hS hl
      have hl : lv_has ls 5 [(0, .ref ot), (1, .ref oc), (3, .int w1), (4, .int (-1))] := hl
      refine lv_iload hx hb dTr_findLabel_28 (lv_at hl 3 rfl) ?_
      refine lv_if_lt (tgt := 65) hx hb dTr_findLabel_30 rfl (fun _ => ?_) (fun h => absurd (by decide) h)
      exact cq_vret g1 (trivial) hx hb hr hlk hP hS rfl (by rw [show n = lv by omega]) dTr_findLabel_65
    | succ k ih =>
      intro n g1 H locs ls hk hP hD hS hl
      have hl : lv_has ls 5 [(0, .ref ot), (1, .ref oc), (3, .int w1), (4, .int (nI k))] := hl
      refine lv_iload hx hb dTr_findLabel_28 (lv_at hl 3 rfl) ?_
      refine lv_if_lt (tgt := 65) hx hb dTr_findLabel_30 rfl (fun h => absurd h (nI_pos (by omega))) (fun _ => ?_)
      refine lv_aload_n hx hb dTr_findLabel_33 rfl (lv_at hl 1 rfl) ?_
      refine lv_aload_n hx hb dTr_findLabel_34 rfl (lv_at hl 1 rfl) ?_
      refine gfTr_50 hx hb hts hown hG hP 1 rfl rfl dTr_findLabel_35 ?_
      refine lv_aload_n hx hb dTr_findLabel_38 rfl (lv_at hl 1 rfl) ?_
      refine gfTr_53 hx hb hts hown hG hP 1 rfl rfl dTr_findLabel_39 ?_
      refine clTr_41 (As := [.long ((jLab sh sl v1 w1 lv n).1), .long ((jLab sh sl v1 w1 lv n).2)]) (rest := []) hx hb hml hown hts (k_Ci_key l G oc ow g1 ((jLab sh sl v1 w1 lv n).1) ((jLab sh sl v1 w1 lv n).2) ((jLab sh sl v1 w1 lv n).1) ((jLab sh sl v1 w1 lv n).2)) hG hA hP hD hS 1 rfl [1, 2] rfl rfl (fun _ => rfl) rfl hl.1 rfl (Nat.le_of_ble_eq_true rfl) ⟨by decide, by decide⟩ ⟨by decide, by decide⟩ dTr_findLabel_42 (fun _ H locs _ hP hD hS => ?_)
      have hP : va_P G.1 vwCl [oC ot 6 [.int (nI dp), .long sh, .long sl], oC oc 1 [.ref ow, .long ((jLab sh sl v1 w1 lv n).1), .long ((jLab sh sl v1 w1 lv n).2)], aI G ow 44 (jKey ((jLab sh sl v1 w1 lv n).1) ((jLab sh sl v1 w1 lv n).2))] H := hP
      have hD : va_D A [oC ot 6 [.int (nI dp), .long sh, .long sl], oC oc 1 [.ref ow, .long ((jLab sh sl v1 w1 lv n).1), .long ((jLab sh sl v1 w1 lv n).2)], aI G ow 44 (jKey ((jLab sh sl v1 w1 lv n).1) ((jLab sh sl v1 w1 lv n).2))] := hD
      refine W.cs (cells' := 0) (slots' := 0) rfl rfl ?_
      refine W.eq (g2 := F0 m 45 ls []) rfl ?_
      refine lv_aload_n hx hb dTr_findLabel_45 rfl (lv_at hl 1 rfl) ?_
      refine lv_lconst (v := lN 0) hx hb dTr_findLabel_46 (by decide) ?_
      refine lv_iconst (v := nI 1) hx hb dTr_findLabel_47 (by decide) ?_
      refine lv_iload_n hx hb dTr_findLabel_48 rfl (lv_at hl 2 rfl) ?_
      refine lv_iload hx hb dTr_findLabel_49 (lv_at hl 3 rfl) ?_
      refine lv_ishr hx hb dTr_findLabel_51 ?_
      refine lv_iconst (v := nI 1) hx hb dTr_findLabel_52 (by decide) ?_
      refine lv_iand hx hb dTr_findLabel_53 ?_
      refine lv_iadd hx hb dTr_findLabel_54 ?_
      refine lv_i2l (v := ((nI 1) + ((isr w1 (nI k)) &&& (nI 1))).toInt64) hx hb dTr_findLabel_55 rfl ?_
      refine clTr_47 (As := [.long (lN 0), .long (((nI 1) + ((isr w1 (nI k)) &&& (nI 1))).toInt64)]) (rest := []) hx hb hml hown hts (k_Ci_encrypt l G oc ow (jKey ((jLab sh sl v1 w1 lv n).1) ((jLab sh sl v1 w1 lv n).2)) ((jLab sh sl v1 w1 lv n).1) ((jLab sh sl v1 w1 lv n).2) (lN 0) (((nI 1) + ((isr w1 (nI k)) &&& (nI 1))).toInt64)) hG hA hP hD hS 1 rfl [1, 2] rfl rfl (fun _ => rfl) rfl hl.1 rfl (Nat.le_of_ble_eq_true rfl) ⟨by decide, by decide⟩ ⟨by decide, by decide⟩ dTr_findLabel_56 (fun _ H locs _ hP hD hS => ?_)
      have hP : va_P G.1 vwCl [oC ot 6 [.int (nI dp), .long sh, .long sl], oC oc 1 [.ref ow, .long ((cE ((jLab sh sl v1 w1 lv n).1) ((jLab sh sl v1 w1 lv n).2) (lN 0) (((nI 1) + ((isr w1 (nI k)) &&& (nI 1))).toInt64)).1), .long ((cE ((jLab sh sl v1 w1 lv n).1) ((jLab sh sl v1 w1 lv n).2) (lN 0) (((nI 1) + ((isr w1 (nI k)) &&& (nI 1))).toInt64)).2)], aI G ow 44 (jKey ((jLab sh sl v1 w1 lv n).1) ((jLab sh sl v1 w1 lv n).2))] H := hP
      have hD : va_D A [oC ot 6 [.int (nI dp), .long sh, .long sl], oC oc 1 [.ref ow, .long ((cE ((jLab sh sl v1 w1 lv n).1) ((jLab sh sl v1 w1 lv n).2) (lN 0) (((nI 1) + ((isr w1 (nI k)) &&& (nI 1))).toInt64)).1), .long ((cE ((jLab sh sl v1 w1 lv n).1) ((jLab sh sl v1 w1 lv n).2) (lN 0) (((nI 1) + ((isr w1 (nI k)) &&& (nI 1))).toInt64)).2)], aI G ow 44 (jKey ((jLab sh sl v1 w1 lv n).1) ((jLab sh sl v1 w1 lv n).2))] := hD
      refine W.cs (cells' := 0) (slots' := 0) rfl rfl ?_
      refine W.eq (g2 := F0 m 59 ls []) rfl ?_
      refine lv_iinc (v := jm1 k) (lv' := [(4, .int (jm1 k)), (0, .ref ot), (1, .ref oc), (3, .int w1)]) hx hb dTr_findLabel_59 hl (k := 3) rfl (jm1_dec k) (by decide) rfl (fun ls hl => ?_)
      refine lv_goto (tgt := 28) hx hb dTr_findLabel_62 rfl ?_
      have e1 : jLab sh sl v1 w1 lv (n + 1) = cE (jLab sh sl v1 w1 lv n).1 (jLab sh sl v1 w1 lv n).2 (lN 0) (nI 1 + (isr w1 (nI k) &&& nI 1)).toInt64 := by rw [jLab, show lv - 1 - n = k by omega]
      exact ih (n + 1) _ _ _ _ (by omega) (by rw [e1]; exact hP) (by rw [e1]; exact hD) hS (lv_sub hl [1, 2, 3, 0] rfl)
  exact loop lv 0 _ _ _ _ (by omega) hP hD hS (lv_sub hl [1, 2, 4, 0] rfl)
set_option maxHeartbeats 4000000 in
set_option maxRecDepth 100000 in
theorem k_Tr_findKey (l : Launch) (G : gG) (ot oc ow dp : Nat) (sh sl e0 f0 : Int64) (g : Nat → Int32) (v1 w1 : Int32) (lv : Nat) (hv : lv ≤ 8) (hlv : ¬ v1 = 0 → jLb w1 v1 = nI lv) : Cq l G yTr_findKey cTr_findKey 4 none { frames := 4, cells := 0, slots := 0, locals := 100 } [.ref ot, .ref oc, .int v1, .int w1] [oC ot 6 [.int (nI dp), .long sh, .long sl], oC oc 1 [.ref ow, .long e0, .long f0], aI G ow 44 g] (S := Nat → Int32) (fun _ => True) (fun u => none) (fun u => [oC ot 6 [.int (nI dp), .long sh, .long sl], oC oc 1 [.ref ow, .long ((jKy sh sl v1 w1 lv).1), .long ((jKy sh sl v1 w1 lv).2)], aI G ow 44 u]) := by
  refine Cq.of (by decide) (Nat.le_of_ble_eq_true rfl) ?_
  intro p e s m args below meth c A ls hx hb hr hml hts hown hlk hA hP hD hG hS hl
  have hl : lv_has ls 4 [(0, .ref ot), (1, .ref oc), (2, .int v1), (3, .int w1)] := hl
  refine lv_iload_n hx hb dTr_findKey_0 rfl (lv_at hl 2 rfl) ?_
  refine lv_if_ne (tgt := 25) hx hb dTr_findKey_1 rfl (fun h1 => ?_) (fun h1 => ?_)
  · have b_h1 := decide_eq_false h1
    refine lv_aload_n hx hb dTr_findKey_25 rfl (lv_at hl 0 rfl) ?_
    refine lv_aload_n hx hb dTr_findKey_26 rfl (lv_at hl 1 rfl) ?_
    refine lv_iload_n hx hb dTr_findKey_27 rfl (lv_at hl 2 rfl) ?_
    refine lv_iload_n hx hb dTr_findKey_28 rfl (lv_at hl 3 rfl) ?_
    refine clTr_56 (As := [.ref oc, .int v1, .int w1]) (rest := []) hx hb hml hown hts (k_Tr_findLabel l G ot oc ow dp sh sl e0 f0 g v1 w1 lv hv (hlv h1)) hG hA hP hD hS 0 rfl [0, 1, 2] rfl rfl (fun _ => rfl) rfl hl.1 rfl (Nat.le_of_ble_eq_true rfl) ⟨by decide, by decide⟩ ⟨by decide, by decide⟩ dTr_findKey_29 (fun g1 H locs _ hP hD hS => ?_)
    have hP : va_P G.1 vwCl [oC ot 6 [.int (nI dp), .long sh, .long sl], oC oc 1 [.ref ow, .long ((jLab sh sl v1 w1 lv lv).1), .long ((jLab sh sl v1 w1 lv lv).2)], aI G ow 44 g1] H := hP
    have hD : va_D A [oC ot 6 [.int (nI dp), .long sh, .long sl], oC oc 1 [.ref ow, .long ((jLab sh sl v1 w1 lv lv).1), .long ((jLab sh sl v1 w1 lv lv).2)], aI G ow 44 g1] := hD
    refine W.cs (cells' := 0) (slots' := 0) rfl rfl ?_
    refine W.eq (g2 := F0 m 32 ls []) rfl ?_
    refine lv_aload_n hx hb dTr_findKey_32 rfl (lv_at hl 1 rfl) ?_
    refine lv_aload_n hx hb dTr_findKey_33 rfl (lv_at hl 1 rfl) ?_
    refine gfTr_50 hx hb hts hown hG hP 1 rfl rfl dTr_findKey_34 ?_
    refine lv_aload_n hx hb dTr_findKey_37 rfl (lv_at hl 1 rfl) ?_
    refine gfTr_53 hx hb hts hown hG hP 1 rfl rfl dTr_findKey_38 ?_
    refine clTr_41 (As := [.long ((jLab sh sl v1 w1 lv lv).1), .long ((jLab sh sl v1 w1 lv lv).2)]) (rest := []) hx hb hml hown hts (k_Ci_key l G oc ow g1 ((jLab sh sl v1 w1 lv lv).1) ((jLab sh sl v1 w1 lv lv).2) ((jLab sh sl v1 w1 lv lv).1) ((jLab sh sl v1 w1 lv lv).2)) hG hA hP hD hS 1 rfl [1, 2] rfl rfl (fun _ => rfl) rfl hl.1 rfl (Nat.le_of_ble_eq_true rfl) ⟨by decide, by decide⟩ ⟨by decide, by decide⟩ dTr_findKey_41 (fun _ H locs _ hP hD hS => ?_)
    have hP : va_P G.1 vwCl [oC ot 6 [.int (nI dp), .long sh, .long sl], oC oc 1 [.ref ow, .long ((jLab sh sl v1 w1 lv lv).1), .long ((jLab sh sl v1 w1 lv lv).2)], aI G ow 44 (jKey ((jLab sh sl v1 w1 lv lv).1) ((jLab sh sl v1 w1 lv lv).2))] H := hP
    have hD : va_D A [oC ot 6 [.int (nI dp), .long sh, .long sl], oC oc 1 [.ref ow, .long ((jLab sh sl v1 w1 lv lv).1), .long ((jLab sh sl v1 w1 lv lv).2)], aI G ow 44 (jKey ((jLab sh sl v1 w1 lv lv).1) ((jLab sh sl v1 w1 lv lv).2))] := hD
    refine W.cs (cells' := 0) (slots' := 0) rfl rfl ?_
    refine W.eq (g2 := F0 m 44 ls []) rfl ?_
    refine lv_aload_n hx hb dTr_findKey_44 rfl (lv_at hl 1 rfl) ?_
    refine lv_lconst (v := lN 0) hx hb dTr_findKey_45 (by decide) ?_
    refine lv_ldc2 (v := lN 3) hx hb hown (hts _ kkTr_60) dTr_findKey_46 ?_
    refine clTr_47 (As := [.long (lN 0), .long (lN 3)]) (rest := []) hx hb hml hown hts (k_Ci_encrypt l G oc ow (jKey ((jLab sh sl v1 w1 lv lv).1) ((jLab sh sl v1 w1 lv lv).2)) ((jLab sh sl v1 w1 lv lv).1) ((jLab sh sl v1 w1 lv lv).2) (lN 0) (lN 3)) hG hA hP hD hS 1 rfl [1, 2] rfl rfl (fun _ => rfl) rfl hl.1 rfl (Nat.le_of_ble_eq_true rfl) ⟨by decide, by decide⟩ ⟨by decide, by decide⟩ dTr_findKey_49 (fun _ H locs _ hP hD hS => ?_)
    have hP : va_P G.1 vwCl [oC ot 6 [.int (nI dp), .long sh, .long sl], oC oc 1 [.ref ow, .long ((cE ((jLab sh sl v1 w1 lv lv).1) ((jLab sh sl v1 w1 lv lv).2) (lN 0) (lN 3)).1), .long ((cE ((jLab sh sl v1 w1 lv lv).1) ((jLab sh sl v1 w1 lv lv).2) (lN 0) (lN 3)).2)], aI G ow 44 (jKey ((jLab sh sl v1 w1 lv lv).1) ((jLab sh sl v1 w1 lv lv).2))] H := hP
    have hD : va_D A [oC ot 6 [.int (nI dp), .long sh, .long sl], oC oc 1 [.ref ow, .long ((cE ((jLab sh sl v1 w1 lv lv).1) ((jLab sh sl v1 w1 lv lv).2) (lN 0) (lN 3)).1), .long ((cE ((jLab sh sl v1 w1 lv lv).1) ((jLab sh sl v1 w1 lv lv).2) (lN 0) (lN 3)).2)], aI G ow 44 (jKey ((jLab sh sl v1 w1 lv lv).1) ((jLab sh sl v1 w1 lv lv).2))] := hD
    refine W.cs (cells' := 0) (slots' := 0) rfl rfl ?_
    refine W.eq (g2 := F0 m 52 ls []) rfl ?_
    exact cq_vret _ (trivial) hx hb hr hlk hP hS rfl (by first | (unfold jKy; rw [if_pos h1]; done) | (unfold jKy; rw [if_neg h1]; done)) dTr_findKey_52
  · have b_h1 := decide_eq_true h1
    refine lv_aload_n hx hb dTr_findKey_4 rfl (lv_at hl 1 rfl) ?_
    refine lv_aload_n hx hb dTr_findKey_5 rfl (lv_at hl 0 rfl) ?_
    refine gfTr_15 hx hb hts hown hG hP 0 rfl rfl dTr_findKey_6 ?_
    refine lv_aload_n hx hb dTr_findKey_9 rfl (lv_at hl 0 rfl) ?_
    refine gfTr_19 hx hb hts hown hG hP 0 rfl rfl dTr_findKey_10 ?_
    refine clTr_41 (As := [.long sh, .long sl]) (rest := []) hx hb hml hown hts (k_Ci_key l G oc ow g e0 f0 sh sl) hG hA hP hD hS 1 rfl [1, 2] rfl rfl (fun _ => rfl) rfl hl.1 rfl (Nat.le_of_ble_eq_true rfl) ⟨by decide, by decide⟩ ⟨by decide, by decide⟩ dTr_findKey_13 (fun _ H locs _ hP hD hS => ?_)
    have hP : va_P G.1 vwCl [oC ot 6 [.int (nI dp), .long sh, .long sl], oC oc 1 [.ref ow, .long e0, .long f0], aI G ow 44 (jKey sh sl)] H := hP
    have hD : va_D A [oC ot 6 [.int (nI dp), .long sh, .long sl], oC oc 1 [.ref ow, .long e0, .long f0], aI G ow 44 (jKey sh sl)] := hD
    refine W.cs (cells' := 0) (slots' := 0) rfl rfl ?_
    refine W.eq (g2 := F0 m 16 ls []) rfl ?_
    refine lv_aload_n hx hb dTr_findKey_16 rfl (lv_at hl 1 rfl) ?_
    refine lv_lconst (v := lN 0) hx hb dTr_findKey_17 (by decide) ?_
    refine lv_lconst (v := lN 0) hx hb dTr_findKey_18 (by decide) ?_
    refine clTr_47 (As := [.long (lN 0), .long (lN 0)]) (rest := []) hx hb hml hown hts (k_Ci_encrypt l G oc ow (jKey sh sl) e0 f0 (lN 0) (lN 0)) hG hA hP hD hS 1 rfl [1, 2] rfl rfl (fun _ => rfl) rfl hl.1 rfl (Nat.le_of_ble_eq_true rfl) ⟨by decide, by decide⟩ ⟨by decide, by decide⟩ dTr_findKey_19 (fun _ H locs _ hP hD hS => ?_)
    have hP : va_P G.1 vwCl [oC ot 6 [.int (nI dp), .long sh, .long sl], oC oc 1 [.ref ow, .long ((cE sh sl (lN 0) (lN 0)).1), .long ((cE sh sl (lN 0) (lN 0)).2)], aI G ow 44 (jKey sh sl)] H := hP
    have hD : va_D A [oC ot 6 [.int (nI dp), .long sh, .long sl], oC oc 1 [.ref ow, .long ((cE sh sl (lN 0) (lN 0)).1), .long ((cE sh sl (lN 0) (lN 0)).2)], aI G ow 44 (jKey sh sl)] := hD
    refine W.cs (cells' := 0) (slots' := 0) rfl rfl ?_
    refine W.eq (g2 := F0 m 22 ls []) rfl ?_
    refine lv_goto (tgt := 52) hx hb dTr_findKey_22 rfl ?_
    exact cq_vret _ (trivial) hx hb hr hlk hP hS rfl (by first | (unfold jKy; rw [if_pos h1]; done) | (unfold jKy; rw [if_neg h1]; done)) dTr_findKey_52
