/-! the reference's cipher -/
set_option maxHeartbeats 4000000 in
set_option maxRecDepth 100000 in
theorem k_Mo_product (l : Launch) (G : gG) (a b : Nat) (ha : a < 256) (hbb : b < 256) : Ck l G yMo_product cMo_product 4 (some .int) { frames := 0, cells := 0, slots := 0, locals := 0 } [.int (nI a), .int (nI b)] [] (some (.int (nI (rPd a b)))) [] := by
  refine Cq.of (by decide) (Nat.le_of_ble_eq_true rfl) ?_
  intro p e s m args below meth c A ls hx hb hr hml hts hown hlk hA hP hD hG hS hl
  have hl : lv_has ls 4 [(0, .int (nI a)), (1, .int (nI b))] := hl
  refine lv_iconst (v := nI 0) hx hb dMo_product_0 (by decide) ?_
  refine lv_istore_n (lv' := [(2, .int (nI 0)), (0, .int (nI a)), (1, .int (nI b))]) hx hb dMo_product_1 rfl hl (by decide) rfl (fun ls hl => ?_)
  refine lv_bipush (v := nI 7) hx hb dMo_product_2 (by decide) ?_
  refine lv_istore_n (lv' := [(3, .int (nI 7)), (2, .int (nI 0)), (0, .int (nI a)), (1, .int (nI b))]) hx hb dMo_product_4 rfl hl (by decide) rfl (fun ls hl => ?_)
  have loop : ∀ (k : Nat) (n : Nat) (H : Heap) (locs : List Loc) (ls : Array Slot), n + k = 8 → va_P G.1 vwCl [] H → va_D A [] → va_S A s.heap H locs → lv_has ls 4 [(0, .int (nI a)), (1, .int (nI b)), (2, .int (nI (rPr a b n))), (3, .int (jm1 k))] → W p l e { frames := 0, cells := 0, slots := 0, locals := 0 } s m args below meth c H locs 0 0 (MQ below (cq_out G (S := Unit) (fun _ => True) (fun _ => (some (.int (nI (rPd a b))))) (fun _ => []) A) args s 0 0 A) (F0 m 5 ls []) := by
    intro k
    induction k with
    | zero =>
      intro n H locs ls hk hP hD hS hl
      have hl : lv_has ls 4 [(0, .int (nI a)), (1, .int (nI b)), (2, .int (nI (rPr a b n))), (3, .int (-1))] := hl
      refine lv_iload_n hx hb dMo_product_5 rfl (lv_at hl 3 rfl) ?_
      refine lv_if_lt (tgt := 53) hx hb dMo_product_6 rfl (fun _ => ?_) (fun h => absurd (by decide) h)
      refine lv_iload_n hx hb dMo_product_53 rfl (lv_at hl 2 rfl) ?_
      exact cq_iret () (trivial) hx hb hr hlk hP hS (by unfold rPd; rw [show n = 8 by omega]) (rfl) dMo_product_54
    | succ k ih =>
      intro n H locs ls hk hP hD hS hl
      have hl : lv_has ls 4 [(0, .int (nI a)), (1, .int (nI b)), (2, .int (nI (rPr a b n))), (3, .int (nI k))] := hl
      have hp := rPr_lt (b := b) ha n
      have hdv : b / 2 ^ k < 2 ^ 31 := Nat.lt_of_le_of_lt (Nat.div_le_self _ _) (by omega)
      have hdm : b / 2 ^ k % 2 < 2 := Nat.mod_lt _ (by decide)
      refine lv_iload_n hx hb dMo_product_5 rfl (lv_at hl 3 rfl) ?_
      refine lv_if_lt (tgt := 53) hx hb dMo_product_6 rfl (fun h => absurd h (nI_pos (by omega))) (fun _ => ?_)
      refine lv_iload_n hx hb dMo_product_9 rfl (lv_at hl 2 rfl) ?_
      refine lv_iconst (v := nI 1) hx hb dMo_product_10 (by decide) ?_
      refine lv_ishl hx hb dMo_product_11 ?_
      refine ck_ri (y := nI (rPr a b n * 2)) (ish_nI (by decide) (by omega)) ?_
      refine lv_istore_n (lv' := [(2, .int (nI (rPr a b n * 2))), (0, .int (nI a)), (1, .int (nI b)), (3, .int (nI k))]) hx hb dMo_product_12 rfl hl (by decide) rfl (fun ls hl => ?_)
      refine lv_iload_n hx hb dMo_product_13 rfl (lv_at hl 0 rfl) ?_
      refine lv_sipush (v := nI 255) hx hb dMo_product_14 (by decide) ?_
      refine lv_icmp_le (tgt := 28) hx hb dMo_product_17 rfl (fun h4 => ?_) (fun h4 => ?_)
      · have h5 : ¬ 255 < rPr a b n * 2 := by have := (nI_leI (by omega) (by omega)).mp h4; omega
        refine lv_iload_n hx hb dMo_product_28 rfl (lv_at hl 0 rfl) ?_
        refine lv_istore_n (lv' := [(2, .int (nI (rPr a b n * 2))), (0, .int (nI a)), (1, .int (nI b)), (3, .int (nI k))]) hx hb dMo_product_29 rfl hl (by decide) rfl (fun ls hl => ?_)
        refine lv_iload_n hx hb dMo_product_30 rfl (lv_at hl 2 rfl) ?_
        refine lv_iload_n hx hb dMo_product_31 rfl (lv_at hl 3 rfl) ?_
        refine lv_ishr hx hb dMo_product_32 ?_
        refine ck_ri (y := nI (b / 2 ^ k)) (isr_nI (by omega) (by omega)) ?_
        refine lv_iconst (v := nI 2) hx hb dMo_product_33 (by decide) ?_
        refine lv_irem hx hb dMo_product_34 (by decide) ?_
        refine ck_ri (y := nI (b / 2 ^ k % 2)) (irm_nI hdv (by decide) (by decide)) ?_
        refine lv_iconst (v := nI 1) hx hb dMo_product_35 (by decide) ?_
        refine lv_icmp_ne (tgt := 45) hx hb dMo_product_36 rfl (fun h7 => ?_) (fun h7 => ?_)
        · have h6 : ¬ b / 2 ^ k % 2 = 1 := fun z => h7 (by rw [z])
          refine lv_iload_n hx hb dMo_product_45 rfl (lv_at hl 0 rfl) ?_
          refine lv_istore_n (lv' := [(2, .int (nI (rPr a b n * 2))), (0, .int (nI a)), (1, .int (nI b)), (3, .int (nI k))]) hx hb dMo_product_46 rfl hl (by decide) rfl (fun ls hl => ?_)
          refine lv_iinc (v := jm1 k) (lv' := [(3, .int (jm1 k)), (2, .int (nI (rPr a b n * 2))), (0, .int (nI a)), (1, .int (nI b))]) hx hb dMo_product_47 hl (k := 3) rfl (jm1_dec k) (by decide) rfl (fun ls hl => ?_)
          refine lv_goto (tgt := 5) hx hb dMo_product_50 rfl ?_
          have e1 : rPr a b (n + 1) = (rPr a b n * 2) := by
            show rPs a b (7 - n) (rPr a b n) = _
            rw [show 7 - n = k by omega]
            unfold rPs
            rw [if_neg h6, if_neg h5]
          exact ih (n + 1) _ _ _ (by omega) hP hD hS (by rw [e1]; exact lv_sub hl [2, 3, 1, 0] rfl)
        · have h6 : b / 2 ^ k % 2 = 1 := (nI_eq (by omega) (by omega)).mp h7
          refine lv_iload_n hx hb dMo_product_39 rfl (lv_at hl 0 rfl) ?_
          refine lv_iload_n hx hb dMo_product_40 rfl (lv_at hl 1 rfl) ?_
          refine lv_ixor hx hb dMo_product_41 ?_
          refine ck_ri (y := nI ((rPr a b n * 2) ^^^ a)) (nI_xor _ _) ?_
          refine lv_goto (tgt := 46) hx hb dMo_product_42 rfl ?_
          refine lv_istore_n (lv' := [(2, .int (nI ((rPr a b n * 2) ^^^ a))), (0, .int (nI a)), (1, .int (nI b)), (3, .int (nI k))]) hx hb dMo_product_46 rfl hl (by decide) rfl (fun ls hl => ?_)
          refine lv_iinc (v := jm1 k) (lv' := [(3, .int (jm1 k)), (2, .int (nI ((rPr a b n * 2) ^^^ a))), (0, .int (nI a)), (1, .int (nI b))]) hx hb dMo_product_47 hl (k := 3) rfl (jm1_dec k) (by decide) rfl (fun ls hl => ?_)
          refine lv_goto (tgt := 5) hx hb dMo_product_50 rfl ?_
          have e1 : rPr a b (n + 1) = ((rPr a b n * 2) ^^^ a) := by
            show rPs a b (7 - n) (rPr a b n) = _
            rw [show 7 - n = k by omega]
            unfold rPs
            rw [if_pos h6, if_neg h5]
          exact ih (n + 1) _ _ _ (by omega) hP hD hS (by rw [e1]; exact lv_sub hl [2, 3, 1, 0] rfl)
      · have h5 : 255 < rPr a b n * 2 := Nat.not_le.mp (fun z => h4 ((nI_leI (by omega) (by omega)).mpr z))
        refine lv_iload_n hx hb dMo_product_20 rfl (lv_at hl 0 rfl) ?_
        refine lv_sipush (v := nI 283) hx hb dMo_product_21 (by decide) ?_
        refine lv_ixor hx hb dMo_product_24 ?_
        refine ck_ri (y := nI ((rPr a b n * 2) ^^^ 283)) (nI_xor _ _) ?_
        refine lv_goto (tgt := 29) hx hb dMo_product_25 rfl ?_
        refine lv_istore_n (lv' := [(2, .int (nI ((rPr a b n * 2) ^^^ 283))), (0, .int (nI a)), (1, .int (nI b)), (3, .int (nI k))]) hx hb dMo_product_29 rfl hl (by decide) rfl (fun ls hl => ?_)
        refine lv_iload_n hx hb dMo_product_30 rfl (lv_at hl 2 rfl) ?_
        refine lv_iload_n hx hb dMo_product_31 rfl (lv_at hl 3 rfl) ?_
        refine lv_ishr hx hb dMo_product_32 ?_
        refine ck_ri (y := nI (b / 2 ^ k)) (isr_nI (by omega) (by omega)) ?_
        refine lv_iconst (v := nI 2) hx hb dMo_product_33 (by decide) ?_
        refine lv_irem hx hb dMo_product_34 (by decide) ?_
        refine ck_ri (y := nI (b / 2 ^ k % 2)) (irm_nI hdv (by decide) (by decide)) ?_
        refine lv_iconst (v := nI 1) hx hb dMo_product_35 (by decide) ?_
        refine lv_icmp_ne (tgt := 45) hx hb dMo_product_36 rfl (fun h7 => ?_) (fun h7 => ?_)
        · have h6 : ¬ b / 2 ^ k % 2 = 1 := fun z => h7 (by rw [z])
          refine lv_iload_n hx hb dMo_product_45 rfl (lv_at hl 0 rfl) ?_
          refine lv_istore_n (lv' := [(2, .int (nI ((rPr a b n * 2) ^^^ 283))), (0, .int (nI a)), (1, .int (nI b)), (3, .int (nI k))]) hx hb dMo_product_46 rfl hl (by decide) rfl (fun ls hl => ?_)
          refine lv_iinc (v := jm1 k) (lv' := [(3, .int (jm1 k)), (2, .int (nI ((rPr a b n * 2) ^^^ 283))), (0, .int (nI a)), (1, .int (nI b))]) hx hb dMo_product_47 hl (k := 3) rfl (jm1_dec k) (by decide) rfl (fun ls hl => ?_)
          refine lv_goto (tgt := 5) hx hb dMo_product_50 rfl ?_
          have e1 : rPr a b (n + 1) = ((rPr a b n * 2) ^^^ 283) := by
            show rPs a b (7 - n) (rPr a b n) = _
            rw [show 7 - n = k by omega]
            unfold rPs
            rw [if_neg h6, if_pos h5]
          exact ih (n + 1) _ _ _ (by omega) hP hD hS (by rw [e1]; exact lv_sub hl [2, 3, 1, 0] rfl)
        · have h6 : b / 2 ^ k % 2 = 1 := (nI_eq (by omega) (by omega)).mp h7
          refine lv_iload_n hx hb dMo_product_39 rfl (lv_at hl 0 rfl) ?_
          refine lv_iload_n hx hb dMo_product_40 rfl (lv_at hl 1 rfl) ?_
          refine lv_ixor hx hb dMo_product_41 ?_
          refine ck_ri (y := nI (((rPr a b n * 2) ^^^ 283) ^^^ a)) (nI_xor _ _) ?_
          refine lv_goto (tgt := 46) hx hb dMo_product_42 rfl ?_
          refine lv_istore_n (lv' := [(2, .int (nI (((rPr a b n * 2) ^^^ 283) ^^^ a))), (0, .int (nI a)), (1, .int (nI b)), (3, .int (nI k))]) hx hb dMo_product_46 rfl hl (by decide) rfl (fun ls hl => ?_)
          refine lv_iinc (v := jm1 k) (lv' := [(3, .int (jm1 k)), (2, .int (nI (((rPr a b n * 2) ^^^ 283) ^^^ a))), (0, .int (nI a)), (1, .int (nI b))]) hx hb dMo_product_47 hl (k := 3) rfl (jm1_dec k) (by decide) rfl (fun ls hl => ?_)
          refine lv_goto (tgt := 5) hx hb dMo_product_50 rfl ?_
          have e1 : rPr a b (n + 1) = (((rPr a b n * 2) ^^^ 283) ^^^ a) := by
            show rPs a b (7 - n) (rPr a b n) = _
            rw [show 7 - n = k by omega]
            unfold rPs
            rw [if_pos h6, if_pos h5]
          exact ih (n + 1) _ _ _ (by omega) hP hD hS (by rw [e1]; exact lv_sub hl [2, 3, 1, 0] rfl)
  exact loop 8 0 _ _ _ (by omega) hP hD hS (lv_sub hl [2, 3, 1, 0] rfl)
set_option maxHeartbeats 4000000 in
set_option maxRecDepth 100000 in
theorem k_Mo_inverse (l : Launch) (G : gG) (b : Nat) (hbb : b < 256) : Ck l G yMo_inverse cMo_inverse 3 (some .int) { frames := 1, cells := 0, slots := 0, locals := 23 } [.int (nI b)] [] (some (.int (nI (rInv b)))) [] := by
  refine Cq.of (by decide) (Nat.le_of_ble_eq_true rfl) ?_
  intro p e s m args below meth c A ls hx hb hr hml hts hown hlk hA hP hD hG hS hl
  have hl : lv_has ls 3 [(0, .int (nI b))] := hl
  refine lv_iconst (v := nI 1) hx hb dMo_inverse_0 (by decide) ?_
  refine lv_istore_n (lv' := [(1, .int (nI 1)), (0, .int (nI b))]) hx hb dMo_inverse_1 rfl hl (by decide) rfl (fun ls hl => ?_)
  refine lv_iconst (v := nI 0) hx hb dMo_inverse_2 (by decide) ?_
  refine lv_istore_n (lv' := [(2, .int (nI 0)), (1, .int (nI 1)), (0, .int (nI b))]) hx hb dMo_inverse_3 rfl hl (by decide) rfl (fun ls hl => ?_)
  have loop : ∀ (k : Nat) (n : Nat) (H : Heap) (locs : List Loc) (ls : Array Slot), n + k = 254 → va_P G.1 vwCl [] H → va_D A [] → va_S A s.heap H locs → lv_has ls 3 [(0, .int (nI b)), (1, .int (nI (rIv b n))), (2, .int (nI n))] → W p l e { frames := 1, cells := 0, slots := 0, locals := 23 } s m args below meth c H locs 0 0 (MQ below (cq_out G (S := Unit) (fun _ => True) (fun _ => (some (.int (nI (rInv b))))) (fun _ => []) A) args s 0 0 A) (F0 m 4 ls []) := by
    intro k
    induction k with
    | zero =>
      intro n H locs ls hk hP hD hS hl
      refine lv_iload_n hx hb dMo_inverse_4 rfl (lv_at hl 2 rfl) ?_
      refine lv_sipush (v := nI 254) hx hb dMo_inverse_5 (by decide) ?_
      refine lv_icmp_ge (tgt := 23) hx hb dMo_inverse_8 rfl (fun _ => ?_) (fun h => absurd (nI_le (by omega) (by omega)) h)
      refine lv_iload_n hx hb dMo_inverse_23 rfl (lv_at hl 0 rfl) ?_
      refine lv_if_ne (tgt := 31) hx hb dMo_inverse_24 rfl (fun h9 => ?_) (fun h9 => ?_)
      · have h8 : ¬ b = 0 := fun z => h9 (by rw [z]; rfl)
        refine lv_iload_n hx hb dMo_inverse_31 rfl (lv_at hl 1 rfl) ?_
        exact cq_iret () (trivial) hx hb hr hlk hP hS (by unfold rInv; rw [if_neg h8, show n = 254 by omega]) (rfl) dMo_inverse_32
      · have h8 : b = 0 := (nI_eq (b := 0) (by omega) (by omega)).mp h9
        refine lv_iconst (v := nI 0) hx hb dMo_inverse_27 (by decide) ?_
        refine lv_goto (tgt := 32) hx hb dMo_inverse_28 rfl ?_
        exact cq_iret () (trivial) hx hb hr hlk hP hS (by unfold rInv; rw [if_pos h8]) (rfl) dMo_inverse_32
    | succ k ih =>
      intro n H locs ls hk hP hD hS hl
      refine lv_iload_n hx hb dMo_inverse_4 rfl (lv_at hl 2 rfl) ?_
      refine lv_sipush (v := nI 254) hx hb dMo_inverse_5 (by decide) ?_
      refine lv_icmp_ge (tgt := 23) hx hb dMo_inverse_8 rfl (fun h => absurd h (nI_ge (by omega) (by omega))) (fun _ => ?_)
      refine lv_iload_n hx hb dMo_inverse_11 rfl (lv_at hl 1 rfl) ?_
      refine lv_iload_n hx hb dMo_inverse_12 rfl (lv_at hl 0 rfl) ?_
      refine clMo_78 (As := [.int (nI (rIv b n)), .int (nI b)]) (rest := []) hx hb hml hown hts (k_Mo_product l G (rIv b n) b (rIv_lt b n) hbb) hG hA hP hD hS [] rfl rfl (fun _ => rfl) rfl hl.1 rfl (Nat.le_of_ble_eq_true rfl) ⟨by decide, by decide⟩ ⟨by decide, by decide⟩ dMo_inverse_13 (fun _ H locs _ hP hD hS => ?_)
      have hP : va_P G.1 vwCl [] H := hP
      have hD : va_D A [] := hD
      refine W.cs (cells' := 0) (slots' := 0) rfl rfl ?_
      refine W.eq (g2 := F0 m 16 ls [.int (nI (rIv b (n + 1)))]) rfl ?_
      refine lv_istore_n (lv' := [(1, .int (nI (rIv b (n + 1)))), (0, .int (nI b)), (2, .int (nI n))]) hx hb dMo_inverse_16 rfl hl (by decide) rfl (fun ls hl => ?_)
      refine lv_iinc (v := nI (n + 1)) (lv' := [(2, .int (nI (n + 1))), (1, .int (nI (rIv b (n + 1)))), (0, .int (nI b))]) hx hb dMo_inverse_17 hl (k := 2) rfl (nI_1 n) (by decide) rfl (fun ls hl => ?_)
      refine lv_goto (tgt := 4) hx hb dMo_inverse_20 rfl ?_
      exact ih (n + 1) _ _ _ (by omega) hP hD hS (lv_sub hl [2, 1, 0] rfl)
  exact loop 254 0 _ _ _ (by omega) hP hD hS (lv_sub hl [2, 1, 0] rfl)
set_option maxHeartbeats 4000000 in
set_option maxRecDepth 100000 in
theorem k_Mo_load (l : Launch) (G : gG) (oy : Nat) (r : Nat → Nat) (th : Int32) (fi se : Int64) (d : Int32) (sh sl : Int64) (az : Int32) (oh ol w0 w1 w2 : Int64) (f : Nat → Nat) (h1 l1 : Int64) : Ck l G yMo_load cMo_load 6 none { frames := 0, cells := 0, slots := 0, locals := 0 } [.ref oy, .long h1, .long l1] [moC oy r th fi se d sh sl az oh ol w0 w1 w2, aI G (r 3) 16 (bN f)] (none) [moC oy r th fi se d sh sl az oh ol w0 w1 w2, aI G (r 3) 16 (bN (rBy h1 l1))] := by
  refine Cq.of (by decide) (Nat.le_of_ble_eq_true rfl) ?_
  intro p e s m args below meth c A ls hx hb hr hml hts hown hlk hA hP hD hG hS hl
  have hl : lv_has ls 6 [(0, .ref oy), (1, .long h1), (3, .long l1)] := hl
  refine lv_iconst (v := nI 0) hx hb dMo_load_0 (by decide) ?_
  refine lv_istore (lv' := [(5, .int (nI 0)), (0, .ref oy), (1, .long h1), (3, .long l1)]) hx hb dMo_load_1 hl (by decide) rfl (fun ls hl => ?_)
  rw [bN_0 (rBy h1 l1) f] at hP hD
  have loop : ∀ (k : Nat) (n : Nat) (H : Heap) (locs : List Loc) (ls : Array Slot), n + k = 16 → va_P G.1 vwCl [moC oy r th fi se d sh sl az oh ol w0 w1 w2, aI G (r 3) 16 (pN n (rBy h1 l1) f)] H → va_D A [moC oy r th fi se d sh sl az oh ol w0 w1 w2, aI G (r 3) 16 (pN n (rBy h1 l1) f)] → va_S A s.heap H locs → lv_has ls 6 [(0, .ref oy), (1, .long h1), (3, .long l1), (5, .int (nI n))] → W p l e { frames := 0, cells := 0, slots := 0, locals := 0 } s m args below meth c H locs 0 0 (MQ below (cq_out G (S := Unit) (fun _ => True) (fun _ => (none)) (fun _ => [moC oy r th fi se d sh sl az oh ol w0 w1 w2, aI G (r 3) 16 (bN (rBy h1 l1))]) A) args s 0 0 A) (F0 m 3 ls []) := by
    intro k
    induction k with
    | zero =>
      intro n H locs ls hk hP hD hS hl
      have hP := ck_cg hP 1 rfl (g := bN (rBy h1 l1)) (fun j hj => pN_lo _ _ (by omega))
      have hP : va_P G.1 vwCl [moC oy r th fi se d sh sl az oh ol w0 w1 w2, aI G (r 3) 16 (bN (rBy h1 l1))] H := hP
      have hD : va_D A [moC oy r th fi se d sh sl az oh ol w0 w1 w2, aI G (r 3) 16 (bN (rBy h1 l1))] := ck_Dsame (by rfl) hD
      refine lv_iload hx hb dMo_load_3 (lv_at hl 3 rfl) ?_
      refine lv_bipush (v := nI 16) hx hb dMo_load_5 (by decide) ?_
      refine lv_icmp_ge (tgt := 52) hx hb dMo_load_7 rfl (fun _ => ?_) (fun h => absurd (nI_le (by omega) (by omega)) h)
      exact cq_vret () (trivial) hx hb hr hlk hP hS rfl (rfl) dMo_load_52
    | succ k ih =>
      intro n H locs ls hk hP hD hS hl
      refine lv_iload hx hb dMo_load_3 (lv_at hl 3 rfl) ?_
      refine lv_bipush (v := nI 16) hx hb dMo_load_5 (by decide) ?_
      refine lv_icmp_ge (tgt := 52) hx hb dMo_load_7 rfl (fun h => absurd h (nI_ge (by omega) (by omega))) (fun _ => ?_)
      refine lv_aload_n hx hb dMo_load_10 rfl (lv_at hl 0 rfl) ?_
      refine gfMo_19 hx hb hts hown hG hP 0 rfl rfl dMo_load_11 ?_
      refine lv_iload hx hb dMo_load_14 (lv_at hl 3 rfl) ?_
      refine lv_iload hx hb dMo_load_16 (lv_at hl 3 rfl) ?_
      refine lv_bipush (v := nI 8) hx hb dMo_load_18 (by decide) ?_
      refine lv_icmp_ge (tgt := 27) hx hb dMo_load_20 rfl (fun h8 => ?_) (fun h8 => ?_)
      · have h9 : ¬ n < 8 := by have := (nI_leI (a := 8) (by omega) (by omega)).mp h8; omega
        refine lv_lload_n hx hb dMo_load_27 rfl (lv_at hl 2 rfl) ?_
        refine lv_bipush (v := nI 56) hx hb dMo_load_28 (by decide) ?_
        refine lv_bipush (v := nI 8) hx hb dMo_load_30 (by decide) ?_
        refine lv_iload hx hb dMo_load_32 (lv_at hl 3 rfl) ?_
        refine lv_bipush (v := nI 8) hx hb dMo_load_34 (by decide) ?_
        refine lv_irem hx hb dMo_load_36 (by decide) ?_
        refine ck_ri (y := nI (n % 8)) (irm_nI (by omega) (by decide) (by decide)) ?_
        refine lv_imul hx hb dMo_load_37 ?_
        refine ck_ri (y := nI (8 * (n % 8))) (pk_mul 8 _) ?_
        refine lv_isub hx hb dMo_load_38 ?_
        refine ck_ri (y := nI (56 - 8 * (n % 8))) (pk_sub (by omega)) ?_
        refine lv_lshr (v := lsr l1 (nI (56 - 8 * (n % 8)))) hx hb dMo_load_39 rfl ?_
        refine lv_l2i (v := (lsr l1 (nI (56 - 8 * (n % 8)))).toInt32) hx hb dMo_load_40 rfl ?_
        refine lv_sipush (v := nI 255) hx hb dMo_load_41 (by decide) ?_
        refine lv_iand hx hb dMo_load_44 ?_
        refine ck_ri (y := nI (rBy h1 l1 n)) (by unfold rBy; rw [if_neg h9]; exact (nI_un _).symm) ?_
        refine ck_iast hx hb hG hP hD hS 1 rfl (by decide) n (rfl) (by omega) dMo_load_45 (fun H locs hP hD hS => ?_)
        have hP : va_P G.1 vwCl [moC oy r th fi se d sh sl az oh ol w0 w1 w2, aI G (r 3) 16 (upd (pN n (rBy h1 l1) f) n (nI (rBy h1 l1 n)))] H := hP
        have hD : va_D A [moC oy r th fi se d sh sl az oh ol w0 w1 w2, aI G (r 3) 16 (upd (pN n (rBy h1 l1) f) n (nI (rBy h1 l1 n)))] := hD
        refine lv_iinc (v := nI (n + 1)) (lv' := [(5, .int (nI (n + 1))), (0, .ref oy), (1, .long h1), (3, .long l1)]) hx hb dMo_load_46 hl (k := 3) rfl (nI_1 n) (by decide) rfl (fun ls hl => ?_)
        refine lv_goto (tgt := 3) hx hb dMo_load_49 rfl ?_
        have e1 : upd (pN n (rBy h1 l1) f) n (nI (rBy h1 l1 n)) = pN (n + 1) (rBy h1 l1) f := pN_upd n (rBy h1 l1) f
        rw [e1] at hP hD
        exact ih (n + 1) _ _ _ (by omega) hP hD hS (lv_sub hl [1, 2, 3, 0] rfl)
      · have h9 : n < 8 := Nat.not_le.mp (fun z => h8 ((nI_leI (a := 8) (by omega) (by omega)).mpr z))
        refine lv_lload_n hx hb dMo_load_23 rfl (lv_at hl 1 rfl) ?_
        refine lv_goto (tgt := 28) hx hb dMo_load_24 rfl ?_
        refine lv_bipush (v := nI 56) hx hb dMo_load_28 (by decide) ?_
        refine lv_bipush (v := nI 8) hx hb dMo_load_30 (by decide) ?_
        refine lv_iload hx hb dMo_load_32 (lv_at hl 3 rfl) ?_
        refine lv_bipush (v := nI 8) hx hb dMo_load_34 (by decide) ?_
        refine lv_irem hx hb dMo_load_36 (by decide) ?_
        refine ck_ri (y := nI (n % 8)) (irm_nI (by omega) (by decide) (by decide)) ?_
        refine lv_imul hx hb dMo_load_37 ?_
        refine ck_ri (y := nI (8 * (n % 8))) (pk_mul 8 _) ?_
        refine lv_isub hx hb dMo_load_38 ?_
        refine ck_ri (y := nI (56 - 8 * (n % 8))) (pk_sub (by omega)) ?_
        refine lv_lshr (v := lsr h1 (nI (56 - 8 * (n % 8)))) hx hb dMo_load_39 rfl ?_
        refine lv_l2i (v := (lsr h1 (nI (56 - 8 * (n % 8)))).toInt32) hx hb dMo_load_40 rfl ?_
        refine lv_sipush (v := nI 255) hx hb dMo_load_41 (by decide) ?_
        refine lv_iand hx hb dMo_load_44 ?_
        refine ck_ri (y := nI (rBy h1 l1 n)) (by unfold rBy; rw [if_pos h9]; exact (nI_un _).symm) ?_
        refine ck_iast hx hb hG hP hD hS 1 rfl (by decide) n (rfl) (by omega) dMo_load_45 (fun H locs hP hD hS => ?_)
        have hP : va_P G.1 vwCl [moC oy r th fi se d sh sl az oh ol w0 w1 w2, aI G (r 3) 16 (upd (pN n (rBy h1 l1) f) n (nI (rBy h1 l1 n)))] H := hP
        have hD : va_D A [moC oy r th fi se d sh sl az oh ol w0 w1 w2, aI G (r 3) 16 (upd (pN n (rBy h1 l1) f) n (nI (rBy h1 l1 n)))] := hD
        refine lv_iinc (v := nI (n + 1)) (lv' := [(5, .int (nI (n + 1))), (0, .ref oy), (1, .long h1), (3, .long l1)]) hx hb dMo_load_46 hl (k := 3) rfl (nI_1 n) (by decide) rfl (fun ls hl => ?_)
        refine lv_goto (tgt := 3) hx hb dMo_load_49 rfl ?_
        have e1 : upd (pN n (rBy h1 l1) f) n (nI (rBy h1 l1 n)) = pN (n + 1) (rBy h1 l1) f := pN_upd n (rBy h1 l1) f
        rw [e1] at hP hD
        exact ih (n + 1) _ _ _ (by omega) hP hD hS (lv_sub hl [1, 2, 3, 0] rfl)
  exact loop 16 0 _ _ _ (by omega) hP hD hS (lv_sub hl [1, 2, 3, 0] rfl)
set_option maxHeartbeats 4000000 in
set_option maxRecDepth 100000 in
theorem k_Mo_store (l : Launch) (G : gG) (oy : Nat) (r : Nat → Nat) (th : Int32) (fi se : Int64) (d : Int32) (sh sl : Int64) (az : Int32) (oh ol w0 w1 w2 : Int64) (g : Nat → Int32) : Ck l G yMo_store cMo_store 2 none { frames := 0, cells := 0, slots := 0, locals := 0 } [.ref oy] [moC oy r th fi se d sh sl az oh ol w0 w1 w2, aI G (r 3) 16 g] (none) [moC oy r th (jRd g 0 8) (jRd g 8 8) d sh sl az oh ol w0 w1 w2, aI G (r 3) 16 g] := by
  refine Cq.of (by decide) (Nat.le_of_ble_eq_true rfl) ?_
  intro p e s m args below meth c A ls hx hb hr hml hts hown hlk hA hP hD hG hS hl
  have hl : lv_has ls 2 [(0, .ref oy)] := hl
  refine lv_aload_n hx hb dMo_store_0 rfl (lv_at hl 0 rfl) ?_
  refine lv_lconst (v := lN 0) hx hb dMo_store_1 (by decide) ?_
  refine pfMo_82 hx hb hts hown hG hP hD hS 0 rfl rfl rfl (Nat.le_of_ble_eq_true rfl) dMo_store_2 (fun H locs hP hD hS => ?_)
  have hP : va_P G.1 vwCl [moC oy r th (lN 0) se d sh sl az oh ol w0 w1 w2, aI G (r 3) 16 g] H := hP
  have hD : va_D A [moC oy r th (lN 0) se d sh sl az oh ol w0 w1 w2, aI G (r 3) 16 g] := hD
  refine lv_aload_n hx hb dMo_store_5 rfl (lv_at hl 0 rfl) ?_
  refine lv_lconst (v := lN 0) hx hb dMo_store_6 (by decide) ?_
  refine pfMo_86 hx hb hts hown hG hP hD hS 0 rfl rfl rfl (Nat.le_of_ble_eq_true rfl) dMo_store_7 (fun H locs hP hD hS => ?_)
  have hP : va_P G.1 vwCl [moC oy r th (lN 0) (lN 0) d sh sl az oh ol w0 w1 w2, aI G (r 3) 16 g] H := hP
  have hD : va_D A [moC oy r th (lN 0) (lN 0) d sh sl az oh ol w0 w1 w2, aI G (r 3) 16 g] := hD
  refine lv_iconst (v := nI 0) hx hb dMo_store_10 (by decide) ?_
  refine lv_istore_n (lv' := [(1, .int (nI 0)), (0, .ref oy)]) hx hb dMo_store_11 rfl hl (by decide) rfl (fun ls hl => ?_)
  have loop : ∀ (k : Nat) (n : Nat) (H : Heap) (locs : List Loc) (ls : Array Slot), n + k = 8 → va_P G.1 vwCl [moC oy r th (jRd g 0 n) (jRd g 8 n) d sh sl az oh ol w0 w1 w2, aI G (r 3) 16 g] H → va_D A [moC oy r th (jRd g 0 n) (jRd g 8 n) d sh sl az oh ol w0 w1 w2, aI G (r 3) 16 g] → va_S A s.heap H locs → lv_has ls 2 [(0, .ref oy), (1, .int (nI n))] → W p l e { frames := 0, cells := 0, slots := 0, locals := 0 } s m args below meth c H locs 0 0 (MQ below (cq_out G (S := Unit) (fun _ => True) (fun _ => (none)) (fun _ => [moC oy r th (jRd g 0 8) (jRd g 8 8) d sh sl az oh ol w0 w1 w2, aI G (r 3) 16 g]) A) args s 0 0 A) (F0 m 12 ls []) := by
    intro k
    induction k with
    | zero =>
      intro n H locs ls hk hP hD hS hl
      refine lv_iload_n hx hb dMo_store_12 rfl (lv_at hl 1 rfl) ?_
      refine lv_bipush (v := nI 8) hx hb dMo_store_13 (by decide) ?_
      refine lv_icmp_ge (tgt := 65) hx hb dMo_store_15 rfl (fun _ => ?_) (fun h => absurd (nI_le (by omega) (by omega)) h)
      exact cq_vret () (trivial) hx hb hr hlk hP hS rfl (by rw [show n = 8 by omega]) dMo_store_65
    | succ k ih =>
      intro n H locs ls hk hP hD hS hl
      refine lv_iload_n hx hb dMo_store_12 rfl (lv_at hl 1 rfl) ?_
      refine lv_bipush (v := nI 8) hx hb dMo_store_13 (by decide) ?_
      refine lv_icmp_ge (tgt := 65) hx hb dMo_store_15 rfl (fun h => absurd h (nI_ge (by omega) (by omega))) (fun _ => ?_)
      refine lv_aload_n hx hb dMo_store_18 rfl (lv_at hl 0 rfl) ?_
      refine lv_aload_n hx hb dMo_store_19 rfl (lv_at hl 0 rfl) ?_
      refine gfMo_82 hx hb hts hown hG hP 0 rfl rfl dMo_store_20 ?_
      refine lv_bipush (v := nI 8) hx hb dMo_store_23 (by decide) ?_
      refine lv_lshl (v := lsh (jRd g 0 n) (nI 8)) hx hb dMo_store_25 rfl ?_
      refine lv_aload_n hx hb dMo_store_26 rfl (lv_at hl 0 rfl) ?_
      refine gfMo_19 hx hb hts hown hG hP 0 rfl rfl dMo_store_27 ?_
      refine lv_iload_n hx hb dMo_store_30 rfl (lv_at hl 1 rfl) ?_
      refine ck_iald hx hb hG hP 1 rfl (by decide) (0 + n) (by rw [Nat.zero_add]) (by omega) dMo_store_31 ?_
      refine lv_i2l (v := (g (0 + n)).toInt64) hx hb dMo_store_32 rfl ?_
      refine lv_lor hx hb dMo_store_33 ?_
      refine pfMo_82 hx hb hts hown hG hP hD hS 0 rfl rfl rfl (Nat.le_of_ble_eq_true rfl) dMo_store_34 (fun H locs hP hD hS => ?_)
      have hP : va_P G.1 vwCl [moC oy r th ((lsh (jRd g 0 n) (nI 8)) ||| ((g (0 + n)).toInt64)) (jRd g 8 n) d sh sl az oh ol w0 w1 w2, aI G (r 3) 16 g] H := hP
      have hD : va_D A [moC oy r th ((lsh (jRd g 0 n) (nI 8)) ||| ((g (0 + n)).toInt64)) (jRd g 8 n) d sh sl az oh ol w0 w1 w2, aI G (r 3) 16 g] := hD
      refine lv_aload_n hx hb dMo_store_37 rfl (lv_at hl 0 rfl) ?_
      refine lv_aload_n hx hb dMo_store_38 rfl (lv_at hl 0 rfl) ?_
      refine gfMo_86 hx hb hts hown hG hP 0 rfl rfl dMo_store_39 ?_
      refine lv_bipush (v := nI 8) hx hb dMo_store_42 (by decide) ?_
      refine lv_lshl (v := lsh (jRd g 8 n) (nI 8)) hx hb dMo_store_44 rfl ?_
      refine lv_aload_n hx hb dMo_store_45 rfl (lv_at hl 0 rfl) ?_
      refine gfMo_19 hx hb hts hown hG hP 0 rfl rfl dMo_store_46 ?_
      refine lv_bipush (v := nI 8) hx hb dMo_store_49 (by decide) ?_
      refine lv_iload_n hx hb dMo_store_51 rfl (lv_at hl 1 rfl) ?_
      refine lv_iadd hx hb dMo_store_52 ?_
      refine ck_iald hx hb hG hP 1 rfl (by decide) (8 + n) (nI_add 8 n) (by omega) dMo_store_53 ?_
      refine lv_i2l (v := (g (8 + n)).toInt64) hx hb dMo_store_54 rfl ?_
      refine lv_lor hx hb dMo_store_55 ?_
      refine pfMo_86 hx hb hts hown hG hP hD hS 0 rfl rfl rfl (Nat.le_of_ble_eq_true rfl) dMo_store_56 (fun H locs hP hD hS => ?_)
      have hP : va_P G.1 vwCl [moC oy r th ((lsh (jRd g 0 n) (nI 8)) ||| ((g (0 + n)).toInt64)) ((lsh (jRd g 8 n) (nI 8)) ||| ((g (8 + n)).toInt64)) d sh sl az oh ol w0 w1 w2, aI G (r 3) 16 g] H := hP
      have hD : va_D A [moC oy r th ((lsh (jRd g 0 n) (nI 8)) ||| ((g (0 + n)).toInt64)) ((lsh (jRd g 8 n) (nI 8)) ||| ((g (8 + n)).toInt64)) d sh sl az oh ol w0 w1 w2, aI G (r 3) 16 g] := hD
      refine lv_iinc (v := nI (n + 1)) (lv' := [(1, .int (nI (n + 1))), (0, .ref oy)]) hx hb dMo_store_59 hl (k := 1) rfl (nI_1 n) (by decide) rfl (fun ls hl => ?_)
      refine lv_goto (tgt := 12) hx hb dMo_store_62 rfl ?_
      exact ih (n + 1) _ _ _ (by omega) hP hD hS (lv_sub hl [1, 0] rfl)
  exact loop 8 0 _ _ _ (by omega) hP hD hS (lv_sub hl [1, 0] rfl)
set_option maxHeartbeats 4000000 in
set_option maxRecDepth 100000 in
theorem k_Mo_addWords (l : Launch) (G : gG) (oy : Nat) (r : Nat → Nat) (th : Int32) (fi se : Int64) (d : Int32) (sh sl : Int64) (az : Int32) (oh ol w0 w1 w2 : Int64) (f wd : Nat → Nat) (rd : Nat) (hr9 : rd ≤ 10) : Ck l G yMo_addWords cMo_addWords 3 none { frames := 0, cells := 0, slots := 0, locals := 0 } [.ref oy, .int (nI rd)] [moC oy r th fi se d sh sl az oh ol w0 w1 w2, aI G (r 2) 176 (bN wd), aI G (r 3) 16 (bN f)] (none) [moC oy r th fi se d sh sl az oh ol w0 w1 w2, aI G (r 2) 176 (bN wd), aI G (r 3) 16 (bN (fun j => f j ^^^ wd (16 * rd + j)))] := by
  refine Cq.of (by decide) (Nat.le_of_ble_eq_true rfl) ?_
  intro p e s m args below meth c A ls hx hb hr hml hts hown hlk hA hP hD hG hS hl
  have hl : lv_has ls 3 [(0, .ref oy), (1, .int (nI rd))] := hl
  refine lv_iconst (v := nI 0) hx hb dMo_addWords_0 (by decide) ?_
  refine lv_istore_n (lv' := [(2, .int (nI 0)), (0, .ref oy), (1, .int (nI rd))]) hx hb dMo_addWords_1 rfl hl (by decide) rfl (fun ls hl => ?_)
  rw [bN_0 (fun j => f j ^^^ wd (16 * rd + j)) f] at hP hD
  have loop : ∀ (k : Nat) (n : Nat) (H : Heap) (locs : List Loc) (ls : Array Slot), n + k = 16 → va_P G.1 vwCl [moC oy r th fi se d sh sl az oh ol w0 w1 w2, aI G (r 2) 176 (bN wd), aI G (r 3) 16 (pN n (fun j => f j ^^^ wd (16 * rd + j)) f)] H → va_D A [moC oy r th fi se d sh sl az oh ol w0 w1 w2, aI G (r 2) 176 (bN wd), aI G (r 3) 16 (pN n (fun j => f j ^^^ wd (16 * rd + j)) f)] → va_S A s.heap H locs → lv_has ls 3 [(0, .ref oy), (1, .int (nI rd)), (2, .int (nI n))] → W p l e { frames := 0, cells := 0, slots := 0, locals := 0 } s m args below meth c H locs 0 0 (MQ below (cq_out G (S := Unit) (fun _ => True) (fun _ => (none)) (fun _ => [moC oy r th fi se d sh sl az oh ol w0 w1 w2, aI G (r 2) 176 (bN wd), aI G (r 3) 16 (bN (fun j => f j ^^^ wd (16 * rd + j)))]) A) args s 0 0 A) (F0 m 2 ls []) := by
    intro k
    induction k with
    | zero =>
      intro n H locs ls hk hP hD hS hl
      have hP := ck_cg hP 2 rfl (g := bN (fun j => f j ^^^ wd (16 * rd + j))) (fun j hj => pN_lo _ _ (by omega))
      have hP : va_P G.1 vwCl [moC oy r th fi se d sh sl az oh ol w0 w1 w2, aI G (r 2) 176 (bN wd), aI G (r 3) 16 (bN (fun j => f j ^^^ wd (16 * rd + j)))] H := hP
      have hD : va_D A [moC oy r th fi se d sh sl az oh ol w0 w1 w2, aI G (r 2) 176 (bN wd), aI G (r 3) 16 (bN (fun j => f j ^^^ wd (16 * rd + j)))] := ck_Dsame (by rfl) hD
      refine lv_iload_n hx hb dMo_addWords_2 rfl (lv_at hl 2 rfl) ?_
      refine lv_bipush (v := nI 16) hx hb dMo_addWords_3 (by decide) ?_
      refine lv_icmp_ge (tgt := 38) hx hb dMo_addWords_5 rfl (fun _ => ?_) (fun h => absurd (nI_le (by omega) (by omega)) h)
      exact cq_vret () (trivial) hx hb hr hlk hP hS rfl (rfl) dMo_addWords_38
    | succ k ih =>
      intro n H locs ls hk hP hD hS hl
      refine lv_iload_n hx hb dMo_addWords_2 rfl (lv_at hl 2 rfl) ?_
      refine lv_bipush (v := nI 16) hx hb dMo_addWords_3 (by decide) ?_
      refine lv_icmp_ge (tgt := 38) hx hb dMo_addWords_5 rfl (fun h => absurd h (nI_ge (by omega) (by omega))) (fun _ => ?_)
      refine lv_aload_n hx hb dMo_addWords_8 rfl (lv_at hl 0 rfl) ?_
      refine gfMo_19 hx hb hts hown hG hP 0 rfl rfl dMo_addWords_9 ?_
      refine lv_iload_n hx hb dMo_addWords_12 rfl (lv_at hl 2 rfl) ?_
      refine lv_aload_n hx hb dMo_addWords_13 rfl (lv_at hl 0 rfl) ?_
      refine gfMo_19 hx hb hts hown hG hP 0 rfl rfl dMo_addWords_14 ?_
      refine lv_iload_n hx hb dMo_addWords_17 rfl (lv_at hl 2 rfl) ?_
      refine ck_iald hx hb hG hP 2 rfl (by decide) n (rfl) (by omega) dMo_addWords_18 ?_
      refine ck_ri (y := nI (f n)) (pN_at _ _ _) ?_
      refine lv_aload_n hx hb dMo_addWords_19 rfl (lv_at hl 0 rfl) ?_
      refine gfMo_16 hx hb hts hown hG hP 0 rfl rfl dMo_addWords_20 ?_
      refine lv_bipush (v := nI 16) hx hb dMo_addWords_23 (by decide) ?_
      refine lv_iload_n hx hb dMo_addWords_25 rfl (lv_at hl 1 rfl) ?_
      refine lv_imul hx hb dMo_addWords_26 ?_
      refine lv_iload_n hx hb dMo_addWords_27 rfl (lv_at hl 2 rfl) ?_
      refine lv_iadd hx hb dMo_addWords_28 ?_
      refine ck_iald hx hb hG hP 1 rfl (by decide) (16 * rd + n) (by rw [pk_mul, nI_add]) (by omega) dMo_addWords_29 ?_
      refine ck_ri (y := nI (wd (16 * rd + n))) (rfl) ?_
      refine lv_ixor hx hb dMo_addWords_30 ?_
      refine ck_ri (y := nI (f n ^^^ wd (16 * rd + n))) (nI_xor _ _) ?_
      refine ck_iast hx hb hG hP hD hS 2 rfl (by decide) n (rfl) (by omega) dMo_addWords_31 (fun H locs hP hD hS => ?_)
      have hP : va_P G.1 vwCl [moC oy r th fi se d sh sl az oh ol w0 w1 w2, aI G (r 2) 176 (bN wd), aI G (r 3) 16 (upd (pN n (fun j => f j ^^^ wd (16 * rd + j)) f) n (nI (f n ^^^ wd (16 * rd + n))))] H := hP
      have hD : va_D A [moC oy r th fi se d sh sl az oh ol w0 w1 w2, aI G (r 2) 176 (bN wd), aI G (r 3) 16 (upd (pN n (fun j => f j ^^^ wd (16 * rd + j)) f) n (nI (f n ^^^ wd (16 * rd + n))))] := hD
      refine lv_iinc (v := nI (n + 1)) (lv' := [(2, .int (nI (n + 1))), (0, .ref oy), (1, .int (nI rd))]) hx hb dMo_addWords_32 hl (k := 2) rfl (nI_1 n) (by decide) rfl (fun ls hl => ?_)
      refine lv_goto (tgt := 2) hx hb dMo_addWords_35 rfl ?_
      have e1 : upd (pN n (fun j => f j ^^^ wd (16 * rd + j)) f) n (nI (f n ^^^ wd (16 * rd + n))) = pN (n + 1) (fun j => f j ^^^ wd (16 * rd + j)) f := pN_upd n (fun j => f j ^^^ wd (16 * rd + j)) f
      rw [e1] at hP hD
      exact ih (n + 1) _ _ _ (by omega) hP hD hS (lv_sub hl [1, 2, 0] rfl)
  exact loop 16 0 _ _ _ (by omega) hP hD hS (lv_sub hl [1, 2, 0] rfl)
set_option maxHeartbeats 4000000 in
set_option maxRecDepth 100000 in
theorem k_Mo_turn (l : Launch) (G : gG) (oy : Nat) (r : Nat → Nat) (th : Int32) (fi se : Int64) (d : Int32) (sh sl : Int64) (az : Int32) (oh ol w0 w1 w2 : Int64) (f m0 : Nat → Nat) (t : Nat) (ht : t ≤ 3) : Ck l G yMo_turn cMo_turn 3 none { frames := 0, cells := 0, slots := 0, locals := 0 } [.ref oy, .int (nI t)] [moC oy r th fi se d sh sl az oh ol w0 w1 w2, aI G (r 3) 16 (bN f), aI G (r 4) 16 (bN m0)] (none) [moC oy r th fi se d sh sl az oh ol w0 w1 w2, aI G (r 3) 16 (bN (fun j => f ((j + 4 * t * (j % 4)) % 16))), aI G (r 4) 16 (bN (fun j => f ((j + 4 * t * (j % 4)) % 16)))] := by
  refine Cq.of (by decide) (Nat.le_of_ble_eq_true rfl) ?_
  intro p e s m args below meth c A ls hx hb hr hml hts hown hlk hA hP hD hG hS hl
  have hl : lv_has ls 3 [(0, .ref oy), (1, .int (nI t))] := hl
  refine lv_iconst (v := nI 0) hx hb dMo_turn_0 (by decide) ?_
  refine lv_istore_n (lv' := [(2, .int (nI 0)), (0, .ref oy), (1, .int (nI t))]) hx hb dMo_turn_1 rfl hl (by decide) rfl (fun ls hl => ?_)
  rw [bN_0 (fun j => f ((j + 4 * t * (j % 4)) % 16)) m0] at hP hD
  have loop1 : ∀ (k : Nat) (n : Nat) (H : Heap) (locs : List Loc) (ls : Array Slot), n + k = 16 → va_P G.1 vwCl [moC oy r th fi se d sh sl az oh ol w0 w1 w2, aI G (r 3) 16 (bN f), aI G (r 4) 16 (pN n (fun j => f ((j + 4 * t * (j % 4)) % 16)) m0)] H → va_D A [moC oy r th fi se d sh sl az oh ol w0 w1 w2, aI G (r 3) 16 (bN f), aI G (r 4) 16 (pN n (fun j => f ((j + 4 * t * (j % 4)) % 16)) m0)] → va_S A s.heap H locs → lv_has ls 3 [(0, .ref oy), (1, .int (nI t)), (2, .int (nI n))] → W p l e { frames := 0, cells := 0, slots := 0, locals := 0 } s m args below meth c H locs 0 0 (MQ below (cq_out G (S := Unit) (fun _ => True) (fun _ => (none)) (fun _ => [moC oy r th fi se d sh sl az oh ol w0 w1 w2, aI G (r 3) 16 (bN (fun j => f ((j + 4 * t * (j % 4)) % 16))), aI G (r 4) 16 (bN (fun j => f ((j + 4 * t * (j % 4)) % 16)))]) A) args s 0 0 A) (F0 m 2 ls []) := by
    intro k
    induction k with
    | zero =>
      intro n H locs ls hk hP hD hS hl
      have hP := ck_cg hP 2 rfl (g := bN (fun j => f ((j + 4 * t * (j % 4)) % 16))) (fun j hj => pN_lo _ _ (by omega))
      have hP : va_P G.1 vwCl [moC oy r th fi se d sh sl az oh ol w0 w1 w2, aI G (r 3) 16 (bN f), aI G (r 4) 16 (bN (fun j => f ((j + 4 * t * (j % 4)) % 16)))] H := hP
      have hD : va_D A [moC oy r th fi se d sh sl az oh ol w0 w1 w2, aI G (r 3) 16 (bN f), aI G (r 4) 16 (bN (fun j => f ((j + 4 * t * (j % 4)) % 16)))] := ck_Dsame (by rfl) hD
      refine lv_iload_n hx hb dMo_turn_2 rfl (lv_at hl 2 rfl) ?_
      refine lv_bipush (v := nI 16) hx hb dMo_turn_3 (by decide) ?_
      refine lv_icmp_ge (tgt := 37) hx hb dMo_turn_5 rfl (fun _ => ?_) (fun h => absurd (nI_le (by omega) (by omega)) h)
      refine lv_iconst (v := nI 0) hx hb dMo_turn_37 (by decide) ?_
      refine lv_istore_n (lv' := [(2, .int (nI 0)), (0, .ref oy), (1, .int (nI t))]) hx hb dMo_turn_38 rfl hl (by decide) rfl (fun ls hl => ?_)
      rw [bN_0 (fun j => f ((j + 4 * t * (j % 4)) % 16)) f] at hP hD
      have loop2 : ∀ (k : Nat) (n : Nat) (H : Heap) (locs : List Loc) (ls : Array Slot), n + k = 16 → va_P G.1 vwCl [moC oy r th fi se d sh sl az oh ol w0 w1 w2, aI G (r 3) 16 (pN n (fun j => f ((j + 4 * t * (j % 4)) % 16)) f), aI G (r 4) 16 (bN (fun j => f ((j + 4 * t * (j % 4)) % 16)))] H → va_D A [moC oy r th fi se d sh sl az oh ol w0 w1 w2, aI G (r 3) 16 (pN n (fun j => f ((j + 4 * t * (j % 4)) % 16)) f), aI G (r 4) 16 (bN (fun j => f ((j + 4 * t * (j % 4)) % 16)))] → va_S A s.heap H locs → lv_has ls 3 [(0, .ref oy), (2, .int (nI n))] → W p l e { frames := 0, cells := 0, slots := 0, locals := 0 } s m args below meth c H locs 0 0 (MQ below (cq_out G (S := Unit) (fun _ => True) (fun _ => (none)) (fun _ => [moC oy r th fi se d sh sl az oh ol w0 w1 w2, aI G (r 3) 16 (bN (fun j => f ((j + 4 * t * (j % 4)) % 16))), aI G (r 4) 16 (bN (fun j => f ((j + 4 * t * (j % 4)) % 16)))]) A) args s 0 0 A) (F0 m 39 ls []) := by
        intro k
        induction k with
        | zero =>
          intro n H locs ls hk hP hD hS hl
          have hP := ck_cg hP 1 rfl (g := bN (fun j => f ((j + 4 * t * (j % 4)) % 16))) (fun j hj => pN_lo _ _ (by omega))
          have hP : va_P G.1 vwCl [moC oy r th fi se d sh sl az oh ol w0 w1 w2, aI G (r 3) 16 (bN (fun j => f ((j + 4 * t * (j % 4)) % 16))), aI G (r 4) 16 (bN (fun j => f ((j + 4 * t * (j % 4)) % 16)))] H := hP
          have hD : va_D A [moC oy r th fi se d sh sl az oh ol w0 w1 w2, aI G (r 3) 16 (bN (fun j => f ((j + 4 * t * (j % 4)) % 16))), aI G (r 4) 16 (bN (fun j => f ((j + 4 * t * (j % 4)) % 16)))] := ck_Dsame (by rfl) hD
          refine lv_iload_n hx hb dMo_turn_39 rfl (lv_at hl 1 rfl) ?_
          refine lv_bipush (v := nI 16) hx hb dMo_turn_40 (by decide) ?_
          refine lv_icmp_ge (tgt := 63) hx hb dMo_turn_42 rfl (fun _ => ?_) (fun h => absurd (nI_le (by omega) (by omega)) h)
          exact cq_vret () (trivial) hx hb hr hlk hP hS rfl (rfl) dMo_turn_63
        | succ k ih =>
          intro n H locs ls hk hP hD hS hl
          refine lv_iload_n hx hb dMo_turn_39 rfl (lv_at hl 1 rfl) ?_
          refine lv_bipush (v := nI 16) hx hb dMo_turn_40 (by decide) ?_
          refine lv_icmp_ge (tgt := 63) hx hb dMo_turn_42 rfl (fun h => absurd h (nI_ge (by omega) (by omega))) (fun _ => ?_)
          refine lv_aload_n hx hb dMo_turn_45 rfl (lv_at hl 0 rfl) ?_
          refine gfMo_19 hx hb hts hown hG hP 0 rfl rfl dMo_turn_46 ?_
          refine lv_iload_n hx hb dMo_turn_49 rfl (lv_at hl 1 rfl) ?_
          refine lv_aload_n hx hb dMo_turn_50 rfl (lv_at hl 0 rfl) ?_
          refine gfMo_22 hx hb hts hown hG hP 0 rfl rfl dMo_turn_51 ?_
          refine lv_iload_n hx hb dMo_turn_54 rfl (lv_at hl 1 rfl) ?_
          refine ck_iald hx hb hG hP 2 rfl (by decide) n (rfl) (by omega) dMo_turn_55 ?_
          refine ck_ri (y := nI (f ((n + 4 * t * (n % 4)) % 16))) (rfl) ?_
          refine ck_iast hx hb hG hP hD hS 1 rfl (by decide) n (rfl) (by omega) dMo_turn_56 (fun H locs hP hD hS => ?_)
          have hP : va_P G.1 vwCl [moC oy r th fi se d sh sl az oh ol w0 w1 w2, aI G (r 3) 16 (upd (pN n (fun j => f ((j + 4 * t * (j % 4)) % 16)) f) n (nI (f ((n + 4 * t * (n % 4)) % 16)))), aI G (r 4) 16 (bN (fun j => f ((j + 4 * t * (j % 4)) % 16)))] H := hP
          have hD : va_D A [moC oy r th fi se d sh sl az oh ol w0 w1 w2, aI G (r 3) 16 (upd (pN n (fun j => f ((j + 4 * t * (j % 4)) % 16)) f) n (nI (f ((n + 4 * t * (n % 4)) % 16)))), aI G (r 4) 16 (bN (fun j => f ((j + 4 * t * (j % 4)) % 16)))] := hD
          refine lv_iinc (v := nI (n + 1)) (lv' := [(2, .int (nI (n + 1))), (0, .ref oy)]) hx hb dMo_turn_57 hl (k := 1) rfl (nI_1 n) (by decide) rfl (fun ls hl => ?_)
          refine lv_goto (tgt := 39) hx hb dMo_turn_60 rfl ?_
          have e1 : upd (pN n (fun j => f ((j + 4 * t * (j % 4)) % 16)) f) n (nI (f ((n + 4 * t * (n % 4)) % 16))) = pN (n + 1) (fun j => f ((j + 4 * t * (j % 4)) % 16)) f := pN_upd n (fun j => f ((j + 4 * t * (j % 4)) % 16)) f
          rw [e1] at hP hD
          exact ih (n + 1) _ _ _ (by omega) hP hD hS (lv_sub hl [1, 0] rfl)
      exact loop2 16 0 _ _ _ (by omega) hP hD hS (lv_sub hl [1, 0] rfl)
    | succ k ih =>
      intro n H locs ls hk hP hD hS hl
      refine lv_iload_n hx hb dMo_turn_2 rfl (lv_at hl 2 rfl) ?_
      refine lv_bipush (v := nI 16) hx hb dMo_turn_3 (by decide) ?_
      refine lv_icmp_ge (tgt := 37) hx hb dMo_turn_5 rfl (fun h => absurd h (nI_ge (by omega) (by omega))) (fun _ => ?_)
      refine lv_aload_n hx hb dMo_turn_8 rfl (lv_at hl 0 rfl) ?_
      refine gfMo_22 hx hb hts hown hG hP 0 rfl rfl dMo_turn_9 ?_
      refine lv_iload_n hx hb dMo_turn_12 rfl (lv_at hl 2 rfl) ?_
      refine lv_aload_n hx hb dMo_turn_13 rfl (lv_at hl 0 rfl) ?_
      refine gfMo_19 hx hb hts hown hG hP 0 rfl rfl dMo_turn_14 ?_
      refine lv_iload_n hx hb dMo_turn_17 rfl (lv_at hl 2 rfl) ?_
      refine lv_iconst (v := nI 4) hx hb dMo_turn_18 (by decide) ?_
      refine lv_iload_n hx hb dMo_turn_19 rfl (lv_at hl 1 rfl) ?_
      refine lv_imul hx hb dMo_turn_20 ?_
      refine ck_ri (y := nI (4 * t)) (pk_mul 4 t) ?_
      refine lv_iload_n hx hb dMo_turn_21 rfl (lv_at hl 2 rfl) ?_
      refine lv_iconst (v := nI 4) hx hb dMo_turn_22 (by decide) ?_
      refine lv_irem hx hb dMo_turn_23 (by decide) ?_
      refine ck_ri (y := nI (n % 4)) (irm_nI (by omega) (by decide) (by decide)) ?_
      refine lv_imul hx hb dMo_turn_24 ?_
      refine ck_ri (y := nI (4 * t * (n % 4))) (pk_mul _ _) ?_
      refine lv_iadd hx hb dMo_turn_25 ?_
      refine ck_ri (y := nI (n + 4 * t * (n % 4))) (nI_add _ _) ?_
      refine lv_bipush (v := nI 16) hx hb dMo_turn_26 (by decide) ?_
      refine lv_irem hx hb dMo_turn_28 (by decide) ?_
      refine ck_ri (y := nI ((n + 4 * t * (n % 4)) % 16)) (irm_nI (by have := Nat.mul_le_mul (show 4 * t ≤ 12 by omega) (show n % 4 ≤ 3 by omega); omega) (by decide) (by decide)) ?_
      refine ck_iald hx hb hG hP 1 rfl (by decide) ((n + 4 * t * (n % 4)) % 16) (rfl) (Nat.mod_lt _ (by decide)) dMo_turn_29 ?_
      refine ck_ri (y := nI (f ((n + 4 * t * (n % 4)) % 16))) (rfl) ?_
      refine ck_iast hx hb hG hP hD hS 2 rfl (by decide) n (rfl) (by omega) dMo_turn_30 (fun H locs hP hD hS => ?_)
      have hP : va_P G.1 vwCl [moC oy r th fi se d sh sl az oh ol w0 w1 w2, aI G (r 3) 16 (bN f), aI G (r 4) 16 (upd (pN n (fun j => f ((j + 4 * t * (j % 4)) % 16)) m0) n (nI (f ((n + 4 * t * (n % 4)) % 16))))] H := hP
      have hD : va_D A [moC oy r th fi se d sh sl az oh ol w0 w1 w2, aI G (r 3) 16 (bN f), aI G (r 4) 16 (upd (pN n (fun j => f ((j + 4 * t * (j % 4)) % 16)) m0) n (nI (f ((n + 4 * t * (n % 4)) % 16))))] := hD
      refine lv_iinc (v := nI (n + 1)) (lv' := [(2, .int (nI (n + 1))), (0, .ref oy), (1, .int (nI t))]) hx hb dMo_turn_31 hl (k := 2) rfl (nI_1 n) (by decide) rfl (fun ls hl => ?_)
      refine lv_goto (tgt := 2) hx hb dMo_turn_34 rfl ?_
      have e1 : upd (pN n (fun j => f ((j + 4 * t * (j % 4)) % 16)) m0) n (nI (f ((n + 4 * t * (n % 4)) % 16))) = pN (n + 1) (fun j => f ((j + 4 * t * (j % 4)) % 16)) m0 := pN_upd n (fun j => f ((j + 4 * t * (j % 4)) % 16)) m0
      rw [e1] at hP hD
      exact ih (n + 1) _ _ _ (by omega) hP hD hS (lv_sub hl [1, 2, 0] rfl)
  exact loop1 16 0 _ _ _ (by omega) hP hD hS (lv_sub hl [1, 2, 0] rfl)
set_option maxHeartbeats 4000000 in
set_option maxRecDepth 100000 in
theorem k_Mo_mix (l : Launch) (G : gG) (oy : Nat) (r : Nat → Nat) (th : Int32) (fi se : Int64) (d : Int32) (sh sl : Int64) (az : Int32) (oh ol w0 w1 w2 : Int64) (f m0 : Nat → Nat) (hf : ∀ j, f j < 256) : Ck l G yMo_mix cMo_mix 7 none { frames := 1, cells := 0, slots := 0, locals := 23 } [.ref oy] [moC oy r th fi se d sh sl az oh ol w0 w1 w2, aI G (r 3) 16 (bN f), aI G (r 4) 16 (bN m0)] (none) [moC oy r th fi se d sh sl az oh ol w0 w1 w2, aI G (r 3) 16 (bN (fun j => rPd (f j) 2 ^^^ rPd (f (j - j % 4 + (j + 1) % 4)) 3 ^^^ f (j - j % 4 + (j + 2) % 4) ^^^ f (j - j % 4 + (j + 3) % 4))), aI G (r 4) 16 (bN (fun j => rPd (f j) 2 ^^^ rPd (f (j - j % 4 + (j + 1) % 4)) 3 ^^^ f (j - j % 4 + (j + 2) % 4) ^^^ f (j - j % 4 + (j + 3) % 4)))] := by
  refine Cq.of (by decide) (Nat.le_of_ble_eq_true rfl) ?_
  intro p e s m args below meth c A ls hx hb hr hml hts hown hlk hA hP hD hG hS hl
  have hl : lv_has ls 7 [(0, .ref oy)] := hl
  refine lv_iconst (v := nI 0) hx hb dMo_mix_0 (by decide) ?_
  refine lv_istore_n (lv' := [(1, .int (nI 0)), (0, .ref oy)]) hx hb dMo_mix_1 rfl hl (by decide) rfl (fun ls hl => ?_)
  rw [bN_0 (fun j => rPd (f j) 2 ^^^ rPd (f (j - j % 4 + (j + 1) % 4)) 3 ^^^ f (j - j % 4 + (j + 2) % 4) ^^^ f (j - j % 4 + (j + 3) % 4)) m0] at hP hD
  have loop1 : ∀ (k : Nat) (n : Nat) (H : Heap) (locs : List Loc) (ls : Array Slot), n + k = 16 → va_P G.1 vwCl [moC oy r th fi se d sh sl az oh ol w0 w1 w2, aI G (r 3) 16 (bN f), aI G (r 4) 16 (pN n (fun j => rPd (f j) 2 ^^^ rPd (f (j - j % 4 + (j + 1) % 4)) 3 ^^^ f (j - j % 4 + (j + 2) % 4) ^^^ f (j - j % 4 + (j + 3) % 4)) m0)] H → va_D A [moC oy r th fi se d sh sl az oh ol w0 w1 w2, aI G (r 3) 16 (bN f), aI G (r 4) 16 (pN n (fun j => rPd (f j) 2 ^^^ rPd (f (j - j % 4 + (j + 1) % 4)) 3 ^^^ f (j - j % 4 + (j + 2) % 4) ^^^ f (j - j % 4 + (j + 3) % 4)) m0)] → va_S A s.heap H locs → lv_has ls 7 [(0, .ref oy), (1, .int (nI n))] → W p l e { frames := 1, cells := 0, slots := 0, locals := 23 } s m args below meth c H locs 0 0 (MQ below (cq_out G (S := Unit) (fun _ => True) (fun _ => (none)) (fun _ => [moC oy r th fi se d sh sl az oh ol w0 w1 w2, aI G (r 3) 16 (bN (fun j => rPd (f j) 2 ^^^ rPd (f (j - j % 4 + (j + 1) % 4)) 3 ^^^ f (j - j % 4 + (j + 2) % 4) ^^^ f (j - j % 4 + (j + 3) % 4))), aI G (r 4) 16 (bN (fun j => rPd (f j) 2 ^^^ rPd (f (j - j % 4 + (j + 1) % 4)) 3 ^^^ f (j - j % 4 + (j + 2) % 4) ^^^ f (j - j % 4 + (j + 3) % 4)))]) A) args s 0 0 A) (F0 m 2 ls []) := by
    intro k
    induction k with
    | zero =>
      intro n H locs ls hk hP hD hS hl
      have hP := ck_cg hP 2 rfl (g := bN (fun j => rPd (f j) 2 ^^^ rPd (f (j - j % 4 + (j + 1) % 4)) 3 ^^^ f (j - j % 4 + (j + 2) % 4) ^^^ f (j - j % 4 + (j + 3) % 4))) (fun j hj => pN_lo _ _ (by omega))
      have hP : va_P G.1 vwCl [moC oy r th fi se d sh sl az oh ol w0 w1 w2, aI G (r 3) 16 (bN f), aI G (r 4) 16 (bN (fun j => rPd (f j) 2 ^^^ rPd (f (j - j % 4 + (j + 1) % 4)) 3 ^^^ f (j - j % 4 + (j + 2) % 4) ^^^ f (j - j % 4 + (j + 3) % 4)))] H := hP
      have hD : va_D A [moC oy r th fi se d sh sl az oh ol w0 w1 w2, aI G (r 3) 16 (bN f), aI G (r 4) 16 (bN (fun j => rPd (f j) 2 ^^^ rPd (f (j - j % 4 + (j + 1) % 4)) 3 ^^^ f (j - j % 4 + (j + 2) % 4) ^^^ f (j - j % 4 + (j + 3) % 4)))] := ck_Dsame (by rfl) hD
      refine lv_iload_n hx hb dMo_mix_2 rfl (lv_at hl 1 rfl) ?_
      refine lv_bipush (v := nI 16) hx hb dMo_mix_3 (by decide) ?_
      refine lv_icmp_ge (tgt := 93) hx hb dMo_mix_5 rfl (fun _ => ?_) (fun h => absurd (nI_le (by omega) (by omega)) h)
      refine lv_iconst (v := nI 0) hx hb dMo_mix_93 (by decide) ?_
      refine lv_istore_n (lv' := [(1, .int (nI 0)), (0, .ref oy)]) hx hb dMo_mix_94 rfl hl (by decide) rfl (fun ls hl => ?_)
      rw [bN_0 (fun j => rPd (f j) 2 ^^^ rPd (f (j - j % 4 + (j + 1) % 4)) 3 ^^^ f (j - j % 4 + (j + 2) % 4) ^^^ f (j - j % 4 + (j + 3) % 4)) f] at hP hD
      have loop2 : ∀ (k : Nat) (n : Nat) (H : Heap) (locs : List Loc) (ls : Array Slot), n + k = 16 → va_P G.1 vwCl [moC oy r th fi se d sh sl az oh ol w0 w1 w2, aI G (r 3) 16 (pN n (fun j => rPd (f j) 2 ^^^ rPd (f (j - j % 4 + (j + 1) % 4)) 3 ^^^ f (j - j % 4 + (j + 2) % 4) ^^^ f (j - j % 4 + (j + 3) % 4)) f), aI G (r 4) 16 (bN (fun j => rPd (f j) 2 ^^^ rPd (f (j - j % 4 + (j + 1) % 4)) 3 ^^^ f (j - j % 4 + (j + 2) % 4) ^^^ f (j - j % 4 + (j + 3) % 4)))] H → va_D A [moC oy r th fi se d sh sl az oh ol w0 w1 w2, aI G (r 3) 16 (pN n (fun j => rPd (f j) 2 ^^^ rPd (f (j - j % 4 + (j + 1) % 4)) 3 ^^^ f (j - j % 4 + (j + 2) % 4) ^^^ f (j - j % 4 + (j + 3) % 4)) f), aI G (r 4) 16 (bN (fun j => rPd (f j) 2 ^^^ rPd (f (j - j % 4 + (j + 1) % 4)) 3 ^^^ f (j - j % 4 + (j + 2) % 4) ^^^ f (j - j % 4 + (j + 3) % 4)))] → va_S A s.heap H locs → lv_has ls 7 [(0, .ref oy), (1, .int (nI n))] → W p l e { frames := 1, cells := 0, slots := 0, locals := 23 } s m args below meth c H locs 0 0 (MQ below (cq_out G (S := Unit) (fun _ => True) (fun _ => (none)) (fun _ => [moC oy r th fi se d sh sl az oh ol w0 w1 w2, aI G (r 3) 16 (bN (fun j => rPd (f j) 2 ^^^ rPd (f (j - j % 4 + (j + 1) % 4)) 3 ^^^ f (j - j % 4 + (j + 2) % 4) ^^^ f (j - j % 4 + (j + 3) % 4))), aI G (r 4) 16 (bN (fun j => rPd (f j) 2 ^^^ rPd (f (j - j % 4 + (j + 1) % 4)) 3 ^^^ f (j - j % 4 + (j + 2) % 4) ^^^ f (j - j % 4 + (j + 3) % 4)))]) A) args s 0 0 A) (F0 m 95 ls []) := by
        intro k
        induction k with
        | zero =>
          intro n H locs ls hk hP hD hS hl
          have hP := ck_cg hP 1 rfl (g := bN (fun j => rPd (f j) 2 ^^^ rPd (f (j - j % 4 + (j + 1) % 4)) 3 ^^^ f (j - j % 4 + (j + 2) % 4) ^^^ f (j - j % 4 + (j + 3) % 4))) (fun j hj => pN_lo _ _ (by omega))
          have hP : va_P G.1 vwCl [moC oy r th fi se d sh sl az oh ol w0 w1 w2, aI G (r 3) 16 (bN (fun j => rPd (f j) 2 ^^^ rPd (f (j - j % 4 + (j + 1) % 4)) 3 ^^^ f (j - j % 4 + (j + 2) % 4) ^^^ f (j - j % 4 + (j + 3) % 4))), aI G (r 4) 16 (bN (fun j => rPd (f j) 2 ^^^ rPd (f (j - j % 4 + (j + 1) % 4)) 3 ^^^ f (j - j % 4 + (j + 2) % 4) ^^^ f (j - j % 4 + (j + 3) % 4)))] H := hP
          have hD : va_D A [moC oy r th fi se d sh sl az oh ol w0 w1 w2, aI G (r 3) 16 (bN (fun j => rPd (f j) 2 ^^^ rPd (f (j - j % 4 + (j + 1) % 4)) 3 ^^^ f (j - j % 4 + (j + 2) % 4) ^^^ f (j - j % 4 + (j + 3) % 4))), aI G (r 4) 16 (bN (fun j => rPd (f j) 2 ^^^ rPd (f (j - j % 4 + (j + 1) % 4)) 3 ^^^ f (j - j % 4 + (j + 2) % 4) ^^^ f (j - j % 4 + (j + 3) % 4)))] := ck_Dsame (by rfl) hD
          refine lv_iload_n hx hb dMo_mix_95 rfl (lv_at hl 1 rfl) ?_
          refine lv_bipush (v := nI 16) hx hb dMo_mix_96 (by decide) ?_
          refine lv_icmp_ge (tgt := 119) hx hb dMo_mix_98 rfl (fun _ => ?_) (fun h => absurd (nI_le (by omega) (by omega)) h)
          exact cq_vret () (trivial) hx hb hr hlk hP hS rfl (rfl) dMo_mix_119
        | succ k ih =>
          intro n H locs ls hk hP hD hS hl
          refine lv_iload_n hx hb dMo_mix_95 rfl (lv_at hl 1 rfl) ?_
          refine lv_bipush (v := nI 16) hx hb dMo_mix_96 (by decide) ?_
          refine lv_icmp_ge (tgt := 119) hx hb dMo_mix_98 rfl (fun h => absurd h (nI_ge (by omega) (by omega))) (fun _ => ?_)
          refine lv_aload_n hx hb dMo_mix_101 rfl (lv_at hl 0 rfl) ?_
          refine gfMo_19 hx hb hts hown hG hP 0 rfl rfl dMo_mix_102 ?_
          refine lv_iload_n hx hb dMo_mix_105 rfl (lv_at hl 1 rfl) ?_
          refine lv_aload_n hx hb dMo_mix_106 rfl (lv_at hl 0 rfl) ?_
          refine gfMo_22 hx hb hts hown hG hP 0 rfl rfl dMo_mix_107 ?_
          refine lv_iload_n hx hb dMo_mix_110 rfl (lv_at hl 1 rfl) ?_
          refine ck_iald hx hb hG hP 2 rfl (by decide) n (rfl) (by omega) dMo_mix_111 ?_
          refine ck_ri (y := nI ((fun j => rPd (f j) 2 ^^^ rPd (f (j - j % 4 + (j + 1) % 4)) 3 ^^^ f (j - j % 4 + (j + 2) % 4) ^^^ f (j - j % 4 + (j + 3) % 4)) n)) (rfl) ?_
          refine ck_iast hx hb hG hP hD hS 1 rfl (by decide) n (rfl) (by omega) dMo_mix_112 (fun H locs hP hD hS => ?_)
          have hP : va_P G.1 vwCl [moC oy r th fi se d sh sl az oh ol w0 w1 w2, aI G (r 3) 16 (upd (pN n (fun j => rPd (f j) 2 ^^^ rPd (f (j - j % 4 + (j + 1) % 4)) 3 ^^^ f (j - j % 4 + (j + 2) % 4) ^^^ f (j - j % 4 + (j + 3) % 4)) f) n (nI ((fun j => rPd (f j) 2 ^^^ rPd (f (j - j % 4 + (j + 1) % 4)) 3 ^^^ f (j - j % 4 + (j + 2) % 4) ^^^ f (j - j % 4 + (j + 3) % 4)) n))), aI G (r 4) 16 (bN (fun j => rPd (f j) 2 ^^^ rPd (f (j - j % 4 + (j + 1) % 4)) 3 ^^^ f (j - j % 4 + (j + 2) % 4) ^^^ f (j - j % 4 + (j + 3) % 4)))] H := hP
          have hD : va_D A [moC oy r th fi se d sh sl az oh ol w0 w1 w2, aI G (r 3) 16 (upd (pN n (fun j => rPd (f j) 2 ^^^ rPd (f (j - j % 4 + (j + 1) % 4)) 3 ^^^ f (j - j % 4 + (j + 2) % 4) ^^^ f (j - j % 4 + (j + 3) % 4)) f) n (nI ((fun j => rPd (f j) 2 ^^^ rPd (f (j - j % 4 + (j + 1) % 4)) 3 ^^^ f (j - j % 4 + (j + 2) % 4) ^^^ f (j - j % 4 + (j + 3) % 4)) n))), aI G (r 4) 16 (bN (fun j => rPd (f j) 2 ^^^ rPd (f (j - j % 4 + (j + 1) % 4)) 3 ^^^ f (j - j % 4 + (j + 2) % 4) ^^^ f (j - j % 4 + (j + 3) % 4)))] := hD
          refine lv_iinc (v := nI (n + 1)) (lv' := [(1, .int (nI (n + 1))), (0, .ref oy)]) hx hb dMo_mix_113 hl (k := 1) rfl (nI_1 n) (by decide) rfl (fun ls hl => ?_)
          refine lv_goto (tgt := 95) hx hb dMo_mix_116 rfl ?_
          have e1 : upd (pN n (fun j => rPd (f j) 2 ^^^ rPd (f (j - j % 4 + (j + 1) % 4)) 3 ^^^ f (j - j % 4 + (j + 2) % 4) ^^^ f (j - j % 4 + (j + 3) % 4)) f) n (nI ((fun j => rPd (f j) 2 ^^^ rPd (f (j - j % 4 + (j + 1) % 4)) 3 ^^^ f (j - j % 4 + (j + 2) % 4) ^^^ f (j - j % 4 + (j + 3) % 4)) n)) = pN (n + 1) (fun j => rPd (f j) 2 ^^^ rPd (f (j - j % 4 + (j + 1) % 4)) 3 ^^^ f (j - j % 4 + (j + 2) % 4) ^^^ f (j - j % 4 + (j + 3) % 4)) f := pN_upd n (fun j => rPd (f j) 2 ^^^ rPd (f (j - j % 4 + (j + 1) % 4)) 3 ^^^ f (j - j % 4 + (j + 2) % 4) ^^^ f (j - j % 4 + (j + 3) % 4)) f
          rw [e1] at hP hD
          exact ih (n + 1) _ _ _ (by omega) hP hD hS (lv_sub hl [1, 0] rfl)
      exact loop2 16 0 _ _ _ (by omega) hP hD hS (lv_sub hl [1, 0] rfl)
    | succ k ih =>
      intro n H locs ls hk hP hD hS hl
      refine lv_iload_n hx hb dMo_mix_2 rfl (lv_at hl 1 rfl) ?_
      refine lv_bipush (v := nI 16) hx hb dMo_mix_3 (by decide) ?_
      refine lv_icmp_ge (tgt := 93) hx hb dMo_mix_5 rfl (fun h => absurd h (nI_ge (by omega) (by omega))) (fun _ => ?_)
      refine lv_iload_n hx hb dMo_mix_8 rfl (lv_at hl 1 rfl) ?_
      refine lv_iload_n hx hb dMo_mix_9 rfl (lv_at hl 1 rfl) ?_
      refine lv_iconst (v := nI 4) hx hb dMo_mix_10 (by decide) ?_
      refine lv_irem hx hb dMo_mix_11 (by decide) ?_
      refine ck_ri (y := nI (n % 4)) (irm_nI (by omega) (by decide) (by decide)) ?_
      refine lv_isub hx hb dMo_mix_12 ?_
      refine ck_ri (y := nI (n - n % 4)) (pk_sub (Nat.mod_le _ _)) ?_
      refine lv_istore_n (lv' := [(2, .int (nI (n - n % 4))), (0, .ref oy), (1, .int (nI n))]) hx hb dMo_mix_13 rfl hl (by decide) rfl (fun ls hl => ?_)
      refine lv_aload_n hx hb dMo_mix_14 rfl (lv_at hl 1 rfl) ?_
      refine gfMo_19 hx hb hts hown hG hP 0 rfl rfl dMo_mix_15 ?_
      refine lv_iload_n hx hb dMo_mix_18 rfl (lv_at hl 2 rfl) ?_
      refine ck_iald hx hb hG hP 1 rfl (by decide) n (rfl) (by omega) dMo_mix_19 ?_
      refine ck_ri (y := nI (f n)) (rfl) ?_
      refine lv_istore_n (lv' := [(3, .int (nI (f n))), (2, .int (nI (n - n % 4))), (0, .ref oy), (1, .int (nI n))]) hx hb dMo_mix_20 rfl hl (by decide) rfl (fun ls hl => ?_)
      refine lv_aload_n hx hb dMo_mix_21 rfl (lv_at hl 2 rfl) ?_
      refine gfMo_19 hx hb hts hown hG hP 0 rfl rfl dMo_mix_22 ?_
      refine lv_iload_n hx hb dMo_mix_25 rfl (lv_at hl 1 rfl) ?_
      refine lv_iload_n hx hb dMo_mix_26 rfl (lv_at hl 3 rfl) ?_
      refine lv_iconst (v := nI 1) hx hb dMo_mix_27 (by decide) ?_
      refine lv_iadd hx hb dMo_mix_28 ?_
      refine ck_ri (y := nI (n + 1)) (nI_add n 1) ?_
      refine lv_iconst (v := nI 4) hx hb dMo_mix_29 (by decide) ?_
      refine lv_irem hx hb dMo_mix_30 (by decide) ?_
      refine ck_ri (y := nI ((n + 1) % 4)) (irm_nI (by omega) (by decide) (by decide)) ?_
      refine lv_iadd hx hb dMo_mix_31 ?_
      refine ck_ri (y := nI (n - n % 4 + (n + 1) % 4)) (nI_add _ _) ?_
      refine ck_iald hx hb hG hP 1 rfl (by decide) (n - n % 4 + (n + 1) % 4) (rfl) (by omega) dMo_mix_32 ?_
      refine ck_ri (y := nI (f (n - n % 4 + (n + 1) % 4))) (rfl) ?_
      refine lv_istore (lv' := [(4, .int (nI (f (n - n % 4 + (n + 1) % 4)))), (3, .int (nI (f n))), (2, .int (nI (n - n % 4))), (0, .ref oy), (1, .int (nI n))]) hx hb dMo_mix_33 hl (by decide) rfl (fun ls hl => ?_)
      refine lv_aload_n hx hb dMo_mix_35 rfl (lv_at hl 3 rfl) ?_
      refine gfMo_19 hx hb hts hown hG hP 0 rfl rfl dMo_mix_36 ?_
      refine lv_iload_n hx hb dMo_mix_39 rfl (lv_at hl 2 rfl) ?_
      refine lv_iload_n hx hb dMo_mix_40 rfl (lv_at hl 4 rfl) ?_
      refine lv_iconst (v := nI 2) hx hb dMo_mix_41 (by decide) ?_
      refine lv_iadd hx hb dMo_mix_42 ?_
      refine ck_ri (y := nI (n + 2)) (nI_add n 2) ?_
      refine lv_iconst (v := nI 4) hx hb dMo_mix_43 (by decide) ?_
      refine lv_irem hx hb dMo_mix_44 (by decide) ?_
      refine ck_ri (y := nI ((n + 2) % 4)) (irm_nI (by omega) (by decide) (by decide)) ?_
      refine lv_iadd hx hb dMo_mix_45 ?_
      refine ck_ri (y := nI (n - n % 4 + (n + 2) % 4)) (nI_add _ _) ?_
      refine ck_iald hx hb hG hP 1 rfl (by decide) (n - n % 4 + (n + 2) % 4) (rfl) (by omega) dMo_mix_46 ?_
      refine ck_ri (y := nI (f (n - n % 4 + (n + 2) % 4))) (rfl) ?_
      refine lv_istore (lv' := [(5, .int (nI (f (n - n % 4 + (n + 2) % 4)))), (4, .int (nI (f (n - n % 4 + (n + 1) % 4)))), (3, .int (nI (f n))), (2, .int (nI (n - n % 4))), (0, .ref oy), (1, .int (nI n))]) hx hb dMo_mix_47 hl (by decide) rfl (fun ls hl => ?_)
      refine lv_aload_n hx hb dMo_mix_49 rfl (lv_at hl 4 rfl) ?_
      refine gfMo_19 hx hb hts hown hG hP 0 rfl rfl dMo_mix_50 ?_
      refine lv_iload_n hx hb dMo_mix_53 rfl (lv_at hl 3 rfl) ?_
      refine lv_iload_n hx hb dMo_mix_54 rfl (lv_at hl 5 rfl) ?_
      refine lv_iconst (v := nI 3) hx hb dMo_mix_55 (by decide) ?_
      refine lv_iadd hx hb dMo_mix_56 ?_
      refine ck_ri (y := nI (n + 3)) (nI_add n 3) ?_
      refine lv_iconst (v := nI 4) hx hb dMo_mix_57 (by decide) ?_
      refine lv_irem hx hb dMo_mix_58 (by decide) ?_
      refine ck_ri (y := nI ((n + 3) % 4)) (irm_nI (by omega) (by decide) (by decide)) ?_
      refine lv_iadd hx hb dMo_mix_59 ?_
      refine ck_ri (y := nI (n - n % 4 + (n + 3) % 4)) (nI_add _ _) ?_
      refine ck_iald hx hb hG hP 1 rfl (by decide) (n - n % 4 + (n + 3) % 4) (rfl) (by omega) dMo_mix_60 ?_
      refine ck_ri (y := nI (f (n - n % 4 + (n + 3) % 4))) (rfl) ?_
      refine lv_istore (lv' := [(6, .int (nI (f (n - n % 4 + (n + 3) % 4)))), (5, .int (nI (f (n - n % 4 + (n + 2) % 4)))), (4, .int (nI (f (n - n % 4 + (n + 1) % 4)))), (3, .int (nI (f n))), (2, .int (nI (n - n % 4))), (0, .ref oy), (1, .int (nI n))]) hx hb dMo_mix_61 hl (by decide) rfl (fun ls hl => ?_)
      refine lv_aload_n hx hb dMo_mix_63 rfl (lv_at hl 5 rfl) ?_
      refine gfMo_22 hx hb hts hown hG hP 0 rfl rfl dMo_mix_64 ?_
      refine lv_iload_n hx hb dMo_mix_67 rfl (lv_at hl 6 rfl) ?_
      refine lv_iload_n hx hb dMo_mix_68 rfl (lv_at hl 3 rfl) ?_
      refine lv_iconst (v := nI 2) hx hb dMo_mix_69 (by decide) ?_
      refine clMo_78 (As := [.int (nI (f n)), .int (nI 2)]) (rest := [.int (nI n), .ref (r 4)]) hx hb hml hown hts (k_Mo_product l G (f n) 2 (hf _) (by decide)) hG hA hP hD hS [] rfl rfl (fun _ => rfl) rfl hl.1 rfl (Nat.le_of_ble_eq_true rfl) ⟨by decide, by decide⟩ ⟨by decide, by decide⟩ dMo_mix_70 (fun _ H locs _ hP hD hS => ?_)
      have hP : va_P G.1 vwCl [moC oy r th fi se d sh sl az oh ol w0 w1 w2, aI G (r 3) 16 (bN f), aI G (r 4) 16 (pN n (fun j => rPd (f j) 2 ^^^ rPd (f (j - j % 4 + (j + 1) % 4)) 3 ^^^ f (j - j % 4 + (j + 2) % 4) ^^^ f (j - j % 4 + (j + 3) % 4)) m0)] H := hP
      have hD : va_D A [moC oy r th fi se d sh sl az oh ol w0 w1 w2, aI G (r 3) 16 (bN f), aI G (r 4) 16 (pN n (fun j => rPd (f j) 2 ^^^ rPd (f (j - j % 4 + (j + 1) % 4)) 3 ^^^ f (j - j % 4 + (j + 2) % 4) ^^^ f (j - j % 4 + (j + 3) % 4)) m0)] := hD
      refine W.cs (cells' := 0) (slots' := 0) rfl rfl ?_
      refine W.eq (g2 := F0 m 73 ls [.int (nI (rPd (f n) 2)), .int (nI n), .ref (r 4)]) rfl ?_
      refine lv_iload hx hb dMo_mix_73 (lv_at hl 2 rfl) ?_
      refine lv_iconst (v := nI 3) hx hb dMo_mix_75 (by decide) ?_
      refine clMo_78 (As := [.int (nI (f (n - n % 4 + (n + 1) % 4))), .int (nI 3)]) (rest := [.int (nI (rPd (f n) 2)), .int (nI n), .ref (r 4)]) hx hb hml hown hts (k_Mo_product l G (f (n - n % 4 + (n + 1) % 4)) 3 (hf _) (by decide)) hG hA hP hD hS [] rfl rfl (fun _ => rfl) rfl hl.1 rfl (Nat.le_of_ble_eq_true rfl) ⟨by decide, by decide⟩ ⟨by decide, by decide⟩ dMo_mix_76 (fun _ H locs _ hP hD hS => ?_)
      have hP : va_P G.1 vwCl [moC oy r th fi se d sh sl az oh ol w0 w1 w2, aI G (r 3) 16 (bN f), aI G (r 4) 16 (pN n (fun j => rPd (f j) 2 ^^^ rPd (f (j - j % 4 + (j + 1) % 4)) 3 ^^^ f (j - j % 4 + (j + 2) % 4) ^^^ f (j - j % 4 + (j + 3) % 4)) m0)] H := hP
      have hD : va_D A [moC oy r th fi se d sh sl az oh ol w0 w1 w2, aI G (r 3) 16 (bN f), aI G (r 4) 16 (pN n (fun j => rPd (f j) 2 ^^^ rPd (f (j - j % 4 + (j + 1) % 4)) 3 ^^^ f (j - j % 4 + (j + 2) % 4) ^^^ f (j - j % 4 + (j + 3) % 4)) m0)] := hD
      refine W.cs (cells' := 0) (slots' := 0) rfl rfl ?_
      refine W.eq (g2 := F0 m 79 ls [.int (nI (rPd (f (n - n % 4 + (n + 1) % 4)) 3)), .int (nI (rPd (f n) 2)), .int (nI n), .ref (r 4)]) rfl ?_
      refine lv_ixor hx hb dMo_mix_79 ?_
      refine ck_ri (y := nI (rPd (f n) 2 ^^^ rPd (f (n - n % 4 + (n + 1) % 4)) 3)) (nI_xor _ _) ?_
      refine lv_iload hx hb dMo_mix_80 (lv_at hl 1 rfl) ?_
      refine lv_ixor hx hb dMo_mix_82 ?_
      refine ck_ri (y := nI (rPd (f n) 2 ^^^ rPd (f (n - n % 4 + (n + 1) % 4)) 3 ^^^ f (n - n % 4 + (n + 2) % 4))) (nI_xor _ _) ?_
      refine lv_iload hx hb dMo_mix_83 (lv_at hl 0 rfl) ?_
      refine lv_ixor hx hb dMo_mix_85 ?_
      refine ck_ri (y := nI (rPd (f n) 2 ^^^ rPd (f (n - n % 4 + (n + 1) % 4)) 3 ^^^ f (n - n % 4 + (n + 2) % 4) ^^^ f (n - n % 4 + (n + 3) % 4))) (nI_xor _ _) ?_
      refine ck_iast hx hb hG hP hD hS 2 rfl (by decide) n (rfl) (by omega) dMo_mix_86 (fun H locs hP hD hS => ?_)
      have hP : va_P G.1 vwCl [moC oy r th fi se d sh sl az oh ol w0 w1 w2, aI G (r 3) 16 (bN f), aI G (r 4) 16 (upd (pN n (fun j => rPd (f j) 2 ^^^ rPd (f (j - j % 4 + (j + 1) % 4)) 3 ^^^ f (j - j % 4 + (j + 2) % 4) ^^^ f (j - j % 4 + (j + 3) % 4)) m0) n (nI (rPd (f n) 2 ^^^ rPd (f (n - n % 4 + (n + 1) % 4)) 3 ^^^ f (n - n % 4 + (n + 2) % 4) ^^^ f (n - n % 4 + (n + 3) % 4))))] H := hP
      have hD : va_D A [moC oy r th fi se d sh sl az oh ol w0 w1 w2, aI G (r 3) 16 (bN f), aI G (r 4) 16 (upd (pN n (fun j => rPd (f j) 2 ^^^ rPd (f (j - j % 4 + (j + 1) % 4)) 3 ^^^ f (j - j % 4 + (j + 2) % 4) ^^^ f (j - j % 4 + (j + 3) % 4)) m0) n (nI (rPd (f n) 2 ^^^ rPd (f (n - n % 4 + (n + 1) % 4)) 3 ^^^ f (n - n % 4 + (n + 2) % 4) ^^^ f (n - n % 4 + (n + 3) % 4))))] := hD
      refine lv_iinc (v := nI (n + 1)) (lv' := [(1, .int (nI (n + 1))), (6, .int (nI (f (n - n % 4 + (n + 3) % 4)))), (5, .int (nI (f (n - n % 4 + (n + 2) % 4)))), (4, .int (nI (f (n - n % 4 + (n + 1) % 4)))), (3, .int (nI (f n))), (2, .int (nI (n - n % 4))), (0, .ref oy)]) hx hb dMo_mix_87 hl (k := 6) rfl (nI_1 n) (by decide) rfl (fun ls hl => ?_)
      refine lv_goto (tgt := 2) hx hb dMo_mix_90 rfl ?_
      have e1 : upd (pN n (fun j => rPd (f j) 2 ^^^ rPd (f (j - j % 4 + (j + 1) % 4)) 3 ^^^ f (j - j % 4 + (j + 2) % 4) ^^^ f (j - j % 4 + (j + 3) % 4)) m0) n (nI (rPd (f n) 2 ^^^ rPd (f (n - n % 4 + (n + 1) % 4)) 3 ^^^ f (n - n % 4 + (n + 2) % 4) ^^^ f (n - n % 4 + (n + 3) % 4))) = pN (n + 1) (fun j => rPd (f j) 2 ^^^ rPd (f (j - j % 4 + (j + 1) % 4)) 3 ^^^ f (j - j % 4 + (j + 2) % 4) ^^^ f (j - j % 4 + (j + 3) % 4)) m0 := pN_upd n (fun j => rPd (f j) 2 ^^^ rPd (f (j - j % 4 + (j + 1) % 4)) 3 ^^^ f (j - j % 4 + (j + 2) % 4) ^^^ f (j - j % 4 + (j + 3) % 4)) m0
      rw [e1] at hP hD
      exact ih (n + 1) _ _ _ (by omega) hP hD hS (lv_sub hl [6, 0] rfl)
  exact loop1 16 0 _ _ _ (by omega) hP hD hS (lv_sub hl [1, 0] rfl)
