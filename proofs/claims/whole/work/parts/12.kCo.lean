/-! the cover of a channel -/
theorem nI_xor (a b : Nat) : nI a ^^^ nI b = nI (a ^^^ b) := by
  apply Int32.toBitVec_inj.mp
  rw [Int32.toBitVec_xor]
  show BitVec.ofNat 32 a ^^^ BitVec.ofNat 32 b = BitVec.ofNat 32 (a ^^^ b)
  exact (BitVec.ofNat_xor ..).symm
def jN (x : Int32) : Int32 := if x = 0 then nI 1 else nI 0
def jOr (x y : Int32) : Int32 := if x = 0 then (if y = 0 then nI 0 else nI 1) else nI 1
def jMk1 (f g : Nat → Int32) (n : Nat) : Nat → (Nat → Int32)
  | 0 => f
  | i + 1 => upd (jMk1 f g n i) (n + i) (jN (g i))
def jMk2 (f : Nat → Int32) (n : Nat) : Nat → (Nat → Int32)
  | 0 => f
  | i + 1 => upd (jMk2 f n i) (n - 1 - i) (jOr (jMk2 f n i (2 * (n - 1 - i))) (jMk2 f n i (2 * (n - 1 - i) + 1)))
/-- the marks -/
def jMk (f g : Nat → Int32) (n : Nat) : Nat → Int32 := jMk2 (jMk1 f g n n) n (n - 1)
def jLF (f : Nat → Int32) (n : Nat) : Nat → Nat → Nat
  | 0, x => x
  | k + 1, x => if n ≤ x then x else if f (2 * x) = f (2 * x + 1) then x else if f (2 * x) = 0 then jLF f n k (2 * x + 1) else jLF f n k (2 * x)
/-- lastBelow -/
def jLast (f : Nat → Int32) (n v : Nat) : Nat := jLF f n 8 v
theorem jLF_lt (f : Nat → Int32) {n : Nat} (hn : n ≤ 256) : ∀ (k x : Nat), x < 512 → jLF f n k x < 512
  | 0, x, h => h
  | k + 1, x, h => by
    unfold jLF
    split
    · exact h
    · split
      · exact h
      · split
        · exact jLF_lt f hn k _ (by omega)
        · exact jLF_lt f hn k _ (by omega)
abbrev Cv : Type := Nat × (Nat → Int32) × (Nat → Int32)
def jFdS (M : Nat → Int32) (n v : Nat) (q : Nat) (fv fw : Nat → Int32) : Cv := if ¬ M v = 0 ∧ (v = 1 ∨ ¬ M (v ^^^ 1) = 0) ∧ ¬ jLast M n v = v then (jAq q, jAf q fv (nI v), jAf q fw (nI (jLast M n v))) else (q, fv, fw)
def jFd (M : Nat → Int32) (n : Nat) (fv fw : Nat → Int32) : Nat → Cv
  | 0 => (0, fv, fw)
  | i + 1 => jFdS M n (i + 1) (jFd M n fv fw i).1 (jFd M n fv fw i).2.1 (jFd M n fv fw i).2.2
def jCov (M : Nat → Int32) (n : Nat) (fv fw : Nat → Int32) : Cv := if M 1 = 0 then (jAq 0, jAf 0 fv (nI 0), jAf 0 fw (nI 0)) else jFd M n fv fw (n - 1)
theorem jAq_le {q : Nat} (h : q ≤ 128) : jAq q ≤ 128 := by unfold jAq; split <;> omega
set_option maxHeartbeats 4000000 in
set_option maxRecDepth 100000 in
theorem k_Co_markNodes (l : Launch) (G : gG) (oo om os n : Nat) (hn : n ≤ 256) (h1 : 1 ≤ n) (f g : Nat → Int32) : Ck l G yCo_markNodes cCo_markNodes 4 none { frames := 0, cells := 0, slots := 0, locals := 0 } [.ref oo, .int (nI n), .ref os] [oC oo 2 [.ref om], aZ G om 512 f, aZ G os 256 g] (none) [oC oo 2 [.ref om], aZ G om 512 (jMk f g n), aZ G os 256 g] := by
  refine Cq.of (by decide) (Nat.le_of_ble_eq_true rfl) ?_
  intro p e s m args below meth c A ls hx hb hr hml hts hown hlk hA hP hD hG hS hl
  have hl : lv_has ls 4 [(0, .ref oo), (1, .int (nI n)), (2, .ref os)] := hl
  refine lv_iconst (v := nI 0) hx hb dCo_markNodes_0 (by decide) ?_
  refine lv_istore_n (lv' := [(3, .int (nI 0)), (0, .ref oo), (1, .int (nI n)), (2, .ref os)]) hx hb dCo_markNodes_1 rfl hl (by decide) rfl (fun ls hl => ?_)
  have loop1 : ∀ (k : Nat) (i : Nat) (H : Heap) (locs : List Loc) (ls : Array Slot), i + k = n → va_P G.1 vwCl [oC oo 2 [.ref om], aZ G om 512 (jMk1 f g n i), aZ G os 256 g] H → va_D A [oC oo 2 [.ref om], aZ G om 512 (jMk1 f g n i), aZ G os 256 g] → va_S A s.heap H locs → lv_has ls 4 [(0, .ref oo), (1, .int (nI n)), (2, .ref os), (3, .int (nI i))] → W p l e { frames := 0, cells := 0, slots := 0, locals := 0 } s m args below meth c H locs 0 0 (MQ below (cq_out G (S := Unit) (fun _ => True) (fun _ => (none)) (fun _ => [oC oo 2 [.ref om], aZ G om 512 (jMk f g n), aZ G os 256 g]) A) args s 0 0 A) (F0 m 2 ls []) := by
    intro k
    induction k with
    | zero =>
      intro i H locs ls hk hP hD hS hl
      have hi : i = n := by omega
      refine lv_iload_n hx hb dCo_markNodes_2 rfl (lv_at hl 3 rfl) ?_
      refine lv_iload_n hx hb dCo_markNodes_3 rfl (lv_at hl 1 rfl) ?_
      refine lv_icmp_ge (tgt := 32) hx hb dCo_markNodes_4 rfl (fun _ => ?_) (fun h => absurd (nI_le (by omega) (by omega)) h)
      refine lv_iload_n hx hb dCo_markNodes_32 rfl (lv_at hl 1 rfl) ?_
      refine lv_iconst (v := nI 1) hx hb dCo_markNodes_33 (by decide) ?_
      refine lv_isub hx hb dCo_markNodes_34 ?_
      refine ck_ri (y := nI (n - 1)) (pk_sub (by omega)) ?_
      refine lv_istore_n (lv' := [(3, .int (nI (n - 1))), (0, .ref oo), (1, .int (nI n)), (2, .ref os)]) hx hb dCo_markNodes_35 rfl hl (by decide) rfl (fun ls hl => ?_)
      rw [hi] at hP hD
      have loop2 : ∀ (k : Nat) (i : Nat) (H : Heap) (locs : List Loc) (ls : Array Slot), i + k = n - 1 → va_P G.1 vwCl [oC oo 2 [.ref om], aZ G om 512 (jMk2 (jMk1 f g n n) n i), aZ G os 256 g] H → va_D A [oC oo 2 [.ref om], aZ G om 512 (jMk2 (jMk1 f g n n) n i), aZ G os 256 g] → va_S A s.heap H locs → lv_has ls 4 [(0, .ref oo), (3, .int (nI k))] → W p l e { frames := 0, cells := 0, slots := 0, locals := 0 } s m args below meth c H locs 0 0 (MQ below (cq_out G (S := Unit) (fun _ => True) (fun _ => (none)) (fun _ => [oC oo 2 [.ref om], aZ G om 512 (jMk f g n), aZ G os 256 g]) A) args s 0 0 A) (F0 m 36 ls []) := by
        intro k
        induction k with
        | zero =>
          intro i H locs ls hk hP hD hS hl
          have hl : lv_has ls 4 [(0, .ref oo), (3, .int (nI 0))] := hl
          refine lv_iload_n hx hb dCo_markNodes_36 rfl (lv_at hl 1 rfl) ?_
          refine lv_iconst (v := nI 1) hx hb dCo_markNodes_37 (by decide) ?_
          refine lv_icmp_lt (tgt := 82) hx hb dCo_markNodes_38 rfl (fun _ => ?_) (fun h => absurd (nI_lt (by omega) (by omega)) h)
          exact cq_vret () (trivial) hx hb hr hlk hP hS rfl (by unfold jMk; rw [show n - 1 = i by omega]) dCo_markNodes_82
        | succ k ih =>
          intro i H locs ls hk hP hD hS hl
          have hl : lv_has ls 4 [(0, .ref oo), (3, .int (nI (k + 1)))] := hl
          refine lv_iload_n hx hb dCo_markNodes_36 rfl (lv_at hl 1 rfl) ?_
          refine lv_iconst (v := nI 1) hx hb dCo_markNodes_37 (by decide) ?_
          refine lv_icmp_lt (tgt := 82) hx hb dCo_markNodes_38 rfl (fun h => absurd h (nI_nlt (by omega) (by omega))) (fun _ => ?_)
          refine lv_aload_n hx hb dCo_markNodes_41 rfl (lv_at hl 0 rfl) ?_
          refine gfCo_9 hx hb hts hown hG hP 0 rfl rfl dCo_markNodes_42 ?_
          refine lv_iload_n hx hb dCo_markNodes_45 rfl (lv_at hl 1 rfl) ?_
          refine lv_aload_n hx hb dCo_markNodes_46 rfl (lv_at hl 0 rfl) ?_
          refine gfCo_9 hx hb hts hown hG hP 0 rfl rfl dCo_markNodes_47 ?_
          refine lv_iconst (v := nI 2) hx hb dCo_markNodes_50 (by decide) ?_
          refine lv_iload_n hx hb dCo_markNodes_51 rfl (lv_at hl 1 rfl) ?_
          refine lv_imul hx hb dCo_markNodes_52 ?_
          refine ck_zald hx hb hG hP 1 rfl (by decide) (2 * (k + 1)) (pk_mul 2 (k + 1)) (by omega) dCo_markNodes_53 ?_
          refine lv_if_ne (tgt := 70) hx hb dCo_markNodes_54 rfl (fun h5 => ?_) (fun h5 => ?_)
          · have b_h5 := decide_eq_false h5
            refine lv_iconst (v := nI 1) hx hb dCo_markNodes_70 (by decide) ?_
            refine lv_goto (tgt := 75) hx hb dCo_markNodes_71 rfl ?_
            refine ck_zast (x' := nI 1) hx hb hG hP hD hS 1 rfl (by decide) (k + 1) (rfl) (by omega) (rfl) dCo_markNodes_75 (fun H locs hP hD hS => ?_)
            have hP : va_P G.1 vwCl [oC oo 2 [.ref om], aZ G om 512 (upd (jMk2 (jMk1 f g n n) n i) (k + 1) (nI 1)), aZ G os 256 g] H := hP
            have hD : va_D A [oC oo 2 [.ref om], aZ G om 512 (upd (jMk2 (jMk1 f g n n) n i) (k + 1) (nI 1)), aZ G os 256 g] := hD
            refine lv_iinc (v := nI k) (lv' := [(3, .int (nI k)), (0, .ref oo)]) hx hb dCo_markNodes_76 hl (k := 1) rfl (pk_m1 k) (by decide) rfl (fun ls hl => ?_)
            refine lv_goto (tgt := 36) hx hb dCo_markNodes_79 rfl ?_
            have e1 : jMk2 (jMk1 f g n n) n (i + 1) = upd (jMk2 (jMk1 f g n n) n i) (k + 1) (nI 1) := by rw [jMk2, show n - 1 - i = k + 1 by omega, jOr, if_neg h5]
            exact ih (i + 1) _ _ _ (by omega) (by rw [e1]; exact hP) (by rw [e1]; exact hD) hS (lv_sub hl [1, 0] rfl)
          · have b_h5 := decide_eq_true h5
            refine lv_aload_n hx hb dCo_markNodes_57 rfl (lv_at hl 0 rfl) ?_
            refine gfCo_9 hx hb hts hown hG hP 0 rfl rfl dCo_markNodes_58 ?_
            refine lv_iconst (v := nI 2) hx hb dCo_markNodes_61 (by decide) ?_
            refine lv_iload_n hx hb dCo_markNodes_62 rfl (lv_at hl 1 rfl) ?_
            refine lv_imul hx hb dCo_markNodes_63 ?_
            refine lv_iconst (v := nI 1) hx hb dCo_markNodes_64 (by decide) ?_
            refine lv_iadd hx hb dCo_markNodes_65 ?_
            refine ck_zald hx hb hG hP 1 rfl (by decide) (2 * (k + 1) + 1) (by rw [pk_mul, nI_add]) (by omega) dCo_markNodes_66 ?_
            refine lv_if_eq (tgt := 74) hx hb dCo_markNodes_67 rfl (fun h6 => ?_) (fun h6 => ?_)
            · have b_h6 := decide_eq_true h6
              refine lv_iconst (v := nI 0) hx hb dCo_markNodes_74 (by decide) ?_
              refine ck_zast (x' := nI 0) hx hb hG hP hD hS 1 rfl (by decide) (k + 1) (rfl) (by omega) (rfl) dCo_markNodes_75 (fun H locs hP hD hS => ?_)
              have hP : va_P G.1 vwCl [oC oo 2 [.ref om], aZ G om 512 (upd (jMk2 (jMk1 f g n n) n i) (k + 1) (nI 0)), aZ G os 256 g] H := hP
              have hD : va_D A [oC oo 2 [.ref om], aZ G om 512 (upd (jMk2 (jMk1 f g n n) n i) (k + 1) (nI 0)), aZ G os 256 g] := hD
              refine lv_iinc (v := nI k) (lv' := [(3, .int (nI k)), (0, .ref oo)]) hx hb dCo_markNodes_76 hl (k := 1) rfl (pk_m1 k) (by decide) rfl (fun ls hl => ?_)
              refine lv_goto (tgt := 36) hx hb dCo_markNodes_79 rfl ?_
              have e1 : jMk2 (jMk1 f g n n) n (i + 1) = upd (jMk2 (jMk1 f g n n) n i) (k + 1) (nI 0) := by rw [jMk2, show n - 1 - i = k + 1 by omega, jOr, if_pos h5, if_pos h6]
              exact ih (i + 1) _ _ _ (by omega) (by rw [e1]; exact hP) (by rw [e1]; exact hD) hS (lv_sub hl [1, 0] rfl)
            · have b_h6 := decide_eq_false h6
              refine lv_iconst (v := nI 1) hx hb dCo_markNodes_70 (by decide) ?_
              refine lv_goto (tgt := 75) hx hb dCo_markNodes_71 rfl ?_
              refine ck_zast (x' := nI 1) hx hb hG hP hD hS 1 rfl (by decide) (k + 1) (rfl) (by omega) (rfl) dCo_markNodes_75 (fun H locs hP hD hS => ?_)
              have hP : va_P G.1 vwCl [oC oo 2 [.ref om], aZ G om 512 (upd (jMk2 (jMk1 f g n n) n i) (k + 1) (nI 1)), aZ G os 256 g] H := hP
              have hD : va_D A [oC oo 2 [.ref om], aZ G om 512 (upd (jMk2 (jMk1 f g n n) n i) (k + 1) (nI 1)), aZ G os 256 g] := hD
              refine lv_iinc (v := nI k) (lv' := [(3, .int (nI k)), (0, .ref oo)]) hx hb dCo_markNodes_76 hl (k := 1) rfl (pk_m1 k) (by decide) rfl (fun ls hl => ?_)
              refine lv_goto (tgt := 36) hx hb dCo_markNodes_79 rfl ?_
              have e1 : jMk2 (jMk1 f g n n) n (i + 1) = upd (jMk2 (jMk1 f g n n) n i) (k + 1) (nI 1) := by rw [jMk2, show n - 1 - i = k + 1 by omega, jOr, if_pos h5, if_neg h6]
              exact ih (i + 1) _ _ _ (by omega) (by rw [e1]; exact hP) (by rw [e1]; exact hD) hS (lv_sub hl [1, 0] rfl)
      exact loop2 (n - 1) 0 _ _ _ (by omega) hP hD hS (lv_sub hl [1, 0] rfl)
    | succ k ih =>
      intro i H locs ls hk hP hD hS hl
      refine lv_iload_n hx hb dCo_markNodes_2 rfl (lv_at hl 3 rfl) ?_
      refine lv_iload_n hx hb dCo_markNodes_3 rfl (lv_at hl 1 rfl) ?_
      refine lv_icmp_ge (tgt := 32) hx hb dCo_markNodes_4 rfl (fun h => absurd h (nI_ge (by omega) (by omega))) (fun _ => ?_)
      refine lv_aload_n hx hb dCo_markNodes_7 rfl (lv_at hl 0 rfl) ?_
      refine gfCo_9 hx hb hts hown hG hP 0 rfl rfl dCo_markNodes_8 ?_
      refine lv_iload_n hx hb dCo_markNodes_11 rfl (lv_at hl 1 rfl) ?_
      refine lv_iload_n hx hb dCo_markNodes_12 rfl (lv_at hl 3 rfl) ?_
      refine lv_iadd hx hb dCo_markNodes_13 ?_
      refine lv_aload_n hx hb dCo_markNodes_14 rfl (lv_at hl 2 rfl) ?_
      refine lv_iload_n hx hb dCo_markNodes_15 rfl (lv_at hl 3 rfl) ?_
      refine ck_zald hx hb hG hP 2 rfl (by decide) i (rfl) (by omega) dCo_markNodes_16 ?_
      refine lv_if_ne (tgt := 24) hx hb dCo_markNodes_17 rfl (fun h4 => ?_) (fun h4 => ?_)
      · have b_h4 := decide_eq_false h4
        refine lv_iconst (v := nI 0) hx hb dCo_markNodes_24 (by decide) ?_
        refine ck_zast (x' := nI 0) hx hb hG hP hD hS 1 rfl (by decide) (n + i) (nI_add n i) (by omega) (rfl) dCo_markNodes_25 (fun H locs hP hD hS => ?_)
        have hP : va_P G.1 vwCl [oC oo 2 [.ref om], aZ G om 512 (upd (jMk1 f g n i) (n + i) (nI 0)), aZ G os 256 g] H := hP
        have hD : va_D A [oC oo 2 [.ref om], aZ G om 512 (upd (jMk1 f g n i) (n + i) (nI 0)), aZ G os 256 g] := hD
        refine lv_iinc (v := nI (i + 1)) (lv' := [(3, .int (nI (i + 1))), (0, .ref oo), (1, .int (nI n)), (2, .ref os)]) hx hb dCo_markNodes_26 hl (k := 3) rfl (nI_1 i) (by decide) rfl (fun ls hl => ?_)
        refine lv_goto (tgt := 2) hx hb dCo_markNodes_29 rfl ?_
        have e1 : jMk1 f g n (i + 1) = upd (jMk1 f g n i) (n + i) (nI 0) := by rw [jMk1, jN, if_neg h4]
        exact ih (i + 1) _ _ _ (by omega) (by rw [e1]; exact hP) (by rw [e1]; exact hD) hS (lv_sub hl [1, 2, 3, 0] rfl)
      · have b_h4 := decide_eq_true h4
        refine lv_iconst (v := nI 1) hx hb dCo_markNodes_20 (by decide) ?_
        refine lv_goto (tgt := 25) hx hb dCo_markNodes_21 rfl ?_
        refine ck_zast (x' := nI 1) hx hb hG hP hD hS 1 rfl (by decide) (n + i) (nI_add n i) (by omega) (rfl) dCo_markNodes_25 (fun H locs hP hD hS => ?_)
        have hP : va_P G.1 vwCl [oC oo 2 [.ref om], aZ G om 512 (upd (jMk1 f g n i) (n + i) (nI 1)), aZ G os 256 g] H := hP
        have hD : va_D A [oC oo 2 [.ref om], aZ G om 512 (upd (jMk1 f g n i) (n + i) (nI 1)), aZ G os 256 g] := hD
        refine lv_iinc (v := nI (i + 1)) (lv' := [(3, .int (nI (i + 1))), (0, .ref oo), (1, .int (nI n)), (2, .ref os)]) hx hb dCo_markNodes_26 hl (k := 3) rfl (nI_1 i) (by decide) rfl (fun ls hl => ?_)
        refine lv_goto (tgt := 2) hx hb dCo_markNodes_29 rfl ?_
        have e1 : jMk1 f g n (i + 1) = upd (jMk1 f g n i) (n + i) (nI 1) := by rw [jMk1, jN, if_pos h4]
        exact ih (i + 1) _ _ _ (by omega) (by rw [e1]; exact hP) (by rw [e1]; exact hD) hS (lv_sub hl [1, 2, 3, 0] rfl)
  exact loop1 n 0 _ _ _ (by omega) hP hD hS (lv_sub hl [1, 2, 3, 0] rfl)
set_option maxHeartbeats 4000000 in
set_option maxRecDepth 100000 in
theorem k_Co_lastBelow (l : Launch) (G : gG) (oo om v n : Nat) (hn : n ≤ 256) (hv : v < 512) (f : Nat → Int32) : Ck l G yCo_lastBelow cCo_lastBelow 7 (some .int) { frames := 0, cells := 0, slots := 0, locals := 0 } [.ref oo, .int (nI v), .int (nI n)] [oC oo 2 [.ref om], aZ G om 512 f] (some (.int (nI (jLast f n v)))) [oC oo 2 [.ref om], aZ G om 512 f] := by
  refine Cq.of (by decide) (Nat.le_of_ble_eq_true rfl) ?_
  intro p e s m args below meth c A ls hx hb hr hml hts hown hlk hA hP hD hG hS hl
  have hl : lv_has ls 7 [(0, .ref oo), (1, .int (nI v)), (2, .int (nI n))] := hl
  refine lv_iload_n hx hb dCo_lastBelow_0 rfl (lv_at hl 1 rfl) ?_
  refine lv_istore_n (lv' := [(3, .int (nI v)), (0, .ref oo), (1, .int (nI v)), (2, .int (nI n))]) hx hb dCo_lastBelow_1 rfl hl (by decide) rfl (fun ls hl => ?_)
  refine lv_iconst (v := nI 0) hx hb dCo_lastBelow_2 (by decide) ?_
  refine lv_istore (lv' := [(4, .int (nI 0)), (3, .int (nI v)), (0, .ref oo), (1, .int (nI v)), (2, .int (nI n))]) hx hb dCo_lastBelow_3 hl (by decide) rfl (fun ls hl => ?_)
  have loop : ∀ (k : Nat) (i : Nat) (x : Nat) (H : Heap) (locs : List Loc) (ls : Array Slot), i + k = 8 → jLast f n v = jLF f n k x → x < 512 → va_P G.1 vwCl [oC oo 2 [.ref om], aZ G om 512 f] H → va_D A [oC oo 2 [.ref om], aZ G om 512 f] → va_S A s.heap H locs → lv_has ls 7 [(0, .ref oo), (2, .int (nI n)), (3, .int (nI x)), (4, .int (nI i))] → W p l e { frames := 0, cells := 0, slots := 0, locals := 0 } s m args below meth c H locs 0 0 (MQ below (cq_out G (S := Unit) (fun _ => True) (fun _ => (some (.int (nI (jLast f n v))))) (fun _ => [oC oo 2 [.ref om], aZ G om 512 f]) A) args s 0 0 A) (F0 m 5 ls []) := by
    intro k
    induction k with
    | zero =>
      intro i x H locs ls hk hq hx9 hP hD hS hl
      refine lv_iload hx hb dCo_lastBelow_5 (lv_at hl 3 rfl) ?_
      refine lv_bipush (v := nI 8) hx hb dCo_lastBelow_7 (by decide) ?_
      refine lv_icmp_ge (tgt := 71) hx hb dCo_lastBelow_9 rfl (fun _ => ?_) (fun h => absurd (nI_le (by omega) (by omega)) h)
      refine lv_iload_n hx hb dCo_lastBelow_71 rfl (lv_at hl 2 rfl) ?_
      exact cq_iret () (trivial) hx hb hr hlk hP hS (by rw [hq]; rfl) (rfl) dCo_lastBelow_72
    | succ k ih =>
      intro i x H locs ls hk hq hx9 hP hD hS hl
      refine lv_iload hx hb dCo_lastBelow_5 (lv_at hl 3 rfl) ?_
      refine lv_bipush (v := nI 8) hx hb dCo_lastBelow_7 (by decide) ?_
      refine lv_icmp_ge (tgt := 71) hx hb dCo_lastBelow_9 rfl (fun h => absurd h (nI_ge (by omega) (by omega))) (fun _ => ?_)
      refine lv_iload_n hx hb dCo_lastBelow_12 rfl (lv_at hl 2 rfl) ?_
      refine lv_iload_n hx hb dCo_lastBelow_13 rfl (lv_at hl 1 rfl) ?_
      refine lv_icmp_ge (tgt := 71) hx hb dCo_lastBelow_14 rfl (fun h9 => ?_) (fun h9 => ?_)
      · have h4 : n ≤ x := (nI_leI (by omega) (by omega)).mp h9
        refine lv_iload_n hx hb dCo_lastBelow_71 rfl (lv_at hl 2 rfl) ?_
        exact cq_iret () (trivial) hx hb hr hlk hP hS (congrArg (fun z => some (Value.int (nI z))) (hq.trans (if_pos h4)).symm) (rfl) dCo_lastBelow_72
      · have h4 : ¬ n ≤ x := fun z => h9 ((nI_leI (by omega) (by omega)).mpr z)
        refine lv_aload_n hx hb dCo_lastBelow_17 rfl (lv_at hl 0 rfl) ?_
        refine gfCo_9 hx hb hts hown hG hP 0 rfl rfl dCo_lastBelow_18 ?_
        refine lv_iconst (v := nI 2) hx hb dCo_lastBelow_21 (by decide) ?_
        refine lv_iload_n hx hb dCo_lastBelow_22 rfl (lv_at hl 2 rfl) ?_
        refine lv_imul hx hb dCo_lastBelow_23 ?_
        refine ck_zald hx hb hG hP 1 rfl (by decide) (2 * x) (pk_mul 2 x) (by omega) dCo_lastBelow_24 ?_
        refine lv_istore (lv' := [(5, .int (f (2 * x))), (0, .ref oo), (2, .int (nI n)), (3, .int (nI x)), (4, .int (nI i))]) hx hb dCo_lastBelow_25 hl (by decide) rfl (fun ls hl => ?_)
        refine lv_aload_n hx hb dCo_lastBelow_27 rfl (lv_at hl 1 rfl) ?_
        refine gfCo_9 hx hb hts hown hG hP 0 rfl rfl dCo_lastBelow_28 ?_
        refine lv_iconst (v := nI 2) hx hb dCo_lastBelow_31 (by decide) ?_
        refine lv_iload_n hx hb dCo_lastBelow_32 rfl (lv_at hl 3 rfl) ?_
        refine lv_imul hx hb dCo_lastBelow_33 ?_
        refine lv_iconst (v := nI 1) hx hb dCo_lastBelow_34 (by decide) ?_
        refine lv_iadd hx hb dCo_lastBelow_35 ?_
        refine ck_zald hx hb hG hP 1 rfl (by decide) (2 * x + 1) (by rw [pk_mul, nI_add]) (by omega) dCo_lastBelow_36 ?_
        refine lv_istore (lv' := [(6, .int (f (2 * x + 1))), (5, .int (f (2 * x))), (0, .ref oo), (2, .int (nI n)), (3, .int (nI x)), (4, .int (nI i))]) hx hb dCo_lastBelow_37 hl (by decide) rfl (fun ls hl => ?_)
        refine lv_iload hx hb dCo_lastBelow_39 (lv_at hl 1 rfl) ?_
        refine lv_iload hx hb dCo_lastBelow_41 (lv_at hl 0 rfl) ?_
        refine lv_icmp_ne (tgt := 48) hx hb dCo_lastBelow_43 rfl (fun h5 => ?_) (fun h5 => ?_)
        · have b_h5 := decide_eq_false h5
          refine lv_iload hx hb dCo_lastBelow_48 (lv_at hl 1 rfl) ?_
          refine lv_if_eq (tgt := 59) hx hb dCo_lastBelow_50 rfl (fun h6 => ?_) (fun h6 => ?_)
          · have b_h6 := decide_eq_true h6
            refine lv_iconst (v := nI 2) hx hb dCo_lastBelow_59 (by decide) ?_
            refine lv_iload_n hx hb dCo_lastBelow_60 rfl (lv_at hl 4 rfl) ?_
            refine lv_imul hx hb dCo_lastBelow_61 ?_
            refine lv_iconst (v := nI 1) hx hb dCo_lastBelow_62 (by decide) ?_
            refine lv_iadd hx hb dCo_lastBelow_63 ?_
            refine ck_ri (y := nI (2 * x + 1)) (by rw [pk_mul, nI_add]) ?_
            refine lv_istore_n (lv' := [(3, .int (nI (2 * x + 1))), (6, .int (f (2 * x + 1))), (5, .int (f (2 * x))), (0, .ref oo), (2, .int (nI n)), (4, .int (nI i))]) hx hb dCo_lastBelow_64 rfl hl (by decide) rfl (fun ls hl => ?_)
            refine lv_iinc (v := nI (i + 1)) (lv' := [(4, .int (nI (i + 1))), (3, .int (nI (2 * x + 1))), (6, .int (f (2 * x + 1))), (5, .int (f (2 * x))), (0, .ref oo), (2, .int (nI n))]) hx hb dCo_lastBelow_65 hl (k := 5) rfl (nI_1 i) (by decide) rfl (fun ls hl => ?_)
            refine lv_goto (tgt := 5) hx hb dCo_lastBelow_68 rfl ?_
            exact ih (i + 1) _ _ _ _ (by omega) (hq.trans ((if_neg h4).trans ((if_neg h5).trans (if_pos h6)))) (by omega) hP hD hS (lv_sub hl [4, 5, 1, 0] rfl)
          · have b_h6 := decide_eq_false h6
            refine lv_iconst (v := nI 2) hx hb dCo_lastBelow_53 (by decide) ?_
            refine lv_iload_n hx hb dCo_lastBelow_54 rfl (lv_at hl 4 rfl) ?_
            refine lv_imul hx hb dCo_lastBelow_55 ?_
            refine ck_ri (y := nI (2 * x)) (pk_mul 2 x) ?_
            refine lv_goto (tgt := 64) hx hb dCo_lastBelow_56 rfl ?_
            refine lv_istore_n (lv' := [(3, .int (nI (2 * x))), (6, .int (f (2 * x + 1))), (5, .int (f (2 * x))), (0, .ref oo), (2, .int (nI n)), (4, .int (nI i))]) hx hb dCo_lastBelow_64 rfl hl (by decide) rfl (fun ls hl => ?_)
            refine lv_iinc (v := nI (i + 1)) (lv' := [(4, .int (nI (i + 1))), (3, .int (nI (2 * x))), (6, .int (f (2 * x + 1))), (5, .int (f (2 * x))), (0, .ref oo), (2, .int (nI n))]) hx hb dCo_lastBelow_65 hl (k := 5) rfl (nI_1 i) (by decide) rfl (fun ls hl => ?_)
            refine lv_goto (tgt := 5) hx hb dCo_lastBelow_68 rfl ?_
            exact ih (i + 1) _ _ _ _ (by omega) (hq.trans ((if_neg h4).trans ((if_neg h5).trans (if_neg h6)))) (by omega) hP hD hS (lv_sub hl [4, 5, 1, 0] rfl)
        · have b_h5 := decide_eq_true h5
          refine lv_iload_n hx hb dCo_lastBelow_46 rfl (lv_at hl 4 rfl) ?_
          exact cq_iret () (trivial) hx hb hr hlk hP hS (congrArg (fun z => some (Value.int (nI z))) (hq.trans ((if_neg h4).trans (if_pos h5))).symm) (rfl) dCo_lastBelow_47
  exact loop 8 0 v _ _ _ (by omega) rfl hv hP hD hS (lv_sub hl [2, 4, 1, 0] rfl)
set_option maxHeartbeats 4000000 in
set_option maxRecDepth 100000 in
theorem k_Co_find (l : Launch) (G : gG) (oo om ot ok os ov ow dp : Nat) (hdp : dp ≤ 8) (sh sl h0 l0 : Int64) (p0 s0 : Int32) (f g fv fw : Nat → Int32) : Ck l G yCo_find cCo_find 6 none { frames := 1, cells := 0, slots := 0, locals := 26 } [.ref oo, .ref ot, .ref ok] [oC oo 2 [.ref om], aZ G om 512 f, oC ot 6 [.int (nI dp), .long sh, .long sl], oC ok 0 [.ref os, .ref ov, .ref ow, .int p0, .int s0, .long h0, .long l0], aZ G os 256 g, aI G ov 128 fv, aI G ow 128 fw] (none) [oC oo 2 [.ref om], aZ G om 512 (jMk f g (2 ^ dp)), oC ot 6 [.int (nI dp), .long sh, .long sl], oC ok 0 [.ref os, .ref ov, .ref ow, .int p0, .int (nI (jCov (jMk f g (2 ^ dp)) (2 ^ dp) fv fw).1), .long h0, .long l0], aZ G os 256 g, aI G ov 128 ((jCov (jMk f g (2 ^ dp)) (2 ^ dp) fv fw).2.1), aI G ow 128 ((jCov (jMk f g (2 ^ dp)) (2 ^ dp) fv fw).2.2)] := by
  refine Cq.of (by decide) (Nat.le_of_ble_eq_true rfl) ?_
  intro p e s m args below meth c A ls hx hb hr hml hts hown hlk hA hP hD hG hS hl
  have hp2 : 2 ^ dp ≤ 256 := Nat.pow_le_pow_right (n := 2) (by decide) hdp
  have hp1 : 1 ≤ 2 ^ dp := Nat.one_le_two_pow
  have hl : lv_has ls 6 [(0, .ref oo), (1, .ref ot), (2, .ref ok)] := hl
  refine lv_aload_n hx hb dCo_find_0 rfl (lv_at hl 1 rfl) ?_
  refine clCo_15 (As := []) (rest := []) hx hb hml hown hts (k_Tr_leaves l G ot dp hdp sh sl) hG hA hP hD hS 2 rfl [2] rfl rfl (fun _ => rfl) rfl hl.1 rfl (Nat.le_of_ble_eq_true rfl) ⟨by decide, by decide⟩ ⟨by decide, by decide⟩ dCo_find_1 (fun _ H locs _ hP hD hS => ?_)
  have hP : va_P G.1 vwCl [oC oo 2 [.ref om], aZ G om 512 f, oC ot 6 [.int (nI dp), .long sh, .long sl], oC ok 0 [.ref os, .ref ov, .ref ow, .int p0, .int s0, .long h0, .long l0], aZ G os 256 g, aI G ov 128 fv, aI G ow 128 fw] H := hP
  have hD : va_D A [oC oo 2 [.ref om], aZ G om 512 f, oC ot 6 [.int (nI dp), .long sh, .long sl], oC ok 0 [.ref os, .ref ov, .ref ow, .int p0, .int s0, .long h0, .long l0], aZ G os 256 g, aI G ov 128 fv, aI G ow 128 fw] := hD
  refine W.cs (cells' := 0) (slots' := 0) rfl rfl ?_
  refine W.eq (g2 := F0 m 4 ls [.int (nI (2 ^ dp))]) rfl ?_
  refine lv_istore_n (lv' := [(3, .int (nI (2 ^ dp))), (0, .ref oo), (1, .ref ot), (2, .ref ok)]) hx hb dCo_find_4 rfl hl (by decide) rfl (fun ls hl => ?_)
  refine lv_aload_n hx hb dCo_find_5 rfl (lv_at hl 1 rfl) ?_
  refine lv_iload_n hx hb dCo_find_6 rfl (lv_at hl 0 rfl) ?_
  refine lv_aload_n hx hb dCo_find_7 rfl (lv_at hl 3 rfl) ?_
  refine gfCo_21 hx hb hts hown hG hP 3 rfl rfl dCo_find_8 ?_
  refine clCo_26 (As := [.int (nI (2 ^ dp)), .ref os]) (rest := []) hx hb hml hown hts (k_Co_markNodes l G oo om os (2 ^ dp) hp2 hp1 f g) hG hA hP hD hS 0 rfl [0, 1, 4] rfl rfl (fun _ => rfl) rfl hl.1 rfl (Nat.le_of_ble_eq_true rfl) ⟨by decide, by decide⟩ ⟨by decide, by decide⟩ dCo_find_11 (fun _ H locs _ hP hD hS => ?_)
  have hP : va_P G.1 vwCl [oC oo 2 [.ref om], aZ G om 512 (jMk f g (2 ^ dp)), oC ot 6 [.int (nI dp), .long sh, .long sl], oC ok 0 [.ref os, .ref ov, .ref ow, .int p0, .int s0, .long h0, .long l0], aZ G os 256 g, aI G ov 128 fv, aI G ow 128 fw] H := hP
  have hD : va_D A [oC oo 2 [.ref om], aZ G om 512 (jMk f g (2 ^ dp)), oC ot 6 [.int (nI dp), .long sh, .long sl], oC ok 0 [.ref os, .ref ov, .ref ow, .int p0, .int s0, .long h0, .long l0], aZ G os 256 g, aI G ov 128 fv, aI G ow 128 fw] := hD
  refine W.cs (cells' := 0) (slots' := 0) rfl rfl ?_
  refine W.eq (g2 := F0 m 14 ls []) rfl ?_
  refine lv_aload_n hx hb dCo_find_14 rfl (lv_at hl 3 rfl) ?_
  refine lv_iconst (v := nI 0) hx hb dCo_find_15 (by decide) ?_
  refine pfCo_30 hx hb hts hown hG hP hD hS 3 rfl rfl rfl (Nat.le_of_ble_eq_true rfl) dCo_find_16 (fun H locs hP hD hS => ?_)
  have hP : va_P G.1 vwCl [oC oo 2 [.ref om], aZ G om 512 (jMk f g (2 ^ dp)), oC ot 6 [.int (nI dp), .long sh, .long sl], oC ok 0 [.ref os, .ref ov, .ref ow, .int p0, .int (nI 0), .long h0, .long l0], aZ G os 256 g, aI G ov 128 fv, aI G ow 128 fw] H := hP
  have hD : va_D A [oC oo 2 [.ref om], aZ G om 512 (jMk f g (2 ^ dp)), oC ot 6 [.int (nI dp), .long sh, .long sl], oC ok 0 [.ref os, .ref ov, .ref ow, .int p0, .int (nI 0), .long h0, .long l0], aZ G os 256 g, aI G ov 128 fv, aI G ow 128 fw] := hD
  refine lv_aload_n hx hb dCo_find_19 rfl (lv_at hl 1 rfl) ?_
  refine gfCo_9 hx hb hts hown hG hP 0 rfl rfl dCo_find_20 ?_
  refine lv_iconst (v := nI 1) hx hb dCo_find_23 (by decide) ?_
  refine ck_zald hx hb hG hP 1 rfl (by decide) 1 (rfl) (by decide) dCo_find_24 ?_
  refine lv_if_ne (tgt := 35) hx hb dCo_find_25 rfl (fun h3 => ?_) (fun h3 => ?_)
  · have b_h3 := decide_eq_false h3
    refine lv_iconst (v := nI 1) hx hb dCo_find_35 (by decide) ?_
    refine lv_istore (lv' := [(4, .int (nI 1)), (3, .int (nI (2 ^ dp))), (0, .ref oo), (1, .ref ot), (2, .ref ok)]) hx hb dCo_find_36 hl (by decide) rfl (fun ls hl => ?_)
    have loop : ∀ (k : Nat) (i : Nat) (q1 : Nat) (fv1 : Nat → Int32) (fw1 : Nat → Int32) (H : Heap) (locs : List Loc) (ls : Array Slot), i + k = 2 ^ dp - 1 → jFd (jMk f g (2 ^ dp)) (2 ^ dp) fv fw i = (q1, fv1, fw1) → q1 ≤ 128 → va_P G.1 vwCl [oC oo 2 [.ref om], aZ G om 512 (jMk f g (2 ^ dp)), oC ot 6 [.int (nI dp), .long sh, .long sl], oC ok 0 [.ref os, .ref ov, .ref ow, .int p0, .int (nI q1), .long h0, .long l0], aZ G os 256 g, aI G ov 128 fv1, aI G ow 128 fw1] H → va_D A [oC oo 2 [.ref om], aZ G om 512 (jMk f g (2 ^ dp)), oC ot 6 [.int (nI dp), .long sh, .long sl], oC ok 0 [.ref os, .ref ov, .ref ow, .int p0, .int (nI q1), .long h0, .long l0], aZ G os 256 g, aI G ov 128 fv1, aI G ow 128 fw1] → va_S A s.heap H locs → lv_has ls 6 [(0, .ref oo), (2, .ref ok), (3, .int (nI (2 ^ dp))), (4, .int (nI (i + 1)))] → W p l e { frames := 1, cells := 0, slots := 0, locals := 26 } s m args below meth c H locs 0 0 (MQ below (cq_out G (S := Unit) (fun _ => True) (fun _ => (none)) (fun _ => [oC oo 2 [.ref om], aZ G om 512 (jMk f g (2 ^ dp)), oC ot 6 [.int (nI dp), .long sh, .long sl], oC ok 0 [.ref os, .ref ov, .ref ow, .int p0, .int (nI (jCov (jMk f g (2 ^ dp)) (2 ^ dp) fv fw).1), .long h0, .long l0], aZ G os 256 g, aI G ov 128 ((jCov (jMk f g (2 ^ dp)) (2 ^ dp) fv fw).2.1), aI G ow 128 ((jCov (jMk f g (2 ^ dp)) (2 ^ dp) fv fw).2.2)]) A) args s 0 0 A) (F0 m 38 ls []) := by
      intro k
      induction k with
      | zero =>
        intro i q1 fv1 fw1 H locs ls hk hq hq8 hP hD hS hl
        refine lv_iload hx hb dCo_find_38 (lv_at hl 3 rfl) ?_
        refine lv_iload_n hx hb dCo_find_40 rfl (lv_at hl 2 rfl) ?_
        refine lv_icmp_ge (tgt := 102) hx hb dCo_find_41 rfl (fun _ => ?_) (fun h => absurd (nI_le (by omega) (by omega)) h)
        exact cq_vret () (trivial) hx hb hr hlk hP hS rfl (by unfold jCov; rw [if_neg h3, show 2 ^ dp - 1 = i by omega, hq]) dCo_find_102
      | succ k ih =>
        intro i q1 fv1 fw1 H locs ls hk hq hq8 hP hD hS hl
        refine lv_iload hx hb dCo_find_38 (lv_at hl 3 rfl) ?_
        refine lv_iload_n hx hb dCo_find_40 rfl (lv_at hl 2 rfl) ?_
        refine lv_icmp_ge (tgt := 102) hx hb dCo_find_41 rfl (fun h => absurd h (nI_ge (by omega) (by omega))) (fun _ => ?_)
        refine lv_aload_n hx hb dCo_find_44 rfl (lv_at hl 0 rfl) ?_
        refine gfCo_9 hx hb hts hown hG hP 0 rfl rfl dCo_find_45 ?_
        refine lv_iload hx hb dCo_find_48 (lv_at hl 3 rfl) ?_
        refine ck_zald hx hb hG hP 1 rfl (by decide) (i + 1) (rfl) (by omega) dCo_find_50 ?_
        refine lv_if_eq (tgt := 96) hx hb dCo_find_51 rfl (fun h5 => ?_) (fun h5 => ?_)
        · have b_h5 := decide_eq_true h5
          refine lv_iinc (v := nI (i + 1 + 1)) (lv' := [(4, .int (nI (i + 1 + 1))), (0, .ref oo), (2, .ref ok), (3, .int (nI (2 ^ dp)))]) hx hb dCo_find_96 hl (k := 3) rfl (nI_1 (i + 1)) (by decide) rfl (fun ls hl => ?_)
          refine lv_goto (tgt := 38) hx hb dCo_find_99 rfl ?_
          have e9 : jFd (jMk f g (2 ^ dp)) (2 ^ dp) fv fw (i + 1) = (q1, fv1, fw1) := by
            rw [jFd, hq]
            show jFdS (jMk f g (2 ^ dp)) (2 ^ dp) (i + 1) q1 fv1 fw1 = _
            unfold jFdS
            rw [if_neg (fun z => z.1 h5)]
          exact ih (i + 1) _ _ _ _ _ _ (by omega) e9 hq8 hP hD hS (lv_sub hl [1, 2, 3, 0] rfl)
        · have b_h5 := decide_eq_false h5
          refine lv_iload hx hb dCo_find_54 (lv_at hl 3 rfl) ?_
          refine lv_iconst (v := nI 1) hx hb dCo_find_56 (by decide) ?_
          refine lv_icmp_eq (tgt := 72) hx hb dCo_find_57 rfl (fun h6 => ?_) (fun h6 => ?_)
          · have h7 : i + 1 = 1 := (nI_eq (by omega) (by omega)).mp h6
            refine lv_aload_n hx hb dCo_find_72 rfl (lv_at hl 0 rfl) ?_
            refine lv_iload hx hb dCo_find_73 (lv_at hl 3 rfl) ?_
            refine lv_iload_n hx hb dCo_find_75 rfl (lv_at hl 2 rfl) ?_
            refine clCo_38 (As := [.int (nI (i + 1)), .int (nI (2 ^ dp))]) (rest := []) hx hb hml hown hts (k_Co_lastBelow l G oo om (i + 1) (2 ^ dp) hp2 (by omega) (jMk f g (2 ^ dp))) hG hA hP hD hS 0 rfl [0, 1] rfl rfl (fun _ => rfl) rfl hl.1 rfl (Nat.le_of_ble_eq_true rfl) ⟨by decide, by decide⟩ ⟨by decide, by decide⟩ dCo_find_76 (fun _ H locs _ hP hD hS => ?_)
            have hP : va_P G.1 vwCl [oC oo 2 [.ref om], aZ G om 512 (jMk f g (2 ^ dp)), oC ot 6 [.int (nI dp), .long sh, .long sl], oC ok 0 [.ref os, .ref ov, .ref ow, .int p0, .int (nI q1), .long h0, .long l0], aZ G os 256 g, aI G ov 128 fv1, aI G ow 128 fw1] H := hP
            have hD : va_D A [oC oo 2 [.ref om], aZ G om 512 (jMk f g (2 ^ dp)), oC ot 6 [.int (nI dp), .long sh, .long sl], oC ok 0 [.ref os, .ref ov, .ref ow, .int p0, .int (nI q1), .long h0, .long l0], aZ G os 256 g, aI G ov 128 fv1, aI G ow 128 fw1] := hD
            refine W.cs (cells' := 0) (slots' := 0) rfl rfl ?_
            refine W.eq (g2 := F0 m 79 ls [.int (nI (jLast (jMk f g (2 ^ dp)) (2 ^ dp) (i + 1)))]) rfl ?_
            refine lv_istore (lv' := [(5, .int (nI (jLast (jMk f g (2 ^ dp)) (2 ^ dp) (i + 1)))), (0, .ref oo), (2, .ref ok), (3, .int (nI (2 ^ dp))), (4, .int (nI (i + 1)))]) hx hb dCo_find_79 hl (by decide) rfl (fun ls hl => ?_)
            refine lv_iload hx hb dCo_find_81 (lv_at hl 0 rfl) ?_
            refine lv_iload hx hb dCo_find_83 (lv_at hl 4 rfl) ?_
            refine lv_icmp_eq (tgt := 96) hx hb dCo_find_85 rfl (fun h9 => ?_) (fun h9 => ?_)
            · have h10 : jLast (jMk f g (2 ^ dp)) (2 ^ dp) (i + 1) = i + 1 := (nI_eq (by have := jLF_lt (jMk f g (2 ^ dp)) hp2 8 (i + 1) (by omega); exact Nat.lt_trans this (by decide)) (by omega)).mp h9
              refine lv_iinc (v := nI (i + 1 + 1)) (lv' := [(4, .int (nI (i + 1 + 1))), (5, .int (nI (jLast (jMk f g (2 ^ dp)) (2 ^ dp) (i + 1)))), (0, .ref oo), (2, .ref ok), (3, .int (nI (2 ^ dp)))]) hx hb dCo_find_96 hl (k := 4) rfl (nI_1 (i + 1)) (by decide) rfl (fun ls hl => ?_)
              refine lv_goto (tgt := 38) hx hb dCo_find_99 rfl ?_
              have e9 : jFd (jMk f g (2 ^ dp)) (2 ^ dp) fv fw (i + 1) = (q1, fv1, fw1) := by
                rw [jFd, hq]
                show jFdS (jMk f g (2 ^ dp)) (2 ^ dp) (i + 1) q1 fv1 fw1 = _
                unfold jFdS
                rw [if_neg (fun z => z.2.2 h10)]
              exact ih (i + 1) _ _ _ _ _ _ (by omega) e9 hq8 hP hD hS (lv_sub hl [2, 3, 4, 0] rfl)
            · have h10 : ¬ jLast (jMk f g (2 ^ dp)) (2 ^ dp) (i + 1) = i + 1 := fun z => h9 (by rw [z])
              refine lv_aload_n hx hb dCo_find_88 rfl (lv_at hl 2 rfl) ?_
              refine lv_iload hx hb dCo_find_89 (lv_at hl 4 rfl) ?_
              refine lv_iload hx hb dCo_find_91 (lv_at hl 0 rfl) ?_
              refine clCo_34 (As := [.int (nI (i + 1)), .int (nI (jLast (jMk f g (2 ^ dp)) (2 ^ dp) (i + 1)))]) (rest := []) hx hb hml hown hts (k_Ch_addSubset l G ok os ov ow q1 (hq8) p0 (nI (i + 1)) (nI (jLast (jMk f g (2 ^ dp)) (2 ^ dp) (i + 1))) h0 l0 fv1 fw1) hG hA hP hD hS 3 rfl [3, 5, 6] rfl rfl (fun _ => rfl) rfl hl.1 rfl (Nat.le_of_ble_eq_true rfl) ⟨by decide, by decide⟩ ⟨by decide, by decide⟩ dCo_find_93 (fun _ H locs _ hP hD hS => ?_)
              have hP : va_P G.1 vwCl [oC oo 2 [.ref om], aZ G om 512 (jMk f g (2 ^ dp)), oC ot 6 [.int (nI dp), .long sh, .long sl], oC ok 0 [.ref os, .ref ov, .ref ow, .int p0, .int (nI (jAq q1)), .long h0, .long l0], aZ G os 256 g, aI G ov 128 (jAf q1 fv1 (nI (i + 1))), aI G ow 128 (jAf q1 fw1 (nI (jLast (jMk f g (2 ^ dp)) (2 ^ dp) (i + 1))))] H := hP
              have hD : va_D A [oC oo 2 [.ref om], aZ G om 512 (jMk f g (2 ^ dp)), oC ot 6 [.int (nI dp), .long sh, .long sl], oC ok 0 [.ref os, .ref ov, .ref ow, .int p0, .int (nI (jAq q1)), .long h0, .long l0], aZ G os 256 g, aI G ov 128 (jAf q1 fv1 (nI (i + 1))), aI G ow 128 (jAf q1 fw1 (nI (jLast (jMk f g (2 ^ dp)) (2 ^ dp) (i + 1))))] := hD
              refine W.cs (cells' := 0) (slots' := 0) rfl rfl ?_
              refine W.eq (g2 := F0 m 96 ls []) rfl ?_
              refine lv_iinc (v := nI (i + 1 + 1)) (lv' := [(4, .int (nI (i + 1 + 1))), (5, .int (nI (jLast (jMk f g (2 ^ dp)) (2 ^ dp) (i + 1)))), (0, .ref oo), (2, .ref ok), (3, .int (nI (2 ^ dp)))]) hx hb dCo_find_96 hl (k := 4) rfl (nI_1 (i + 1)) (by decide) rfl (fun ls hl => ?_)
              refine lv_goto (tgt := 38) hx hb dCo_find_99 rfl ?_
              have e9 : jFd (jMk f g (2 ^ dp)) (2 ^ dp) fv fw (i + 1) = ((jAq q1), jAf q1 fv1 (nI (i + 1)), jAf q1 fw1 (nI (jLast (jMk f g (2 ^ dp)) (2 ^ dp) (i + 1)))) := by
                rw [jFd, hq]
                show jFdS (jMk f g (2 ^ dp)) (2 ^ dp) (i + 1) q1 fv1 fw1 = _
                unfold jFdS
                rw [if_pos ⟨h5, Or.inl h7, h10⟩]
              exact ih (i + 1) _ _ _ _ _ _ (by omega) e9 (jAq_le hq8) hP hD hS (lv_sub hl [2, 3, 4, 0] rfl)
          · have h7 : ¬ i + 1 = 1 := fun z => h6 (by rw [z])
            refine lv_aload_n hx hb dCo_find_60 rfl (lv_at hl 0 rfl) ?_
            refine gfCo_9 hx hb hts hown hG hP 0 rfl rfl dCo_find_61 ?_
            refine lv_iload hx hb dCo_find_64 (lv_at hl 3 rfl) ?_
            refine lv_iconst (v := nI 1) hx hb dCo_find_66 (by decide) ?_
            refine lv_ixor hx hb dCo_find_67 ?_
            refine ck_zald hx hb hG hP 1 rfl (by decide) ((i + 1) ^^^ 1) (nI_xor (i + 1) 1) (by have := Nat.xor_lt_two_pow (n := 9) (show i + 1 < 2 ^ 9 by omega) (show 1 < 2 ^ 9 by decide); omega) dCo_find_68 ?_
            refine lv_if_eq (tgt := 96) hx hb dCo_find_69 rfl (fun h8 => ?_) (fun h8 => ?_)
            · have b_h8 := decide_eq_true h8
              refine lv_iinc (v := nI (i + 1 + 1)) (lv' := [(4, .int (nI (i + 1 + 1))), (0, .ref oo), (2, .ref ok), (3, .int (nI (2 ^ dp)))]) hx hb dCo_find_96 hl (k := 3) rfl (nI_1 (i + 1)) (by decide) rfl (fun ls hl => ?_)
              refine lv_goto (tgt := 38) hx hb dCo_find_99 rfl ?_
              have e9 : jFd (jMk f g (2 ^ dp)) (2 ^ dp) fv fw (i + 1) = (q1, fv1, fw1) := by
                rw [jFd, hq]
                show jFdS (jMk f g (2 ^ dp)) (2 ^ dp) (i + 1) q1 fv1 fw1 = _
                unfold jFdS
                rw [if_neg (fun z => z.2.1.elim h7 (fun z => z h8))]
              exact ih (i + 1) _ _ _ _ _ _ (by omega) e9 hq8 hP hD hS (lv_sub hl [1, 2, 3, 0] rfl)
            · have b_h8 := decide_eq_false h8
              refine lv_aload_n hx hb dCo_find_72 rfl (lv_at hl 0 rfl) ?_
              refine lv_iload hx hb dCo_find_73 (lv_at hl 3 rfl) ?_
              refine lv_iload_n hx hb dCo_find_75 rfl (lv_at hl 2 rfl) ?_
              refine clCo_38 (As := [.int (nI (i + 1)), .int (nI (2 ^ dp))]) (rest := []) hx hb hml hown hts (k_Co_lastBelow l G oo om (i + 1) (2 ^ dp) hp2 (by omega) (jMk f g (2 ^ dp))) hG hA hP hD hS 0 rfl [0, 1] rfl rfl (fun _ => rfl) rfl hl.1 rfl (Nat.le_of_ble_eq_true rfl) ⟨by decide, by decide⟩ ⟨by decide, by decide⟩ dCo_find_76 (fun _ H locs _ hP hD hS => ?_)
              have hP : va_P G.1 vwCl [oC oo 2 [.ref om], aZ G om 512 (jMk f g (2 ^ dp)), oC ot 6 [.int (nI dp), .long sh, .long sl], oC ok 0 [.ref os, .ref ov, .ref ow, .int p0, .int (nI q1), .long h0, .long l0], aZ G os 256 g, aI G ov 128 fv1, aI G ow 128 fw1] H := hP
              have hD : va_D A [oC oo 2 [.ref om], aZ G om 512 (jMk f g (2 ^ dp)), oC ot 6 [.int (nI dp), .long sh, .long sl], oC ok 0 [.ref os, .ref ov, .ref ow, .int p0, .int (nI q1), .long h0, .long l0], aZ G os 256 g, aI G ov 128 fv1, aI G ow 128 fw1] := hD
              refine W.cs (cells' := 0) (slots' := 0) rfl rfl ?_
              refine W.eq (g2 := F0 m 79 ls [.int (nI (jLast (jMk f g (2 ^ dp)) (2 ^ dp) (i + 1)))]) rfl ?_
              refine lv_istore (lv' := [(5, .int (nI (jLast (jMk f g (2 ^ dp)) (2 ^ dp) (i + 1)))), (0, .ref oo), (2, .ref ok), (3, .int (nI (2 ^ dp))), (4, .int (nI (i + 1)))]) hx hb dCo_find_79 hl (by decide) rfl (fun ls hl => ?_)
              refine lv_iload hx hb dCo_find_81 (lv_at hl 0 rfl) ?_
              refine lv_iload hx hb dCo_find_83 (lv_at hl 4 rfl) ?_
              refine lv_icmp_eq (tgt := 96) hx hb dCo_find_85 rfl (fun h9 => ?_) (fun h9 => ?_)
              · have h10 : jLast (jMk f g (2 ^ dp)) (2 ^ dp) (i + 1) = i + 1 := (nI_eq (by have := jLF_lt (jMk f g (2 ^ dp)) hp2 8 (i + 1) (by omega); exact Nat.lt_trans this (by decide)) (by omega)).mp h9
                refine lv_iinc (v := nI (i + 1 + 1)) (lv' := [(4, .int (nI (i + 1 + 1))), (5, .int (nI (jLast (jMk f g (2 ^ dp)) (2 ^ dp) (i + 1)))), (0, .ref oo), (2, .ref ok), (3, .int (nI (2 ^ dp)))]) hx hb dCo_find_96 hl (k := 4) rfl (nI_1 (i + 1)) (by decide) rfl (fun ls hl => ?_)
                refine lv_goto (tgt := 38) hx hb dCo_find_99 rfl ?_
                have e9 : jFd (jMk f g (2 ^ dp)) (2 ^ dp) fv fw (i + 1) = (q1, fv1, fw1) := by
                  rw [jFd, hq]
                  show jFdS (jMk f g (2 ^ dp)) (2 ^ dp) (i + 1) q1 fv1 fw1 = _
                  unfold jFdS
                  rw [if_neg (fun z => z.2.2 h10)]
                exact ih (i + 1) _ _ _ _ _ _ (by omega) e9 hq8 hP hD hS (lv_sub hl [2, 3, 4, 0] rfl)
              · have h10 : ¬ jLast (jMk f g (2 ^ dp)) (2 ^ dp) (i + 1) = i + 1 := fun z => h9 (by rw [z])
                refine lv_aload_n hx hb dCo_find_88 rfl (lv_at hl 2 rfl) ?_
                refine lv_iload hx hb dCo_find_89 (lv_at hl 4 rfl) ?_
                refine lv_iload hx hb dCo_find_91 (lv_at hl 0 rfl) ?_
                refine clCo_34 (As := [.int (nI (i + 1)), .int (nI (jLast (jMk f g (2 ^ dp)) (2 ^ dp) (i + 1)))]) (rest := []) hx hb hml hown hts (k_Ch_addSubset l G ok os ov ow q1 (hq8) p0 (nI (i + 1)) (nI (jLast (jMk f g (2 ^ dp)) (2 ^ dp) (i + 1))) h0 l0 fv1 fw1) hG hA hP hD hS 3 rfl [3, 5, 6] rfl rfl (fun _ => rfl) rfl hl.1 rfl (Nat.le_of_ble_eq_true rfl) ⟨by decide, by decide⟩ ⟨by decide, by decide⟩ dCo_find_93 (fun _ H locs _ hP hD hS => ?_)
                have hP : va_P G.1 vwCl [oC oo 2 [.ref om], aZ G om 512 (jMk f g (2 ^ dp)), oC ot 6 [.int (nI dp), .long sh, .long sl], oC ok 0 [.ref os, .ref ov, .ref ow, .int p0, .int (nI (jAq q1)), .long h0, .long l0], aZ G os 256 g, aI G ov 128 (jAf q1 fv1 (nI (i + 1))), aI G ow 128 (jAf q1 fw1 (nI (jLast (jMk f g (2 ^ dp)) (2 ^ dp) (i + 1))))] H := hP
                have hD : va_D A [oC oo 2 [.ref om], aZ G om 512 (jMk f g (2 ^ dp)), oC ot 6 [.int (nI dp), .long sh, .long sl], oC ok 0 [.ref os, .ref ov, .ref ow, .int p0, .int (nI (jAq q1)), .long h0, .long l0], aZ G os 256 g, aI G ov 128 (jAf q1 fv1 (nI (i + 1))), aI G ow 128 (jAf q1 fw1 (nI (jLast (jMk f g (2 ^ dp)) (2 ^ dp) (i + 1))))] := hD
                refine W.cs (cells' := 0) (slots' := 0) rfl rfl ?_
                refine W.eq (g2 := F0 m 96 ls []) rfl ?_
                refine lv_iinc (v := nI (i + 1 + 1)) (lv' := [(4, .int (nI (i + 1 + 1))), (5, .int (nI (jLast (jMk f g (2 ^ dp)) (2 ^ dp) (i + 1)))), (0, .ref oo), (2, .ref ok), (3, .int (nI (2 ^ dp)))]) hx hb dCo_find_96 hl (k := 4) rfl (nI_1 (i + 1)) (by decide) rfl (fun ls hl => ?_)
                refine lv_goto (tgt := 38) hx hb dCo_find_99 rfl ?_
                have e9 : jFd (jMk f g (2 ^ dp)) (2 ^ dp) fv fw (i + 1) = ((jAq q1), jAf q1 fv1 (nI (i + 1)), jAf q1 fw1 (nI (jLast (jMk f g (2 ^ dp)) (2 ^ dp) (i + 1)))) := by
                  rw [jFd, hq]
                  show jFdS (jMk f g (2 ^ dp)) (2 ^ dp) (i + 1) q1 fv1 fw1 = _
                  unfold jFdS
                  rw [if_pos ⟨h5, Or.inr h8, h10⟩]
                exact ih (i + 1) _ _ _ _ _ _ (by omega) e9 (jAq_le hq8) hP hD hS (lv_sub hl [2, 3, 4, 0] rfl)
    exact loop (2 ^ dp - 1) 0 _ _ _ _ _ _ (by omega) rfl (by omega) hP hD hS (lv_sub hl [2, 4, 1, 0] rfl)
  · have b_h3 := decide_eq_true h3
    refine lv_aload_n hx hb dCo_find_28 rfl (lv_at hl 3 rfl) ?_
    refine lv_iconst (v := nI 0) hx hb dCo_find_29 (by decide) ?_
    refine lv_iconst (v := nI 0) hx hb dCo_find_30 (by decide) ?_
    refine clCo_34 (As := [.int (nI 0), .int (nI 0)]) (rest := []) hx hb hml hown hts (k_Ch_addSubset l G ok os ov ow 0 (by omega) p0 (nI 0) (nI 0) h0 l0 fv fw) hG hA hP hD hS 3 rfl [3, 5, 6] rfl rfl (fun _ => rfl) rfl hl.1 rfl (Nat.le_of_ble_eq_true rfl) ⟨by decide, by decide⟩ ⟨by decide, by decide⟩ dCo_find_31 (fun _ H locs _ hP hD hS => ?_)
    have hP : va_P G.1 vwCl [oC oo 2 [.ref om], aZ G om 512 (jMk f g (2 ^ dp)), oC ot 6 [.int (nI dp), .long sh, .long sl], oC ok 0 [.ref os, .ref ov, .ref ow, .int p0, .int (nI (jAq 0)), .long h0, .long l0], aZ G os 256 g, aI G ov 128 (jAf 0 fv (nI 0)), aI G ow 128 (jAf 0 fw (nI 0))] H := hP
    have hD : va_D A [oC oo 2 [.ref om], aZ G om 512 (jMk f g (2 ^ dp)), oC ot 6 [.int (nI dp), .long sh, .long sl], oC ok 0 [.ref os, .ref ov, .ref ow, .int p0, .int (nI (jAq 0)), .long h0, .long l0], aZ G os 256 g, aI G ov 128 (jAf 0 fv (nI 0)), aI G ow 128 (jAf 0 fw (nI 0))] := hD
    refine W.cs (cells' := 0) (slots' := 0) rfl rfl ?_
    refine W.eq (g2 := F0 m 34 ls []) rfl ?_
    exact cq_vret () (trivial) hx hb hr hlk hP hS rfl (by unfold jCov; rw [if_pos h3]) dCo_find_34
