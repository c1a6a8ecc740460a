/-! the reference: subset, reach, key, count, label -/
def rLo (dp : Nat) : Nat → Nat → Nat → Nat × Nat
  | 0, x, y => (x, y)
  | k + 1, x, y => if dp - y ≤ x then rLo dp k (x - (dp - y)) (y + 1) else (x, y)
theorem rLo_ge (dp : Nat) : ∀ k x y : Nat, y ≤ (rLo dp k x y).2
  | 0, x, y => Nat.le_refl _
  | k + 1, x, y => by
    unfold rLo
    split
    · exact Nat.le_trans (by omega) (rLo_ge dp k (x - (dp - y)) (y + 1))
    · exact Nat.le_refl _
/-- where label k stands: what is left, the level -/
def rLl (dp k : Nat) : Nat × Nat := rLo dp 8 k 0
theorem rLl_all : ∀ dp, dp ≤ 8 → ∀ k, k < 36 → k < dp * (dp + 1) / 2 → (rLl dp k).2 < dp ∧ (rLl dp k).1 < dp - (rLl dp k).2 ∧ jLot dp (nI k) = nI (rLl dp k).2 ∧ nI dp - (jLot dp (nI k) + nI 1 + nI k - jLa dp (jLot dp (nI k))) = nI (dp - (rLl dp k).2 - 1 - (rLl dp k).1) := by decide +kernel
theorem lab36 {dp k : Nat} (hdp : dp ≤ 8) (hk : k < dp * (dp + 1) / 2) : k < 36 := by
  have := Nat.mul_le_mul hdp (Nat.add_le_add_right hdp 1)
  omega
/-- the top and the foot of label k of decoder dd -/
def rTp (dp dd k : Nat) : Nat := (2 ^ dp + dd) / 2 ^ (dp - (rLl dp k).2)
def rFt (dp dd k : Nat) : Nat := (2 ^ dp + dd) / 2 ^ (dp - (rLl dp k).2 - 1 - (rLl dp k).1) ^^^ 1
theorem rTp_eq {dp dd k : Nat} (hdp : dp ≤ 8) (hd : dd < 2 ^ dp) (hk : k < dp * (dp + 1) / 2) : jTop dp (nI dd) (nI k) = nI (rTp dp dd k) := by
  obtain ⟨h1, h2, h3, h4⟩ := rLl_all dp hdp k (lab36 hdp hk) hk
  have hp := p2_le hdp
  unfold jTop rTp
  rw [h3, nI_add, pk_sub (by omega), isr_nI (by omega) (by omega)]
theorem rFt_eq {dp dd k : Nat} (hdp : dp ≤ 8) (hd : dd < 2 ^ dp) (hk : k < dp * (dp + 1) / 2) : jFoot dp (nI dd) (nI k) = nI (rFt dp dd k) := by
  obtain ⟨h1, h2, h3, h4⟩ := rLl_all dp hdp k (lab36 hdp hk) hk
  have hp := p2_le hdp
  unfold jFoot rFt
  rw [h4, nI_add, isr_nI (by omega) (by omega), nI_xor]
theorem rFt_lt {dp dd k : Nat} (hdp : dp ≤ 8) (hd : dd < 2 ^ dp) : rFt dp dd k < 512 := by
  have hp := p2_le hdp
  have h := Nat.div_le_self (2 ^ dp + dd) (2 ^ (dp - (rLl dp k).2 - 1 - (rLl dp k).1))
  exact Nat.xor_lt_two_pow (n := 9) (by omega) (by decide)
theorem rLab_lv {dp dd k : Nat} (hdp : dp ≤ 8) (hd : dd < 2 ^ dp) (hk : k < dp * (dp + 1) / 2) : jLb (nI (rFt dp dd k)) (nI (rTp dp dd k)) = nI (jLv (nI (rFt dp dd k)) (nI (rTp dp dd k))) := by
  obtain ⟨h1, h2, _, _⟩ := rLl_all dp hdp k (lab36 hdp hk) hk
  have hp := p2_le hdp
  have hf := rFt_lt (k := k) hdp hd
  have e : rFt dp dd k / 2 ^ ((rLl dp k).1 + 1) = rTp dp dd k := by
    unfold rFt rTp
    rw [Nat.xor_div_two_pow, show 1 / 2 ^ ((rLl dp k).1 + 1) = 0 from Nat.div_eq_of_lt (Nat.one_lt_two_pow (by omega)), Nat.xor_zero, Nat.div_div_eq_div_mul, ← Nat.pow_add, show dp - (rLl dp k).2 - 1 - (rLl dp k).1 + ((rLl dp k).1 + 1) = dp - (rLl dp k).2 by omega]
  have ht : rTp dp dd k < 2 ^ 31 := by
    have h := Nat.div_le_self (2 ^ dp + dd) (2 ^ (dp - (rLl dp k).2))
    unfold rTp
    omega
  unfold jLv
  unfold jLb
  rcases lbF_N (n := rFt dp dd k) (a := rTp dp dd k) (by omega) ht 9 0 rfl with ⟨j, z1, z2, z3, z4⟩ | ⟨z1, z2⟩
  · rw [z4, nI_clamp (by omega)]
  · exact absurd e (z1 _ (by omega) (by omega))
theorem i8_gt {x : Int32} (h : ¬ x < nI 8) : nI 7 < x := by
  rw [Int32.lt_iff_toInt_lt] at h ⊢
  have h1 : (nI 8).toInt = 8 := by decide
  have h2 : (nI 7).toInt = 7 := by decide
  omega
def rCnt (d az : Int32) (ins sb per : Nat → Int32) (x : Nat) : Int32 := if x = 0 then d else if x = 1 then nI (cntZ ins 256) else if x = 2 then nI (cntZ sb 1024) else if x = 3 then az else per (x - 4)
set_option maxHeartbeats 4000000 in
set_option maxRecDepth 100000 in
theorem k_Mo_subset_e1 (l : Launch) (G : gG) (oy : Nat) (r : Nat → Nat) (th : Int32) (fi se : Int64) (d : Int32) (sh sl : Int64) (az : Int32) (oh ol w0 w1 w2 : Int64) (c1 n1 b1 : Int32) (hc : jIn 4 c1 = false) : Ck l G yMo_subset cMo_subset 5 (some .int) { frames := 1, cells := 0, slots := 0, locals := 20 } [.ref oy, .int c1, .int n1, .int b1] [moC oy r th fi se d sh sl az oh ol w0 w1 w2] (some (.int (nI 0))) [moC oy r (nI 1) fi se d sh sl az oh ol w0 w1 w2] := by
  refine Cq.of (by decide) (Nat.le_of_ble_eq_true rfl) ?_
  intro p e s m args below meth c A ls hx hb hr hml hts hown hlk hA hP hD hG hS hl
  have hl : lv_has ls 5 [(0, .ref oy), (1, .int c1), (2, .int n1), (3, .int b1)] := hl
  refine lv_iload_n hx hb dMo_subset_0 rfl (lv_at hl 1 rfl) ?_
  refine clMo_162 (As := [.int c1]) (rest := []) hx hb hml hown hts (k_Mo_isChannel l G c1) hG hA hP hD hS [] rfl rfl (fun _ => rfl) rfl hl.1 rfl (Nat.le_of_ble_eq_true rfl) ⟨by decide, by decide⟩ ⟨by decide, by decide⟩ dMo_subset_1 (fun _ H locs _ hP hD hS => ?_)
  have hP : va_P G.1 vwCl [moC oy r th fi se d sh sl az oh ol w0 w1 w2] H := hP
  have hD : va_D A [moC oy r th fi se d sh sl az oh ol w0 w1 w2] := hD
  refine W.cs (cells' := 0) (slots' := 0) rfl rfl ?_
  refine W.eq (g2 := F0 m 4 ls [.int (jB (jIn 4 c1))]) rfl ?_
  refine lv_if_eq (tgt := 20) hx hb dMo_subset_4 rfl (fun _ => ?_) (fun h => absurd (by rw [hc]; rfl) h)
  refine lv_iconst (v := nI 0) hx hb dMo_subset_20 (by decide) ?_
  refine lv_istore (lv' := [(4, .int (nI 0)), (0, .ref oy), (1, .int c1), (2, .int n1), (3, .int b1)]) hx hb dMo_subset_21 hl (by decide) rfl (fun ls hl => ?_)
  refine lv_aload_n hx hb dMo_subset_23 rfl (lv_at hl 1 rfl) ?_
  refine lv_iload hx hb dMo_subset_24 (lv_at hl 0 rfl) ?_
  refine lv_if_ne (tgt := 33) hx hb dMo_subset_26 rfl (fun h => absurd (rfl) h) (fun _ => ?_)
  refine lv_iconst (v := nI 1) hx hb dMo_subset_29 (by decide) ?_
  refine lv_goto (tgt := 52) hx hb dMo_subset_30 rfl ?_
  refine pfMo_74 hx hb hts hown hG hP hD hS 0 rfl rfl rfl (Nat.le_of_ble_eq_true rfl) dMo_subset_52 (fun H locs hP hD hS => ?_)
  have hP : va_P G.1 vwCl [moC oy r (nI 1) fi se d sh sl az oh ol w0 w1 w2] H := hP
  have hD : va_D A [moC oy r (nI 1) fi se d sh sl az oh ol w0 w1 w2] := hD
  refine lv_aload_n hx hb dMo_subset_55 rfl (lv_at hl 1 rfl) ?_
  refine gfMo_74 hx hb hts hown hG hP 0 rfl rfl dMo_subset_56 ?_
  refine lv_if_le (tgt := 64) hx hb dMo_subset_59 rfl (fun h => absurd h (by decide)) (fun _ => ?_)
  refine lv_iconst (v := nI 0) hx hb dMo_subset_62 (by decide) ?_
  exact cq_iret () (trivial) hx hb hr hlk hP hS (rfl) (rfl) dMo_subset_63
set_option maxHeartbeats 4000000 in
set_option maxRecDepth 100000 in
theorem k_Mo_subset_e2 (l : Launch) (G : gG) (oy : Nat) (r : Nat → Nat) (th : Int32) (fi se : Int64) (d : Int32) (sh sl : Int64) (az : Int32) (oh ol w0 w1 w2 : Int64) (c4 : Nat) (hc : c4 < 4) (n1 b1 : Int32) (per : Nat → Int32) (hq : per c4 = nI 0) : Ck l G yMo_subset cMo_subset 5 (some .int) { frames := 1, cells := 0, slots := 0, locals := 20 } [.ref oy, .int (nI c4), .int n1, .int b1] [moC oy r th fi se d sh sl az oh ol w0 w1 w2, aI G (r 7) 4 per] (some (.int (nI 0))) [moC oy r (nI 1) fi se d sh sl az oh ol w0 w1 w2, aI G (r 7) 4 per] := by
  refine Cq.of (by decide) (Nat.le_of_ble_eq_true rfl) ?_
  intro p e s m args below meth c A ls hx hb hr hml hts hown hlk hA hP hD hG hS hl
  have hci := jIn_nI (show 4 < 2 ^ 31 by decide) hc
  have hl : lv_has ls 5 [(0, .ref oy), (1, .int (nI c4)), (2, .int n1), (3, .int b1)] := hl
  refine lv_iload_n hx hb dMo_subset_0 rfl (lv_at hl 1 rfl) ?_
  refine clMo_162 (As := [.int (nI c4)]) (rest := []) hx hb hml hown hts (k_Mo_isChannel l G (nI c4)) hG hA hP hD hS [] rfl rfl (fun _ => rfl) rfl hl.1 rfl (Nat.le_of_ble_eq_true rfl) ⟨by decide, by decide⟩ ⟨by decide, by decide⟩ dMo_subset_1 (fun _ H locs _ hP hD hS => ?_)
  have hP : va_P G.1 vwCl [moC oy r th fi se d sh sl az oh ol w0 w1 w2, aI G (r 7) 4 per] H := hP
  have hD : va_D A [moC oy r th fi se d sh sl az oh ol w0 w1 w2, aI G (r 7) 4 per] := hD
  refine W.cs (cells' := 0) (slots' := 0) rfl rfl ?_
  refine W.eq (g2 := F0 m 4 ls [.int (jB (jIn 4 (nI c4)))]) rfl ?_
  refine lv_if_eq (tgt := 20) hx hb dMo_subset_4 rfl (fun h => absurd h (by rw [hci]; decide)) (fun _ => ?_)
  refine lv_aload_n hx hb dMo_subset_7 rfl (lv_at hl 0 rfl) ?_
  refine gfMo_32 hx hb hts hown hG hP 0 rfl rfl dMo_subset_8 ?_
  refine lv_iload_n hx hb dMo_subset_11 rfl (lv_at hl 1 rfl) ?_
  refine ck_iald hx hb hG hP 1 rfl (by decide) c4 (rfl) (hc) dMo_subset_12 ?_
  refine ck_ri (y := nI 0) (hq) ?_
  refine lv_if_le (tgt := 20) hx hb dMo_subset_13 rfl (fun _ => ?_) (fun h => absurd (by decide) h)
  refine lv_iconst (v := nI 0) hx hb dMo_subset_20 (by decide) ?_
  refine lv_istore (lv' := [(4, .int (nI 0)), (0, .ref oy), (1, .int (nI c4)), (2, .int n1), (3, .int b1)]) hx hb dMo_subset_21 hl (by decide) rfl (fun ls hl => ?_)
  refine lv_aload_n hx hb dMo_subset_23 rfl (lv_at hl 1 rfl) ?_
  refine lv_iload hx hb dMo_subset_24 (lv_at hl 0 rfl) ?_
  refine lv_if_ne (tgt := 33) hx hb dMo_subset_26 rfl (fun h => absurd (rfl) h) (fun _ => ?_)
  refine lv_iconst (v := nI 1) hx hb dMo_subset_29 (by decide) ?_
  refine lv_goto (tgt := 52) hx hb dMo_subset_30 rfl ?_
  refine pfMo_74 hx hb hts hown hG hP hD hS 0 rfl rfl rfl (Nat.le_of_ble_eq_true rfl) dMo_subset_52 (fun H locs hP hD hS => ?_)
  have hP : va_P G.1 vwCl [moC oy r (nI 1) fi se d sh sl az oh ol w0 w1 w2, aI G (r 7) 4 per] H := hP
  have hD : va_D A [moC oy r (nI 1) fi se d sh sl az oh ol w0 w1 w2, aI G (r 7) 4 per] := hD
  refine lv_aload_n hx hb dMo_subset_55 rfl (lv_at hl 1 rfl) ?_
  refine gfMo_74 hx hb hts hown hG hP 0 rfl rfl dMo_subset_56 ?_
  refine lv_if_le (tgt := 64) hx hb dMo_subset_59 rfl (fun h => absurd h (by decide)) (fun _ => ?_)
  refine lv_iconst (v := nI 0) hx hb dMo_subset_62 (by decide) ?_
  exact cq_iret () (trivial) hx hb hr hlk hP hS (rfl) (rfl) dMo_subset_63
set_option maxHeartbeats 4000000 in
set_option maxRecDepth 100000 in
theorem k_Mo_subset_e3 (l : Launch) (G : gG) (oy : Nat) (r : Nat → Nat) (th : Int32) (fi se : Int64) (d : Int32) (sh sl : Int64) (az : Int32) (oh ol w0 w1 w2 : Int64) (c4 : Nat) (hc : c4 < 4) (n1 b1 : Int32) (per ss : Nat → Int32) (q sz : Nat) (hq : per c4 = nI q) (hq1 : 0 < q) (hq2 : q < 2 ^ 30) (hs : ss c4 = nI sz) (hn : jIn sz n1 = false) : Ck l G yMo_subset cMo_subset 5 (some .int) { frames := 1, cells := 0, slots := 0, locals := 20 } [.ref oy, .int (nI c4), .int n1, .int b1] [moC oy r th fi se d sh sl az oh ol w0 w1 w2, aI G (r 7) 4 per, aI G (r 10) 4 ss] (some (.int (nI 0))) [moC oy r (nI 2) fi se d sh sl az oh ol w0 w1 w2, aI G (r 7) 4 per, aI G (r 10) 4 ss] := by
  refine Cq.of (by decide) (Nat.le_of_ble_eq_true rfl) ?_
  intro p e s m args below meth c A ls hx hb hr hml hts hown hlk hA hP hD hG hS hl
  have hci := jIn_nI (show 4 < 2 ^ 31 by decide) hc
  have hl : lv_has ls 5 [(0, .ref oy), (1, .int (nI c4)), (2, .int n1), (3, .int b1)] := hl
  refine lv_iload_n hx hb dMo_subset_0 rfl (lv_at hl 1 rfl) ?_
  refine clMo_162 (As := [.int (nI c4)]) (rest := []) hx hb hml hown hts (k_Mo_isChannel l G (nI c4)) hG hA hP hD hS [] rfl rfl (fun _ => rfl) rfl hl.1 rfl (Nat.le_of_ble_eq_true rfl) ⟨by decide, by decide⟩ ⟨by decide, by decide⟩ dMo_subset_1 (fun _ H locs _ hP hD hS => ?_)
  have hP : va_P G.1 vwCl [moC oy r th fi se d sh sl az oh ol w0 w1 w2, aI G (r 7) 4 per, aI G (r 10) 4 ss] H := hP
  have hD : va_D A [moC oy r th fi se d sh sl az oh ol w0 w1 w2, aI G (r 7) 4 per, aI G (r 10) 4 ss] := hD
  refine W.cs (cells' := 0) (slots' := 0) rfl rfl ?_
  refine W.eq (g2 := F0 m 4 ls [.int (jB (jIn 4 (nI c4)))]) rfl ?_
  refine lv_if_eq (tgt := 20) hx hb dMo_subset_4 rfl (fun h => absurd h (by rw [hci]; decide)) (fun _ => ?_)
  refine lv_aload_n hx hb dMo_subset_7 rfl (lv_at hl 0 rfl) ?_
  refine gfMo_32 hx hb hts hown hG hP 0 rfl rfl dMo_subset_8 ?_
  refine lv_iload_n hx hb dMo_subset_11 rfl (lv_at hl 1 rfl) ?_
  refine ck_iald hx hb hG hP 1 rfl (by decide) c4 (rfl) (hc) dMo_subset_12 ?_
  refine ck_ri (y := nI q) (hq) ?_
  refine lv_if_le (tgt := 20) hx hb dMo_subset_13 rfl (fun h => absurd h (fun z => by have := (nI_leI (b := 0) (by omega) (by omega)).mp z; omega)) (fun _ => ?_)
  refine lv_iconst (v := nI 1) hx hb dMo_subset_16 (by decide) ?_
  refine lv_goto (tgt := 21) hx hb dMo_subset_17 rfl ?_
  refine lv_istore (lv' := [(4, .int (nI 1)), (0, .ref oy), (1, .int (nI c4)), (2, .int n1), (3, .int b1)]) hx hb dMo_subset_21 hl (by decide) rfl (fun ls hl => ?_)
  refine lv_aload_n hx hb dMo_subset_23 rfl (lv_at hl 1 rfl) ?_
  refine lv_iload hx hb dMo_subset_24 (lv_at hl 0 rfl) ?_
  refine lv_if_ne (tgt := 33) hx hb dMo_subset_26 rfl (fun _ => ?_) (fun h => absurd h (by decide))
  refine lv_iload_n hx hb dMo_subset_33 rfl (lv_at hl 3 rfl) ?_
  refine lv_if_lt (tgt := 47) hx hb dMo_subset_34 rfl (fun hx1 => ?_) (fun hx1 => ?_)
  · have b_h1 := decide_eq_true hx1
    refine lv_iconst (v := nI 2) hx hb dMo_subset_47 (by decide) ?_
    refine lv_goto (tgt := 52) hx hb dMo_subset_48 rfl ?_
    refine pfMo_74 hx hb hts hown hG hP hD hS 0 rfl rfl rfl (Nat.le_of_ble_eq_true rfl) dMo_subset_52 (fun H locs hP hD hS => ?_)
    have hP : va_P G.1 vwCl [moC oy r (nI 2) fi se d sh sl az oh ol w0 w1 w2, aI G (r 7) 4 per, aI G (r 10) 4 ss] H := hP
    have hD : va_D A [moC oy r (nI 2) fi se d sh sl az oh ol w0 w1 w2, aI G (r 7) 4 per, aI G (r 10) 4 ss] := hD
    refine lv_aload_n hx hb dMo_subset_55 rfl (lv_at hl 1 rfl) ?_
    refine gfMo_74 hx hb hts hown hG hP 0 rfl rfl dMo_subset_56 ?_
    refine lv_if_le (tgt := 64) hx hb dMo_subset_59 rfl (fun h => absurd h (by decide)) (fun _ => ?_)
    refine lv_iconst (v := nI 0) hx hb dMo_subset_62 (by decide) ?_
    exact cq_iret () (trivial) hx hb hr hlk hP hS (rfl) (rfl) dMo_subset_63
  · have b_h1 := decide_eq_false hx1
    refine lv_iload_n hx hb dMo_subset_37 rfl (lv_at hl 3 rfl) ?_
    refine lv_aload_n hx hb dMo_subset_38 rfl (lv_at hl 1 rfl) ?_
    refine gfMo_42 hx hb hts hown hG hP 0 rfl rfl dMo_subset_39 ?_
    refine lv_iload_n hx hb dMo_subset_42 rfl (lv_at hl 2 rfl) ?_
    refine ck_iald hx hb hG hP 2 rfl (by decide) c4 (rfl) (hc) dMo_subset_43 ?_
    refine ck_ri (y := nI sz) (hs) ?_
    refine lv_icmp_lt (tgt := 51) hx hb dMo_subset_44 rfl (fun h => absurd h (jIn_lt hn hx1)) (fun _ => ?_)
    refine lv_iconst (v := nI 2) hx hb dMo_subset_47 (by decide) ?_
    refine lv_goto (tgt := 52) hx hb dMo_subset_48 rfl ?_
    refine pfMo_74 hx hb hts hown hG hP hD hS 0 rfl rfl rfl (Nat.le_of_ble_eq_true rfl) dMo_subset_52 (fun H locs hP hD hS => ?_)
    have hP : va_P G.1 vwCl [moC oy r (nI 2) fi se d sh sl az oh ol w0 w1 w2, aI G (r 7) 4 per, aI G (r 10) 4 ss] H := hP
    have hD : va_D A [moC oy r (nI 2) fi se d sh sl az oh ol w0 w1 w2, aI G (r 7) 4 per, aI G (r 10) 4 ss] := hD
    refine lv_aload_n hx hb dMo_subset_55 rfl (lv_at hl 1 rfl) ?_
    refine gfMo_74 hx hb hts hown hG hP 0 rfl rfl dMo_subset_56 ?_
    refine lv_if_le (tgt := 64) hx hb dMo_subset_59 rfl (fun h => absurd h (by decide)) (fun _ => ?_)
    refine lv_iconst (v := nI 0) hx hb dMo_subset_62 (by decide) ?_
    exact cq_iret () (trivial) hx hb hr hlk hP hS (rfl) (rfl) dMo_subset_63
set_option maxHeartbeats 4000000 in
set_option maxRecDepth 100000 in
theorem k_Mo_subset (l : Launch) (G : gG) (oy : Nat) (r : Nat → Nat) (th : Int32) (fi se : Int64) (d : Int32) (sh sl : Int64) (az : Int32) (oh ol w0 w1 w2 : Int64) (c4 : Nat) (hc : c4 < 4) (n1 : Nat) (b1 : Int32) (per ss sv sw : Nat → Int32) (q sz : Nat) (hq : per c4 = nI q) (hq1 : 0 < q) (hq2 : q < 2 ^ 30) (hs : ss c4 = nI sz) (hs2 : sz ≤ 128) (hn : n1 < sz) : Ck l G yMo_subset cMo_subset 5 (some .int) { frames := 1, cells := 0, slots := 0, locals := 20 } [.ref oy, .int (nI c4), .int (nI n1), .int b1] [moC oy r th fi se d sh sl az oh ol w0 w1 w2, aI G (r 7) 4 per, aI G (r 10) 4 ss, aI G (r 11) 1024 sv, aI G (r 12) 1024 sw] (some (.int (jIi b1 (sw (256 * c4 + n1)) (sv (256 * c4 + n1))))) [moC oy r (nI 0) fi se d sh sl az oh ol w0 w1 w2, aI G (r 7) 4 per, aI G (r 10) 4 ss, aI G (r 11) 1024 sv, aI G (r 12) 1024 sw] := by
  refine Cq.of (by decide) (Nat.le_of_ble_eq_true rfl) ?_
  intro p e s m args below meth c A ls hx hb hr hml hts hown hlk hA hP hD hG hS hl
  have hci := jIn_nI (show 4 < 2 ^ 31 by decide) hc
  have hl : lv_has ls 5 [(0, .ref oy), (1, .int (nI c4)), (2, .int (nI n1)), (3, .int b1)] := hl
  refine lv_iload_n hx hb dMo_subset_0 rfl (lv_at hl 1 rfl) ?_
  refine clMo_162 (As := [.int (nI c4)]) (rest := []) hx hb hml hown hts (k_Mo_isChannel l G (nI c4)) hG hA hP hD hS [] rfl rfl (fun _ => rfl) rfl hl.1 rfl (Nat.le_of_ble_eq_true rfl) ⟨by decide, by decide⟩ ⟨by decide, by decide⟩ dMo_subset_1 (fun _ H locs _ hP hD hS => ?_)
  have hP : va_P G.1 vwCl [moC oy r th fi se d sh sl az oh ol w0 w1 w2, aI G (r 7) 4 per, aI G (r 10) 4 ss, aI G (r 11) 1024 sv, aI G (r 12) 1024 sw] H := hP
  have hD : va_D A [moC oy r th fi se d sh sl az oh ol w0 w1 w2, aI G (r 7) 4 per, aI G (r 10) 4 ss, aI G (r 11) 1024 sv, aI G (r 12) 1024 sw] := hD
  refine W.cs (cells' := 0) (slots' := 0) rfl rfl ?_
  refine W.eq (g2 := F0 m 4 ls [.int (jB (jIn 4 (nI c4)))]) rfl ?_
  refine lv_if_eq (tgt := 20) hx hb dMo_subset_4 rfl (fun h => absurd h (by rw [hci]; decide)) (fun _ => ?_)
  refine lv_aload_n hx hb dMo_subset_7 rfl (lv_at hl 0 rfl) ?_
  refine gfMo_32 hx hb hts hown hG hP 0 rfl rfl dMo_subset_8 ?_
  refine lv_iload_n hx hb dMo_subset_11 rfl (lv_at hl 1 rfl) ?_
  refine ck_iald hx hb hG hP 1 rfl (by decide) c4 (rfl) (hc) dMo_subset_12 ?_
  refine ck_ri (y := nI q) (hq) ?_
  refine lv_if_le (tgt := 20) hx hb dMo_subset_13 rfl (fun h => absurd h (fun z => by have := (nI_leI (b := 0) (by omega) (by omega)).mp z; omega)) (fun _ => ?_)
  refine lv_iconst (v := nI 1) hx hb dMo_subset_16 (by decide) ?_
  refine lv_goto (tgt := 21) hx hb dMo_subset_17 rfl ?_
  refine lv_istore (lv' := [(4, .int (nI 1)), (0, .ref oy), (1, .int (nI c4)), (2, .int (nI n1)), (3, .int b1)]) hx hb dMo_subset_21 hl (by decide) rfl (fun ls hl => ?_)
  refine lv_aload_n hx hb dMo_subset_23 rfl (lv_at hl 1 rfl) ?_
  refine lv_iload hx hb dMo_subset_24 (lv_at hl 0 rfl) ?_
  refine lv_if_ne (tgt := 33) hx hb dMo_subset_26 rfl (fun _ => ?_) (fun h => absurd h (by decide))
  refine lv_iload_n hx hb dMo_subset_33 rfl (lv_at hl 3 rfl) ?_
  refine lv_if_lt (tgt := 47) hx hb dMo_subset_34 rfl (fun h => absurd h (nI_pos (by omega))) (fun _ => ?_)
  refine lv_iload_n hx hb dMo_subset_37 rfl (lv_at hl 3 rfl) ?_
  refine lv_aload_n hx hb dMo_subset_38 rfl (lv_at hl 1 rfl) ?_
  refine gfMo_42 hx hb hts hown hG hP 0 rfl rfl dMo_subset_39 ?_
  refine lv_iload_n hx hb dMo_subset_42 rfl (lv_at hl 2 rfl) ?_
  refine ck_iald hx hb hG hP 2 rfl (by decide) c4 (rfl) (hc) dMo_subset_43 ?_
  refine ck_ri (y := nI sz) (hs) ?_
  refine lv_icmp_lt (tgt := 51) hx hb dMo_subset_44 rfl (fun _ => ?_) (fun h => absurd (nI_lt hn (by omega)) h)
  refine lv_iconst (v := nI 0) hx hb dMo_subset_51 (by decide) ?_
  refine pfMo_74 hx hb hts hown hG hP hD hS 0 rfl rfl rfl (Nat.le_of_ble_eq_true rfl) dMo_subset_52 (fun H locs hP hD hS => ?_)
  have hP : va_P G.1 vwCl [moC oy r (nI 0) fi se d sh sl az oh ol w0 w1 w2, aI G (r 7) 4 per, aI G (r 10) 4 ss, aI G (r 11) 1024 sv, aI G (r 12) 1024 sw] H := hP
  have hD : va_D A [moC oy r (nI 0) fi se d sh sl az oh ol w0 w1 w2, aI G (r 7) 4 per, aI G (r 10) 4 ss, aI G (r 11) 1024 sv, aI G (r 12) 1024 sw] := hD
  refine lv_aload_n hx hb dMo_subset_55 rfl (lv_at hl 1 rfl) ?_
  refine gfMo_74 hx hb hts hown hG hP 0 rfl rfl dMo_subset_56 ?_
  refine lv_if_le (tgt := 64) hx hb dMo_subset_59 rfl (fun _ => ?_) (fun h => absurd (by decide) h)
  refine lv_iload_n hx hb dMo_subset_64 rfl (lv_at hl 4 rfl) ?_
  refine lv_if_eq (tgt := 83) hx hb dMo_subset_65 rfl (fun h9 => ?_) (fun h9 => ?_)
  · have h8 : b1 = 0 := h9
    refine lv_aload_n hx hb dMo_subset_83 rfl (lv_at hl 1 rfl) ?_
    refine gfMo_45 hx hb hts hown hG hP 0 rfl rfl dMo_subset_84 ?_
    refine lv_sipush (v := nI 256) hx hb dMo_subset_87 (by decide) ?_
    refine lv_iload_n hx hb dMo_subset_90 rfl (lv_at hl 2 rfl) ?_
    refine lv_imul hx hb dMo_subset_91 ?_
    refine ck_ri (y := nI (256 * c4)) (pk_mul 256 _) ?_
    refine lv_iload_n hx hb dMo_subset_92 rfl (lv_at hl 3 rfl) ?_
    refine lv_iadd hx hb dMo_subset_93 ?_
    refine ck_ri (y := nI (256 * c4 + n1)) (nI_add _ _) ?_
    refine ck_iald hx hb hG hP 3 rfl (by decide) (256 * c4 + n1) (rfl) (by omega) dMo_subset_94 ?_
    exact cq_iret () (trivial) hx hb hr hlk hP hS (by unfold jIi; rw [if_pos h8]) (rfl) dMo_subset_95
  · have h8 : ¬ b1 = 0 := h9
    refine lv_aload_n hx hb dMo_subset_68 rfl (lv_at hl 1 rfl) ?_
    refine gfMo_48 hx hb hts hown hG hP 0 rfl rfl dMo_subset_69 ?_
    refine lv_sipush (v := nI 256) hx hb dMo_subset_72 (by decide) ?_
    refine lv_iload_n hx hb dMo_subset_75 rfl (lv_at hl 2 rfl) ?_
    refine lv_imul hx hb dMo_subset_76 ?_
    refine ck_ri (y := nI (256 * c4)) (pk_mul 256 _) ?_
    refine lv_iload_n hx hb dMo_subset_77 rfl (lv_at hl 3 rfl) ?_
    refine lv_iadd hx hb dMo_subset_78 ?_
    refine ck_ri (y := nI (256 * c4 + n1)) (nI_add _ _) ?_
    refine ck_iald hx hb hG hP 4 rfl (by decide) (256 * c4 + n1) (rfl) (by omega) dMo_subset_79 ?_
    refine lv_goto (tgt := 95) hx hb dMo_subset_80 rfl ?_
    exact cq_iret () (trivial) hx hb hr hlk hP hS (by unfold jIi; rw [if_neg h8]) (rfl) dMo_subset_95
set_option maxHeartbeats 4000000 in
set_option maxRecDepth 100000 in
theorem k_Mo_reach_e1 (l : Launch) (G : gG) (oy : Nat) (r : Nat → Nat) (th : Int32) (fi se : Int64) (dp : Nat) (hdp : dp ≤ 8) (sh sl : Int64) (az : Int32) (oh ol w0 w1 w2 : Int64) (d1 c1 : Int32) (hd : (jIn (2 ^ dp) d1 && jIn 4 c1) = false) : Ck l G yMo_reach cMo_reach 5 (some .int) { frames := 3, cells := 0, slots := 0, locals := 64 } [.ref oy, .int d1, .int c1] [moC oy r th fi se (nI dp) sh sl az oh ol w0 w1 w2] (some (.int (nI 0))) [moC oy r (nI 1) fi se (nI dp) sh sl az oh ol w0 w1 w2] := by
  refine Cq.of (by decide) (Nat.le_of_ble_eq_true rfl) ?_
  intro p e s m args below meth c A ls hx hb hr hml hts hown hlk hA hP hD hG hS hl
  have hl : lv_has ls 5 [(0, .ref oy), (1, .int d1), (2, .int c1)] := hl
  refine lv_aload_n hx hb dMo_reach_0 rfl (lv_at hl 0 rfl) ?_
  refine lv_aload_n hx hb dMo_reach_1 rfl (lv_at hl 0 rfl) ?_
  refine lv_iload_n hx hb dMo_reach_2 rfl (lv_at hl 1 rfl) ?_
  refine clMo_158 (As := [.int d1]) (rest := [.ref oy]) hx hb hml hown hts (k_Mo_isDecoder l G oy r th fi se dp hdp sh sl az oh ol w0 w1 w2 d1) hG hA hP hD hS 0 rfl [0] rfl rfl (fun _ => rfl) rfl hl.1 rfl (Nat.le_of_ble_eq_true rfl) ⟨by decide, by decide⟩ ⟨by decide, by decide⟩ dMo_reach_3 (fun _ H locs _ hP hD hS => ?_)
  have hP : va_P G.1 vwCl [moC oy r th fi se (nI dp) sh sl az oh ol w0 w1 w2] H := hP
  have hD : va_D A [moC oy r th fi se (nI dp) sh sl az oh ol w0 w1 w2] := hD
  refine W.cs (cells' := 0) (slots' := 0) rfl rfl ?_
  refine W.eq (g2 := F0 m 6 ls [.int (jB (jIn (2 ^ dp) d1)), .ref oy]) rfl ?_
  refine lv_if_eq (tgt := 16) hx hb dMo_reach_6 rfl (fun hx1 => ?_) (fun hx1 => ?_)
  · have hx2 := (jB_0 _).mp hx1
    refine lv_iconst (v := nI 1) hx hb dMo_reach_16 (by decide) ?_
    refine lv_goto (tgt := 43) hx hb dMo_reach_17 rfl ?_
    refine pfMo_74 hx hb hts hown hG hP hD hS 0 rfl rfl rfl (Nat.le_of_ble_eq_true rfl) dMo_reach_43 (fun H locs hP hD hS => ?_)
    have hP : va_P G.1 vwCl [moC oy r (nI 1) fi se (nI dp) sh sl az oh ol w0 w1 w2] H := hP
    have hD : va_D A [moC oy r (nI 1) fi se (nI dp) sh sl az oh ol w0 w1 w2] := hD
    refine lv_iconst (v := nI 0) hx hb dMo_reach_46 (by decide) ?_
    refine lv_istore_n (lv' := [(3, .int (nI 0)), (0, .ref oy), (1, .int d1), (2, .int c1)]) hx hb dMo_reach_47 rfl hl (by decide) rfl (fun ls hl => ?_)
    refine lv_iconst (v := nI 0) hx hb dMo_reach_48 (by decide) ?_
    refine lv_istore (lv' := [(4, .int (nI 0)), (3, .int (nI 0)), (0, .ref oy), (1, .int d1), (2, .int c1)]) hx hb dMo_reach_49 hl (by decide) rfl (fun ls hl => ?_)
    refine lv_aload_n hx hb dMo_reach_51 rfl (lv_at hl 2 rfl) ?_
    refine gfMo_74 hx hb hts hown hG hP 0 rfl rfl dMo_reach_52 ?_
    refine lv_if_ne (tgt := 117) hx hb dMo_reach_55 rfl (fun _ => ?_) (fun h => absurd h (by decide))
    refine lv_iload_n hx hb dMo_reach_117 rfl (lv_at hl 1 rfl) ?_
    exact cq_iret () (trivial) hx hb hr hlk hP hS (rfl) (rfl) dMo_reach_118
  · have hx2 := (jB_n0 _).mp hx1
    refine lv_iload_n hx hb dMo_reach_9 rfl (lv_at hl 2 rfl) ?_
    refine clMo_162 (As := [.int c1]) (rest := [.ref oy]) hx hb hml hown hts (k_Mo_isChannel l G c1) hG hA hP hD hS [] rfl rfl (fun _ => rfl) rfl hl.1 rfl (Nat.le_of_ble_eq_true rfl) ⟨by decide, by decide⟩ ⟨by decide, by decide⟩ dMo_reach_10 (fun _ H locs _ hP hD hS => ?_)
    have hP : va_P G.1 vwCl [moC oy r th fi se (nI dp) sh sl az oh ol w0 w1 w2] H := hP
    have hD : va_D A [moC oy r th fi se (nI dp) sh sl az oh ol w0 w1 w2] := hD
    refine W.cs (cells' := 0) (slots' := 0) rfl rfl ?_
    refine W.eq (g2 := F0 m 13 ls [.int (jB (jIn 4 c1)), .ref oy]) rfl ?_
    refine lv_if_ne (tgt := 20) hx hb dMo_reach_13 rfl (fun h => absurd (by rw [hx2, Bool.true_and] at hd; rw [hd]; rfl) h) (fun _ => ?_)
    refine lv_iconst (v := nI 1) hx hb dMo_reach_16 (by decide) ?_
    refine lv_goto (tgt := 43) hx hb dMo_reach_17 rfl ?_
    refine pfMo_74 hx hb hts hown hG hP hD hS 0 rfl rfl rfl (Nat.le_of_ble_eq_true rfl) dMo_reach_43 (fun H locs hP hD hS => ?_)
    have hP : va_P G.1 vwCl [moC oy r (nI 1) fi se (nI dp) sh sl az oh ol w0 w1 w2] H := hP
    have hD : va_D A [moC oy r (nI 1) fi se (nI dp) sh sl az oh ol w0 w1 w2] := hD
    refine lv_iconst (v := nI 0) hx hb dMo_reach_46 (by decide) ?_
    refine lv_istore_n (lv' := [(3, .int (nI 0)), (0, .ref oy), (1, .int d1), (2, .int c1)]) hx hb dMo_reach_47 rfl hl (by decide) rfl (fun ls hl => ?_)
    refine lv_iconst (v := nI 0) hx hb dMo_reach_48 (by decide) ?_
    refine lv_istore (lv' := [(4, .int (nI 0)), (3, .int (nI 0)), (0, .ref oy), (1, .int d1), (2, .int c1)]) hx hb dMo_reach_49 hl (by decide) rfl (fun ls hl => ?_)
    refine lv_aload_n hx hb dMo_reach_51 rfl (lv_at hl 2 rfl) ?_
    refine gfMo_74 hx hb hts hown hG hP 0 rfl rfl dMo_reach_52 ?_
    refine lv_if_ne (tgt := 117) hx hb dMo_reach_55 rfl (fun _ => ?_) (fun h => absurd h (by decide))
    refine lv_iload_n hx hb dMo_reach_117 rfl (lv_at hl 1 rfl) ?_
    exact cq_iret () (trivial) hx hb hr hlk hP hS (rfl) (rfl) dMo_reach_118
set_option maxHeartbeats 4000000 in
set_option maxRecDepth 100000 in
theorem k_Mo_reach_e2 (l : Launch) (G : gG) (oy : Nat) (r : Nat → Nat) (th : Int32) (fi se : Int64) (dp : Nat) (hdp : dp ≤ 8) (sh sl : Int64) (az : Int32) (oh ol w0 w1 w2 : Int64) (dd : Nat) (hd : dd < 2 ^ dp) (c4 : Nat) (hc : c4 < 4) (per : Nat → Int32) (hq : per c4 = nI 0) : Ck l G yMo_reach cMo_reach 5 (some .int) { frames := 3, cells := 0, slots := 0, locals := 64 } [.ref oy, .int (nI dd), .int (nI c4)] [moC oy r th fi se (nI dp) sh sl az oh ol w0 w1 w2, aI G (r 7) 4 per] (some (.int (nI 0))) [moC oy r (nI 2) fi se (nI dp) sh sl az oh ol w0 w1 w2, aI G (r 7) 4 per] := by
  refine Cq.of (by decide) (Nat.le_of_ble_eq_true rfl) ?_
  intro p e s m args below meth c A ls hx hb hr hml hts hown hlk hA hP hD hG hS hl
  have hp2 := p2_le hdp
  have hp1 := Nat.two_pow_pos dp
  have hdi := jIn_nI (show 2 ^ dp < 2 ^ 31 by omega) hd
  have hci := jIn_nI (show 4 < 2 ^ 31 by decide) hc
  have hl : lv_has ls 5 [(0, .ref oy), (1, .int (nI dd)), (2, .int (nI c4))] := hl
  refine lv_aload_n hx hb dMo_reach_0 rfl (lv_at hl 0 rfl) ?_
  refine lv_aload_n hx hb dMo_reach_1 rfl (lv_at hl 0 rfl) ?_
  refine lv_iload_n hx hb dMo_reach_2 rfl (lv_at hl 1 rfl) ?_
  refine clMo_158 (As := [.int (nI dd)]) (rest := [.ref oy]) hx hb hml hown hts (k_Mo_isDecoder l G oy r th fi se dp hdp sh sl az oh ol w0 w1 w2 (nI dd)) hG hA hP hD hS 0 rfl [0] rfl rfl (fun _ => rfl) rfl hl.1 rfl (Nat.le_of_ble_eq_true rfl) ⟨by decide, by decide⟩ ⟨by decide, by decide⟩ dMo_reach_3 (fun _ H locs _ hP hD hS => ?_)
  have hP : va_P G.1 vwCl [moC oy r th fi se (nI dp) sh sl az oh ol w0 w1 w2, aI G (r 7) 4 per] H := hP
  have hD : va_D A [moC oy r th fi se (nI dp) sh sl az oh ol w0 w1 w2, aI G (r 7) 4 per] := hD
  refine W.cs (cells' := 0) (slots' := 0) rfl rfl ?_
  refine W.eq (g2 := F0 m 6 ls [.int (jB (jIn (2 ^ dp) (nI dd))), .ref oy]) rfl ?_
  refine lv_if_eq (tgt := 16) hx hb dMo_reach_6 rfl (fun h => absurd h (by rw [hdi]; decide)) (fun _ => ?_)
  refine lv_iload_n hx hb dMo_reach_9 rfl (lv_at hl 2 rfl) ?_
  refine clMo_162 (As := [.int (nI c4)]) (rest := [.ref oy]) hx hb hml hown hts (k_Mo_isChannel l G (nI c4)) hG hA hP hD hS [] rfl rfl (fun _ => rfl) rfl hl.1 rfl (Nat.le_of_ble_eq_true rfl) ⟨by decide, by decide⟩ ⟨by decide, by decide⟩ dMo_reach_10 (fun _ H locs _ hP hD hS => ?_)
  have hP : va_P G.1 vwCl [moC oy r th fi se (nI dp) sh sl az oh ol w0 w1 w2, aI G (r 7) 4 per] H := hP
  have hD : va_D A [moC oy r th fi se (nI dp) sh sl az oh ol w0 w1 w2, aI G (r 7) 4 per] := hD
  refine W.cs (cells' := 0) (slots' := 0) rfl rfl ?_
  refine W.eq (g2 := F0 m 13 ls [.int (jB (jIn 4 (nI c4))), .ref oy]) rfl ?_
  refine lv_if_ne (tgt := 20) hx hb dMo_reach_13 rfl (fun _ => ?_) (fun h => absurd h (by rw [hci]; decide))
  refine lv_aload_n hx hb dMo_reach_20 rfl (lv_at hl 0 rfl) ?_
  refine gfMo_32 hx hb hts hown hG hP 0 rfl rfl dMo_reach_21 ?_
  refine lv_iload_n hx hb dMo_reach_24 rfl (lv_at hl 2 rfl) ?_
  refine ck_iald hx hb hG hP 1 rfl (by decide) c4 (rfl) (hc) dMo_reach_25 ?_
  refine lv_if_eq (tgt := 38) hx hb dMo_reach_26 rfl (fun _ => ?_) (fun h => absurd (hq) h)
  refine lv_iconst (v := nI 2) hx hb dMo_reach_38 (by decide) ?_
  refine lv_goto (tgt := 43) hx hb dMo_reach_39 rfl ?_
  refine pfMo_74 hx hb hts hown hG hP hD hS 0 rfl rfl rfl (Nat.le_of_ble_eq_true rfl) dMo_reach_43 (fun H locs hP hD hS => ?_)
  have hP : va_P G.1 vwCl [moC oy r (nI 2) fi se (nI dp) sh sl az oh ol w0 w1 w2, aI G (r 7) 4 per] H := hP
  have hD : va_D A [moC oy r (nI 2) fi se (nI dp) sh sl az oh ol w0 w1 w2, aI G (r 7) 4 per] := hD
  refine lv_iconst (v := nI 0) hx hb dMo_reach_46 (by decide) ?_
  refine lv_istore_n (lv' := [(3, .int (nI 0)), (0, .ref oy), (1, .int (nI dd)), (2, .int (nI c4))]) hx hb dMo_reach_47 rfl hl (by decide) rfl (fun ls hl => ?_)
  refine lv_iconst (v := nI 0) hx hb dMo_reach_48 (by decide) ?_
  refine lv_istore (lv' := [(4, .int (nI 0)), (3, .int (nI 0)), (0, .ref oy), (1, .int (nI dd)), (2, .int (nI c4))]) hx hb dMo_reach_49 hl (by decide) rfl (fun ls hl => ?_)
  refine lv_aload_n hx hb dMo_reach_51 rfl (lv_at hl 2 rfl) ?_
  refine gfMo_74 hx hb hts hown hG hP 0 rfl rfl dMo_reach_52 ?_
  refine lv_if_ne (tgt := 117) hx hb dMo_reach_55 rfl (fun _ => ?_) (fun h => absurd h (by decide))
  refine lv_iload_n hx hb dMo_reach_117 rfl (lv_at hl 1 rfl) ?_
  exact cq_iret () (trivial) hx hb hr hlk hP hS (rfl) (rfl) dMo_reach_118
set_option maxHeartbeats 4000000 in
set_option maxRecDepth 100000 in
theorem k_Mo_reach_e3 (l : Launch) (G : gG) (oy : Nat) (r : Nat → Nat) (th : Int32) (fi se : Int64) (dp : Nat) (hdp : dp ≤ 8) (sh sl : Int64) (az : Int32) (oh ol w0 w1 w2 : Int64) (dd : Nat) (hd : dd < 2 ^ dp) (c4 : Nat) (hc : c4 < 4) (per ins : Nat → Int32) (hq : ¬ per c4 = nI 0) (hi : ins dd = 0) : Ck l G yMo_reach cMo_reach 5 (some .int) { frames := 3, cells := 0, slots := 0, locals := 64 } [.ref oy, .int (nI dd), .int (nI c4)] [moC oy r th fi se (nI dp) sh sl az oh ol w0 w1 w2, aI G (r 7) 4 per, aZ G (r 5) 256 ins] (some (.int (nI 0))) [moC oy r (nI 2) fi se (nI dp) sh sl az oh ol w0 w1 w2, aI G (r 7) 4 per, aZ G (r 5) 256 ins] := by
  refine Cq.of (by decide) (Nat.le_of_ble_eq_true rfl) ?_
  intro p e s m args below meth c A ls hx hb hr hml hts hown hlk hA hP hD hG hS hl
  have hp2 := p2_le hdp
  have hp1 := Nat.two_pow_pos dp
  have hdi := jIn_nI (show 2 ^ dp < 2 ^ 31 by omega) hd
  have hci := jIn_nI (show 4 < 2 ^ 31 by decide) hc
  have hl : lv_has ls 5 [(0, .ref oy), (1, .int (nI dd)), (2, .int (nI c4))] := hl
  refine lv_aload_n hx hb dMo_reach_0 rfl (lv_at hl 0 rfl) ?_
  refine lv_aload_n hx hb dMo_reach_1 rfl (lv_at hl 0 rfl) ?_
  refine lv_iload_n hx hb dMo_reach_2 rfl (lv_at hl 1 rfl) ?_
  refine clMo_158 (As := [.int (nI dd)]) (rest := [.ref oy]) hx hb hml hown hts (k_Mo_isDecoder l G oy r th fi se dp hdp sh sl az oh ol w0 w1 w2 (nI dd)) hG hA hP hD hS 0 rfl [0] rfl rfl (fun _ => rfl) rfl hl.1 rfl (Nat.le_of_ble_eq_true rfl) ⟨by decide, by decide⟩ ⟨by decide, by decide⟩ dMo_reach_3 (fun _ H locs _ hP hD hS => ?_)
  have hP : va_P G.1 vwCl [moC oy r th fi se (nI dp) sh sl az oh ol w0 w1 w2, aI G (r 7) 4 per, aZ G (r 5) 256 ins] H := hP
  have hD : va_D A [moC oy r th fi se (nI dp) sh sl az oh ol w0 w1 w2, aI G (r 7) 4 per, aZ G (r 5) 256 ins] := hD
  refine W.cs (cells' := 0) (slots' := 0) rfl rfl ?_
  refine W.eq (g2 := F0 m 6 ls [.int (jB (jIn (2 ^ dp) (nI dd))), .ref oy]) rfl ?_
  refine lv_if_eq (tgt := 16) hx hb dMo_reach_6 rfl (fun h => absurd h (by rw [hdi]; decide)) (fun _ => ?_)
  refine lv_iload_n hx hb dMo_reach_9 rfl (lv_at hl 2 rfl) ?_
  refine clMo_162 (As := [.int (nI c4)]) (rest := [.ref oy]) hx hb hml hown hts (k_Mo_isChannel l G (nI c4)) hG hA hP hD hS [] rfl rfl (fun _ => rfl) rfl hl.1 rfl (Nat.le_of_ble_eq_true rfl) ⟨by decide, by decide⟩ ⟨by decide, by decide⟩ dMo_reach_10 (fun _ H locs _ hP hD hS => ?_)
  have hP : va_P G.1 vwCl [moC oy r th fi se (nI dp) sh sl az oh ol w0 w1 w2, aI G (r 7) 4 per, aZ G (r 5) 256 ins] H := hP
  have hD : va_D A [moC oy r th fi se (nI dp) sh sl az oh ol w0 w1 w2, aI G (r 7) 4 per, aZ G (r 5) 256 ins] := hD
  refine W.cs (cells' := 0) (slots' := 0) rfl rfl ?_
  refine W.eq (g2 := F0 m 13 ls [.int (jB (jIn 4 (nI c4))), .ref oy]) rfl ?_
  refine lv_if_ne (tgt := 20) hx hb dMo_reach_13 rfl (fun _ => ?_) (fun h => absurd h (by rw [hci]; decide))
  refine lv_aload_n hx hb dMo_reach_20 rfl (lv_at hl 0 rfl) ?_
  refine gfMo_32 hx hb hts hown hG hP 0 rfl rfl dMo_reach_21 ?_
  refine lv_iload_n hx hb dMo_reach_24 rfl (lv_at hl 2 rfl) ?_
  refine ck_iald hx hb hG hP 1 rfl (by decide) c4 (rfl) (hc) dMo_reach_25 ?_
  refine lv_if_eq (tgt := 38) hx hb dMo_reach_26 rfl (fun h => absurd h (hq)) (fun _ => ?_)
  refine lv_aload_n hx hb dMo_reach_29 rfl (lv_at hl 0 rfl) ?_
  refine gfMo_25 hx hb hts hown hG hP 0 rfl rfl dMo_reach_30 ?_
  refine lv_iload_n hx hb dMo_reach_33 rfl (lv_at hl 1 rfl) ?_
  refine ck_zald hx hb hG hP 2 rfl (by decide) dd (rfl) (by omega) dMo_reach_34 ?_
  refine lv_if_ne (tgt := 42) hx hb dMo_reach_35 rfl (fun h => absurd (hi) h) (fun _ => ?_)
  refine lv_iconst (v := nI 2) hx hb dMo_reach_38 (by decide) ?_
  refine lv_goto (tgt := 43) hx hb dMo_reach_39 rfl ?_
  refine pfMo_74 hx hb hts hown hG hP hD hS 0 rfl rfl rfl (Nat.le_of_ble_eq_true rfl) dMo_reach_43 (fun H locs hP hD hS => ?_)
  have hP : va_P G.1 vwCl [moC oy r (nI 2) fi se (nI dp) sh sl az oh ol w0 w1 w2, aI G (r 7) 4 per, aZ G (r 5) 256 ins] H := hP
  have hD : va_D A [moC oy r (nI 2) fi se (nI dp) sh sl az oh ol w0 w1 w2, aI G (r 7) 4 per, aZ G (r 5) 256 ins] := hD
  refine lv_iconst (v := nI 0) hx hb dMo_reach_46 (by decide) ?_
  refine lv_istore_n (lv' := [(3, .int (nI 0)), (0, .ref oy), (1, .int (nI dd)), (2, .int (nI c4))]) hx hb dMo_reach_47 rfl hl (by decide) rfl (fun ls hl => ?_)
  refine lv_iconst (v := nI 0) hx hb dMo_reach_48 (by decide) ?_
  refine lv_istore (lv' := [(4, .int (nI 0)), (3, .int (nI 0)), (0, .ref oy), (1, .int (nI dd)), (2, .int (nI c4))]) hx hb dMo_reach_49 hl (by decide) rfl (fun ls hl => ?_)
  refine lv_aload_n hx hb dMo_reach_51 rfl (lv_at hl 2 rfl) ?_
  refine gfMo_74 hx hb hts hown hG hP 0 rfl rfl dMo_reach_52 ?_
  refine lv_if_ne (tgt := 117) hx hb dMo_reach_55 rfl (fun _ => ?_) (fun h => absurd h (by decide))
  refine lv_iload_n hx hb dMo_reach_117 rfl (lv_at hl 1 rfl) ?_
  exact cq_iret () (trivial) hx hb hr hlk hP hS (rfl) (rfl) dMo_reach_118
set_option maxHeartbeats 4000000 in
set_option maxRecDepth 100000 in
theorem k_Mo_reach (l : Launch) (G : gG) (oy : Nat) (r : Nat → Nat) (th : Int32) (fi se : Int64) (dp : Nat) (hdp : dp ≤ 8) (sh sl : Int64) (az : Int32) (oh ol w0 w1 w2 : Int64) (dd : Nat) (hd : dd < 2 ^ dp) (c4 : Nat) (hc : c4 < 4) (per ins ss sv sw fv fw : Nat → Int32) (hq : ¬ per c4 = nI 0) (hi : ¬ ins dd = 0) (sz : Nat) (hs : ss c4 = nI sz) (hs2 : sz ≤ 128) (hsv : ∀ k, k < sz → sv (256 * c4 + k) = fv k ∧ sw (256 * c4 + k) = fw k) (hsub : ∀ k, k < sz → jSub dp (fv k) (fw k) = true) : Ck l G yMo_reach cMo_reach 5 (some .int) { frames := 3, cells := 0, slots := 0, locals := 64 } [.ref oy, .int (nI dd), .int (nI c4)] [moC oy r th fi se (nI dp) sh sl az oh ol w0 w1 w2, aI G (r 7) 4 per, aZ G (r 5) 256 ins, aI G (r 10) 4 ss, aI G (r 11) 1024 sv, aI G (r 12) 1024 sw] (some (.int (nI (cntR dp (nI dd) fv fw sz)))) [moC oy r (nI 0) fi se (nI dp) sh sl az oh ol w0 w1 w2, aI G (r 7) 4 per, aZ G (r 5) 256 ins, aI G (r 10) 4 ss, aI G (r 11) 1024 sv, aI G (r 12) 1024 sw] := by
  refine Cq.of (by decide) (Nat.le_of_ble_eq_true rfl) ?_
  intro p e s m args below meth c A ls hx hb hr hml hts hown hlk hA hP hD hG hS hl
  have hp2 := p2_le hdp
  have hp1 := Nat.two_pow_pos dp
  have hdi := jIn_nI (show 2 ^ dp < 2 ^ 31 by omega) hd
  have hci := jIn_nI (show 4 < 2 ^ 31 by decide) hc
  have hl : lv_has ls 5 [(0, .ref oy), (1, .int (nI dd)), (2, .int (nI c4))] := hl
  refine lv_aload_n hx hb dMo_reach_0 rfl (lv_at hl 0 rfl) ?_
  refine lv_aload_n hx hb dMo_reach_1 rfl (lv_at hl 0 rfl) ?_
  refine lv_iload_n hx hb dMo_reach_2 rfl (lv_at hl 1 rfl) ?_
  refine clMo_158 (As := [.int (nI dd)]) (rest := [.ref oy]) hx hb hml hown hts (k_Mo_isDecoder l G oy r th fi se dp hdp sh sl az oh ol w0 w1 w2 (nI dd)) hG hA hP hD hS 0 rfl [0] rfl rfl (fun _ => rfl) rfl hl.1 rfl (Nat.le_of_ble_eq_true rfl) ⟨by decide, by decide⟩ ⟨by decide, by decide⟩ dMo_reach_3 (fun _ H locs _ hP hD hS => ?_)
  have hP : va_P G.1 vwCl [moC oy r th fi se (nI dp) sh sl az oh ol w0 w1 w2, aI G (r 7) 4 per, aZ G (r 5) 256 ins, aI G (r 10) 4 ss, aI G (r 11) 1024 sv, aI G (r 12) 1024 sw] H := hP
  have hD : va_D A [moC oy r th fi se (nI dp) sh sl az oh ol w0 w1 w2, aI G (r 7) 4 per, aZ G (r 5) 256 ins, aI G (r 10) 4 ss, aI G (r 11) 1024 sv, aI G (r 12) 1024 sw] := hD
  refine W.cs (cells' := 0) (slots' := 0) rfl rfl ?_
  refine W.eq (g2 := F0 m 6 ls [.int (jB (jIn (2 ^ dp) (nI dd))), .ref oy]) rfl ?_
  refine lv_if_eq (tgt := 16) hx hb dMo_reach_6 rfl (fun h => absurd h (by rw [hdi]; decide)) (fun _ => ?_)
  refine lv_iload_n hx hb dMo_reach_9 rfl (lv_at hl 2 rfl) ?_
  refine clMo_162 (As := [.int (nI c4)]) (rest := [.ref oy]) hx hb hml hown hts (k_Mo_isChannel l G (nI c4)) hG hA hP hD hS [] rfl rfl (fun _ => rfl) rfl hl.1 rfl (Nat.le_of_ble_eq_true rfl) ⟨by decide, by decide⟩ ⟨by decide, by decide⟩ dMo_reach_10 (fun _ H locs _ hP hD hS => ?_)
  have hP : va_P G.1 vwCl [moC oy r th fi se (nI dp) sh sl az oh ol w0 w1 w2, aI G (r 7) 4 per, aZ G (r 5) 256 ins, aI G (r 10) 4 ss, aI G (r 11) 1024 sv, aI G (r 12) 1024 sw] H := hP
  have hD : va_D A [moC oy r th fi se (nI dp) sh sl az oh ol w0 w1 w2, aI G (r 7) 4 per, aZ G (r 5) 256 ins, aI G (r 10) 4 ss, aI G (r 11) 1024 sv, aI G (r 12) 1024 sw] := hD
  refine W.cs (cells' := 0) (slots' := 0) rfl rfl ?_
  refine W.eq (g2 := F0 m 13 ls [.int (jB (jIn 4 (nI c4))), .ref oy]) rfl ?_
  refine lv_if_ne (tgt := 20) hx hb dMo_reach_13 rfl (fun _ => ?_) (fun h => absurd h (by rw [hci]; decide))
  refine lv_aload_n hx hb dMo_reach_20 rfl (lv_at hl 0 rfl) ?_
  refine gfMo_32 hx hb hts hown hG hP 0 rfl rfl dMo_reach_21 ?_
  refine lv_iload_n hx hb dMo_reach_24 rfl (lv_at hl 2 rfl) ?_
  refine ck_iald hx hb hG hP 1 rfl (by decide) c4 (rfl) (hc) dMo_reach_25 ?_
  refine lv_if_eq (tgt := 38) hx hb dMo_reach_26 rfl (fun h => absurd h (hq)) (fun _ => ?_)
  refine lv_aload_n hx hb dMo_reach_29 rfl (lv_at hl 0 rfl) ?_
  refine gfMo_25 hx hb hts hown hG hP 0 rfl rfl dMo_reach_30 ?_
  refine lv_iload_n hx hb dMo_reach_33 rfl (lv_at hl 1 rfl) ?_
  refine ck_zald hx hb hG hP 2 rfl (by decide) dd (rfl) (by omega) dMo_reach_34 ?_
  refine lv_if_ne (tgt := 42) hx hb dMo_reach_35 rfl (fun _ => ?_) (fun h => absurd h (hi))
  refine lv_iconst (v := nI 0) hx hb dMo_reach_42 (by decide) ?_
  refine pfMo_74 hx hb hts hown hG hP hD hS 0 rfl rfl rfl (Nat.le_of_ble_eq_true rfl) dMo_reach_43 (fun H locs hP hD hS => ?_)
  have hP : va_P G.1 vwCl [moC oy r (nI 0) fi se (nI dp) sh sl az oh ol w0 w1 w2, aI G (r 7) 4 per, aZ G (r 5) 256 ins, aI G (r 10) 4 ss, aI G (r 11) 1024 sv, aI G (r 12) 1024 sw] H := hP
  have hD : va_D A [moC oy r (nI 0) fi se (nI dp) sh sl az oh ol w0 w1 w2, aI G (r 7) 4 per, aZ G (r 5) 256 ins, aI G (r 10) 4 ss, aI G (r 11) 1024 sv, aI G (r 12) 1024 sw] := hD
  refine lv_iconst (v := nI 0) hx hb dMo_reach_46 (by decide) ?_
  refine lv_istore_n (lv' := [(3, .int (nI 0)), (0, .ref oy), (1, .int (nI dd)), (2, .int (nI c4))]) hx hb dMo_reach_47 rfl hl (by decide) rfl (fun ls hl => ?_)
  refine lv_iconst (v := nI 0) hx hb dMo_reach_48 (by decide) ?_
  refine lv_istore (lv' := [(4, .int (nI 0)), (3, .int (nI 0)), (0, .ref oy), (1, .int (nI dd)), (2, .int (nI c4))]) hx hb dMo_reach_49 hl (by decide) rfl (fun ls hl => ?_)
  have loop : ∀ (k : Nat) (n : Nat) (H : Heap) (locs : List Loc) (ls : Array Slot), n + k = sz → va_P G.1 vwCl [moC oy r (nI 0) fi se (nI dp) sh sl az oh ol w0 w1 w2, aI G (r 7) 4 per, aZ G (r 5) 256 ins, aI G (r 10) 4 ss, aI G (r 11) 1024 sv, aI G (r 12) 1024 sw] H → va_D A [moC oy r (nI 0) fi se (nI dp) sh sl az oh ol w0 w1 w2, aI G (r 7) 4 per, aZ G (r 5) 256 ins, aI G (r 10) 4 ss, aI G (r 11) 1024 sv, aI G (r 12) 1024 sw] → va_S A s.heap H locs → lv_has ls 5 [(0, .ref oy), (1, .int (nI dd)), (2, .int (nI c4)), (3, .int (nI (cntR dp (nI dd) fv fw n))), (4, .int (nI n))] → W p l e { frames := 3, cells := 0, slots := 0, locals := 64 } s m args below meth c H locs 0 0 (MQ below (cq_out G (S := Unit) (fun _ => True) (fun _ => (some (.int (nI (cntR dp (nI dd) fv fw sz))))) (fun _ => [moC oy r (nI 0) fi se (nI dp) sh sl az oh ol w0 w1 w2, aI G (r 7) 4 per, aZ G (r 5) 256 ins, aI G (r 10) 4 ss, aI G (r 11) 1024 sv, aI G (r 12) 1024 sw]) A) args s 0 0 A) (F0 m 51 ls []) := by
    intro k
    induction k with
    | zero =>
      intro n H locs ls hk hP hD hS hl
      refine lv_aload_n hx hb dMo_reach_51 rfl (lv_at hl 0 rfl) ?_
      refine gfMo_74 hx hb hts hown hG hP 0 rfl rfl dMo_reach_52 ?_
      refine lv_if_ne (tgt := 117) hx hb dMo_reach_55 rfl (fun h => absurd (rfl) h) (fun _ => ?_)
      refine lv_iload hx hb dMo_reach_58 (lv_at hl 4 rfl) ?_
      refine lv_aload_n hx hb dMo_reach_60 rfl (lv_at hl 0 rfl) ?_
      refine gfMo_42 hx hb hts hown hG hP 0 rfl rfl dMo_reach_61 ?_
      refine lv_iload_n hx hb dMo_reach_64 rfl (lv_at hl 2 rfl) ?_
      refine ck_iald hx hb hG hP 3 rfl (by decide) c4 (rfl) (hc) dMo_reach_65 ?_
      refine ck_ri (y := nI sz) (hs) ?_
      refine lv_icmp_ge (tgt := 117) hx hb dMo_reach_66 rfl (fun _ => ?_) (fun h => absurd (nI_le (by omega) (by omega)) h)
      refine lv_iload_n hx hb dMo_reach_117 rfl (lv_at hl 3 rfl) ?_
      exact cq_iret () (trivial) hx hb hr hlk hP hS (by rw [show n = sz by omega]) (rfl) dMo_reach_118
    | succ k ih =>
      intro n H locs ls hk hP hD hS hl
      have hcn := cntR_le dp (nI dd) fv fw n
      refine lv_aload_n hx hb dMo_reach_51 rfl (lv_at hl 0 rfl) ?_
      refine gfMo_74 hx hb hts hown hG hP 0 rfl rfl dMo_reach_52 ?_
      refine lv_if_ne (tgt := 117) hx hb dMo_reach_55 rfl (fun h => absurd (rfl) h) (fun _ => ?_)
      refine lv_iload hx hb dMo_reach_58 (lv_at hl 4 rfl) ?_
      refine lv_aload_n hx hb dMo_reach_60 rfl (lv_at hl 0 rfl) ?_
      refine gfMo_42 hx hb hts hown hG hP 0 rfl rfl dMo_reach_61 ?_
      refine lv_iload_n hx hb dMo_reach_64 rfl (lv_at hl 2 rfl) ?_
      refine ck_iald hx hb hG hP 3 rfl (by decide) c4 (rfl) (hc) dMo_reach_65 ?_
      refine ck_ri (y := nI sz) (hs) ?_
      refine lv_icmp_ge (tgt := 117) hx hb dMo_reach_66 rfl (fun h => absurd h (nI_ge (by omega) (by omega))) (fun _ => ?_)
      refine lv_aload_n hx hb dMo_reach_69 rfl (lv_at hl 0 rfl) ?_
      refine lv_aload_n hx hb dMo_reach_70 rfl (lv_at hl 0 rfl) ?_
      refine gfMo_45 hx hb hts hown hG hP 0 rfl rfl dMo_reach_71 ?_
      refine lv_sipush (v := nI 256) hx hb dMo_reach_74 (by decide) ?_
      refine lv_iload_n hx hb dMo_reach_77 rfl (lv_at hl 2 rfl) ?_
      refine lv_imul hx hb dMo_reach_78 ?_
      refine ck_ri (y := nI (256 * c4)) (pk_mul 256 _) ?_
      refine lv_iload hx hb dMo_reach_79 (lv_at hl 4 rfl) ?_
      refine lv_iadd hx hb dMo_reach_81 ?_
      refine ck_ri (y := nI (256 * c4 + n)) (nI_add _ _) ?_
      refine ck_iald hx hb hG hP 4 rfl (by decide) (256 * c4 + n) (rfl) (by omega) dMo_reach_82 ?_
      refine ck_ri (y := fv n) ((hsv n (by omega)).1) ?_
      refine lv_aload_n hx hb dMo_reach_83 rfl (lv_at hl 0 rfl) ?_
      refine gfMo_48 hx hb hts hown hG hP 0 rfl rfl dMo_reach_84 ?_
      refine lv_sipush (v := nI 256) hx hb dMo_reach_87 (by decide) ?_
      refine lv_iload_n hx hb dMo_reach_90 rfl (lv_at hl 2 rfl) ?_
      refine lv_imul hx hb dMo_reach_91 ?_
      refine ck_ri (y := nI (256 * c4)) (pk_mul 256 _) ?_
      refine lv_iload hx hb dMo_reach_92 (lv_at hl 4 rfl) ?_
      refine lv_iadd hx hb dMo_reach_94 ?_
      refine ck_ri (y := nI (256 * c4 + n)) (nI_add _ _) ?_
      refine ck_iald hx hb hG hP 5 rfl (by decide) (256 * c4 + n) (rfl) (by omega) dMo_reach_95 ?_
      refine ck_ri (y := fw n) ((hsv n (by omega)).2) ?_
      refine lv_iload_n hx hb dMo_reach_96 rfl (lv_at hl 1 rfl) ?_
      refine clMo_185 (As := [.int (fv n), .int (fw n), .int (nI dd)]) (rest := []) hx hb hml hown hts (k_Mo_hasLf l G oy r (nI 0) fi se dp hdp sh sl az oh ol w0 w1 w2 (fv n) (fw n) dd hd (hsub _ (by omega))) hG hA hP hD hS 0 rfl [0] rfl rfl (fun _ => rfl) rfl hl.1 rfl (Nat.le_of_ble_eq_true rfl) ⟨by decide, by decide⟩ ⟨by decide, by decide⟩ dMo_reach_97 (fun _ H locs _ hP hD hS => ?_)
      have hP : va_P G.1 vwCl [moC oy r (nI 0) fi se (nI dp) sh sl az oh ol w0 w1 w2, aI G (r 7) 4 per, aZ G (r 5) 256 ins, aI G (r 10) 4 ss, aI G (r 11) 1024 sv, aI G (r 12) 1024 sw] H := hP
      have hD : va_D A [moC oy r (nI 0) fi se (nI dp) sh sl az oh ol w0 w1 w2, aI G (r 7) 4 per, aZ G (r 5) 256 ins, aI G (r 10) 4 ss, aI G (r 11) 1024 sv, aI G (r 12) 1024 sw] := hD
      refine W.cs (cells' := 0) (slots' := 0) rfl rfl ?_
      refine W.eq (g2 := F0 m 100 ls [.int (jB (jDer dp (nI dd) (fv n) (fw n)))]) rfl ?_
      refine lv_if_eq (tgt := 109) hx hb dMo_reach_100 rfl (fun h8 => ?_) (fun h8 => ?_)
      · have h9 : ¬ jDer dp (nI dd) (fv n) (fw n) = true := by rw [(jB_0 _).mp h8]; decide
        refine lv_iload_n hx hb dMo_reach_109 rfl (lv_at hl 3 rfl) ?_
        refine lv_istore_n (lv' := [(3, .int (nI (cntR dp (nI dd) fv fw n))), (0, .ref oy), (1, .int (nI dd)), (2, .int (nI c4)), (4, .int (nI n))]) hx hb dMo_reach_110 rfl hl (by decide) rfl (fun ls hl => ?_)
        refine lv_iinc (v := nI (n + 1)) (lv' := [(4, .int (nI (n + 1))), (3, .int (nI (cntR dp (nI dd) fv fw n))), (0, .ref oy), (1, .int (nI dd)), (2, .int (nI c4))]) hx hb dMo_reach_111 hl (k := 4) rfl (nI_1 n) (by decide) rfl (fun ls hl => ?_)
        refine lv_goto (tgt := 51) hx hb dMo_reach_114 rfl ?_
        have e1 : cntR dp (nI dd) fv fw (n + 1) = (cntR dp (nI dd) fv fw n) := if_neg h9
        exact ih (n + 1) _ _ _ (by omega) hP hD hS (by rw [e1]; exact lv_sub hl [2, 3, 4, 1, 0] rfl)
      · have h9 : jDer dp (nI dd) (fv n) (fw n) = true := (jB_n0 _).mp h8
        refine lv_iload_n hx hb dMo_reach_103 rfl (lv_at hl 3 rfl) ?_
        refine lv_iconst (v := nI 1) hx hb dMo_reach_104 (by decide) ?_
        refine lv_iadd hx hb dMo_reach_105 ?_
        refine ck_ri (y := nI (cntR dp (nI dd) fv fw n + 1)) (nI_add _ 1) ?_
        refine lv_goto (tgt := 110) hx hb dMo_reach_106 rfl ?_
        refine lv_istore_n (lv' := [(3, .int (nI (cntR dp (nI dd) fv fw n + 1))), (0, .ref oy), (1, .int (nI dd)), (2, .int (nI c4)), (4, .int (nI n))]) hx hb dMo_reach_110 rfl hl (by decide) rfl (fun ls hl => ?_)
        refine lv_iinc (v := nI (n + 1)) (lv' := [(4, .int (nI (n + 1))), (3, .int (nI (cntR dp (nI dd) fv fw n + 1))), (0, .ref oy), (1, .int (nI dd)), (2, .int (nI c4))]) hx hb dMo_reach_111 hl (k := 4) rfl (nI_1 n) (by decide) rfl (fun ls hl => ?_)
        refine lv_goto (tgt := 51) hx hb dMo_reach_114 rfl ?_
        have e1 : cntR dp (nI dd) fv fw (n + 1) = (cntR dp (nI dd) fv fw n + 1) := if_pos h9
        exact ih (n + 1) _ _ _ (by omega) hP hD hS (by rw [e1]; exact lv_sub hl [2, 3, 4, 1, 0] rfl)
  exact loop sz 0 _ _ _ (by omega) hP hD hS (lv_sub hl [2, 3, 4, 1, 0] rfl)
set_option maxHeartbeats 4000000 in
set_option maxRecDepth 100000 in
theorem k_Mo_key_e (l : Launch) (G : gG) (oy : Nat) (r : Nat → Nat) (th : Int32) (fi se : Int64) (dp : Nat) (hdp : dp ≤ 8) (sh sl : Int64) (az : Int32) (oh ol w0 w1 w2 : Int64) (v1 y1 b1 : Int32) (hs : jSub dp v1 y1 = false) : Ck l G yMo_key cMo_key 4 (some .long) { frames := 5, cells := 0, slots := 0, locals := 127 } [.ref oy, .int v1, .int y1, .int b1] [moC oy r th fi se (nI dp) sh sl az oh ol w0 w1 w2] (some (.long (lN 0))) [moC oy r (nI 1) fi se (nI dp) sh sl az oh ol w0 w1 w2] := by
  refine Cq.of (by decide) (Nat.le_of_ble_eq_true rfl) ?_
  intro p e s m args below meth c A ls hx hb hr hml hts hown hlk hA hP hD hG hS hl
  have hl : lv_has ls 4 [(0, .ref oy), (1, .int v1), (2, .int y1), (3, .int b1)] := hl
  refine lv_aload_n hx hb dMo_key_0 rfl (lv_at hl 0 rfl) ?_
  refine lv_aload_n hx hb dMo_key_1 rfl (lv_at hl 0 rfl) ?_
  refine lv_iload_n hx hb dMo_key_2 rfl (lv_at hl 1 rfl) ?_
  refine lv_iload_n hx hb dMo_key_3 rfl (lv_at hl 2 rfl) ?_
  refine clMo_182 (As := [.int v1, .int y1]) (rest := [.ref oy]) hx hb hml hown hts (k_Mo_isSub l G oy r th fi se dp hdp sh sl az oh ol w0 w1 w2 v1 y1) hG hA hP hD hS 0 rfl [0] rfl rfl (fun _ => rfl) rfl hl.1 rfl (Nat.le_of_ble_eq_true rfl) ⟨by decide, by decide⟩ ⟨by decide, by decide⟩ dMo_key_4 (fun _ H locs _ hP hD hS => ?_)
  have hP : va_P G.1 vwCl [moC oy r th fi se (nI dp) sh sl az oh ol w0 w1 w2] H := hP
  have hD : va_D A [moC oy r th fi se (nI dp) sh sl az oh ol w0 w1 w2] := hD
  refine W.cs (cells' := 0) (slots' := 0) rfl rfl ?_
  refine W.eq (g2 := F0 m 7 ls [.int (jB (jSub dp v1 y1)), .ref oy]) rfl ?_
  refine lv_if_eq (tgt := 14) hx hb dMo_key_7 rfl (fun _ => ?_) (fun h => absurd (by rw [hs]; rfl) h)
  refine lv_iconst (v := nI 1) hx hb dMo_key_14 (by decide) ?_
  refine pfMo_74 hx hb hts hown hG hP hD hS 0 rfl rfl rfl (Nat.le_of_ble_eq_true rfl) dMo_key_15 (fun H locs hP hD hS => ?_)
  have hP : va_P G.1 vwCl [moC oy r (nI 1) fi se (nI dp) sh sl az oh ol w0 w1 w2] H := hP
  have hD : va_D A [moC oy r (nI 1) fi se (nI dp) sh sl az oh ol w0 w1 w2] := hD
  refine lv_aload_n hx hb dMo_key_18 rfl (lv_at hl 0 rfl) ?_
  refine gfMo_74 hx hb hts hown hG hP 0 rfl rfl dMo_key_19 ?_
  refine lv_if_le (tgt := 27) hx hb dMo_key_22 rfl (fun h => absurd h (by decide)) (fun _ => ?_)
  refine lv_lconst (v := lN 0) hx hb dMo_key_25 (by decide) ?_
  exact cq_lret () (trivial) hx hb hr hlk hP hS (rfl) (rfl) dMo_key_26
set_option maxHeartbeats 4000000 in
set_option maxRecDepth 100000 in
theorem k_Mo_key (l : Launch) (G : gG) (oy : Nat) (r : Nat → Nat) (th : Int32) (fi se : Int64) (dp : Nat) (hdp : dp ≤ 8) (sh sl : Int64) (az : Int32) (oh ol w0 w1 w2 : Int64) (f g m0 : Nat → Nat) (v1 y1 b1 : Int32) (hs : jSub dp v1 y1 = true) : Cq l G yMo_key cMo_key 4 (some .long) { frames := 5, cells := 0, slots := 0, locals := 127 } [.ref oy, .int v1, .int y1, .int b1] [moC oy r th fi se (nI dp) sh sl az oh ol w0 w1 w2, aI G (r 0) 256 ckS, aI G (r 2) 176 (bN f), aI G (r 3) 16 (bN g), aI G (r 4) 16 (bN m0)] (S := (Nat → Nat) × (Nat → Nat) × (Nat → Nat)) (fun _ => True) (fun u => some (.long (jIf b1 (jKy sh sl v1 y1 (jLv y1 v1)).2 (jKy sh sl v1 y1 (jLv y1 v1)).1))) (fun u => [moC oy r (nI 0) ((jKy sh sl v1 y1 (jLv y1 v1)).1) ((jKy sh sl v1 y1 (jLv y1 v1)).2) (nI dp) sh sl az oh ol w0 w1 w2, aI G (r 0) 256 ckS, aI G (r 2) 176 (bN u.1), aI G (r 3) 16 (bN u.2.1), aI G (r 4) 16 (bN u.2.2)]) := by
  refine Cq.of (by decide) (Nat.le_of_ble_eq_true rfl) ?_
  intro p e s m args below meth c A ls hx hb hr hml hts hown hlk hA hP hD hG hS hl
  have hl : lv_has ls 4 [(0, .ref oy), (1, .int v1), (2, .int y1), (3, .int b1)] := hl
  refine lv_aload_n hx hb dMo_key_0 rfl (lv_at hl 0 rfl) ?_
  refine lv_aload_n hx hb dMo_key_1 rfl (lv_at hl 0 rfl) ?_
  refine lv_iload_n hx hb dMo_key_2 rfl (lv_at hl 1 rfl) ?_
  refine lv_iload_n hx hb dMo_key_3 rfl (lv_at hl 2 rfl) ?_
  refine clMo_182 (As := [.int v1, .int y1]) (rest := [.ref oy]) hx hb hml hown hts (k_Mo_isSub l G oy r th fi se dp hdp sh sl az oh ol w0 w1 w2 v1 y1) hG hA hP hD hS 0 rfl [0] rfl rfl (fun _ => rfl) rfl hl.1 rfl (Nat.le_of_ble_eq_true rfl) ⟨by decide, by decide⟩ ⟨by decide, by decide⟩ dMo_key_4 (fun _ H locs _ hP hD hS => ?_)
  have hP : va_P G.1 vwCl [moC oy r th fi se (nI dp) sh sl az oh ol w0 w1 w2, aI G (r 0) 256 ckS, aI G (r 2) 176 (bN f), aI G (r 3) 16 (bN g), aI G (r 4) 16 (bN m0)] H := hP
  have hD : va_D A [moC oy r th fi se (nI dp) sh sl az oh ol w0 w1 w2, aI G (r 0) 256 ckS, aI G (r 2) 176 (bN f), aI G (r 3) 16 (bN g), aI G (r 4) 16 (bN m0)] := hD
  refine W.cs (cells' := 0) (slots' := 0) rfl rfl ?_
  refine W.eq (g2 := F0 m 7 ls [.int (jB (jSub dp v1 y1)), .ref oy]) rfl ?_
  refine lv_if_eq (tgt := 14) hx hb dMo_key_7 rfl (fun h => absurd h (by rw [hs]; decide)) (fun _ => ?_)
  refine lv_iconst (v := nI 0) hx hb dMo_key_10 (by decide) ?_
  refine lv_goto (tgt := 15) hx hb dMo_key_11 rfl ?_
  refine pfMo_74 hx hb hts hown hG hP hD hS 0 rfl rfl rfl (Nat.le_of_ble_eq_true rfl) dMo_key_15 (fun H locs hP hD hS => ?_)
  have hP : va_P G.1 vwCl [moC oy r (nI 0) fi se (nI dp) sh sl az oh ol w0 w1 w2, aI G (r 0) 256 ckS, aI G (r 2) 176 (bN f), aI G (r 3) 16 (bN g), aI G (r 4) 16 (bN m0)] H := hP
  have hD : va_D A [moC oy r (nI 0) fi se (nI dp) sh sl az oh ol w0 w1 w2, aI G (r 0) 256 ckS, aI G (r 2) 176 (bN f), aI G (r 3) 16 (bN g), aI G (r 4) 16 (bN m0)] := hD
  refine lv_aload_n hx hb dMo_key_18 rfl (lv_at hl 0 rfl) ?_
  refine gfMo_74 hx hb hts hown hG hP 0 rfl rfl dMo_key_19 ?_
  refine lv_if_le (tgt := 27) hx hb dMo_key_22 rfl (fun _ => ?_) (fun h => absurd (by decide) h)
  refine lv_aload_n hx hb dMo_key_27 rfl (lv_at hl 0 rfl) ?_
  refine lv_iload_n hx hb dMo_key_28 rfl (lv_at hl 1 rfl) ?_
  refine lv_iload_n hx hb dMo_key_29 rfl (lv_at hl 2 rfl) ?_
  refine clMo_172 (As := [.int v1, .int y1]) (rest := []) hx hb hml hown hts (k_Mo_makeKy l G oy r (nI 0) fi se dp hdp sh sl az oh ol w0 w1 w2 f g m0 v1 y1 (hs)) hG hA hP hD hS 0 rfl [0, 1, 2, 3, 4] rfl rfl (fun _ => rfl) rfl hl.1 rfl (Nat.le_of_ble_eq_true rfl) ⟨by decide, by decide⟩ ⟨by decide, by decide⟩ dMo_key_30 (fun u8 H locs _ hP hD hS => ?_)
  have hP : va_P G.1 vwCl [moC oy r (nI 0) ((jKy sh sl v1 y1 (jLv y1 v1)).1) ((jKy sh sl v1 y1 (jLv y1 v1)).2) (nI dp) sh sl az oh ol w0 w1 w2, aI G (r 0) 256 ckS, aI G (r 2) 176 (bN u8.1), aI G (r 3) 16 (bN u8.2.1), aI G (r 4) 16 (bN u8.2.2)] H := hP
  have hD : va_D A [moC oy r (nI 0) ((jKy sh sl v1 y1 (jLv y1 v1)).1) ((jKy sh sl v1 y1 (jLv y1 v1)).2) (nI dp) sh sl az oh ol w0 w1 w2, aI G (r 0) 256 ckS, aI G (r 2) 176 (bN u8.1), aI G (r 3) 16 (bN u8.2.1), aI G (r 4) 16 (bN u8.2.2)] := hD
  refine W.cs (cells' := 0) (slots' := 0) rfl rfl ?_
  refine W.eq (g2 := F0 m 33 ls []) rfl ?_
  refine lv_iload_n hx hb dMo_key_33 rfl (lv_at hl 3 rfl) ?_
  refine lv_if_eq (tgt := 44) hx hb dMo_key_34 rfl (fun h9 => ?_) (fun h9 => ?_)
  · have h8 : b1 = 0 := h9
    refine lv_aload_n hx hb dMo_key_44 rfl (lv_at hl 0 rfl) ?_
    refine gfMo_82 hx hb hts hown hG hP 0 rfl rfl dMo_key_45 ?_
    exact cq_lret (u8.1, u8.2.1, u8.2.2) (trivial) hx hb hr hlk hP hS (by unfold jIf; rw [if_pos h8]) (rfl) dMo_key_48
  · have h8 : ¬ b1 = 0 := h9
    refine lv_aload_n hx hb dMo_key_37 rfl (lv_at hl 0 rfl) ?_
    refine gfMo_86 hx hb hts hown hG hP 0 rfl rfl dMo_key_38 ?_
    refine lv_goto (tgt := 48) hx hb dMo_key_41 rfl ?_
    exact cq_lret (u8.1, u8.2.1, u8.2.2) (trivial) hx hb hr hlk hP hS (by unfold jIf; rw [if_neg h8]) (rfl) dMo_key_48
set_option maxHeartbeats 4000000 in
set_option maxRecDepth 100000 in
theorem k_Mo_count_e (l : Launch) (G : gG) (oy : Nat) (r : Nat → Nat) (th : Int32) (fi se : Int64) (d : Int32) (sh sl : Int64) (az : Int32) (oh ol w0 w1 w2 : Int64) (x1 : Int32) (hx9 : jIn 8 x1 = false) : Ck l G yMo_count cMo_count 5 (some .int) { frames := 0, cells := 0, slots := 0, locals := 0 } [.ref oy, .int x1] [moC oy r th fi se d sh sl az oh ol w0 w1 w2] (some (.int (nI 0))) [moC oy r (nI 1) fi se d sh sl az oh ol w0 w1 w2] := by
  refine Cq.of (by decide) (Nat.le_of_ble_eq_true rfl) ?_
  intro p e s m args below meth c A ls hx hb hr hml hts hown hlk hA hP hD hG hS hl
  have hl : lv_has ls 5 [(0, .ref oy), (1, .int x1)] := hl
  refine lv_aload_n hx hb dMo_count_0 rfl (lv_at hl 0 rfl) ?_
  refine lv_iload_n hx hb dMo_count_1 rfl (lv_at hl 1 rfl) ?_
  refine lv_if_lt (tgt := 15) hx hb dMo_count_2 rfl (fun hx1 => ?_) (fun hx1 => ?_)
  · have b_h1 := decide_eq_true hx1
    refine lv_iconst (v := nI 1) hx hb dMo_count_15 (by decide) ?_
    refine pfMo_74 hx hb hts hown hG hP hD hS 0 rfl rfl rfl (Nat.le_of_ble_eq_true rfl) dMo_count_16 (fun H locs hP hD hS => ?_)
    have hP : va_P G.1 vwCl [moC oy r (nI 1) fi se d sh sl az oh ol w0 w1 w2] H := hP
    have hD : va_D A [moC oy r (nI 1) fi se d sh sl az oh ol w0 w1 w2] := hD
    refine lv_aload_n hx hb dMo_count_19 rfl (lv_at hl 0 rfl) ?_
    refine gfMo_74 hx hb hts hown hG hP 0 rfl rfl dMo_count_20 ?_
    refine lv_if_le (tgt := 28) hx hb dMo_count_23 rfl (fun h => absurd h (by decide)) (fun _ => ?_)
    refine lv_iconst (v := nI 0) hx hb dMo_count_26 (by decide) ?_
    exact cq_iret () (trivial) hx hb hr hlk hP hS (rfl) (rfl) dMo_count_27
  · have b_h1 := decide_eq_false hx1
    refine lv_iload_n hx hb dMo_count_5 rfl (lv_at hl 1 rfl) ?_
    refine lv_bipush (v := nI 7) hx hb dMo_count_6 (by decide) ?_
    refine lv_icmp_gt (tgt := 15) hx hb dMo_count_8 rfl (fun _ => ?_) (fun h => absurd (i8_gt (jIn_lt hx9 hx1)) h)
    refine lv_iconst (v := nI 1) hx hb dMo_count_15 (by decide) ?_
    refine pfMo_74 hx hb hts hown hG hP hD hS 0 rfl rfl rfl (Nat.le_of_ble_eq_true rfl) dMo_count_16 (fun H locs hP hD hS => ?_)
    have hP : va_P G.1 vwCl [moC oy r (nI 1) fi se d sh sl az oh ol w0 w1 w2] H := hP
    have hD : va_D A [moC oy r (nI 1) fi se d sh sl az oh ol w0 w1 w2] := hD
    refine lv_aload_n hx hb dMo_count_19 rfl (lv_at hl 0 rfl) ?_
    refine gfMo_74 hx hb hts hown hG hP 0 rfl rfl dMo_count_20 ?_
    refine lv_if_le (tgt := 28) hx hb dMo_count_23 rfl (fun h => absurd h (by decide)) (fun _ => ?_)
    refine lv_iconst (v := nI 0) hx hb dMo_count_26 (by decide) ?_
    exact cq_iret () (trivial) hx hb hr hlk hP hS (rfl) (rfl) dMo_count_27
set_option maxHeartbeats 4000000 in
set_option maxRecDepth 100000 in
theorem k_Mo_count (l : Launch) (G : gG) (oy : Nat) (r : Nat → Nat) (th : Int32) (fi se : Int64) (d : Int32) (sh sl : Int64) (az : Int32) (oh ol w0 w1 w2 : Int64) (ins sb per : Nat → Int32) (x1 : Nat) (hx9 : x1 < 8) : Ck l G yMo_count cMo_count 5 (some .int) { frames := 0, cells := 0, slots := 0, locals := 0 } [.ref oy, .int (nI x1)] [moC oy r th fi se d sh sl az oh ol w0 w1 w2, aZ G (r 5) 256 ins, aZ G (r 6) 1024 sb, aI G (r 7) 4 per] (some (.int (rCnt d az ins sb per x1))) [moC oy r (nI 0) fi se d sh sl az oh ol w0 w1 w2, aZ G (r 5) 256 ins, aZ G (r 6) 1024 sb, aI G (r 7) 4 per] := by
  refine Cq.of (by decide) (Nat.le_of_ble_eq_true rfl) ?_
  intro p e s m args below meth c A ls hx hb hr hml hts hown hlk hA hP hD hG hS hl
  have hl : lv_has ls 5 [(0, .ref oy), (1, .int (nI x1))] := hl
  refine lv_aload_n hx hb dMo_count_0 rfl (lv_at hl 0 rfl) ?_
  refine lv_iload_n hx hb dMo_count_1 rfl (lv_at hl 1 rfl) ?_
  refine lv_if_lt (tgt := 15) hx hb dMo_count_2 rfl (fun h => absurd h (nI_pos (by omega))) (fun _ => ?_)
  refine lv_iload_n hx hb dMo_count_5 rfl (lv_at hl 1 rfl) ?_
  refine lv_bipush (v := nI 7) hx hb dMo_count_6 (by decide) ?_
  refine lv_icmp_gt (tgt := 15) hx hb dMo_count_8 rfl (fun h => absurd h (nI_nlt (by omega) (by omega))) (fun _ => ?_)
  refine lv_iconst (v := nI 0) hx hb dMo_count_11 (by decide) ?_
  refine lv_goto (tgt := 16) hx hb dMo_count_12 rfl ?_
  refine pfMo_74 hx hb hts hown hG hP hD hS 0 rfl rfl rfl (Nat.le_of_ble_eq_true rfl) dMo_count_16 (fun H locs hP hD hS => ?_)
  have hP : va_P G.1 vwCl [moC oy r (nI 0) fi se d sh sl az oh ol w0 w1 w2, aZ G (r 5) 256 ins, aZ G (r 6) 1024 sb, aI G (r 7) 4 per] H := hP
  have hD : va_D A [moC oy r (nI 0) fi se d sh sl az oh ol w0 w1 w2, aZ G (r 5) 256 ins, aZ G (r 6) 1024 sb, aI G (r 7) 4 per] := hD
  refine lv_aload_n hx hb dMo_count_19 rfl (lv_at hl 0 rfl) ?_
  refine gfMo_74 hx hb hts hown hG hP 0 rfl rfl dMo_count_20 ?_
  refine lv_if_le (tgt := 28) hx hb dMo_count_23 rfl (fun _ => ?_) (fun h => absurd (by decide) h)
  refine lv_iconst (v := nI 0) hx hb dMo_count_28 (by decide) ?_
  refine lv_istore_n (lv' := [(2, .int (nI 0)), (0, .ref oy), (1, .int (nI x1))]) hx hb dMo_count_29 rfl hl (by decide) rfl (fun ls hl => ?_)
  refine lv_iconst (v := nI 0) hx hb dMo_count_30 (by decide) ?_
  refine lv_istore_n (lv' := [(3, .int (nI 0)), (2, .int (nI 0)), (0, .ref oy), (1, .int (nI x1))]) hx hb dMo_count_31 rfl hl (by decide) rfl (fun ls hl => ?_)
  refine lv_iconst (v := nI 0) hx hb dMo_count_32 (by decide) ?_
  refine lv_istore (lv' := [(4, .int (nI 0)), (3, .int (nI 0)), (2, .int (nI 0)), (0, .ref oy), (1, .int (nI x1))]) hx hb dMo_count_33 hl (by decide) rfl (fun ls hl => ?_)
  have loop1 : ∀ (k : Nat) (n : Nat) (H : Heap) (locs : List Loc) (ls : Array Slot), n + k = 256 → va_P G.1 vwCl [moC oy r (nI 0) fi se d sh sl az oh ol w0 w1 w2, aZ G (r 5) 256 ins, aZ G (r 6) 1024 sb, aI G (r 7) 4 per] H → va_D A [moC oy r (nI 0) fi se d sh sl az oh ol w0 w1 w2, aZ G (r 5) 256 ins, aZ G (r 6) 1024 sb, aI G (r 7) 4 per] → va_S A s.heap H locs → lv_has ls 5 [(0, .ref oy), (1, .int (nI x1)), (3, .int (nI 0)), (2, .int (nI (cntZ ins n))), (4, .int (nI n))] → W p l e { frames := 0, cells := 0, slots := 0, locals := 0 } s m args below meth c H locs 0 0 (MQ below (cq_out G (S := Unit) (fun _ => True) (fun _ => (some (.int (rCnt d az ins sb per x1)))) (fun _ => [moC oy r (nI 0) fi se d sh sl az oh ol w0 w1 w2, aZ G (r 5) 256 ins, aZ G (r 6) 1024 sb, aI G (r 7) 4 per]) A) args s 0 0 A) (F0 m 35 ls []) := by
    intro k
    induction k with
    | zero =>
      intro n H locs ls hk hP hD hS hl
      obtain rfl : n = 256 := by omega
      have hl : lv_has ls 5 [(0, .ref oy), (1, .int (nI x1)), (3, .int (nI 0)), (2, .int (nI (cntZ ins 256))), (4, .int (nI 256))] := hl
      refine lv_iload hx hb dMo_count_35 (lv_at hl 4 rfl) ?_
      refine lv_sipush (v := nI 256) hx hb dMo_count_37 (by decide) ?_
      refine lv_icmp_ge (tgt := 67) hx hb dMo_count_40 rfl (fun _ => ?_) (fun h => absurd (nI_le (by omega) (by omega)) h)
      refine lv_iconst (v := nI 0) hx hb dMo_count_67 (by decide) ?_
      refine lv_istore (lv' := [(4, .int (nI 0)), (0, .ref oy), (1, .int (nI x1)), (3, .int (nI 0)), (2, .int (nI (cntZ ins 256)))]) hx hb dMo_count_68 hl (by decide) rfl (fun ls hl => ?_)
      have loop2 : ∀ (k : Nat) (n : Nat) (H : Heap) (locs : List Loc) (ls : Array Slot), n + k = 1024 → va_P G.1 vwCl [moC oy r (nI 0) fi se d sh sl az oh ol w0 w1 w2, aZ G (r 5) 256 ins, aZ G (r 6) 1024 sb, aI G (r 7) 4 per] H → va_D A [moC oy r (nI 0) fi se d sh sl az oh ol w0 w1 w2, aZ G (r 5) 256 ins, aZ G (r 6) 1024 sb, aI G (r 7) 4 per] → va_S A s.heap H locs → lv_has ls 5 [(0, .ref oy), (1, .int (nI x1)), (2, .int (nI (cntZ ins 256))), (3, .int (nI (cntZ sb n))), (4, .int (nI n))] → W p l e { frames := 0, cells := 0, slots := 0, locals := 0 } s m args below meth c H locs 0 0 (MQ below (cq_out G (S := Unit) (fun _ => True) (fun _ => (some (.int (rCnt d az ins sb per x1)))) (fun _ => [moC oy r (nI 0) fi se d sh sl az oh ol w0 w1 w2, aZ G (r 5) 256 ins, aZ G (r 6) 1024 sb, aI G (r 7) 4 per]) A) args s 0 0 A) (F0 m 70 ls []) := by
        intro k
        induction k with
        | zero =>
          intro n H locs ls hk hP hD hS hl
          obtain rfl : n = 1024 := by omega
          have hl : lv_has ls 5 [(0, .ref oy), (1, .int (nI x1)), (2, .int (nI (cntZ ins 256))), (3, .int (nI (cntZ sb 1024))), (4, .int (nI 1024))] := hl
          refine lv_iload hx hb dMo_count_70 (lv_at hl 4 rfl) ?_
          refine lv_sipush (v := nI 1024) hx hb dMo_count_72 (by decide) ?_
          refine lv_icmp_ge (tgt := 102) hx hb dMo_count_75 rfl (fun _ => ?_) (fun h => absurd (nI_le (by omega) (by omega)) h)
          refine lv_iload_n hx hb dMo_count_102 rfl (lv_at hl 1 rfl) ?_
          refine lv_if_ne (tgt := 113) hx hb dMo_count_103 rfl (fun hc0 => ?_) (fun hc0 => ?_)
          · have hd0 : ¬ x1 = 0 := fun z => hc0 (by rw [z]; rfl)
            refine lv_iload_n hx hb dMo_count_113 rfl (lv_at hl 1 rfl) ?_
            refine lv_iconst (v := nI 1) hx hb dMo_count_114 (by decide) ?_
            refine lv_icmp_ne (tgt := 122) hx hb dMo_count_115 rfl (fun hc1 => ?_) (fun hc1 => ?_)
            · have hd1 : ¬ x1 = 1 := fun z => hc1 (by rw [z])
              refine lv_iload_n hx hb dMo_count_122 rfl (lv_at hl 1 rfl) ?_
              refine lv_iconst (v := nI 2) hx hb dMo_count_123 (by decide) ?_
              refine lv_icmp_ne (tgt := 131) hx hb dMo_count_124 rfl (fun hc2 => ?_) (fun hc2 => ?_)
              · have hd2 : ¬ x1 = 2 := fun z => hc2 (by rw [z])
                refine lv_iload_n hx hb dMo_count_131 rfl (lv_at hl 1 rfl) ?_
                refine lv_iconst (v := nI 3) hx hb dMo_count_132 (by decide) ?_
                refine lv_icmp_ne (tgt := 143) hx hb dMo_count_133 rfl (fun hc3 => ?_) (fun hc3 => ?_)
                · have hd3 : ¬ x1 = 3 := fun z => hc3 (by rw [z])
                  refine lv_aload_n hx hb dMo_count_143 rfl (lv_at hl 0 rfl) ?_
                  refine gfMo_32 hx hb hts hown hG hP 0 rfl rfl dMo_count_144 ?_
                  refine lv_iload_n hx hb dMo_count_147 rfl (lv_at hl 1 rfl) ?_
                  refine lv_iconst (v := nI 4) hx hb dMo_count_148 (by decide) ?_
                  refine lv_isub hx hb dMo_count_149 ?_
                  refine ck_ri (y := nI (x1 - 4)) (pk_sub (by omega)) ?_
                  refine ck_iald hx hb hG hP 3 rfl (by decide) (x1 - 4) (rfl) (by omega) dMo_count_150 ?_
                  exact cq_iret () (trivial) hx hb hr hlk hP hS (by unfold rCnt; rw [if_neg hd0, if_neg hd1, if_neg hd2, if_neg hd3]) (rfl) dMo_count_151
                · have hd3 : x1 = 3 := (nI_eq (b := 3) (by omega) (by omega)).mp hc3
                  refine lv_aload_n hx hb dMo_count_136 rfl (lv_at hl 0 rfl) ?_
                  refine gfMo_136 hx hb hts hown hG hP 0 rfl rfl dMo_count_137 ?_
                  refine lv_goto (tgt := 151) hx hb dMo_count_140 rfl ?_
                  exact cq_iret () (trivial) hx hb hr hlk hP hS (by unfold rCnt; rw [if_neg hd0, if_neg hd1, if_neg hd2, if_pos hd3]) (rfl) dMo_count_151
              · have hd2 : x1 = 2 := (nI_eq (b := 2) (by omega) (by omega)).mp hc2
                refine lv_iload_n hx hb dMo_count_127 rfl (lv_at hl 3 rfl) ?_
                refine lv_goto (tgt := 151) hx hb dMo_count_128 rfl ?_
                exact cq_iret () (trivial) hx hb hr hlk hP hS (by unfold rCnt; rw [if_neg hd0, if_neg hd1, if_pos hd2]) (rfl) dMo_count_151
            · have hd1 : x1 = 1 := (nI_eq (b := 1) (by omega) (by omega)).mp hc1
              refine lv_iload_n hx hb dMo_count_118 rfl (lv_at hl 2 rfl) ?_
              refine lv_goto (tgt := 151) hx hb dMo_count_119 rfl ?_
              exact cq_iret () (trivial) hx hb hr hlk hP hS (by unfold rCnt; rw [if_neg hd0, if_pos hd1]) (rfl) dMo_count_151
          · have hd0 : x1 = 0 := (nI_eq (b := 0) (by omega) (by omega)).mp hc0
            refine lv_aload_n hx hb dMo_count_106 rfl (lv_at hl 0 rfl) ?_
            refine gfMo_127 hx hb hts hown hG hP 0 rfl rfl dMo_count_107 ?_
            refine lv_goto (tgt := 151) hx hb dMo_count_110 rfl ?_
            exact cq_iret () (trivial) hx hb hr hlk hP hS (by unfold rCnt; rw [if_pos hd0]) (rfl) dMo_count_151
        | succ k ih =>
          intro n H locs ls hk hP hD hS hl
          have hcn := cntZ_le sb n
          refine lv_iload hx hb dMo_count_70 (lv_at hl 4 rfl) ?_
          refine lv_sipush (v := nI 1024) hx hb dMo_count_72 (by decide) ?_
          refine lv_icmp_ge (tgt := 102) hx hb dMo_count_75 rfl (fun h => absurd h (nI_ge (by omega) (by omega))) (fun _ => ?_)
          refine lv_aload_n hx hb dMo_count_78 rfl (lv_at hl 0 rfl) ?_
          refine gfMo_29 hx hb hts hown hG hP 0 rfl rfl dMo_count_79 ?_
          refine lv_iload hx hb dMo_count_82 (lv_at hl 4 rfl) ?_
          refine ck_zald hx hb hG hP 2 rfl (by decide) n (rfl) (by omega) dMo_count_84 ?_
          refine lv_if_eq (tgt := 94) hx hb dMo_count_85 rfl (fun h8 => ?_) (fun h8 => ?_)
          · have h9 : sb n = 0 := h8
            refine lv_iload_n hx hb dMo_count_94 rfl (lv_at hl 3 rfl) ?_
            refine lv_istore_n (lv' := [(3, .int (nI (cntZ sb n))), (0, .ref oy), (1, .int (nI x1)), (2, .int (nI (cntZ ins 256))), (4, .int (nI n))]) hx hb dMo_count_95 rfl hl (by decide) rfl (fun ls hl => ?_)
            refine lv_iinc (v := nI (n + 1)) (lv' := [(4, .int (nI (n + 1))), (3, .int (nI (cntZ sb n))), (0, .ref oy), (1, .int (nI x1)), (2, .int (nI (cntZ ins 256)))]) hx hb dMo_count_96 hl (k := 4) rfl (nI_1 n) (by decide) rfl (fun ls hl => ?_)
            refine lv_goto (tgt := 70) hx hb dMo_count_99 rfl ?_
            have e1 : cntZ sb (n + 1) = (cntZ sb n) := if_pos h9
            exact ih (n + 1) _ _ _ (by omega) hP hD hS (by rw [e1]; exact lv_sub hl [2, 3, 4, 1, 0] rfl)
          · have h9 : ¬ sb n = 0 := h8
            refine lv_iload_n hx hb dMo_count_88 rfl (lv_at hl 3 rfl) ?_
            refine lv_iconst (v := nI 1) hx hb dMo_count_89 (by decide) ?_
            refine lv_iadd hx hb dMo_count_90 ?_
            refine ck_ri (y := nI (cntZ sb n + 1)) (nI_add _ 1) ?_
            refine lv_goto (tgt := 95) hx hb dMo_count_91 rfl ?_
            refine lv_istore_n (lv' := [(3, .int (nI (cntZ sb n + 1))), (0, .ref oy), (1, .int (nI x1)), (2, .int (nI (cntZ ins 256))), (4, .int (nI n))]) hx hb dMo_count_95 rfl hl (by decide) rfl (fun ls hl => ?_)
            refine lv_iinc (v := nI (n + 1)) (lv' := [(4, .int (nI (n + 1))), (3, .int (nI (cntZ sb n + 1))), (0, .ref oy), (1, .int (nI x1)), (2, .int (nI (cntZ ins 256)))]) hx hb dMo_count_96 hl (k := 4) rfl (nI_1 n) (by decide) rfl (fun ls hl => ?_)
            refine lv_goto (tgt := 70) hx hb dMo_count_99 rfl ?_
            have e1 : cntZ sb (n + 1) = (cntZ sb n + 1) := if_neg h9
            exact ih (n + 1) _ _ _ (by omega) hP hD hS (by rw [e1]; exact lv_sub hl [2, 3, 4, 1, 0] rfl)
      exact loop2 1024 0 _ _ _ (by omega) hP hD hS (lv_sub hl [1, 2, 4, 3, 0] rfl)
    | succ k ih =>
      intro n H locs ls hk hP hD hS hl
      have hcn := cntZ_le ins n
      refine lv_iload hx hb dMo_count_35 (lv_at hl 4 rfl) ?_
      refine lv_sipush (v := nI 256) hx hb dMo_count_37 (by decide) ?_
      refine lv_icmp_ge (tgt := 67) hx hb dMo_count_40 rfl (fun h => absurd h (nI_ge (by omega) (by omega))) (fun _ => ?_)
      refine lv_aload_n hx hb dMo_count_43 rfl (lv_at hl 0 rfl) ?_
      refine gfMo_25 hx hb hts hown hG hP 0 rfl rfl dMo_count_44 ?_
      refine lv_iload hx hb dMo_count_47 (lv_at hl 4 rfl) ?_
      refine ck_zald hx hb hG hP 1 rfl (by decide) n (rfl) (by omega) dMo_count_49 ?_
      refine lv_if_eq (tgt := 59) hx hb dMo_count_50 rfl (fun h8 => ?_) (fun h8 => ?_)
      · have h9 : ins n = 0 := h8
        refine lv_iload_n hx hb dMo_count_59 rfl (lv_at hl 3 rfl) ?_
        refine lv_istore_n (lv' := [(2, .int (nI (cntZ ins n))), (0, .ref oy), (1, .int (nI x1)), (3, .int (nI 0)), (4, .int (nI n))]) hx hb dMo_count_60 rfl hl (by decide) rfl (fun ls hl => ?_)
        refine lv_iinc (v := nI (n + 1)) (lv' := [(4, .int (nI (n + 1))), (2, .int (nI (cntZ ins n))), (0, .ref oy), (1, .int (nI x1)), (3, .int (nI 0))]) hx hb dMo_count_61 hl (k := 4) rfl (nI_1 n) (by decide) rfl (fun ls hl => ?_)
        refine lv_goto (tgt := 35) hx hb dMo_count_64 rfl ?_
        have e1 : cntZ ins (n + 1) = (cntZ ins n) := if_pos h9
        exact ih (n + 1) _ _ _ (by omega) hP hD hS (by rw [e1]; exact lv_sub hl [2, 3, 4, 1, 0] rfl)
      · have h9 : ¬ ins n = 0 := h8
        refine lv_iload_n hx hb dMo_count_53 rfl (lv_at hl 3 rfl) ?_
        refine lv_iconst (v := nI 1) hx hb dMo_count_54 (by decide) ?_
        refine lv_iadd hx hb dMo_count_55 ?_
        refine ck_ri (y := nI (cntZ ins n + 1)) (nI_add _ 1) ?_
        refine lv_goto (tgt := 60) hx hb dMo_count_56 rfl ?_
        refine lv_istore_n (lv' := [(2, .int (nI (cntZ ins n + 1))), (0, .ref oy), (1, .int (nI x1)), (3, .int (nI 0)), (4, .int (nI n))]) hx hb dMo_count_60 rfl hl (by decide) rfl (fun ls hl => ?_)
        refine lv_iinc (v := nI (n + 1)) (lv' := [(4, .int (nI (n + 1))), (2, .int (nI (cntZ ins n + 1))), (0, .ref oy), (1, .int (nI x1)), (3, .int (nI 0))]) hx hb dMo_count_61 hl (k := 4) rfl (nI_1 n) (by decide) rfl (fun ls hl => ?_)
        refine lv_goto (tgt := 35) hx hb dMo_count_64 rfl ?_
        have e1 : cntZ ins (n + 1) = (cntZ ins n + 1) := if_neg h9
        exact ih (n + 1) _ _ _ (by omega) hP hD hS (by rw [e1]; exact lv_sub hl [2, 3, 4, 1, 0] rfl)
  exact loop1 256 0 _ _ _ (by omega) hP hD hS (lv_sub hl [3, 4, 1, 2, 0] rfl)
set_option maxHeartbeats 4000000 in
set_option maxRecDepth 100000 in
theorem k_Mo_label_e1 (l : Launch) (G : gG) (oy : Nat) (r : Nat → Nat) (th : Int32) (fi se : Int64) (dp : Nat) (hdp : dp ≤ 8) (sh sl : Int64) (az : Int32) (oh ol w0 w1 w2 : Int64) (d1 k1 wh : Int32) (hd : jIn (2 ^ dp) d1 = false) : Ck l G yMo_label cMo_label 10 (some .long) { frames := 4, cells := 0, slots := 0, locals := 105 } [.ref oy, .int d1, .int k1, .int wh] [moC oy r th fi se (nI dp) sh sl az oh ol w0 w1 w2] (some (.long (lN 0))) [moC oy r (nI 1) fi se (nI dp) sh sl az oh ol w0 w1 w2] := by
  refine Cq.of (by decide) (Nat.le_of_ble_eq_true rfl) ?_
  intro p e s m args below meth c A ls hx hb hr hml hts hown hlk hA hP hD hG hS hl
  have hl : lv_has ls 10 [(0, .ref oy), (1, .int d1), (2, .int k1), (3, .int wh)] := hl
  refine lv_aload_n hx hb dMo_label_0 rfl (lv_at hl 0 rfl) ?_
  refine lv_iload_n hx hb dMo_label_1 rfl (lv_at hl 1 rfl) ?_
  refine clMo_158 (As := [.int d1]) (rest := []) hx hb hml hown hts (k_Mo_isDecoder l G oy r th fi se dp hdp sh sl az oh ol w0 w1 w2 d1) hG hA hP hD hS 0 rfl [0] rfl rfl (fun _ => rfl) rfl hl.1 rfl (Nat.le_of_ble_eq_true rfl) ⟨by decide, by decide⟩ ⟨by decide, by decide⟩ dMo_label_2 (fun _ H locs _ hP hD hS => ?_)
  have hP : va_P G.1 vwCl [moC oy r th fi se (nI dp) sh sl az oh ol w0 w1 w2] H := hP
  have hD : va_D A [moC oy r th fi se (nI dp) sh sl az oh ol w0 w1 w2] := hD
  refine W.cs (cells' := 0) (slots' := 0) rfl rfl ?_
  refine W.eq (g2 := F0 m 5 ls [.int (jB (jIn (2 ^ dp) d1))]) rfl ?_
  refine lv_if_eq (tgt := 21) hx hb dMo_label_5 rfl (fun _ => ?_) (fun h => absurd (by rw [hd]; rfl) h)
  refine lv_iconst (v := nI 0) hx hb dMo_label_21 (by decide) ?_
  refine lv_istore (lv' := [(4, .int (nI 0)), (0, .ref oy), (1, .int d1), (2, .int k1), (3, .int wh)]) hx hb dMo_label_22 hl (by decide) rfl (fun ls hl => ?_)
  refine lv_aload_n hx hb dMo_label_24 rfl (lv_at hl 1 rfl) ?_
  refine lv_aload_n hx hb dMo_label_25 rfl (lv_at hl 1 rfl) ?_
  refine lv_iload_n hx hb dMo_label_26 rfl (lv_at hl 2 rfl) ?_
  refine clMo_158 (As := [.int d1]) (rest := [.ref oy]) hx hb hml hown hts (k_Mo_isDecoder l G oy r th fi se dp hdp sh sl az oh ol w0 w1 w2 d1) hG hA hP hD hS 0 rfl [0] rfl rfl (fun _ => rfl) rfl hl.1 rfl (Nat.le_of_ble_eq_true rfl) ⟨by decide, by decide⟩ ⟨by decide, by decide⟩ dMo_label_27 (fun _ H locs _ hP hD hS => ?_)
  have hP : va_P G.1 vwCl [moC oy r th fi se (nI dp) sh sl az oh ol w0 w1 w2] H := hP
  have hD : va_D A [moC oy r th fi se (nI dp) sh sl az oh ol w0 w1 w2] := hD
  refine W.cs (cells' := 0) (slots' := 0) rfl rfl ?_
  refine W.eq (g2 := F0 m 30 ls [.int (jB (jIn (2 ^ dp) d1)), .ref oy]) rfl ?_
  refine lv_if_ne (tgt := 37) hx hb dMo_label_30 rfl (fun h => absurd (by rw [hd]; rfl) h) (fun _ => ?_)
  refine lv_iconst (v := nI 1) hx hb dMo_label_33 (by decide) ?_
  refine lv_goto (tgt := 81) hx hb dMo_label_34 rfl ?_
  refine pfMo_74 hx hb hts hown hG hP hD hS 0 rfl rfl rfl (Nat.le_of_ble_eq_true rfl) dMo_label_81 (fun H locs hP hD hS => ?_)
  have hP : va_P G.1 vwCl [moC oy r (nI 1) fi se (nI dp) sh sl az oh ol w0 w1 w2] H := hP
  have hD : va_D A [moC oy r (nI 1) fi se (nI dp) sh sl az oh ol w0 w1 w2] := hD
  refine lv_aload_n hx hb dMo_label_84 rfl (lv_at hl 1 rfl) ?_
  refine gfMo_74 hx hb hts hown hG hP 0 rfl rfl dMo_label_85 ?_
  refine lv_if_le (tgt := 93) hx hb dMo_label_88 rfl (fun h => absurd h (by decide)) (fun _ => ?_)
  refine lv_lconst (v := lN 0) hx hb dMo_label_91 (by decide) ?_
  exact cq_lret () (trivial) hx hb hr hlk hP hS (rfl) (rfl) dMo_label_92
set_option maxHeartbeats 4000000 in
set_option maxRecDepth 100000 in
theorem k_Mo_label_e2 (l : Launch) (G : gG) (oy : Nat) (r : Nat → Nat) (th : Int32) (fi se : Int64) (dp : Nat) (hdp : dp ≤ 8) (sh sl : Int64) (az : Int32) (oh ol w0 w1 w2 : Int64) (dd : Nat) (hd : dd < 2 ^ dp) (ins : Nat → Int32) (hi : ins dd = 0) (k1 wh : Int32) : Ck l G yMo_label cMo_label 10 (some .long) { frames := 4, cells := 0, slots := 0, locals := 105 } [.ref oy, .int (nI dd), .int k1, .int wh] [moC oy r th fi se (nI dp) sh sl az oh ol w0 w1 w2, aZ G (r 5) 256 ins] (some (.long (lN 0))) [moC oy r (nI 2) fi se (nI dp) sh sl az oh ol w0 w1 w2, aZ G (r 5) 256 ins] := by
  refine Cq.of (by decide) (Nat.le_of_ble_eq_true rfl) ?_
  intro p e s m args below meth c A ls hx hb hr hml hts hown hlk hA hP hD hG hS hl
  have hp2 := p2_le hdp
  have hp1 := Nat.two_pow_pos dp
  have hdi := jIn_nI (show 2 ^ dp < 2 ^ 31 by omega) hd
  have hl : lv_has ls 10 [(0, .ref oy), (1, .int (nI dd)), (2, .int k1), (3, .int wh)] := hl
  refine lv_aload_n hx hb dMo_label_0 rfl (lv_at hl 0 rfl) ?_
  refine lv_iload_n hx hb dMo_label_1 rfl (lv_at hl 1 rfl) ?_
  refine clMo_158 (As := [.int (nI dd)]) (rest := []) hx hb hml hown hts (k_Mo_isDecoder l G oy r th fi se dp hdp sh sl az oh ol w0 w1 w2 (nI dd)) hG hA hP hD hS 0 rfl [0] rfl rfl (fun _ => rfl) rfl hl.1 rfl (Nat.le_of_ble_eq_true rfl) ⟨by decide, by decide⟩ ⟨by decide, by decide⟩ dMo_label_2 (fun _ H locs _ hP hD hS => ?_)
  have hP : va_P G.1 vwCl [moC oy r th fi se (nI dp) sh sl az oh ol w0 w1 w2, aZ G (r 5) 256 ins] H := hP
  have hD : va_D A [moC oy r th fi se (nI dp) sh sl az oh ol w0 w1 w2, aZ G (r 5) 256 ins] := hD
  refine W.cs (cells' := 0) (slots' := 0) rfl rfl ?_
  refine W.eq (g2 := F0 m 5 ls [.int (jB (jIn (2 ^ dp) (nI dd)))]) rfl ?_
  refine lv_if_eq (tgt := 21) hx hb dMo_label_5 rfl (fun h => absurd h (by rw [hdi]; decide)) (fun _ => ?_)
  refine lv_aload_n hx hb dMo_label_8 rfl (lv_at hl 0 rfl) ?_
  refine gfMo_25 hx hb hts hown hG hP 0 rfl rfl dMo_label_9 ?_
  refine lv_iload_n hx hb dMo_label_12 rfl (lv_at hl 1 rfl) ?_
  refine ck_zald hx hb hG hP 1 rfl (by decide) dd (rfl) (by omega) dMo_label_13 ?_
  refine lv_if_eq (tgt := 21) hx hb dMo_label_14 rfl (fun _ => ?_) (fun h => absurd (hi) h)
  refine lv_iconst (v := nI 0) hx hb dMo_label_21 (by decide) ?_
  refine lv_istore (lv' := [(4, .int (nI 0)), (0, .ref oy), (1, .int (nI dd)), (2, .int k1), (3, .int wh)]) hx hb dMo_label_22 hl (by decide) rfl (fun ls hl => ?_)
  refine lv_aload_n hx hb dMo_label_24 rfl (lv_at hl 1 rfl) ?_
  refine lv_aload_n hx hb dMo_label_25 rfl (lv_at hl 1 rfl) ?_
  refine lv_iload_n hx hb dMo_label_26 rfl (lv_at hl 2 rfl) ?_
  refine clMo_158 (As := [.int (nI dd)]) (rest := [.ref oy]) hx hb hml hown hts (k_Mo_isDecoder l G oy r th fi se dp hdp sh sl az oh ol w0 w1 w2 (nI dd)) hG hA hP hD hS 0 rfl [0] rfl rfl (fun _ => rfl) rfl hl.1 rfl (Nat.le_of_ble_eq_true rfl) ⟨by decide, by decide⟩ ⟨by decide, by decide⟩ dMo_label_27 (fun _ H locs _ hP hD hS => ?_)
  have hP : va_P G.1 vwCl [moC oy r th fi se (nI dp) sh sl az oh ol w0 w1 w2, aZ G (r 5) 256 ins] H := hP
  have hD : va_D A [moC oy r th fi se (nI dp) sh sl az oh ol w0 w1 w2, aZ G (r 5) 256 ins] := hD
  refine W.cs (cells' := 0) (slots' := 0) rfl rfl ?_
  refine W.eq (g2 := F0 m 30 ls [.int (jB (jIn (2 ^ dp) (nI dd))), .ref oy]) rfl ?_
  refine lv_if_ne (tgt := 37) hx hb dMo_label_30 rfl (fun _ => ?_) (fun h => absurd h (by rw [hdi]; decide))
  refine lv_iload hx hb dMo_label_37 (lv_at hl 0 rfl) ?_
  refine lv_if_ne (tgt := 46) hx hb dMo_label_39 rfl (fun h => absurd (rfl) h) (fun _ => ?_)
  refine lv_iconst (v := nI 2) hx hb dMo_label_42 (by decide) ?_
  refine lv_goto (tgt := 81) hx hb dMo_label_43 rfl ?_
  refine pfMo_74 hx hb hts hown hG hP hD hS 0 rfl rfl rfl (Nat.le_of_ble_eq_true rfl) dMo_label_81 (fun H locs hP hD hS => ?_)
  have hP : va_P G.1 vwCl [moC oy r (nI 2) fi se (nI dp) sh sl az oh ol w0 w1 w2, aZ G (r 5) 256 ins] H := hP
  have hD : va_D A [moC oy r (nI 2) fi se (nI dp) sh sl az oh ol w0 w1 w2, aZ G (r 5) 256 ins] := hD
  refine lv_aload_n hx hb dMo_label_84 rfl (lv_at hl 1 rfl) ?_
  refine gfMo_74 hx hb hts hown hG hP 0 rfl rfl dMo_label_85 ?_
  refine lv_if_le (tgt := 93) hx hb dMo_label_88 rfl (fun h => absurd h (by decide)) (fun _ => ?_)
  refine lv_lconst (v := lN 0) hx hb dMo_label_91 (by decide) ?_
  exact cq_lret () (trivial) hx hb hr hlk hP hS (rfl) (rfl) dMo_label_92
set_option maxHeartbeats 4000000 in
set_option maxRecDepth 100000 in
theorem k_Mo_label_e3 (l : Launch) (G : gG) (oy : Nat) (r : Nat → Nat) (th : Int32) (fi se : Int64) (dp : Nat) (hdp : dp ≤ 8) (sh sl : Int64) (az : Int32) (oh ol w0 w1 w2 : Int64) (dd : Nat) (hd : dd < 2 ^ dp) (ins : Nat → Int32) (hi : ¬ ins dd = 0) (k1 wh : Int32) (hb9 : (decide (wh < 0) || decide (nI 3 < wh) || decide (k1 < 0) || !decide (k1 < nI (dp * (dp + 1) / 2))) = true) : Ck l G yMo_label cMo_label 10 (some .long) { frames := 4, cells := 0, slots := 0, locals := 105 } [.ref oy, .int (nI dd), .int k1, .int wh] [moC oy r th fi se (nI dp) sh sl az oh ol w0 w1 w2, aZ G (r 5) 256 ins] (some (.long (lN 0))) [moC oy r (nI 3) fi se (nI dp) sh sl az oh ol w0 w1 w2, aZ G (r 5) 256 ins] := by
  refine Cq.of (by decide) (Nat.le_of_ble_eq_true rfl) ?_
  intro p e s m args below meth c A ls hx hb hr hml hts hown hlk hA hP hD hG hS hl
  have hp2 := p2_le hdp
  have hp1 := Nat.two_pow_pos dp
  have hdi := jIn_nI (show 2 ^ dp < 2 ^ 31 by omega) hd
  have hl : lv_has ls 10 [(0, .ref oy), (1, .int (nI dd)), (2, .int k1), (3, .int wh)] := hl
  refine lv_aload_n hx hb dMo_label_0 rfl (lv_at hl 0 rfl) ?_
  refine lv_iload_n hx hb dMo_label_1 rfl (lv_at hl 1 rfl) ?_
  refine clMo_158 (As := [.int (nI dd)]) (rest := []) hx hb hml hown hts (k_Mo_isDecoder l G oy r th fi se dp hdp sh sl az oh ol w0 w1 w2 (nI dd)) hG hA hP hD hS 0 rfl [0] rfl rfl (fun _ => rfl) rfl hl.1 rfl (Nat.le_of_ble_eq_true rfl) ⟨by decide, by decide⟩ ⟨by decide, by decide⟩ dMo_label_2 (fun _ H locs _ hP hD hS => ?_)
  have hP : va_P G.1 vwCl [moC oy r th fi se (nI dp) sh sl az oh ol w0 w1 w2, aZ G (r 5) 256 ins] H := hP
  have hD : va_D A [moC oy r th fi se (nI dp) sh sl az oh ol w0 w1 w2, aZ G (r 5) 256 ins] := hD
  refine W.cs (cells' := 0) (slots' := 0) rfl rfl ?_
  refine W.eq (g2 := F0 m 5 ls [.int (jB (jIn (2 ^ dp) (nI dd)))]) rfl ?_
  refine lv_if_eq (tgt := 21) hx hb dMo_label_5 rfl (fun h => absurd h (by rw [hdi]; decide)) (fun _ => ?_)
  refine lv_aload_n hx hb dMo_label_8 rfl (lv_at hl 0 rfl) ?_
  refine gfMo_25 hx hb hts hown hG hP 0 rfl rfl dMo_label_9 ?_
  refine lv_iload_n hx hb dMo_label_12 rfl (lv_at hl 1 rfl) ?_
  refine ck_zald hx hb hG hP 1 rfl (by decide) dd (rfl) (by omega) dMo_label_13 ?_
  refine lv_if_eq (tgt := 21) hx hb dMo_label_14 rfl (fun h => absurd h (hi)) (fun _ => ?_)
  refine lv_iconst (v := nI 1) hx hb dMo_label_17 (by decide) ?_
  refine lv_goto (tgt := 22) hx hb dMo_label_18 rfl ?_
  refine lv_istore (lv' := [(4, .int (nI 1)), (0, .ref oy), (1, .int (nI dd)), (2, .int k1), (3, .int wh)]) hx hb dMo_label_22 hl (by decide) rfl (fun ls hl => ?_)
  refine lv_aload_n hx hb dMo_label_24 rfl (lv_at hl 1 rfl) ?_
  refine lv_aload_n hx hb dMo_label_25 rfl (lv_at hl 1 rfl) ?_
  refine lv_iload_n hx hb dMo_label_26 rfl (lv_at hl 2 rfl) ?_
  refine clMo_158 (As := [.int (nI dd)]) (rest := [.ref oy]) hx hb hml hown hts (k_Mo_isDecoder l G oy r th fi se dp hdp sh sl az oh ol w0 w1 w2 (nI dd)) hG hA hP hD hS 0 rfl [0] rfl rfl (fun _ => rfl) rfl hl.1 rfl (Nat.le_of_ble_eq_true rfl) ⟨by decide, by decide⟩ ⟨by decide, by decide⟩ dMo_label_27 (fun _ H locs _ hP hD hS => ?_)
  have hP : va_P G.1 vwCl [moC oy r th fi se (nI dp) sh sl az oh ol w0 w1 w2, aZ G (r 5) 256 ins] H := hP
  have hD : va_D A [moC oy r th fi se (nI dp) sh sl az oh ol w0 w1 w2, aZ G (r 5) 256 ins] := hD
  refine W.cs (cells' := 0) (slots' := 0) rfl rfl ?_
  refine W.eq (g2 := F0 m 30 ls [.int (jB (jIn (2 ^ dp) (nI dd))), .ref oy]) rfl ?_
  refine lv_if_ne (tgt := 37) hx hb dMo_label_30 rfl (fun _ => ?_) (fun h => absurd h (by rw [hdi]; decide))
  refine lv_iload hx hb dMo_label_37 (lv_at hl 0 rfl) ?_
  refine lv_if_ne (tgt := 46) hx hb dMo_label_39 rfl (fun _ => ?_) (fun h => absurd h (by decide))
  refine lv_iload_n hx hb dMo_label_46 rfl (lv_at hl 4 rfl) ?_
  refine lv_if_lt (tgt := 76) hx hb dMo_label_47 rfl (fun g5 => ?_) (fun g5 => ?_)
  · have b_g5 := decide_eq_true g5
    refine lv_iconst (v := nI 3) hx hb dMo_label_76 (by decide) ?_
    refine lv_goto (tgt := 81) hx hb dMo_label_77 rfl ?_
    refine pfMo_74 hx hb hts hown hG hP hD hS 0 rfl rfl rfl (Nat.le_of_ble_eq_true rfl) dMo_label_81 (fun H locs hP hD hS => ?_)
    have hP : va_P G.1 vwCl [moC oy r (nI 3) fi se (nI dp) sh sl az oh ol w0 w1 w2, aZ G (r 5) 256 ins] H := hP
    have hD : va_D A [moC oy r (nI 3) fi se (nI dp) sh sl az oh ol w0 w1 w2, aZ G (r 5) 256 ins] := hD
    refine lv_aload_n hx hb dMo_label_84 rfl (lv_at hl 1 rfl) ?_
    refine gfMo_74 hx hb hts hown hG hP 0 rfl rfl dMo_label_85 ?_
    refine lv_if_le (tgt := 93) hx hb dMo_label_88 rfl (fun h => absurd h (by decide)) (fun _ => ?_)
    refine lv_lconst (v := lN 0) hx hb dMo_label_91 (by decide) ?_
    exact cq_lret () (trivial) hx hb hr hlk hP hS (rfl) (rfl) dMo_label_92
  · have b_g5 := decide_eq_false g5
    refine lv_iload_n hx hb dMo_label_50 rfl (lv_at hl 4 rfl) ?_
    refine lv_iconst (v := nI 3) hx hb dMo_label_51 (by decide) ?_
    refine lv_icmp_gt (tgt := 76) hx hb dMo_label_52 rfl (fun g6 => ?_) (fun g6 => ?_)
    · have b_g6 := decide_eq_true g6
      refine lv_iconst (v := nI 3) hx hb dMo_label_76 (by decide) ?_
      refine lv_goto (tgt := 81) hx hb dMo_label_77 rfl ?_
      refine pfMo_74 hx hb hts hown hG hP hD hS 0 rfl rfl rfl (Nat.le_of_ble_eq_true rfl) dMo_label_81 (fun H locs hP hD hS => ?_)
      have hP : va_P G.1 vwCl [moC oy r (nI 3) fi se (nI dp) sh sl az oh ol w0 w1 w2, aZ G (r 5) 256 ins] H := hP
      have hD : va_D A [moC oy r (nI 3) fi se (nI dp) sh sl az oh ol w0 w1 w2, aZ G (r 5) 256 ins] := hD
      refine lv_aload_n hx hb dMo_label_84 rfl (lv_at hl 1 rfl) ?_
      refine gfMo_74 hx hb hts hown hG hP 0 rfl rfl dMo_label_85 ?_
      refine lv_if_le (tgt := 93) hx hb dMo_label_88 rfl (fun h => absurd h (by decide)) (fun _ => ?_)
      refine lv_lconst (v := lN 0) hx hb dMo_label_91 (by decide) ?_
      exact cq_lret () (trivial) hx hb hr hlk hP hS (rfl) (rfl) dMo_label_92
    · have b_g6 := decide_eq_false g6
      refine lv_iload_n hx hb dMo_label_55 rfl (lv_at hl 3 rfl) ?_
      refine lv_if_lt (tgt := 76) hx hb dMo_label_56 rfl (fun g7 => ?_) (fun g7 => ?_)
      · have b_g7 := decide_eq_true g7
        refine lv_iconst (v := nI 3) hx hb dMo_label_76 (by decide) ?_
        refine lv_goto (tgt := 81) hx hb dMo_label_77 rfl ?_
        refine pfMo_74 hx hb hts hown hG hP hD hS 0 rfl rfl rfl (Nat.le_of_ble_eq_true rfl) dMo_label_81 (fun H locs hP hD hS => ?_)
        have hP : va_P G.1 vwCl [moC oy r (nI 3) fi se (nI dp) sh sl az oh ol w0 w1 w2, aZ G (r 5) 256 ins] H := hP
        have hD : va_D A [moC oy r (nI 3) fi se (nI dp) sh sl az oh ol w0 w1 w2, aZ G (r 5) 256 ins] := hD
        refine lv_aload_n hx hb dMo_label_84 rfl (lv_at hl 1 rfl) ?_
        refine gfMo_74 hx hb hts hown hG hP 0 rfl rfl dMo_label_85 ?_
        refine lv_if_le (tgt := 93) hx hb dMo_label_88 rfl (fun h => absurd h (by decide)) (fun _ => ?_)
        refine lv_lconst (v := lN 0) hx hb dMo_label_91 (by decide) ?_
        exact cq_lret () (trivial) hx hb hr hlk hP hS (rfl) (rfl) dMo_label_92
      · have b_g7 := decide_eq_false g7
        refine lv_iload_n hx hb dMo_label_59 rfl (lv_at hl 3 rfl) ?_
        refine lv_aload_n hx hb dMo_label_60 rfl (lv_at hl 1 rfl) ?_
        refine gfMo_127 hx hb hts hown hG hP 0 rfl rfl dMo_label_61 ?_
        refine lv_aload_n hx hb dMo_label_64 rfl (lv_at hl 1 rfl) ?_
        refine gfMo_127 hx hb hts hown hG hP 0 rfl rfl dMo_label_65 ?_
        refine lv_iconst (v := nI 1) hx hb dMo_label_68 (by decide) ?_
        refine lv_iadd hx hb dMo_label_69 ?_
        refine lv_imul hx hb dMo_label_70 ?_
        refine lv_iconst (v := nI 2) hx hb dMo_label_71 (by decide) ?_
        refine lv_idiv hx hb dMo_label_72 (by decide) ?_
        refine ck_ri (y := nI (dp * (dp + 1) / 2)) (by rw [nI_add, pk_mul]; exact pk_div (by have := Nat.mul_le_mul hdp (Nat.add_le_add_right hdp 1); omega) (by omega) (by omega)) ?_
        refine lv_icmp_lt (tgt := 80) hx hb dMo_label_73 rfl (fun h => absurd h (fun z => by rw [b_g5, b_g6, b_g7, decide_eq_true z] at hb9; cases hb9)) (fun _ => ?_)
        refine lv_iconst (v := nI 3) hx hb dMo_label_76 (by decide) ?_
        refine lv_goto (tgt := 81) hx hb dMo_label_77 rfl ?_
        refine pfMo_74 hx hb hts hown hG hP hD hS 0 rfl rfl rfl (Nat.le_of_ble_eq_true rfl) dMo_label_81 (fun H locs hP hD hS => ?_)
        have hP : va_P G.1 vwCl [moC oy r (nI 3) fi se (nI dp) sh sl az oh ol w0 w1 w2, aZ G (r 5) 256 ins] H := hP
        have hD : va_D A [moC oy r (nI 3) fi se (nI dp) sh sl az oh ol w0 w1 w2, aZ G (r 5) 256 ins] := hD
        refine lv_aload_n hx hb dMo_label_84 rfl (lv_at hl 1 rfl) ?_
        refine gfMo_74 hx hb hts hown hG hP 0 rfl rfl dMo_label_85 ?_
        refine lv_if_le (tgt := 93) hx hb dMo_label_88 rfl (fun h => absurd h (by decide)) (fun _ => ?_)
        refine lv_lconst (v := lN 0) hx hb dMo_label_91 (by decide) ?_
        exact cq_lret () (trivial) hx hb hr hlk hP hS (rfl) (rfl) dMo_label_92
set_option maxHeartbeats 4000000 in
set_option maxRecDepth 100000 in
theorem k_Mo_label (l : Launch) (G : gG) (oy : Nat) (r : Nat → Nat) (th : Int32) (fi se : Int64) (dp : Nat) (hdp : dp ≤ 8) (sh sl : Int64) (az : Int32) (oh ol w0 w1 w2 : Int64) (dd : Nat) (hd : dd < 2 ^ dp) (f g m0 : Nat → Nat) (ins : Nat → Int32) (hi : ¬ ins dd = 0) (k1 wh : Nat) (hk1 : k1 < dp * (dp + 1) / 2) (hw : wh < 4) : Cq l G yMo_label cMo_label 10 (some .long) { frames := 4, cells := 0, slots := 0, locals := 105 } [.ref oy, .int (nI dd), .int (nI k1), .int (nI wh)] [moC oy r th fi se (nI dp) sh sl az oh ol w0 w1 w2, aI G (r 0) 256 ckS, aI G (r 2) 176 (bN f), aI G (r 3) 16 (bN g), aI G (r 4) 16 (bN m0), aZ G (r 5) 256 ins] (S := (Nat → Nat) × (Nat → Nat) × (Nat → Nat)) (fun _ => True) (fun u => some (.long (if wh = 0 then (nI (rTp dp dd k1)).toInt64 else if wh = 1 then (nI (rFt dp dd k1)).toInt64 else if wh = 2 then (jLab sh sl (nI (rTp dp dd k1)) (nI (rFt dp dd k1)) (jLv (nI (rFt dp dd k1)) (nI (rTp dp dd k1))) (jLv (nI (rFt dp dd k1)) (nI (rTp dp dd k1)))).1 else (jLab sh sl (nI (rTp dp dd k1)) (nI (rFt dp dd k1)) (jLv (nI (rFt dp dd k1)) (nI (rTp dp dd k1))) (jLv (nI (rFt dp dd k1)) (nI (rTp dp dd k1)))).2))) (fun u => [moC oy r (nI 0) ((jLab sh sl (nI (rTp dp dd k1)) (nI (rFt dp dd k1)) (jLv (nI (rFt dp dd k1)) (nI (rTp dp dd k1))) (jLv (nI (rFt dp dd k1)) (nI (rTp dp dd k1)))).1) ((jLab sh sl (nI (rTp dp dd k1)) (nI (rFt dp dd k1)) (jLv (nI (rFt dp dd k1)) (nI (rTp dp dd k1))) (jLv (nI (rFt dp dd k1)) (nI (rTp dp dd k1)))).2) (nI dp) sh sl az oh ol w0 w1 w2, aI G (r 0) 256 ckS, aI G (r 2) 176 (bN u.1), aI G (r 3) 16 (bN u.2.1), aI G (r 4) 16 (bN u.2.2), aZ G (r 5) 256 ins]) := by
  refine Cq.of (by decide) (Nat.le_of_ble_eq_true rfl) ?_
  intro p e s m args below meth c A ls hx hb hr hml hts hown hlk hA hP hD hG hS hl
  have hp2 := p2_le hdp
  have hp1 := Nat.two_pow_pos dp
  have hdi := jIn_nI (show 2 ^ dp < 2 ^ 31 by omega) hd
  have hL : dp * (dp + 1) / 2 ≤ 36 := by have := Nat.mul_le_mul hdp (Nat.add_le_add_right hdp 1); omega
  obtain ⟨hr1, hr2, _, _⟩ := rLl_all dp hdp k1 (lab36 hdp hk1) hk1
  have hl : lv_has ls 10 [(0, .ref oy), (1, .int (nI dd)), (2, .int (nI k1)), (3, .int (nI wh))] := hl
  refine lv_aload_n hx hb dMo_label_0 rfl (lv_at hl 0 rfl) ?_
  refine lv_iload_n hx hb dMo_label_1 rfl (lv_at hl 1 rfl) ?_
  refine clMo_158 (As := [.int (nI dd)]) (rest := []) hx hb hml hown hts (k_Mo_isDecoder l G oy r th fi se dp hdp sh sl az oh ol w0 w1 w2 (nI dd)) hG hA hP hD hS 0 rfl [0] rfl rfl (fun _ => rfl) rfl hl.1 rfl (Nat.le_of_ble_eq_true rfl) ⟨by decide, by decide⟩ ⟨by decide, by decide⟩ dMo_label_2 (fun _ H locs _ hP hD hS => ?_)
  have hP : va_P G.1 vwCl [moC oy r th fi se (nI dp) sh sl az oh ol w0 w1 w2, aI G (r 0) 256 ckS, aI G (r 2) 176 (bN f), aI G (r 3) 16 (bN g), aI G (r 4) 16 (bN m0), aZ G (r 5) 256 ins] H := hP
  have hD : va_D A [moC oy r th fi se (nI dp) sh sl az oh ol w0 w1 w2, aI G (r 0) 256 ckS, aI G (r 2) 176 (bN f), aI G (r 3) 16 (bN g), aI G (r 4) 16 (bN m0), aZ G (r 5) 256 ins] := hD
  refine W.cs (cells' := 0) (slots' := 0) rfl rfl ?_
  refine W.eq (g2 := F0 m 5 ls [.int (jB (jIn (2 ^ dp) (nI dd)))]) rfl ?_
  refine lv_if_eq (tgt := 21) hx hb dMo_label_5 rfl (fun h => absurd h (by rw [hdi]; decide)) (fun _ => ?_)
  refine lv_aload_n hx hb dMo_label_8 rfl (lv_at hl 0 rfl) ?_
  refine gfMo_25 hx hb hts hown hG hP 0 rfl rfl dMo_label_9 ?_
  refine lv_iload_n hx hb dMo_label_12 rfl (lv_at hl 1 rfl) ?_
  refine ck_zald hx hb hG hP 5 rfl (by decide) dd (rfl) (by omega) dMo_label_13 ?_
  refine lv_if_eq (tgt := 21) hx hb dMo_label_14 rfl (fun h => absurd h (hi)) (fun _ => ?_)
  refine lv_iconst (v := nI 1) hx hb dMo_label_17 (by decide) ?_
  refine lv_goto (tgt := 22) hx hb dMo_label_18 rfl ?_
  refine lv_istore (lv' := [(4, .int (nI 1)), (0, .ref oy), (1, .int (nI dd)), (2, .int (nI k1)), (3, .int (nI wh))]) hx hb dMo_label_22 hl (by decide) rfl (fun ls hl => ?_)
  refine lv_aload_n hx hb dMo_label_24 rfl (lv_at hl 1 rfl) ?_
  refine lv_aload_n hx hb dMo_label_25 rfl (lv_at hl 1 rfl) ?_
  refine lv_iload_n hx hb dMo_label_26 rfl (lv_at hl 2 rfl) ?_
  refine clMo_158 (As := [.int (nI dd)]) (rest := [.ref oy]) hx hb hml hown hts (k_Mo_isDecoder l G oy r th fi se dp hdp sh sl az oh ol w0 w1 w2 (nI dd)) hG hA hP hD hS 0 rfl [0] rfl rfl (fun _ => rfl) rfl hl.1 rfl (Nat.le_of_ble_eq_true rfl) ⟨by decide, by decide⟩ ⟨by decide, by decide⟩ dMo_label_27 (fun _ H locs _ hP hD hS => ?_)
  have hP : va_P G.1 vwCl [moC oy r th fi se (nI dp) sh sl az oh ol w0 w1 w2, aI G (r 0) 256 ckS, aI G (r 2) 176 (bN f), aI G (r 3) 16 (bN g), aI G (r 4) 16 (bN m0), aZ G (r 5) 256 ins] H := hP
  have hD : va_D A [moC oy r th fi se (nI dp) sh sl az oh ol w0 w1 w2, aI G (r 0) 256 ckS, aI G (r 2) 176 (bN f), aI G (r 3) 16 (bN g), aI G (r 4) 16 (bN m0), aZ G (r 5) 256 ins] := hD
  refine W.cs (cells' := 0) (slots' := 0) rfl rfl ?_
  refine W.eq (g2 := F0 m 30 ls [.int (jB (jIn (2 ^ dp) (nI dd))), .ref oy]) rfl ?_
  refine lv_if_ne (tgt := 37) hx hb dMo_label_30 rfl (fun _ => ?_) (fun h => absurd h (by rw [hdi]; decide))
  refine lv_iload hx hb dMo_label_37 (lv_at hl 0 rfl) ?_
  refine lv_if_ne (tgt := 46) hx hb dMo_label_39 rfl (fun _ => ?_) (fun h => absurd h (by decide))
  refine lv_iload_n hx hb dMo_label_46 rfl (lv_at hl 4 rfl) ?_
  refine lv_if_lt (tgt := 76) hx hb dMo_label_47 rfl (fun h => absurd h (nI_pos (by omega))) (fun _ => ?_)
  refine lv_iload_n hx hb dMo_label_50 rfl (lv_at hl 4 rfl) ?_
  refine lv_iconst (v := nI 3) hx hb dMo_label_51 (by decide) ?_
  refine lv_icmp_gt (tgt := 76) hx hb dMo_label_52 rfl (fun h => absurd h (nI_nlt (by omega) (by omega))) (fun _ => ?_)
  refine lv_iload_n hx hb dMo_label_55 rfl (lv_at hl 3 rfl) ?_
  refine lv_if_lt (tgt := 76) hx hb dMo_label_56 rfl (fun h => absurd h (nI_pos (by omega))) (fun _ => ?_)
  refine lv_iload_n hx hb dMo_label_59 rfl (lv_at hl 3 rfl) ?_
  refine lv_aload_n hx hb dMo_label_60 rfl (lv_at hl 1 rfl) ?_
  refine gfMo_127 hx hb hts hown hG hP 0 rfl rfl dMo_label_61 ?_
  refine lv_aload_n hx hb dMo_label_64 rfl (lv_at hl 1 rfl) ?_
  refine gfMo_127 hx hb hts hown hG hP 0 rfl rfl dMo_label_65 ?_
  refine lv_iconst (v := nI 1) hx hb dMo_label_68 (by decide) ?_
  refine lv_iadd hx hb dMo_label_69 ?_
  refine lv_imul hx hb dMo_label_70 ?_
  refine lv_iconst (v := nI 2) hx hb dMo_label_71 (by decide) ?_
  refine lv_idiv hx hb dMo_label_72 (by decide) ?_
  refine ck_ri (y := nI (dp * (dp + 1) / 2)) (by rw [nI_add, pk_mul]; exact pk_div (by have := Nat.mul_le_mul hdp (Nat.add_le_add_right hdp 1); omega) (by omega) (by omega)) ?_
  refine lv_icmp_lt (tgt := 80) hx hb dMo_label_73 rfl (fun _ => ?_) (fun h => absurd (nI_lt hk1 (by omega)) h)
  refine lv_iconst (v := nI 0) hx hb dMo_label_80 (by decide) ?_
  refine pfMo_74 hx hb hts hown hG hP hD hS 0 rfl rfl rfl (Nat.le_of_ble_eq_true rfl) dMo_label_81 (fun H locs hP hD hS => ?_)
  have hP : va_P G.1 vwCl [moC oy r (nI 0) fi se (nI dp) sh sl az oh ol w0 w1 w2, aI G (r 0) 256 ckS, aI G (r 2) 176 (bN f), aI G (r 3) 16 (bN g), aI G (r 4) 16 (bN m0), aZ G (r 5) 256 ins] H := hP
  have hD : va_D A [moC oy r (nI 0) fi se (nI dp) sh sl az oh ol w0 w1 w2, aI G (r 0) 256 ckS, aI G (r 2) 176 (bN f), aI G (r 3) 16 (bN g), aI G (r 4) 16 (bN m0), aZ G (r 5) 256 ins] := hD
  refine lv_aload_n hx hb dMo_label_84 rfl (lv_at hl 1 rfl) ?_
  refine gfMo_74 hx hb hts hown hG hP 0 rfl rfl dMo_label_85 ?_
  refine lv_if_le (tgt := 93) hx hb dMo_label_88 rfl (fun _ => ?_) (fun h => absurd (by decide) h)
  refine lv_aload_n hx hb dMo_label_93 rfl (lv_at hl 1 rfl) ?_
  refine lv_iload_n hx hb dMo_label_94 rfl (lv_at hl 2 rfl) ?_
  refine clMo_147 (As := [.int (nI dd)]) (rest := []) hx hb hml hown hts (k_Mo_leafOf l G oy r (nI 0) fi se dp hdp sh sl az oh ol w0 w1 w2 dd) hG hA hP hD hS 0 rfl [0] rfl rfl (fun _ => rfl) rfl hl.1 rfl (Nat.le_of_ble_eq_true rfl) ⟨by decide, by decide⟩ ⟨by decide, by decide⟩ dMo_label_95 (fun _ H locs _ hP hD hS => ?_)
  have hP : va_P G.1 vwCl [moC oy r (nI 0) fi se (nI dp) sh sl az oh ol w0 w1 w2, aI G (r 0) 256 ckS, aI G (r 2) 176 (bN f), aI G (r 3) 16 (bN g), aI G (r 4) 16 (bN m0), aZ G (r 5) 256 ins] H := hP
  have hD : va_D A [moC oy r (nI 0) fi se (nI dp) sh sl az oh ol w0 w1 w2, aI G (r 0) 256 ckS, aI G (r 2) 176 (bN f), aI G (r 3) 16 (bN g), aI G (r 4) 16 (bN m0), aZ G (r 5) 256 ins] := hD
  refine W.cs (cells' := 0) (slots' := 0) rfl rfl ?_
  refine W.eq (g2 := F0 m 98 ls [.int (nI (2 ^ dp + dd))]) rfl ?_
  refine lv_istore (lv' := [(5, .int (nI (2 ^ dp + dd))), (4, .int (nI 1)), (0, .ref oy), (1, .int (nI dd)), (2, .int (nI k1)), (3, .int (nI wh))]) hx hb dMo_label_98 hl (by decide) rfl (fun ls hl => ?_)
  refine lv_iload_n hx hb dMo_label_100 rfl (lv_at hl 4 rfl) ?_
  refine lv_istore (lv' := [(6, .int (nI k1)), (5, .int (nI (2 ^ dp + dd))), (4, .int (nI 1)), (0, .ref oy), (1, .int (nI dd)), (2, .int (nI k1)), (3, .int (nI wh))]) hx hb dMo_label_101 hl (by decide) rfl (fun ls hl => ?_)
  refine lv_iconst (v := nI 0) hx hb dMo_label_103 (by decide) ?_
  refine lv_istore (lv' := [(7, .int (nI 0)), (6, .int (nI k1)), (5, .int (nI (2 ^ dp + dd))), (4, .int (nI 1)), (0, .ref oy), (1, .int (nI dd)), (2, .int (nI k1)), (3, .int (nI wh))]) hx hb dMo_label_104 hl (by decide) rfl (fun ls hl => ?_)
  have loop : ∀ (k : Nat) (x : Nat) (y : Nat) (H : Heap) (locs : List Loc) (ls : Array Slot), y + k = 8 → x < 36 → rLl dp k1 = rLo dp k x y → va_P G.1 vwCl [moC oy r (nI 0) fi se (nI dp) sh sl az oh ol w0 w1 w2, aI G (r 0) 256 ckS, aI G (r 2) 176 (bN f), aI G (r 3) 16 (bN g), aI G (r 4) 16 (bN m0), aZ G (r 5) 256 ins] H → va_D A [moC oy r (nI 0) fi se (nI dp) sh sl az oh ol w0 w1 w2, aI G (r 0) 256 ckS, aI G (r 2) 176 (bN f), aI G (r 3) 16 (bN g), aI G (r 4) 16 (bN m0), aZ G (r 5) 256 ins] → va_S A s.heap H locs → lv_has ls 10 [(0, .ref oy), (3, .int (nI wh)), (5, .int (nI (2 ^ dp + dd))), (6, .int (nI x)), (7, .int (nI y))] → W p l e { frames := 4, cells := 0, slots := 0, locals := 105 } s m args below meth c H locs 0 0 (MQ below (cq_out G (S := (Nat → Nat) × (Nat → Nat) × (Nat → Nat)) (fun _ => True) (fun u => some (.long (if wh = 0 then (nI (rTp dp dd k1)).toInt64 else if wh = 1 then (nI (rFt dp dd k1)).toInt64 else if wh = 2 then (jLab sh sl (nI (rTp dp dd k1)) (nI (rFt dp dd k1)) (jLv (nI (rFt dp dd k1)) (nI (rTp dp dd k1))) (jLv (nI (rFt dp dd k1)) (nI (rTp dp dd k1)))).1 else (jLab sh sl (nI (rTp dp dd k1)) (nI (rFt dp dd k1)) (jLv (nI (rFt dp dd k1)) (nI (rTp dp dd k1))) (jLv (nI (rFt dp dd k1)) (nI (rTp dp dd k1)))).2))) (fun u => [moC oy r (nI 0) ((jLab sh sl (nI (rTp dp dd k1)) (nI (rFt dp dd k1)) (jLv (nI (rFt dp dd k1)) (nI (rTp dp dd k1))) (jLv (nI (rFt dp dd k1)) (nI (rTp dp dd k1)))).1) ((jLab sh sl (nI (rTp dp dd k1)) (nI (rFt dp dd k1)) (jLv (nI (rFt dp dd k1)) (nI (rTp dp dd k1))) (jLv (nI (rFt dp dd k1)) (nI (rTp dp dd k1)))).2) (nI dp) sh sl az oh ol w0 w1 w2, aI G (r 0) 256 ckS, aI G (r 2) 176 (bN u.1), aI G (r 3) 16 (bN u.2.1), aI G (r 4) 16 (bN u.2.2), aZ G (r 5) 256 ins]) A) args s 0 0 A) (F0 m 106 ls []) := by
    intro k
    induction k with
    | zero =>
      intro x y H locs ls hk hx9 hq hP hD hS hl
      have h2 : (rLl dp k1).2 = y := by rw [hq]; rfl
      omega
    | succ k ih =>
      intro x y H locs ls hk hx9 hq hP hD hS hl
      have hyd : y ≤ (rLl dp k1).2 := by rw [hq]; exact rLo_ge dp _ x y
      refine lv_iload hx hb dMo_label_106 (lv_at hl 3 rfl) ?_
      refine lv_aload_n hx hb dMo_label_108 rfl (lv_at hl 0 rfl) ?_
      refine gfMo_127 hx hb hts hown hG hP 0 rfl rfl dMo_label_109 ?_
      refine lv_iload hx hb dMo_label_112 (lv_at hl 4 rfl) ?_
      refine lv_isub hx hb dMo_label_114 ?_
      refine ck_ri (y := nI (dp - y)) (pk_sub (by omega)) ?_
      refine lv_icmp_lt (tgt := 136) hx hb dMo_label_115 rfl (fun h6 => ?_) (fun h6 => ?_)
      · have h5 : ¬ dp - y ≤ x := by have := (nI_ltI (by omega) (by omega)).mp h6; omega
        rw [rLo, if_neg h5] at hq
        have hxy1 : x = (rLl dp k1).1 := by rw [hq]
        have hxy2 : y = (rLl dp k1).2 := by rw [hq]
        refine lv_iload hx hb dMo_label_136 (lv_at hl 2 rfl) ?_
        refine lv_aload_n hx hb dMo_label_138 rfl (lv_at hl 0 rfl) ?_
        refine gfMo_127 hx hb hts hown hG hP 0 rfl rfl dMo_label_139 ?_
        refine lv_iload hx hb dMo_label_142 (lv_at hl 4 rfl) ?_
        refine lv_isub hx hb dMo_label_144 ?_
        refine ck_ri (y := nI (dp - y)) (pk_sub (by omega)) ?_
        refine lv_ishr hx hb dMo_label_145 ?_
        refine ck_ri (y := nI (rTp dp dd k1)) (by unfold rTp; rw [← hxy2]; exact isr_nI (by omega) (by omega)) ?_
        refine lv_istore (lv' := [(8, .int (nI (rTp dp dd k1))), (0, .ref oy), (3, .int (nI wh)), (5, .int (nI (2 ^ dp + dd))), (6, .int (nI x)), (7, .int (nI y))]) hx hb dMo_label_146 hl (by decide) rfl (fun ls hl => ?_)
        refine lv_iload hx hb dMo_label_148 (lv_at hl 3 rfl) ?_
        refine lv_aload_n hx hb dMo_label_150 rfl (lv_at hl 1 rfl) ?_
        refine gfMo_127 hx hb hts hown hG hP 0 rfl rfl dMo_label_151 ?_
        refine lv_iload hx hb dMo_label_154 (lv_at hl 5 rfl) ?_
        refine lv_isub hx hb dMo_label_156 ?_
        refine ck_ri (y := nI (dp - y)) (pk_sub (by omega)) ?_
        refine lv_iconst (v := nI 1) hx hb dMo_label_157 (by decide) ?_
        refine lv_isub hx hb dMo_label_158 ?_
        refine ck_ri (y := nI (dp - y - 1)) (pk_sub (by omega)) ?_
        refine lv_iload hx hb dMo_label_159 (lv_at hl 4 rfl) ?_
        refine lv_isub hx hb dMo_label_161 ?_
        refine ck_ri (y := nI (dp - y - 1 - x)) (pk_sub (by omega)) ?_
        refine lv_ishr hx hb dMo_label_162 ?_
        refine ck_ri (y := nI ((2 ^ dp + dd) / 2 ^ (dp - y - 1 - x))) (isr_nI (by omega) (by omega)) ?_
        refine lv_iconst (v := nI 1) hx hb dMo_label_163 (by decide) ?_
        refine lv_ixor hx hb dMo_label_164 ?_
        refine ck_ri (y := nI (rFt dp dd k1)) (by unfold rFt; rw [nI_xor, ← hxy1, ← hxy2]) ?_
        refine lv_istore (lv' := [(9, .int (nI (rFt dp dd k1))), (8, .int (nI (rTp dp dd k1))), (0, .ref oy), (3, .int (nI wh)), (5, .int (nI (2 ^ dp + dd))), (6, .int (nI x)), (7, .int (nI y))]) hx hb dMo_label_165 hl (by decide) rfl (fun ls hl => ?_)
        refine lv_aload_n hx hb dMo_label_167 rfl (lv_at hl 2 rfl) ?_
        refine lv_iload hx hb dMo_label_168 (lv_at hl 1 rfl) ?_
        refine lv_iload hx hb dMo_label_170 (lv_at hl 0 rfl) ?_
        refine clMo_152 (As := [.int (nI (rTp dp dd k1)), .int (nI (rFt dp dd k1))]) (rest := []) hx hb hml hown hts (k_Mo_makeLabel l G oy r (nI 0) fi se (nI dp) sh sl az oh ol w0 w1 w2 f g m0 (nI (rTp dp dd k1)) (rFt dp dd k1) (jLv (nI (rFt dp dd k1)) (nI (rTp dp dd k1))) (by have := rFt_lt (k := k1) hdp hd; omega) (jLv_le _ _) (rLab_lv hdp hd hk1)) hG hA hP hD hS 0 rfl [0, 1, 2, 3, 4] rfl rfl (fun _ => rfl) rfl hl.1 rfl (Nat.le_of_ble_eq_true rfl) ⟨by decide, by decide⟩ ⟨by decide, by decide⟩ dMo_label_172 (fun u8 H locs _ hP hD hS => ?_)
        have hP : va_P G.1 vwCl [moC oy r (nI 0) ((jLab sh sl (nI (rTp dp dd k1)) (nI (rFt dp dd k1)) (jLv (nI (rFt dp dd k1)) (nI (rTp dp dd k1))) (jLv (nI (rFt dp dd k1)) (nI (rTp dp dd k1)))).1) ((jLab sh sl (nI (rTp dp dd k1)) (nI (rFt dp dd k1)) (jLv (nI (rFt dp dd k1)) (nI (rTp dp dd k1))) (jLv (nI (rFt dp dd k1)) (nI (rTp dp dd k1)))).2) (nI dp) sh sl az oh ol w0 w1 w2, aI G (r 0) 256 ckS, aI G (r 2) 176 (bN u8.1), aI G (r 3) 16 (bN u8.2.1), aI G (r 4) 16 (bN u8.2.2), aZ G (r 5) 256 ins] H := hP
        have hD : va_D A [moC oy r (nI 0) ((jLab sh sl (nI (rTp dp dd k1)) (nI (rFt dp dd k1)) (jLv (nI (rFt dp dd k1)) (nI (rTp dp dd k1))) (jLv (nI (rFt dp dd k1)) (nI (rTp dp dd k1)))).1) ((jLab sh sl (nI (rTp dp dd k1)) (nI (rFt dp dd k1)) (jLv (nI (rFt dp dd k1)) (nI (rTp dp dd k1))) (jLv (nI (rFt dp dd k1)) (nI (rTp dp dd k1)))).2) (nI dp) sh sl az oh ol w0 w1 w2, aI G (r 0) 256 ckS, aI G (r 2) 176 (bN u8.1), aI G (r 3) 16 (bN u8.2.1), aI G (r 4) 16 (bN u8.2.2), aZ G (r 5) 256 ins] := hD
        refine W.cs (cells' := 0) (slots' := 0) rfl rfl ?_
        refine W.eq (g2 := F0 m 175 ls []) rfl ?_
        refine lv_iload_n hx hb dMo_label_175 rfl (lv_at hl 3 rfl) ?_
        refine lv_if_ne (tgt := 185) hx hb dMo_label_176 rfl (fun hc0 => ?_) (fun hc0 => ?_)
        · have hd0 : ¬ wh = 0 := fun z => hc0 (by rw [z]; rfl)
          refine lv_iload_n hx hb dMo_label_185 rfl (lv_at hl 3 rfl) ?_
          refine lv_iconst (v := nI 1) hx hb dMo_label_186 (by decide) ?_
          refine lv_icmp_ne (tgt := 196) hx hb dMo_label_187 rfl (fun hc1 => ?_) (fun hc1 => ?_)
          · have hd1 : ¬ wh = 1 := fun z => hc1 (by rw [z])
            refine lv_iload_n hx hb dMo_label_196 rfl (lv_at hl 3 rfl) ?_
            refine lv_iconst (v := nI 2) hx hb dMo_label_197 (by decide) ?_
            refine lv_icmp_ne (tgt := 208) hx hb dMo_label_198 rfl (fun hc2 => ?_) (fun hc2 => ?_)
            · have hd2 : ¬ wh = 2 := fun z => hc2 (by rw [z])
              refine lv_aload_n hx hb dMo_label_208 rfl (lv_at hl 2 rfl) ?_
              refine gfMo_86 hx hb hts hown hG hP 0 rfl rfl dMo_label_209 ?_
              exact cq_lret (u8.1, u8.2.1, u8.2.2) (trivial) hx hb hr hlk hP hS (by rw [if_neg hd0, if_neg hd1, if_neg hd2]) (rfl) dMo_label_212
            · have hd2 : wh = 2 := (nI_eq (b := 2) (by omega) (by omega)).mp hc2
              refine lv_aload_n hx hb dMo_label_201 rfl (lv_at hl 2 rfl) ?_
              refine gfMo_82 hx hb hts hown hG hP 0 rfl rfl dMo_label_202 ?_
              refine lv_goto (tgt := 212) hx hb dMo_label_205 rfl ?_
              exact cq_lret (u8.1, u8.2.1, u8.2.2) (trivial) hx hb hr hlk hP hS (by rw [if_neg hd0, if_neg hd1, if_pos hd2]) (rfl) dMo_label_212
          · have hd1 : wh = 1 := (nI_eq (b := 1) (by omega) (by omega)).mp hc1
            refine lv_iload hx hb dMo_label_190 (lv_at hl 0 rfl) ?_
            refine lv_i2l (v := (nI (rFt dp dd k1)).toInt64) hx hb dMo_label_192 rfl ?_
            refine lv_goto (tgt := 212) hx hb dMo_label_193 rfl ?_
            exact cq_lret (u8.1, u8.2.1, u8.2.2) (trivial) hx hb hr hlk hP hS (by rw [if_neg hd0, if_pos hd1]) (rfl) dMo_label_212
        · have hd0 : wh = 0 := (nI_eq (b := 0) (by omega) (by omega)).mp hc0
          refine lv_iload hx hb dMo_label_179 (lv_at hl 1 rfl) ?_
          refine lv_i2l (v := (nI (rTp dp dd k1)).toInt64) hx hb dMo_label_181 rfl ?_
          refine lv_goto (tgt := 212) hx hb dMo_label_182 rfl ?_
          exact cq_lret (u8.1, u8.2.1, u8.2.2) (trivial) hx hb hr hlk hP hS (by rw [if_pos hd0]) (rfl) dMo_label_212
      · have h5 : dp - y ≤ x := Nat.not_lt.mp (fun z => h6 ((nI_ltI (by omega) (by omega)).mpr z))
        refine lv_iload hx hb dMo_label_118 (lv_at hl 3 rfl) ?_
        refine lv_aload_n hx hb dMo_label_120 rfl (lv_at hl 0 rfl) ?_
        refine gfMo_127 hx hb hts hown hG hP 0 rfl rfl dMo_label_121 ?_
        refine lv_iload hx hb dMo_label_124 (lv_at hl 4 rfl) ?_
        refine lv_isub hx hb dMo_label_126 ?_
        refine ck_ri (y := nI (dp - y)) (pk_sub (by omega)) ?_
        refine lv_isub hx hb dMo_label_127 ?_
        refine ck_ri (y := nI (x - (dp - y))) (pk_sub h5) ?_
        refine lv_istore (lv' := [(6, .int (nI (x - (dp - y)))), (0, .ref oy), (3, .int (nI wh)), (5, .int (nI (2 ^ dp + dd))), (7, .int (nI y))]) hx hb dMo_label_128 hl (by decide) rfl (fun ls hl => ?_)
        refine lv_iinc (v := nI (y + 1)) (lv' := [(7, .int (nI (y + 1))), (6, .int (nI (x - (dp - y)))), (0, .ref oy), (3, .int (nI wh)), (5, .int (nI (2 ^ dp + dd)))]) hx hb dMo_label_130 hl (k := 4) rfl (nI_1 y) (by decide) rfl (fun ls hl => ?_)
        refine lv_goto (tgt := 106) hx hb dMo_label_133 rfl ?_
        rw [rLo, if_pos h5] at hq
        exact ih (x - (dp - y)) (y + 1) _ _ _ (by omega) (by omega) hq hP hD hS (lv_sub hl [2, 3, 4, 1, 0] rfl)
  exact loop 8 k1 0 _ _ _ (by omega) (by omega) rfl hP hD hS (lv_sub hl [4, 7, 2, 1, 0] rfl)
