/-! the reference: packet, hear -/
theorem rd1 (f : Nat → Int32) : (jRd f 0 1).toInt32 = f 0 := by
  show (lsh (lN 0) (nI 8) ||| (f 0).toInt64).toInt32 = f 0
  rw [show lsh (lN 0) (nI 8) = 0 by decide, Int64.zero_or]
  exact Int32.toInt32_toInt64 _
def rAn (b : Bool) : Int32 := if b = true then -1 else nI 0
theorem jEnd_or (sz n : Nat) : jEnd sz n = (n + 1) * 8 ∨ jEnd sz n = sz := by
  unfold jEnd
  split
  · exact Or.inl rfl
  · exact Or.inr rfl
theorem jDer_n {dp : Nat} {d v w : Int32} (h : jSub dp v w = false) : jDer dp d v w = false := Bool.eq_false_iff.mpr (fun z => by rw [jDer_sub z] at h; cases h)
theorem i4_gt {x : Int32} (h : ¬ x < nI 4) : nI 3 < x := by
  rw [Int32.lt_iff_toInt_lt] at h ⊢
  have h1 : (nI 4).toInt = 4 := by decide
  have h2 : (nI 3).toInt = 3 := by decide
  omega
set_option maxHeartbeats 4000000 in
set_option maxRecDepth 100000 in
theorem k_Mo_packet_e1 (l : Launch) (G : gG) (oy : Nat) (r : Nat → Nat) (th : Int32) (fi se : Int64) (d : Int32) (sh sl : Int64) (az : Int32) (oh ol w0 w1 w2 : Int64) (c1 n1 : Int32) (hc : jIn 4 c1 = false) : Ck l G yMo_packet cMo_packet 8 (some .int) { frames := 5, cells := 0, slots := 0, locals := 127 } [.ref oy, .int c1, .int n1] [moC oy r th fi se d sh sl az oh ol w0 w1 w2] (some (.int (nI 0))) [moC oy r (nI 1) fi se d sh sl az oh ol w0 w1 w2] := by
  refine Cq.of (by decide) (Nat.le_of_ble_eq_true rfl) ?_
  intro p e s m args below meth c A ls hx hb hr hml hts hown hlk hA hP hD hG hS hl
  have hl : lv_has ls 8 [(0, .ref oy), (1, .int c1), (2, .int n1)] := hl
  refine lv_iload_n hx hb dMo_packet_0 rfl (lv_at hl 1 rfl) ?_
  refine clMo_162 (As := [.int c1]) (rest := []) hx hb hml hown hts (k_Mo_isChannel l G c1) hG hA hP hD hS [] rfl rfl (fun _ => rfl) rfl hl.1 rfl (Nat.le_of_ble_eq_true rfl) ⟨by decide, by decide⟩ ⟨by decide, by decide⟩ dMo_packet_1 (fun _ H locs _ hP hD hS => ?_)
  have hP : va_P G.1 vwCl [moC oy r th fi se d sh sl az oh ol w0 w1 w2] H := hP
  have hD : va_D A [moC oy r th fi se d sh sl az oh ol w0 w1 w2] := hD
  refine W.cs (cells' := 0) (slots' := 0) rfl rfl ?_
  refine W.eq (g2 := F0 m 4 ls [.int (jB (jIn 4 c1))]) rfl ?_
  refine lv_if_eq (tgt := 20) hx hb dMo_packet_4 rfl (fun _ => ?_) (fun h => absurd (by rw [hc]; rfl) h)
  refine lv_iconst (v := nI 0) hx hb dMo_packet_20 (by decide) ?_
  refine lv_istore_n (lv' := [(3, .int (nI 0)), (0, .ref oy), (1, .int c1), (2, .int n1)]) hx hb dMo_packet_21 rfl hl (by decide) rfl (fun ls hl => ?_)
  refine lv_iload_n hx hb dMo_packet_22 rfl (lv_at hl 0 rfl) ?_
  refine lv_if_eq (tgt := 50) hx hb dMo_packet_23 rfl (fun _ => ?_) (fun h => absurd (rfl) h)
  refine lv_iconst (v := nI 1) hx hb dMo_packet_50 (by decide) ?_
  refine lv_istore (lv' := [(4, .int (nI 1)), (3, .int (nI 0)), (0, .ref oy), (1, .int c1), (2, .int n1)]) hx hb dMo_packet_51 hl (by decide) rfl (fun ls hl => ?_)
  refine lv_aload_n hx hb dMo_packet_53 rfl (lv_at hl 2 rfl) ?_
  refine lv_iload_n hx hb dMo_packet_54 rfl (lv_at hl 3 rfl) ?_
  refine clMo_162 (As := [.int c1]) (rest := [.ref oy]) hx hb hml hown hts (k_Mo_isChannel l G c1) hG hA hP hD hS [] rfl rfl (fun _ => rfl) rfl hl.1 rfl (Nat.le_of_ble_eq_true rfl) ⟨by decide, by decide⟩ ⟨by decide, by decide⟩ dMo_packet_55 (fun _ H locs _ hP hD hS => ?_)
  have hP : va_P G.1 vwCl [moC oy r th fi se d sh sl az oh ol w0 w1 w2] H := hP
  have hD : va_D A [moC oy r th fi se d sh sl az oh ol w0 w1 w2] := hD
  refine W.cs (cells' := 0) (slots' := 0) rfl rfl ?_
  refine W.eq (g2 := F0 m 58 ls [.int (jB (jIn 4 c1)), .ref oy]) rfl ?_
  refine lv_if_ne (tgt := 65) hx hb dMo_packet_58 rfl (fun h => absurd (by rw [hc]; rfl) h) (fun _ => ?_)
  refine lv_iconst (v := nI 1) hx hb dMo_packet_61 (by decide) ?_
  refine lv_goto (tgt := 88) hx hb dMo_packet_62 rfl ?_
  refine pfMo_74 hx hb hts hown hG hP hD hS 0 rfl rfl rfl (Nat.le_of_ble_eq_true rfl) dMo_packet_88 (fun H locs hP hD hS => ?_)
  have hP : va_P G.1 vwCl [moC oy r (nI 1) fi se d sh sl az oh ol w0 w1 w2] H := hP
  have hD : va_D A [moC oy r (nI 1) fi se d sh sl az oh ol w0 w1 w2] := hD
  refine lv_aload_n hx hb dMo_packet_91 rfl (lv_at hl 2 rfl) ?_
  refine gfMo_74 hx hb hts hown hG hP 0 rfl rfl dMo_packet_92 ?_
  refine lv_if_le (tgt := 100) hx hb dMo_packet_95 rfl (fun h => absurd h (by decide)) (fun _ => ?_)
  refine lv_iconst (v := nI 0) hx hb dMo_packet_98 (by decide) ?_
  exact cq_iret () (trivial) hx hb hr hlk hP hS (rfl) (rfl) dMo_packet_99
set_option maxHeartbeats 4000000 in
set_option maxRecDepth 100000 in
theorem k_Mo_packet_e2 (l : Launch) (G : gG) (oy : Nat) (r : Nat → Nat) (th : Int32) (fi se : Int64) (d : Int32) (sh sl : Int64) (az : Int32) (oh ol w0 w1 w2 : Int64) (c4 : Nat) (hc : c4 < 4) (n1 : Int32) (per : Nat → Int32) (hq : per c4 = nI 0) : Ck l G yMo_packet cMo_packet 8 (some .int) { frames := 5, cells := 0, slots := 0, locals := 127 } [.ref oy, .int (nI c4), .int n1] [moC oy r th fi se d sh sl az oh ol w0 w1 w2, aI G (r 7) 4 per] (some (.int (nI 0))) [moC oy r (nI 2) fi se d sh sl az oh ol w0 w1 w2, aI G (r 7) 4 per] := by
  refine Cq.of (by decide) (Nat.le_of_ble_eq_true rfl) ?_
  intro p e s m args below meth c A ls hx hb hr hml hts hown hlk hA hP hD hG hS hl
  have hci := jIn_nI (show 4 < 2 ^ 31 by decide) hc
  have hl : lv_has ls 8 [(0, .ref oy), (1, .int (nI c4)), (2, .int n1)] := hl
  refine lv_iload_n hx hb dMo_packet_0 rfl (lv_at hl 1 rfl) ?_
  refine clMo_162 (As := [.int (nI c4)]) (rest := []) hx hb hml hown hts (k_Mo_isChannel l G (nI c4)) hG hA hP hD hS [] rfl rfl (fun _ => rfl) rfl hl.1 rfl (Nat.le_of_ble_eq_true rfl) ⟨by decide, by decide⟩ ⟨by decide, by decide⟩ dMo_packet_1 (fun _ H locs _ hP hD hS => ?_)
  have hP : va_P G.1 vwCl [moC oy r th fi se d sh sl az oh ol w0 w1 w2, aI G (r 7) 4 per] H := hP
  have hD : va_D A [moC oy r th fi se d sh sl az oh ol w0 w1 w2, aI G (r 7) 4 per] := hD
  refine W.cs (cells' := 0) (slots' := 0) rfl rfl ?_
  refine W.eq (g2 := F0 m 4 ls [.int (jB (jIn 4 (nI c4)))]) rfl ?_
  refine lv_if_eq (tgt := 20) hx hb dMo_packet_4 rfl (fun h => absurd h (by rw [hci]; decide)) (fun _ => ?_)
  refine lv_aload_n hx hb dMo_packet_7 rfl (lv_at hl 0 rfl) ?_
  refine gfMo_32 hx hb hts hown hG hP 0 rfl rfl dMo_packet_8 ?_
  refine lv_iload_n hx hb dMo_packet_11 rfl (lv_at hl 1 rfl) ?_
  refine ck_iald hx hb hG hP 1 rfl (by decide) c4 (rfl) (hc) dMo_packet_12 ?_
  refine ck_ri (y := nI 0) (hq) ?_
  refine lv_if_le (tgt := 20) hx hb dMo_packet_13 rfl (fun _ => ?_) (fun h => absurd (by decide) h)
  refine lv_iconst (v := nI 0) hx hb dMo_packet_20 (by decide) ?_
  refine lv_istore_n (lv' := [(3, .int (nI 0)), (0, .ref oy), (1, .int (nI c4)), (2, .int n1)]) hx hb dMo_packet_21 rfl hl (by decide) rfl (fun ls hl => ?_)
  refine lv_iload_n hx hb dMo_packet_22 rfl (lv_at hl 0 rfl) ?_
  refine lv_if_eq (tgt := 50) hx hb dMo_packet_23 rfl (fun _ => ?_) (fun h => absurd (rfl) h)
  refine lv_iconst (v := nI 1) hx hb dMo_packet_50 (by decide) ?_
  refine lv_istore (lv' := [(4, .int (nI 1)), (3, .int (nI 0)), (0, .ref oy), (1, .int (nI c4)), (2, .int n1)]) hx hb dMo_packet_51 hl (by decide) rfl (fun ls hl => ?_)
  refine lv_aload_n hx hb dMo_packet_53 rfl (lv_at hl 2 rfl) ?_
  refine lv_iload_n hx hb dMo_packet_54 rfl (lv_at hl 3 rfl) ?_
  refine clMo_162 (As := [.int (nI c4)]) (rest := [.ref oy]) hx hb hml hown hts (k_Mo_isChannel l G (nI c4)) hG hA hP hD hS [] rfl rfl (fun _ => rfl) rfl hl.1 rfl (Nat.le_of_ble_eq_true rfl) ⟨by decide, by decide⟩ ⟨by decide, by decide⟩ dMo_packet_55 (fun _ H locs _ hP hD hS => ?_)
  have hP : va_P G.1 vwCl [moC oy r th fi se d sh sl az oh ol w0 w1 w2, aI G (r 7) 4 per] H := hP
  have hD : va_D A [moC oy r th fi se d sh sl az oh ol w0 w1 w2, aI G (r 7) 4 per] := hD
  refine W.cs (cells' := 0) (slots' := 0) rfl rfl ?_
  refine W.eq (g2 := F0 m 58 ls [.int (jB (jIn 4 (nI c4))), .ref oy]) rfl ?_
  refine lv_if_ne (tgt := 65) hx hb dMo_packet_58 rfl (fun _ => ?_) (fun h => absurd h (by rw [hci]; decide))
  refine lv_iload_n hx hb dMo_packet_65 rfl (lv_at hl 1 rfl) ?_
  refine lv_if_ne (tgt := 73) hx hb dMo_packet_66 rfl (fun h => absurd (rfl) h) (fun _ => ?_)
  refine lv_iconst (v := nI 2) hx hb dMo_packet_69 (by decide) ?_
  refine lv_goto (tgt := 88) hx hb dMo_packet_70 rfl ?_
  refine pfMo_74 hx hb hts hown hG hP hD hS 0 rfl rfl rfl (Nat.le_of_ble_eq_true rfl) dMo_packet_88 (fun H locs hP hD hS => ?_)
  have hP : va_P G.1 vwCl [moC oy r (nI 2) fi se d sh sl az oh ol w0 w1 w2, aI G (r 7) 4 per] H := hP
  have hD : va_D A [moC oy r (nI 2) fi se d sh sl az oh ol w0 w1 w2, aI G (r 7) 4 per] := hD
  refine lv_aload_n hx hb dMo_packet_91 rfl (lv_at hl 2 rfl) ?_
  refine gfMo_74 hx hb hts hown hG hP 0 rfl rfl dMo_packet_92 ?_
  refine lv_if_le (tgt := 100) hx hb dMo_packet_95 rfl (fun h => absurd h (by decide)) (fun _ => ?_)
  refine lv_iconst (v := nI 0) hx hb dMo_packet_98 (by decide) ?_
  exact cq_iret () (trivial) hx hb hr hlk hP hS (rfl) (rfl) dMo_packet_99
set_option maxHeartbeats 4000000 in
set_option maxRecDepth 100000 in
theorem k_Mo_packet_e3 (l : Launch) (G : gG) (oy : Nat) (r : Nat → Nat) (th : Int32) (fi se : Int64) (d : Int32) (sh sl : Int64) (az : Int32) (oh ol w0 w1 w2 : Int64) (c4 : Nat) (hc : c4 < 4) (n1 : Int32) (per ss : Nat → Int32) (q sz : Nat) (hq : per c4 = nI q) (hq1 : 0 < q) (hq2 : q < 2 ^ 16) (hs : ss c4 = nI sz) (hs2 : sz ≤ 128) (hn : jIn (jPk sz) n1 = false) : Ck l G yMo_packet cMo_packet 8 (some .int) { frames := 5, cells := 0, slots := 0, locals := 127 } [.ref oy, .int (nI c4), .int n1] [moC oy r th fi se d sh sl az oh ol w0 w1 w2, aI G (r 7) 4 per, aI G (r 10) 4 ss] (some (.int (nI 0))) [moC oy r (nI 3) fi se d sh sl az oh ol w0 w1 w2, aI G (r 7) 4 per, aI G (r 10) 4 ss] := by
  refine Cq.of (by decide) (Nat.le_of_ble_eq_true rfl) ?_
  intro p e s m args below meth c A ls hx hb hr hml hts hown hlk hA hP hD hG hS hl
  have hci := jIn_nI (show 4 < 2 ^ 31 by decide) hc
  have hl : lv_has ls 8 [(0, .ref oy), (1, .int (nI c4)), (2, .int n1)] := hl
  refine lv_iload_n hx hb dMo_packet_0 rfl (lv_at hl 1 rfl) ?_
  refine clMo_162 (As := [.int (nI c4)]) (rest := []) hx hb hml hown hts (k_Mo_isChannel l G (nI c4)) hG hA hP hD hS [] rfl rfl (fun _ => rfl) rfl hl.1 rfl (Nat.le_of_ble_eq_true rfl) ⟨by decide, by decide⟩ ⟨by decide, by decide⟩ dMo_packet_1 (fun _ H locs _ hP hD hS => ?_)
  have hP : va_P G.1 vwCl [moC oy r th fi se d sh sl az oh ol w0 w1 w2, aI G (r 7) 4 per, aI G (r 10) 4 ss] H := hP
  have hD : va_D A [moC oy r th fi se d sh sl az oh ol w0 w1 w2, aI G (r 7) 4 per, aI G (r 10) 4 ss] := hD
  refine W.cs (cells' := 0) (slots' := 0) rfl rfl ?_
  refine W.eq (g2 := F0 m 4 ls [.int (jB (jIn 4 (nI c4)))]) rfl ?_
  refine lv_if_eq (tgt := 20) hx hb dMo_packet_4 rfl (fun h => absurd h (by rw [hci]; decide)) (fun _ => ?_)
  refine lv_aload_n hx hb dMo_packet_7 rfl (lv_at hl 0 rfl) ?_
  refine gfMo_32 hx hb hts hown hG hP 0 rfl rfl dMo_packet_8 ?_
  refine lv_iload_n hx hb dMo_packet_11 rfl (lv_at hl 1 rfl) ?_
  refine ck_iald hx hb hG hP 1 rfl (by decide) c4 (rfl) (hc) dMo_packet_12 ?_
  refine ck_ri (y := nI q) (hq) ?_
  refine lv_if_le (tgt := 20) hx hb dMo_packet_13 rfl (fun h => absurd h (fun z => by have := (nI_leI (b := 0) (by omega) (by omega)).mp z; omega)) (fun _ => ?_)
  refine lv_iconst (v := nI 1) hx hb dMo_packet_16 (by decide) ?_
  refine lv_goto (tgt := 21) hx hb dMo_packet_17 rfl ?_
  refine lv_istore_n (lv' := [(3, .int (nI 1)), (0, .ref oy), (1, .int (nI c4)), (2, .int n1)]) hx hb dMo_packet_21 rfl hl (by decide) rfl (fun ls hl => ?_)
  refine lv_iload_n hx hb dMo_packet_22 rfl (lv_at hl 0 rfl) ?_
  refine lv_if_eq (tgt := 50) hx hb dMo_packet_23 rfl (fun h => absurd h (by decide)) (fun _ => ?_)
  refine lv_aload_n hx hb dMo_packet_26 rfl (lv_at hl 1 rfl) ?_
  refine gfMo_42 hx hb hts hown hG hP 0 rfl rfl dMo_packet_27 ?_
  refine lv_iload_n hx hb dMo_packet_30 rfl (lv_at hl 2 rfl) ?_
  refine ck_iald hx hb hG hP 2 rfl (by decide) c4 (rfl) (hc) dMo_packet_31 ?_
  refine ck_ri (y := nI sz) (hs) ?_
  refine lv_if_le (tgt := 50) hx hb dMo_packet_32 rfl (fun hs9 => ?_) (fun hs9 => ?_)
  · have hs8 : sz = 0 := by have := (nI_leI (b := 0) (by omega) (by omega)).mp hs9; omega
    refine lv_iconst (v := nI 1) hx hb dMo_packet_50 (by decide) ?_
    refine ck_ri (y := nI (jPk sz)) (by rw [hs8]; rfl) ?_
    refine lv_istore (lv' := [(4, .int (nI (jPk sz))), (3, .int (nI 1)), (0, .ref oy), (1, .int (nI c4)), (2, .int n1)]) hx hb dMo_packet_51 hl (by decide) rfl (fun ls hl => ?_)
    refine lv_aload_n hx hb dMo_packet_53 rfl (lv_at hl 2 rfl) ?_
    refine lv_iload_n hx hb dMo_packet_54 rfl (lv_at hl 3 rfl) ?_
    refine clMo_162 (As := [.int (nI c4)]) (rest := [.ref oy]) hx hb hml hown hts (k_Mo_isChannel l G (nI c4)) hG hA hP hD hS [] rfl rfl (fun _ => rfl) rfl hl.1 rfl (Nat.le_of_ble_eq_true rfl) ⟨by decide, by decide⟩ ⟨by decide, by decide⟩ dMo_packet_55 (fun _ H locs _ hP hD hS => ?_)
    have hP : va_P G.1 vwCl [moC oy r th fi se d sh sl az oh ol w0 w1 w2, aI G (r 7) 4 per, aI G (r 10) 4 ss] H := hP
    have hD : va_D A [moC oy r th fi se d sh sl az oh ol w0 w1 w2, aI G (r 7) 4 per, aI G (r 10) 4 ss] := hD
    refine W.cs (cells' := 0) (slots' := 0) rfl rfl ?_
    refine W.eq (g2 := F0 m 58 ls [.int (jB (jIn 4 (nI c4))), .ref oy]) rfl ?_
    refine lv_if_ne (tgt := 65) hx hb dMo_packet_58 rfl (fun _ => ?_) (fun h => absurd h (by rw [hci]; decide))
    refine lv_iload_n hx hb dMo_packet_65 rfl (lv_at hl 1 rfl) ?_
    refine lv_if_ne (tgt := 73) hx hb dMo_packet_66 rfl (fun _ => ?_) (fun h => absurd h (by decide))
    refine lv_iload_n hx hb dMo_packet_73 rfl (lv_at hl 4 rfl) ?_
    refine lv_if_lt (tgt := 83) hx hb dMo_packet_74 rfl (fun hx1 => ?_) (fun hx1 => ?_)
    · have b_h1 := decide_eq_true hx1
      refine lv_iconst (v := nI 3) hx hb dMo_packet_83 (by decide) ?_
      refine lv_goto (tgt := 88) hx hb dMo_packet_84 rfl ?_
      refine pfMo_74 hx hb hts hown hG hP hD hS 0 rfl rfl rfl (Nat.le_of_ble_eq_true rfl) dMo_packet_88 (fun H locs hP hD hS => ?_)
      have hP : va_P G.1 vwCl [moC oy r (nI 3) fi se d sh sl az oh ol w0 w1 w2, aI G (r 7) 4 per, aI G (r 10) 4 ss] H := hP
      have hD : va_D A [moC oy r (nI 3) fi se d sh sl az oh ol w0 w1 w2, aI G (r 7) 4 per, aI G (r 10) 4 ss] := hD
      refine lv_aload_n hx hb dMo_packet_91 rfl (lv_at hl 2 rfl) ?_
      refine gfMo_74 hx hb hts hown hG hP 0 rfl rfl dMo_packet_92 ?_
      refine lv_if_le (tgt := 100) hx hb dMo_packet_95 rfl (fun h => absurd h (by decide)) (fun _ => ?_)
      refine lv_iconst (v := nI 0) hx hb dMo_packet_98 (by decide) ?_
      exact cq_iret () (trivial) hx hb hr hlk hP hS (rfl) (rfl) dMo_packet_99
    · have b_h1 := decide_eq_false hx1
      refine lv_iload_n hx hb dMo_packet_77 rfl (lv_at hl 4 rfl) ?_
      refine lv_iload hx hb dMo_packet_78 (lv_at hl 0 rfl) ?_
      refine lv_icmp_lt (tgt := 87) hx hb dMo_packet_80 rfl (fun h => absurd h (jIn_lt hn hx1)) (fun _ => ?_)
      refine lv_iconst (v := nI 3) hx hb dMo_packet_83 (by decide) ?_
      refine lv_goto (tgt := 88) hx hb dMo_packet_84 rfl ?_
      refine pfMo_74 hx hb hts hown hG hP hD hS 0 rfl rfl rfl (Nat.le_of_ble_eq_true rfl) dMo_packet_88 (fun H locs hP hD hS => ?_)
      have hP : va_P G.1 vwCl [moC oy r (nI 3) fi se d sh sl az oh ol w0 w1 w2, aI G (r 7) 4 per, aI G (r 10) 4 ss] H := hP
      have hD : va_D A [moC oy r (nI 3) fi se d sh sl az oh ol w0 w1 w2, aI G (r 7) 4 per, aI G (r 10) 4 ss] := hD
      refine lv_aload_n hx hb dMo_packet_91 rfl (lv_at hl 2 rfl) ?_
      refine gfMo_74 hx hb hts hown hG hP 0 rfl rfl dMo_packet_92 ?_
      refine lv_if_le (tgt := 100) hx hb dMo_packet_95 rfl (fun h => absurd h (by decide)) (fun _ => ?_)
      refine lv_iconst (v := nI 0) hx hb dMo_packet_98 (by decide) ?_
      exact cq_iret () (trivial) hx hb hr hlk hP hS (rfl) (rfl) dMo_packet_99
  · have hs8 : 0 < sz := Nat.pos_of_ne_zero (fun z => hs9 (by rw [z]; decide))
    refine lv_aload_n hx hb dMo_packet_35 rfl (lv_at hl 1 rfl) ?_
    refine gfMo_42 hx hb hts hown hG hP 0 rfl rfl dMo_packet_36 ?_
    refine lv_iload_n hx hb dMo_packet_39 rfl (lv_at hl 2 rfl) ?_
    refine ck_iald hx hb hG hP 2 rfl (by decide) c4 (rfl) (hc) dMo_packet_40 ?_
    refine ck_ri (y := nI sz) (hs) ?_
    refine lv_bipush (v := nI 7) hx hb dMo_packet_41 (by decide) ?_
    refine lv_iadd hx hb dMo_packet_43 ?_
    refine ck_ri (y := nI (sz + 7)) (nI_add _ 7) ?_
    refine lv_bipush (v := nI 8) hx hb dMo_packet_44 (by decide) ?_
    refine lv_idiv hx hb dMo_packet_46 (by decide) ?_
    refine ck_ri (y := nI (jPk sz)) ((pk_div (by omega) (by omega) (by omega)).trans (congrArg nI (by unfold jPk; split <;> omega))) ?_
    refine lv_goto (tgt := 51) hx hb dMo_packet_47 rfl ?_
    refine lv_istore (lv' := [(4, .int (nI (jPk sz))), (3, .int (nI 1)), (0, .ref oy), (1, .int (nI c4)), (2, .int n1)]) hx hb dMo_packet_51 hl (by decide) rfl (fun ls hl => ?_)
    refine lv_aload_n hx hb dMo_packet_53 rfl (lv_at hl 2 rfl) ?_
    refine lv_iload_n hx hb dMo_packet_54 rfl (lv_at hl 3 rfl) ?_
    refine clMo_162 (As := [.int (nI c4)]) (rest := [.ref oy]) hx hb hml hown hts (k_Mo_isChannel l G (nI c4)) hG hA hP hD hS [] rfl rfl (fun _ => rfl) rfl hl.1 rfl (Nat.le_of_ble_eq_true rfl) ⟨by decide, by decide⟩ ⟨by decide, by decide⟩ dMo_packet_55 (fun _ H locs _ hP hD hS => ?_)
    have hP : va_P G.1 vwCl [moC oy r th fi se d sh sl az oh ol w0 w1 w2, aI G (r 7) 4 per, aI G (r 10) 4 ss] H := hP
    have hD : va_D A [moC oy r th fi se d sh sl az oh ol w0 w1 w2, aI G (r 7) 4 per, aI G (r 10) 4 ss] := hD
    refine W.cs (cells' := 0) (slots' := 0) rfl rfl ?_
    refine W.eq (g2 := F0 m 58 ls [.int (jB (jIn 4 (nI c4))), .ref oy]) rfl ?_
    refine lv_if_ne (tgt := 65) hx hb dMo_packet_58 rfl (fun _ => ?_) (fun h => absurd h (by rw [hci]; decide))
    refine lv_iload_n hx hb dMo_packet_65 rfl (lv_at hl 1 rfl) ?_
    refine lv_if_ne (tgt := 73) hx hb dMo_packet_66 rfl (fun _ => ?_) (fun h => absurd h (by decide))
    refine lv_iload_n hx hb dMo_packet_73 rfl (lv_at hl 4 rfl) ?_
    refine lv_if_lt (tgt := 83) hx hb dMo_packet_74 rfl (fun hx1 => ?_) (fun hx1 => ?_)
    · have b_h1 := decide_eq_true hx1
      refine lv_iconst (v := nI 3) hx hb dMo_packet_83 (by decide) ?_
      refine lv_goto (tgt := 88) hx hb dMo_packet_84 rfl ?_
      refine pfMo_74 hx hb hts hown hG hP hD hS 0 rfl rfl rfl (Nat.le_of_ble_eq_true rfl) dMo_packet_88 (fun H locs hP hD hS => ?_)
      have hP : va_P G.1 vwCl [moC oy r (nI 3) fi se d sh sl az oh ol w0 w1 w2, aI G (r 7) 4 per, aI G (r 10) 4 ss] H := hP
      have hD : va_D A [moC oy r (nI 3) fi se d sh sl az oh ol w0 w1 w2, aI G (r 7) 4 per, aI G (r 10) 4 ss] := hD
      refine lv_aload_n hx hb dMo_packet_91 rfl (lv_at hl 2 rfl) ?_
      refine gfMo_74 hx hb hts hown hG hP 0 rfl rfl dMo_packet_92 ?_
      refine lv_if_le (tgt := 100) hx hb dMo_packet_95 rfl (fun h => absurd h (by decide)) (fun _ => ?_)
      refine lv_iconst (v := nI 0) hx hb dMo_packet_98 (by decide) ?_
      exact cq_iret () (trivial) hx hb hr hlk hP hS (rfl) (rfl) dMo_packet_99
    · have b_h1 := decide_eq_false hx1
      refine lv_iload_n hx hb dMo_packet_77 rfl (lv_at hl 4 rfl) ?_
      refine lv_iload hx hb dMo_packet_78 (lv_at hl 0 rfl) ?_
      refine lv_icmp_lt (tgt := 87) hx hb dMo_packet_80 rfl (fun h => absurd h (jIn_lt hn hx1)) (fun _ => ?_)
      refine lv_iconst (v := nI 3) hx hb dMo_packet_83 (by decide) ?_
      refine lv_goto (tgt := 88) hx hb dMo_packet_84 rfl ?_
      refine pfMo_74 hx hb hts hown hG hP hD hS 0 rfl rfl rfl (Nat.le_of_ble_eq_true rfl) dMo_packet_88 (fun H locs hP hD hS => ?_)
      have hP : va_P G.1 vwCl [moC oy r (nI 3) fi se d sh sl az oh ol w0 w1 w2, aI G (r 7) 4 per, aI G (r 10) 4 ss] H := hP
      have hD : va_D A [moC oy r (nI 3) fi se d sh sl az oh ol w0 w1 w2, aI G (r 7) 4 per, aI G (r 10) 4 ss] := hD
      refine lv_aload_n hx hb dMo_packet_91 rfl (lv_at hl 2 rfl) ?_
      refine gfMo_74 hx hb hts hown hG hP 0 rfl rfl dMo_packet_92 ?_
      refine lv_if_le (tgt := 100) hx hb dMo_packet_95 rfl (fun h => absurd h (by decide)) (fun _ => ?_)
      refine lv_iconst (v := nI 0) hx hb dMo_packet_98 (by decide) ?_
      exact cq_iret () (trivial) hx hb hr hlk hP hS (rfl) (rfl) dMo_packet_99
set_option maxHeartbeats 4000000 in
set_option maxRecDepth 100000 in
theorem k_Mo_packet (l : Launch) (G : gG) (oy : Nat) (r : Nat → Nat) (th : Int32) (fi se : Int64) (dp : Nat) (hdp : dp ≤ 8) (sh sl : Int64) (az : Int32) (oh ol w0 w1 w2 : Int64) (c4 : Nat) (hc : c4 < 4) (n1 : Nat) (per ss : Nat → Int32) (q sz : Nat) (hq : per c4 = nI q) (hq1 : 0 < q) (hq2 : q < 2 ^ 16) (hs : ss c4 = nI sz) (hs2 : sz ≤ 128) (hn : n1 < jPk sz) (ph pl : Nat → Int64) (h1 l1 : Int64) (hph : ph c4 = h1) (hpl : pl c4 = l1) (sv sw fv fw f : Nat → Int32) (hsv : ∀ k, k < sz → sv (256 * c4 + k) = fv k ∧ sw (256 * c4 + k) = fw k) (hsub : ∀ k, k < sz → jSub dp (fv k) (fw k) = true) (ff g m0 : Nat → Nat) : Cq l G yMo_packet cMo_packet 8 (some .int) { frames := 5, cells := 0, slots := 0, locals := 127 } [.ref oy, .int (nI c4), .int (nI n1)] [moC oy r th fi se (nI dp) sh sl az oh ol w0 w1 w2, aI G (r 0) 256 ckS, aI G (r 2) 176 (bN ff), aI G (r 3) 16 (bN g), aI G (r 4) 16 (bN m0), aI G (r 7) 4 per, aJ G (r 8) 4 ph, aJ G (r 9) 4 pl, aI G (r 10) 4 ss, aI G (r 11) 1024 sv, aI G (r 12) 1024 sw, aI G (r 14) 229 f] (S := (Nat → Nat) × (Nat → Nat) × (Nat → Nat) × Int64 × Int64 × Int64 × Int64 × Int64) (fun _ => True) (fun u => some (.int (nI (5 + 28 * (jEnd sz n1 - n1 * 8))))) (fun u => [moC oy r (nI 0) u.2.2.2.1 u.2.2.2.2.1 (nI dp) sh sl (nI (5 + 28 * (jEnd sz n1 - n1 * 8))) oh ol u.2.2.2.2.2.1 u.2.2.2.2.2.2.1 u.2.2.2.2.2.2.2, aI G (r 0) 256 ckS, aI G (r 2) 176 (bN u.1), aI G (r 3) 16 (bN u.2.1), aI G (r 4) 16 (bN u.2.2.1), aI G (r 7) 4 per, aJ G (r 8) 4 ph, aJ G (r 9) 4 pl, aI G (r 10) 4 ss, aI G (r 11) 1024 sv, aI G (r 12) 1024 sw, aI G (r 14) 229 (jEts (jHd f c4 q n1 (jPk sz)) fv fw (n1 * 8) sh sl h1 l1 (jEnd sz n1 - n1 * 8))]) := by
  refine Cq.of (by decide) (Nat.le_of_ble_eq_true rfl) ?_
  intro p e s m args below meth c A ls hx hb hr hml hts hown hlk hA hP hD hG hS hl
  have hci := jIn_nI (show 4 < 2 ^ 31 by decide) hc
  have hpk : jPk sz ≤ 16 := by unfold jPk; split <;> omega
  obtain ⟨he1, he2, he3⟩ := jEnd_le hn
  have heo := jEnd_or sz n1
  have hl : lv_has ls 8 [(0, .ref oy), (1, .int (nI c4)), (2, .int (nI n1))] := hl
  refine lv_iload_n hx hb dMo_packet_0 rfl (lv_at hl 1 rfl) ?_
  refine clMo_162 (As := [.int (nI c4)]) (rest := []) hx hb hml hown hts (k_Mo_isChannel l G (nI c4)) hG hA hP hD hS [] rfl rfl (fun _ => rfl) rfl hl.1 rfl (Nat.le_of_ble_eq_true rfl) ⟨by decide, by decide⟩ ⟨by decide, by decide⟩ dMo_packet_1 (fun _ H locs _ hP hD hS => ?_)
  have hP : va_P G.1 vwCl [moC oy r th fi se (nI dp) sh sl az oh ol w0 w1 w2, aI G (r 0) 256 ckS, aI G (r 2) 176 (bN ff), aI G (r 3) 16 (bN g), aI G (r 4) 16 (bN m0), aI G (r 7) 4 per, aJ G (r 8) 4 ph, aJ G (r 9) 4 pl, aI G (r 10) 4 ss, aI G (r 11) 1024 sv, aI G (r 12) 1024 sw, aI G (r 14) 229 f] H := hP
  have hD : va_D A [moC oy r th fi se (nI dp) sh sl az oh ol w0 w1 w2, aI G (r 0) 256 ckS, aI G (r 2) 176 (bN ff), aI G (r 3) 16 (bN g), aI G (r 4) 16 (bN m0), aI G (r 7) 4 per, aJ G (r 8) 4 ph, aJ G (r 9) 4 pl, aI G (r 10) 4 ss, aI G (r 11) 1024 sv, aI G (r 12) 1024 sw, aI G (r 14) 229 f] := hD
  refine W.cs (cells' := 0) (slots' := 0) rfl rfl ?_
  refine W.eq (g2 := F0 m 4 ls [.int (jB (jIn 4 (nI c4)))]) rfl ?_
  refine lv_if_eq (tgt := 20) hx hb dMo_packet_4 rfl (fun h => absurd h (by rw [hci]; decide)) (fun _ => ?_)
  refine lv_aload_n hx hb dMo_packet_7 rfl (lv_at hl 0 rfl) ?_
  refine gfMo_32 hx hb hts hown hG hP 0 rfl rfl dMo_packet_8 ?_
  refine lv_iload_n hx hb dMo_packet_11 rfl (lv_at hl 1 rfl) ?_
  refine ck_iald hx hb hG hP 5 rfl (by decide) c4 (rfl) (hc) dMo_packet_12 ?_
  refine ck_ri (y := nI q) (hq) ?_
  refine lv_if_le (tgt := 20) hx hb dMo_packet_13 rfl (fun h => absurd h (fun z => by have := (nI_leI (b := 0) (by omega) (by omega)).mp z; omega)) (fun _ => ?_)
  refine lv_iconst (v := nI 1) hx hb dMo_packet_16 (by decide) ?_
  refine lv_goto (tgt := 21) hx hb dMo_packet_17 rfl ?_
  refine lv_istore_n (lv' := [(3, .int (nI 1)), (0, .ref oy), (1, .int (nI c4)), (2, .int (nI n1))]) hx hb dMo_packet_21 rfl hl (by decide) rfl (fun ls hl => ?_)
  refine lv_iload_n hx hb dMo_packet_22 rfl (lv_at hl 0 rfl) ?_
  refine lv_if_eq (tgt := 50) hx hb dMo_packet_23 rfl (fun h => absurd h (by decide)) (fun _ => ?_)
  refine lv_aload_n hx hb dMo_packet_26 rfl (lv_at hl 1 rfl) ?_
  refine gfMo_42 hx hb hts hown hG hP 0 rfl rfl dMo_packet_27 ?_
  refine lv_iload_n hx hb dMo_packet_30 rfl (lv_at hl 2 rfl) ?_
  refine ck_iald hx hb hG hP 8 rfl (by decide) c4 (rfl) (hc) dMo_packet_31 ?_
  refine ck_ri (y := nI sz) (hs) ?_
  refine lv_if_le (tgt := 50) hx hb dMo_packet_32 rfl (fun hs9 => ?_) (fun hs9 => ?_)
  · have hs8 : sz = 0 := by have := (nI_leI (b := 0) (by omega) (by omega)).mp hs9; omega
    refine lv_iconst (v := nI 1) hx hb dMo_packet_50 (by decide) ?_
    refine ck_ri (y := nI (jPk sz)) (by rw [hs8]; rfl) ?_
    refine lv_istore (lv' := [(4, .int (nI (jPk sz))), (3, .int (nI 1)), (0, .ref oy), (1, .int (nI c4)), (2, .int (nI n1))]) hx hb dMo_packet_51 hl (by decide) rfl (fun ls hl => ?_)
    refine lv_aload_n hx hb dMo_packet_53 rfl (lv_at hl 2 rfl) ?_
    refine lv_iload_n hx hb dMo_packet_54 rfl (lv_at hl 3 rfl) ?_
    refine clMo_162 (As := [.int (nI c4)]) (rest := [.ref oy]) hx hb hml hown hts (k_Mo_isChannel l G (nI c4)) hG hA hP hD hS [] rfl rfl (fun _ => rfl) rfl hl.1 rfl (Nat.le_of_ble_eq_true rfl) ⟨by decide, by decide⟩ ⟨by decide, by decide⟩ dMo_packet_55 (fun _ H locs _ hP hD hS => ?_)
    have hP : va_P G.1 vwCl [moC oy r th fi se (nI dp) sh sl az oh ol w0 w1 w2, aI G (r 0) 256 ckS, aI G (r 2) 176 (bN ff), aI G (r 3) 16 (bN g), aI G (r 4) 16 (bN m0), aI G (r 7) 4 per, aJ G (r 8) 4 ph, aJ G (r 9) 4 pl, aI G (r 10) 4 ss, aI G (r 11) 1024 sv, aI G (r 12) 1024 sw, aI G (r 14) 229 f] H := hP
    have hD : va_D A [moC oy r th fi se (nI dp) sh sl az oh ol w0 w1 w2, aI G (r 0) 256 ckS, aI G (r 2) 176 (bN ff), aI G (r 3) 16 (bN g), aI G (r 4) 16 (bN m0), aI G (r 7) 4 per, aJ G (r 8) 4 ph, aJ G (r 9) 4 pl, aI G (r 10) 4 ss, aI G (r 11) 1024 sv, aI G (r 12) 1024 sw, aI G (r 14) 229 f] := hD
    refine W.cs (cells' := 0) (slots' := 0) rfl rfl ?_
    refine W.eq (g2 := F0 m 58 ls [.int (jB (jIn 4 (nI c4))), .ref oy]) rfl ?_
    refine lv_if_ne (tgt := 65) hx hb dMo_packet_58 rfl (fun _ => ?_) (fun h => absurd h (by rw [hci]; decide))
    refine lv_iload_n hx hb dMo_packet_65 rfl (lv_at hl 1 rfl) ?_
    refine lv_if_ne (tgt := 73) hx hb dMo_packet_66 rfl (fun _ => ?_) (fun h => absurd h (by decide))
    refine lv_iload_n hx hb dMo_packet_73 rfl (lv_at hl 4 rfl) ?_
    refine lv_if_lt (tgt := 83) hx hb dMo_packet_74 rfl (fun h => absurd h (nI_pos (by omega))) (fun _ => ?_)
    refine lv_iload_n hx hb dMo_packet_77 rfl (lv_at hl 4 rfl) ?_
    refine lv_iload hx hb dMo_packet_78 (lv_at hl 0 rfl) ?_
    refine lv_icmp_lt (tgt := 87) hx hb dMo_packet_80 rfl (fun _ => ?_) (fun h => absurd (nI_lt hn (by omega)) h)
    refine lv_iconst (v := nI 0) hx hb dMo_packet_87 (by decide) ?_
    refine pfMo_74 hx hb hts hown hG hP hD hS 0 rfl rfl rfl (Nat.le_of_ble_eq_true rfl) dMo_packet_88 (fun H locs hP hD hS => ?_)
    have hP : va_P G.1 vwCl [moC oy r (nI 0) fi se (nI dp) sh sl az oh ol w0 w1 w2, aI G (r 0) 256 ckS, aI G (r 2) 176 (bN ff), aI G (r 3) 16 (bN g), aI G (r 4) 16 (bN m0), aI G (r 7) 4 per, aJ G (r 8) 4 ph, aJ G (r 9) 4 pl, aI G (r 10) 4 ss, aI G (r 11) 1024 sv, aI G (r 12) 1024 sw, aI G (r 14) 229 f] H := hP
    have hD : va_D A [moC oy r (nI 0) fi se (nI dp) sh sl az oh ol w0 w1 w2, aI G (r 0) 256 ckS, aI G (r 2) 176 (bN ff), aI G (r 3) 16 (bN g), aI G (r 4) 16 (bN m0), aI G (r 7) 4 per, aJ G (r 8) 4 ph, aJ G (r 9) 4 pl, aI G (r 10) 4 ss, aI G (r 11) 1024 sv, aI G (r 12) 1024 sw, aI G (r 14) 229 f] := hD
    refine lv_aload_n hx hb dMo_packet_91 rfl (lv_at hl 2 rfl) ?_
    refine gfMo_74 hx hb hts hown hG hP 0 rfl rfl dMo_packet_92 ?_
    refine lv_if_le (tgt := 100) hx hb dMo_packet_95 rfl (fun _ => ?_) (fun h => absurd (by decide) h)
    refine lv_aload_n hx hb dMo_packet_100 rfl (lv_at hl 2 rfl) ?_
    refine lv_iconst (v := nI 0) hx hb dMo_packet_101 (by decide) ?_
    refine pfMo_136 hx hb hts hown hG hP hD hS 0 rfl rfl rfl (Nat.le_of_ble_eq_true rfl) dMo_packet_102 (fun H locs hP hD hS => ?_)
    have hP : va_P G.1 vwCl [moC oy r (nI 0) fi se (nI dp) sh sl (nI 0) oh ol w0 w1 w2, aI G (r 0) 256 ckS, aI G (r 2) 176 (bN ff), aI G (r 3) 16 (bN g), aI G (r 4) 16 (bN m0), aI G (r 7) 4 per, aJ G (r 8) 4 ph, aJ G (r 9) 4 pl, aI G (r 10) 4 ss, aI G (r 11) 1024 sv, aI G (r 12) 1024 sw, aI G (r 14) 229 f] H := hP
    have hD : va_D A [moC oy r (nI 0) fi se (nI dp) sh sl (nI 0) oh ol w0 w1 w2, aI G (r 0) 256 ckS, aI G (r 2) 176 (bN ff), aI G (r 3) 16 (bN g), aI G (r 4) 16 (bN m0), aI G (r 7) 4 per, aJ G (r 8) 4 ph, aJ G (r 9) 4 pl, aI G (r 10) 4 ss, aI G (r 11) 1024 sv, aI G (r 12) 1024 sw, aI G (r 14) 229 f] := hD
    refine lv_aload_n hx hb dMo_packet_105 rfl (lv_at hl 2 rfl) ?_
    refine lv_iload_n hx hb dMo_packet_106 rfl (lv_at hl 3 rfl) ?_
    refine lv_i2l (v := (nI c4).toInt64) hx hb dMo_packet_107 rfl ?_
    refine lv_iconst (v := nI 1) hx hb dMo_packet_108 (by decide) ?_
    refine clMo_168 (As := [.long ((nI c4).toInt64), .int (nI 1)]) (rest := []) hx hb hml hown hts (k_Mo_putAir l G oy r (nI 0) fi se (nI dp) sh sl oh ol w0 w1 w2 (0) 1 (by omega) (by omega) f ((nI c4).toInt64)) hG hA hP hD hS 0 rfl [0, 11] rfl rfl (fun _ => rfl) rfl hl.1 rfl (Nat.le_of_ble_eq_true rfl) ⟨by decide, by decide⟩ ⟨by decide, by decide⟩ dMo_packet_109 (fun _ H locs _ hP hD hS => ?_)
    have hP : va_P G.1 vwCl [moC oy r (nI 0) fi se (nI dp) sh sl (nI (1)) oh ol w0 w1 w2, aI G (r 0) 256 ckS, aI G (r 2) 176 (bN ff), aI G (r 3) 16 (bN g), aI G (r 4) 16 (bN m0), aI G (r 7) 4 per, aJ G (r 8) 4 ph, aJ G (r 9) 4 pl, aI G (r 10) 4 ss, aI G (r 11) 1024 sv, aI G (r 12) 1024 sw, aI G (r 14) 229 (jPut ((nI c4).toInt64) 1 (0) f 1)] H := hP
    have hD : va_D A [moC oy r (nI 0) fi se (nI dp) sh sl (nI (1)) oh ol w0 w1 w2, aI G (r 0) 256 ckS, aI G (r 2) 176 (bN ff), aI G (r 3) 16 (bN g), aI G (r 4) 16 (bN m0), aI G (r 7) 4 per, aJ G (r 8) 4 ph, aJ G (r 9) 4 pl, aI G (r 10) 4 ss, aI G (r 11) 1024 sv, aI G (r 12) 1024 sw, aI G (r 14) 229 (jPut ((nI c4).toInt64) 1 (0) f 1)] := hD
    refine W.cs (cells' := 0) (slots' := 0) rfl rfl ?_
    refine W.eq (g2 := F0 m 112 ls []) rfl ?_
    refine lv_aload_n hx hb dMo_packet_112 rfl (lv_at hl 2 rfl) ?_
    refine lv_aload_n hx hb dMo_packet_113 rfl (lv_at hl 2 rfl) ?_
    refine gfMo_32 hx hb hts hown hG hP 0 rfl rfl dMo_packet_114 ?_
    refine lv_iload_n hx hb dMo_packet_117 rfl (lv_at hl 3 rfl) ?_
    refine ck_iald hx hb hG hP 5 rfl (by decide) c4 (rfl) (hc) dMo_packet_118 ?_
    refine ck_ri (y := nI q) (hq) ?_
    refine lv_i2l (v := (nI q).toInt64) hx hb dMo_packet_119 rfl ?_
    refine lv_iconst (v := nI 2) hx hb dMo_packet_120 (by decide) ?_
    refine clMo_168 (As := [.long ((nI q).toInt64), .int (nI 2)]) (rest := []) hx hb hml hown hts (k_Mo_putAir l G oy r (nI 0) fi se (nI dp) sh sl oh ol w0 w1 w2 (1) 2 (by omega) (by omega) (jPut ((nI c4).toInt64) 1 (0) f 1) ((nI q).toInt64)) hG hA hP hD hS 0 rfl [0, 11] rfl rfl (fun _ => rfl) rfl hl.1 rfl (Nat.le_of_ble_eq_true rfl) ⟨by decide, by decide⟩ ⟨by decide, by decide⟩ dMo_packet_121 (fun _ H locs _ hP hD hS => ?_)
    have hP : va_P G.1 vwCl [moC oy r (nI 0) fi se (nI dp) sh sl (nI (3)) oh ol w0 w1 w2, aI G (r 0) 256 ckS, aI G (r 2) 176 (bN ff), aI G (r 3) 16 (bN g), aI G (r 4) 16 (bN m0), aI G (r 7) 4 per, aJ G (r 8) 4 ph, aJ G (r 9) 4 pl, aI G (r 10) 4 ss, aI G (r 11) 1024 sv, aI G (r 12) 1024 sw, aI G (r 14) 229 (jPut ((nI q).toInt64) 2 (1) (jPut ((nI c4).toInt64) 1 (0) f 1) 2)] H := hP
    have hD : va_D A [moC oy r (nI 0) fi se (nI dp) sh sl (nI (3)) oh ol w0 w1 w2, aI G (r 0) 256 ckS, aI G (r 2) 176 (bN ff), aI G (r 3) 16 (bN g), aI G (r 4) 16 (bN m0), aI G (r 7) 4 per, aJ G (r 8) 4 ph, aJ G (r 9) 4 pl, aI G (r 10) 4 ss, aI G (r 11) 1024 sv, aI G (r 12) 1024 sw, aI G (r 14) 229 (jPut ((nI q).toInt64) 2 (1) (jPut ((nI c4).toInt64) 1 (0) f 1) 2)] := hD
    refine W.cs (cells' := 0) (slots' := 0) rfl rfl ?_
    refine W.eq (g2 := F0 m 124 ls []) rfl ?_
    refine lv_aload_n hx hb dMo_packet_124 rfl (lv_at hl 2 rfl) ?_
    refine lv_iload_n hx hb dMo_packet_125 rfl (lv_at hl 4 rfl) ?_
    refine lv_i2l (v := (nI n1).toInt64) hx hb dMo_packet_126 rfl ?_
    refine lv_iconst (v := nI 1) hx hb dMo_packet_127 (by decide) ?_
    refine clMo_168 (As := [.long ((nI n1).toInt64), .int (nI 1)]) (rest := []) hx hb hml hown hts (k_Mo_putAir l G oy r (nI 0) fi se (nI dp) sh sl oh ol w0 w1 w2 (3) 1 (by omega) (by omega) (jPut ((nI q).toInt64) 2 (1) (jPut ((nI c4).toInt64) 1 (0) f 1) 2) ((nI n1).toInt64)) hG hA hP hD hS 0 rfl [0, 11] rfl rfl (fun _ => rfl) rfl hl.1 rfl (Nat.le_of_ble_eq_true rfl) ⟨by decide, by decide⟩ ⟨by decide, by decide⟩ dMo_packet_128 (fun _ H locs _ hP hD hS => ?_)
    have hP : va_P G.1 vwCl [moC oy r (nI 0) fi se (nI dp) sh sl (nI (4)) oh ol w0 w1 w2, aI G (r 0) 256 ckS, aI G (r 2) 176 (bN ff), aI G (r 3) 16 (bN g), aI G (r 4) 16 (bN m0), aI G (r 7) 4 per, aJ G (r 8) 4 ph, aJ G (r 9) 4 pl, aI G (r 10) 4 ss, aI G (r 11) 1024 sv, aI G (r 12) 1024 sw, aI G (r 14) 229 (jPut ((nI n1).toInt64) 1 (3) (jPut ((nI q).toInt64) 2 (1) (jPut ((nI c4).toInt64) 1 (0) f 1) 2) 1)] H := hP
    have hD : va_D A [moC oy r (nI 0) fi se (nI dp) sh sl (nI (4)) oh ol w0 w1 w2, aI G (r 0) 256 ckS, aI G (r 2) 176 (bN ff), aI G (r 3) 16 (bN g), aI G (r 4) 16 (bN m0), aI G (r 7) 4 per, aJ G (r 8) 4 ph, aJ G (r 9) 4 pl, aI G (r 10) 4 ss, aI G (r 11) 1024 sv, aI G (r 12) 1024 sw, aI G (r 14) 229 (jPut ((nI n1).toInt64) 1 (3) (jPut ((nI q).toInt64) 2 (1) (jPut ((nI c4).toInt64) 1 (0) f 1) 2) 1)] := hD
    refine W.cs (cells' := 0) (slots' := 0) rfl rfl ?_
    refine W.eq (g2 := F0 m 131 ls []) rfl ?_
    refine lv_aload_n hx hb dMo_packet_131 rfl (lv_at hl 2 rfl) ?_
    refine lv_iload hx hb dMo_packet_132 (lv_at hl 0 rfl) ?_
    refine lv_i2l (v := (nI (jPk sz)).toInt64) hx hb dMo_packet_134 rfl ?_
    refine lv_iconst (v := nI 1) hx hb dMo_packet_135 (by decide) ?_
    refine clMo_168 (As := [.long ((nI (jPk sz)).toInt64), .int (nI 1)]) (rest := []) hx hb hml hown hts (k_Mo_putAir l G oy r (nI 0) fi se (nI dp) sh sl oh ol w0 w1 w2 (4) 1 (by omega) (by omega) (jPut ((nI n1).toInt64) 1 (3) (jPut ((nI q).toInt64) 2 (1) (jPut ((nI c4).toInt64) 1 (0) f 1) 2) 1) ((nI (jPk sz)).toInt64)) hG hA hP hD hS 0 rfl [0, 11] rfl rfl (fun _ => rfl) rfl hl.1 rfl (Nat.le_of_ble_eq_true rfl) ⟨by decide, by decide⟩ ⟨by decide, by decide⟩ dMo_packet_136 (fun _ H locs _ hP hD hS => ?_)
    have hP : va_P G.1 vwCl [moC oy r (nI 0) fi se (nI dp) sh sl (nI (5)) oh ol w0 w1 w2, aI G (r 0) 256 ckS, aI G (r 2) 176 (bN ff), aI G (r 3) 16 (bN g), aI G (r 4) 16 (bN m0), aI G (r 7) 4 per, aJ G (r 8) 4 ph, aJ G (r 9) 4 pl, aI G (r 10) 4 ss, aI G (r 11) 1024 sv, aI G (r 12) 1024 sw, aI G (r 14) 229 (jPut ((nI (jPk sz)).toInt64) 1 (4) (jPut ((nI n1).toInt64) 1 (3) (jPut ((nI q).toInt64) 2 (1) (jPut ((nI c4).toInt64) 1 (0) f 1) 2) 1) 1)] H := hP
    have hD : va_D A [moC oy r (nI 0) fi se (nI dp) sh sl (nI (5)) oh ol w0 w1 w2, aI G (r 0) 256 ckS, aI G (r 2) 176 (bN ff), aI G (r 3) 16 (bN g), aI G (r 4) 16 (bN m0), aI G (r 7) 4 per, aJ G (r 8) 4 ph, aJ G (r 9) 4 pl, aI G (r 10) 4 ss, aI G (r 11) 1024 sv, aI G (r 12) 1024 sw, aI G (r 14) 229 (jPut ((nI (jPk sz)).toInt64) 1 (4) (jPut ((nI n1).toInt64) 1 (3) (jPut ((nI q).toInt64) 2 (1) (jPut ((nI c4).toInt64) 1 (0) f 1) 2) 1) 1)] := hD
    refine W.cs (cells' := 0) (slots' := 0) rfl rfl ?_
    refine W.eq (g2 := F0 m 139 ls []) rfl ?_
    refine lv_bipush (v := nI 8) hx hb dMo_packet_139 (by decide) ?_
    refine lv_iload_n hx hb dMo_packet_141 rfl (lv_at hl 4 rfl) ?_
    refine lv_imul hx hb dMo_packet_142 ?_
    refine ck_ri (y := nI (n1 * 8)) (by rw [pk_mul, Nat.mul_comm]) ?_
    refine lv_istore (lv' := [(5, .int (nI (n1 * 8))), (4, .int (nI (jPk sz))), (3, .int (nI 1)), (0, .ref oy), (1, .int (nI c4)), (2, .int (nI n1))]) hx hb dMo_packet_143 hl (by decide) rfl (fun ls hl => ?_)
    have loop : ∀ (k : Nat) (i : Nat) (f1 : Nat → Nat) (g1 : Nat → Nat) (m1 : Nat → Nat) (e1 : Int64) (e2 : Int64) (x0 : Int64) (x1 : Int64) (x2 : Int64) (H : Heap) (locs : List Loc) (ls : Array Slot), i + k = jEnd sz n1 - n1 * 8 → va_P G.1 vwCl [moC oy r (nI 0) e1 e2 (nI dp) sh sl (nI (5 + 28 * i)) oh ol x0 x1 x2, aI G (r 0) 256 ckS, aI G (r 2) 176 (bN f1), aI G (r 3) 16 (bN g1), aI G (r 4) 16 (bN m1), aI G (r 7) 4 per, aJ G (r 8) 4 ph, aJ G (r 9) 4 pl, aI G (r 10) 4 ss, aI G (r 11) 1024 sv, aI G (r 12) 1024 sw, aI G (r 14) 229 (jEts (jHd f c4 q n1 (jPk sz)) fv fw (n1 * 8) sh sl h1 l1 i)] H → va_D A [moC oy r (nI 0) e1 e2 (nI dp) sh sl (nI (5 + 28 * i)) oh ol x0 x1 x2, aI G (r 0) 256 ckS, aI G (r 2) 176 (bN f1), aI G (r 3) 16 (bN g1), aI G (r 4) 16 (bN m1), aI G (r 7) 4 per, aJ G (r 8) 4 ph, aJ G (r 9) 4 pl, aI G (r 10) 4 ss, aI G (r 11) 1024 sv, aI G (r 12) 1024 sw, aI G (r 14) 229 (jEts (jHd f c4 q n1 (jPk sz)) fv fw (n1 * 8) sh sl h1 l1 i)] → va_S A s.heap H locs → lv_has ls 8 [(0, .ref oy), (1, .int (nI c4)), (2, .int (nI n1)), (5, .int (nI (n1 * 8 + i)))] → W p l e { frames := 5, cells := 0, slots := 0, locals := 127 } s m args below meth c H locs 0 0 (MQ below (cq_out G (S := (Nat → Nat) × (Nat → Nat) × (Nat → Nat) × Int64 × Int64 × Int64 × Int64 × Int64) (fun _ => True) (fun u => some (.int (nI (5 + 28 * (jEnd sz n1 - n1 * 8))))) (fun u => [moC oy r (nI 0) u.2.2.2.1 u.2.2.2.2.1 (nI dp) sh sl (nI (5 + 28 * (jEnd sz n1 - n1 * 8))) oh ol u.2.2.2.2.2.1 u.2.2.2.2.2.2.1 u.2.2.2.2.2.2.2, aI G (r 0) 256 ckS, aI G (r 2) 176 (bN u.1), aI G (r 3) 16 (bN u.2.1), aI G (r 4) 16 (bN u.2.2.1), aI G (r 7) 4 per, aJ G (r 8) 4 ph, aJ G (r 9) 4 pl, aI G (r 10) 4 ss, aI G (r 11) 1024 sv, aI G (r 12) 1024 sw, aI G (r 14) 229 (jEts (jHd f c4 q n1 (jPk sz)) fv fw (n1 * 8) sh sl h1 l1 (jEnd sz n1 - n1 * 8))]) A) args s 0 0 A) (F0 m 145 ls []) := by
      intro k
      induction k with
      | zero =>
        intro i f1 g1 m1 e1 e2 x0 x1 x2 H locs ls hk hP hD hS hl
        refine lv_iload hx hb dMo_packet_145 (lv_at hl 3 rfl) ?_
        refine lv_bipush (v := nI 8) hx hb dMo_packet_147 (by decide) ?_
        refine lv_iload_n hx hb dMo_packet_149 rfl (lv_at hl 2 rfl) ?_
        refine lv_imul hx hb dMo_packet_150 ?_
        refine ck_ri (y := nI (n1 * 8)) (by rw [pk_mul, Nat.mul_comm]) ?_
        refine lv_bipush (v := nI 8) hx hb dMo_packet_151 (by decide) ?_
        refine lv_iadd hx hb dMo_packet_153 ?_
        refine ck_ri (y := nI (n1 * 8 + 8)) (nI_add _ 8) ?_
        refine lv_icmp_ge (tgt := 282) hx hb dMo_packet_154 rfl (fun h7 => ?_) (fun h7 => ?_)
        · have h6 : n1 * 8 + 8 ≤ n1 * 8 + i := (nI_leI (by omega) (by omega)).mp h7
          refine lv_aload_n hx hb dMo_packet_282 rfl (lv_at hl 0 rfl) ?_
          refine gfMo_136 hx hb hts hown hG hP 0 rfl rfl dMo_packet_283 ?_
          exact cq_iret (f1, g1, m1, e1, e2, x0, x1, x2) (trivial) hx hb hr hlk hP hS (by rw [show jEnd sz n1 - n1 * 8 = i by omega]) (by rw [show jEnd sz n1 - n1 * 8 = i by omega]) dMo_packet_286
        · have h6 : ¬ n1 * 8 + 8 ≤ n1 * 8 + i := fun z => h7 ((nI_leI (by omega) (by omega)).mpr z)
          refine lv_iload hx hb dMo_packet_157 (lv_at hl 3 rfl) ?_
          refine lv_aload_n hx hb dMo_packet_159 rfl (lv_at hl 0 rfl) ?_
          refine gfMo_42 hx hb hts hown hG hP 0 rfl rfl dMo_packet_160 ?_
          refine lv_iload_n hx hb dMo_packet_163 rfl (lv_at hl 1 rfl) ?_
          refine ck_iald hx hb hG hP 8 rfl (by decide) c4 (rfl) (hc) dMo_packet_164 ?_
          refine ck_ri (y := nI sz) (hs) ?_
          refine lv_icmp_ge (tgt := 282) hx hb dMo_packet_165 rfl (fun _ => ?_) (fun h => absurd (nI_le (by omega) (by omega)) h)
          refine lv_aload_n hx hb dMo_packet_282 rfl (lv_at hl 0 rfl) ?_
          refine gfMo_136 hx hb hts hown hG hP 0 rfl rfl dMo_packet_283 ?_
          exact cq_iret (f1, g1, m1, e1, e2, x0, x1, x2) (trivial) hx hb hr hlk hP hS (by rw [show jEnd sz n1 - n1 * 8 = i by omega]) (by rw [show jEnd sz n1 - n1 * 8 = i by omega]) dMo_packet_286
      | succ k ih =>
        intro i f1 g1 m1 e1 e2 x0 x1 x2 H locs ls hk hP hD hS hl
        refine lv_iload hx hb dMo_packet_145 (lv_at hl 3 rfl) ?_
        refine lv_bipush (v := nI 8) hx hb dMo_packet_147 (by decide) ?_
        refine lv_iload_n hx hb dMo_packet_149 rfl (lv_at hl 2 rfl) ?_
        refine lv_imul hx hb dMo_packet_150 ?_
        refine ck_ri (y := nI (n1 * 8)) (by rw [pk_mul, Nat.mul_comm]) ?_
        refine lv_bipush (v := nI 8) hx hb dMo_packet_151 (by decide) ?_
        refine lv_iadd hx hb dMo_packet_153 ?_
        refine ck_ri (y := nI (n1 * 8 + 8)) (nI_add _ 8) ?_
        refine lv_icmp_ge (tgt := 282) hx hb dMo_packet_154 rfl (fun h => absurd h (nI_ge (by omega) (by omega))) (fun _ => ?_)
        refine lv_iload hx hb dMo_packet_157 (lv_at hl 3 rfl) ?_
        refine lv_aload_n hx hb dMo_packet_159 rfl (lv_at hl 0 rfl) ?_
        refine gfMo_42 hx hb hts hown hG hP 0 rfl rfl dMo_packet_160 ?_
        refine lv_iload_n hx hb dMo_packet_163 rfl (lv_at hl 1 rfl) ?_
        refine ck_iald hx hb hG hP 8 rfl (by decide) c4 (rfl) (hc) dMo_packet_164 ?_
        refine ck_ri (y := nI sz) (hs) ?_
        refine lv_icmp_ge (tgt := 282) hx hb dMo_packet_165 rfl (fun h => absurd h (nI_ge (by omega) (by omega))) (fun _ => ?_)
        refine lv_aload_n hx hb dMo_packet_168 rfl (lv_at hl 0 rfl) ?_
        refine gfMo_45 hx hb hts hown hG hP 0 rfl rfl dMo_packet_169 ?_
        refine lv_sipush (v := nI 256) hx hb dMo_packet_172 (by decide) ?_
        refine lv_iload_n hx hb dMo_packet_175 rfl (lv_at hl 1 rfl) ?_
        refine lv_imul hx hb dMo_packet_176 ?_
        refine ck_ri (y := nI (256 * c4)) (pk_mul 256 _) ?_
        refine lv_iload hx hb dMo_packet_177 (lv_at hl 3 rfl) ?_
        refine lv_iadd hx hb dMo_packet_179 ?_
        refine ck_ri (y := nI (256 * c4 + (n1 * 8 + i))) (nI_add _ _) ?_
        refine ck_iald hx hb hG hP 9 rfl (by decide) (256 * c4 + (n1 * 8 + i)) (rfl) (by omega) dMo_packet_180 ?_
        refine ck_ri (y := fv (n1 * 8 + i)) ((hsv _ (by omega)).1) ?_
        refine lv_istore (lv' := [(6, .int (fv (n1 * 8 + i))), (0, .ref oy), (1, .int (nI c4)), (2, .int (nI n1)), (5, .int (nI (n1 * 8 + i)))]) hx hb dMo_packet_181 hl (by decide) rfl (fun ls hl => ?_)
        refine lv_aload_n hx hb dMo_packet_183 rfl (lv_at hl 1 rfl) ?_
        refine gfMo_48 hx hb hts hown hG hP 0 rfl rfl dMo_packet_184 ?_
        refine lv_sipush (v := nI 256) hx hb dMo_packet_187 (by decide) ?_
        refine lv_iload_n hx hb dMo_packet_190 rfl (lv_at hl 2 rfl) ?_
        refine lv_imul hx hb dMo_packet_191 ?_
        refine ck_ri (y := nI (256 * c4)) (pk_mul 256 _) ?_
        refine lv_iload hx hb dMo_packet_192 (lv_at hl 4 rfl) ?_
        refine lv_iadd hx hb dMo_packet_194 ?_
        refine ck_ri (y := nI (256 * c4 + (n1 * 8 + i))) (nI_add _ _) ?_
        refine ck_iald hx hb hG hP 10 rfl (by decide) (256 * c4 + (n1 * 8 + i)) (rfl) (by omega) dMo_packet_195 ?_
        refine ck_ri (y := fw (n1 * 8 + i)) ((hsv _ (by omega)).2) ?_
        refine lv_istore (lv' := [(7, .int (fw (n1 * 8 + i))), (6, .int (fv (n1 * 8 + i))), (0, .ref oy), (1, .int (nI c4)), (2, .int (nI n1)), (5, .int (nI (n1 * 8 + i)))]) hx hb dMo_packet_196 hl (by decide) rfl (fun ls hl => ?_)
        refine lv_aload_n hx hb dMo_packet_198 rfl (lv_at hl 2 rfl) ?_
        refine lv_iload hx hb dMo_packet_199 (lv_at hl 1 rfl) ?_
        refine lv_i2l (v := (fv (n1 * 8 + i)).toInt64) hx hb dMo_packet_201 rfl ?_
        refine lv_iconst (v := nI 2) hx hb dMo_packet_202 (by decide) ?_
        refine clMo_168 (As := [.long ((fv (n1 * 8 + i)).toInt64), .int (nI 2)]) (rest := []) hx hb hml hown hts (k_Mo_putAir l G oy r (nI 0) e1 e2 (nI dp) sh sl oh ol x0 x1 x2 (5 + 28 * i) 2 (by omega) (by omega) (jEts (jHd f c4 q n1 (jPk sz)) fv fw (n1 * 8) sh sl h1 l1 i) ((fv (n1 * 8 + i)).toInt64)) hG hA hP hD hS 0 rfl [0, 11] rfl rfl (fun _ => rfl) rfl hl.1 rfl (Nat.le_of_ble_eq_true rfl) ⟨by decide, by decide⟩ ⟨by decide, by decide⟩ dMo_packet_203 (fun _ H locs _ hP hD hS => ?_)
        have hP : va_P G.1 vwCl [moC oy r (nI 0) e1 e2 (nI dp) sh sl (nI (5 + 28 * i + 2)) oh ol x0 x1 x2, aI G (r 0) 256 ckS, aI G (r 2) 176 (bN f1), aI G (r 3) 16 (bN g1), aI G (r 4) 16 (bN m1), aI G (r 7) 4 per, aJ G (r 8) 4 ph, aJ G (r 9) 4 pl, aI G (r 10) 4 ss, aI G (r 11) 1024 sv, aI G (r 12) 1024 sw, aI G (r 14) 229 (jPut ((fv (n1 * 8 + i)).toInt64) 2 (5 + 28 * i) (jEts (jHd f c4 q n1 (jPk sz)) fv fw (n1 * 8) sh sl h1 l1 i) 2)] H := hP
        have hD : va_D A [moC oy r (nI 0) e1 e2 (nI dp) sh sl (nI (5 + 28 * i + 2)) oh ol x0 x1 x2, aI G (r 0) 256 ckS, aI G (r 2) 176 (bN f1), aI G (r 3) 16 (bN g1), aI G (r 4) 16 (bN m1), aI G (r 7) 4 per, aJ G (r 8) 4 ph, aJ G (r 9) 4 pl, aI G (r 10) 4 ss, aI G (r 11) 1024 sv, aI G (r 12) 1024 sw, aI G (r 14) 229 (jPut ((fv (n1 * 8 + i)).toInt64) 2 (5 + 28 * i) (jEts (jHd f c4 q n1 (jPk sz)) fv fw (n1 * 8) sh sl h1 l1 i) 2)] := hD
        refine W.cs (cells' := 0) (slots' := 0) rfl rfl ?_
        refine W.eq (g2 := F0 m 206 ls []) rfl ?_
        refine lv_aload_n hx hb dMo_packet_206 rfl (lv_at hl 2 rfl) ?_
        refine lv_iload hx hb dMo_packet_207 (lv_at hl 0 rfl) ?_
        refine lv_i2l (v := (fw (n1 * 8 + i)).toInt64) hx hb dMo_packet_209 rfl ?_
        refine lv_iconst (v := nI 2) hx hb dMo_packet_210 (by decide) ?_
        refine clMo_168 (As := [.long ((fw (n1 * 8 + i)).toInt64), .int (nI 2)]) (rest := []) hx hb hml hown hts (k_Mo_putAir l G oy r (nI 0) e1 e2 (nI dp) sh sl oh ol x0 x1 x2 (5 + 28 * i + 2) 2 (by omega) (by omega) (jPut ((fv (n1 * 8 + i)).toInt64) 2 (5 + 28 * i) (jEts (jHd f c4 q n1 (jPk sz)) fv fw (n1 * 8) sh sl h1 l1 i) 2) ((fw (n1 * 8 + i)).toInt64)) hG hA hP hD hS 0 rfl [0, 11] rfl rfl (fun _ => rfl) rfl hl.1 rfl (Nat.le_of_ble_eq_true rfl) ⟨by decide, by decide⟩ ⟨by decide, by decide⟩ dMo_packet_211 (fun _ H locs _ hP hD hS => ?_)
        have hP : va_P G.1 vwCl [moC oy r (nI 0) e1 e2 (nI dp) sh sl (nI (5 + 28 * i + 4)) oh ol x0 x1 x2, aI G (r 0) 256 ckS, aI G (r 2) 176 (bN f1), aI G (r 3) 16 (bN g1), aI G (r 4) 16 (bN m1), aI G (r 7) 4 per, aJ G (r 8) 4 ph, aJ G (r 9) 4 pl, aI G (r 10) 4 ss, aI G (r 11) 1024 sv, aI G (r 12) 1024 sw, aI G (r 14) 229 (jPut ((fw (n1 * 8 + i)).toInt64) 2 (5 + 28 * i + 2) (jPut ((fv (n1 * 8 + i)).toInt64) 2 (5 + 28 * i) (jEts (jHd f c4 q n1 (jPk sz)) fv fw (n1 * 8) sh sl h1 l1 i) 2) 2)] H := hP
        have hD : va_D A [moC oy r (nI 0) e1 e2 (nI dp) sh sl (nI (5 + 28 * i + 4)) oh ol x0 x1 x2, aI G (r 0) 256 ckS, aI G (r 2) 176 (bN f1), aI G (r 3) 16 (bN g1), aI G (r 4) 16 (bN m1), aI G (r 7) 4 per, aJ G (r 8) 4 ph, aJ G (r 9) 4 pl, aI G (r 10) 4 ss, aI G (r 11) 1024 sv, aI G (r 12) 1024 sw, aI G (r 14) 229 (jPut ((fw (n1 * 8 + i)).toInt64) 2 (5 + 28 * i + 2) (jPut ((fv (n1 * 8 + i)).toInt64) 2 (5 + 28 * i) (jEts (jHd f c4 q n1 (jPk sz)) fv fw (n1 * 8) sh sl h1 l1 i) 2) 2)] := hD
        refine W.cs (cells' := 0) (slots' := 0) rfl rfl ?_
        refine W.eq (g2 := F0 m 214 ls []) rfl ?_
        refine lv_aload_n hx hb dMo_packet_214 rfl (lv_at hl 2 rfl) ?_
        refine lv_iload hx hb dMo_packet_215 (lv_at hl 1 rfl) ?_
        refine lv_iload hx hb dMo_packet_217 (lv_at hl 0 rfl) ?_
        refine clMo_172 (As := [.int (fv (n1 * 8 + i)), .int (fw (n1 * 8 + i))]) (rest := []) hx hb hml hown hts (k_Mo_makeKy l G oy r (nI 0) e1 e2 dp hdp sh sl (nI (5 + 28 * i + 4)) oh ol x0 x1 x2 f1 g1 m1 (fv (n1 * 8 + i)) (fw (n1 * 8 + i)) (hsub _ (by omega))) hG hA hP hD hS 0 rfl [0, 1, 2, 3, 4] rfl rfl (fun _ => rfl) rfl hl.1 rfl (Nat.le_of_ble_eq_true rfl) ⟨by decide, by decide⟩ ⟨by decide, by decide⟩ dMo_packet_219 (fun u8 H locs _ hP hD hS => ?_)
        have hP : va_P G.1 vwCl [moC oy r (nI 0) ((jKy sh sl (fv (n1 * 8 + i)) (fw (n1 * 8 + i)) (jLv (fw (n1 * 8 + i)) (fv (n1 * 8 + i)))).1) ((jKy sh sl (fv (n1 * 8 + i)) (fw (n1 * 8 + i)) (jLv (fw (n1 * 8 + i)) (fv (n1 * 8 + i)))).2) (nI dp) sh sl (nI (5 + 28 * i + 4)) oh ol x0 x1 x2, aI G (r 0) 256 ckS, aI G (r 2) 176 (bN u8.1), aI G (r 3) 16 (bN u8.2.1), aI G (r 4) 16 (bN u8.2.2), aI G (r 7) 4 per, aJ G (r 8) 4 ph, aJ G (r 9) 4 pl, aI G (r 10) 4 ss, aI G (r 11) 1024 sv, aI G (r 12) 1024 sw, aI G (r 14) 229 (jPut ((fw (n1 * 8 + i)).toInt64) 2 (5 + 28 * i + 2) (jPut ((fv (n1 * 8 + i)).toInt64) 2 (5 + 28 * i) (jEts (jHd f c4 q n1 (jPk sz)) fv fw (n1 * 8) sh sl h1 l1 i) 2) 2)] H := hP
        have hD : va_D A [moC oy r (nI 0) ((jKy sh sl (fv (n1 * 8 + i)) (fw (n1 * 8 + i)) (jLv (fw (n1 * 8 + i)) (fv (n1 * 8 + i)))).1) ((jKy sh sl (fv (n1 * 8 + i)) (fw (n1 * 8 + i)) (jLv (fw (n1 * 8 + i)) (fv (n1 * 8 + i)))).2) (nI dp) sh sl (nI (5 + 28 * i + 4)) oh ol x0 x1 x2, aI G (r 0) 256 ckS, aI G (r 2) 176 (bN u8.1), aI G (r 3) 16 (bN u8.2.1), aI G (r 4) 16 (bN u8.2.2), aI G (r 7) 4 per, aJ G (r 8) 4 ph, aJ G (r 9) 4 pl, aI G (r 10) 4 ss, aI G (r 11) 1024 sv, aI G (r 12) 1024 sw, aI G (r 14) 229 (jPut ((fw (n1 * 8 + i)).toInt64) 2 (5 + 28 * i + 2) (jPut ((fv (n1 * 8 + i)).toInt64) 2 (5 + 28 * i) (jEts (jHd f c4 q n1 (jPk sz)) fv fw (n1 * 8) sh sl h1 l1 i) 2) 2)] := hD
        refine W.cs (cells' := 0) (slots' := 0) rfl rfl ?_
        refine W.eq (g2 := F0 m 222 ls []) rfl ?_
        refine lv_aload_n hx hb dMo_packet_222 rfl (lv_at hl 2 rfl) ?_
        refine lv_aload_n hx hb dMo_packet_223 rfl (lv_at hl 2 rfl) ?_
        refine gfMo_82 hx hb hts hown hG hP 0 rfl rfl dMo_packet_224 ?_
        refine lv_aload_n hx hb dMo_packet_227 rfl (lv_at hl 2 rfl) ?_
        refine gfMo_86 hx hb hts hown hG hP 0 rfl rfl dMo_packet_228 ?_
        refine lv_aload_n hx hb dMo_packet_231 rfl (lv_at hl 2 rfl) ?_
        refine gfMo_35 hx hb hts hown hG hP 0 rfl rfl dMo_packet_232 ?_
        refine lv_iload_n hx hb dMo_packet_235 rfl (lv_at hl 3 rfl) ?_
        refine ck_lald hx hb hG hP 6 rfl (by decide) c4 (rfl) (hc) dMo_packet_236 ?_
        refine ck_rl (y := h1) (hph) ?_
        refine lv_aload_n hx hb dMo_packet_237 rfl (lv_at hl 2 rfl) ?_
        refine gfMo_39 hx hb hts hown hG hP 0 rfl rfl dMo_packet_238 ?_
        refine lv_iload_n hx hb dMo_packet_241 rfl (lv_at hl 3 rfl) ?_
        refine ck_lald hx hb hG hP 7 rfl (by decide) c4 (rfl) (hc) dMo_packet_242 ?_
        refine ck_rl (y := l1) (hpl) ?_
        have hC9 := k_Mo_wrp l G oy r (nI 0) ((jKy sh sl (fv (n1 * 8 + i)) (fw (n1 * 8 + i)) (jLv (fw (n1 * 8 + i)) (fv (n1 * 8 + i)))).1) ((jKy sh sl (fv (n1 * 8 + i)) (fw (n1 * 8 + i)) (jLv (fw (n1 * 8 + i)) (fv (n1 * 8 + i)))).2) (nI dp) sh sl (nI (5 + 28 * i + 4)) oh ol x0 x1 x2 u8.1 u8.2.1 u8.2.2 (jKy sh sl (fv (n1 * 8 + i)) (fw (n1 * 8 + i)) (jLv (fw (n1 * 8 + i)) (fv (n1 * 8 + i)))).1 (jKy sh sl (fv (n1 * 8 + i)) (fw (n1 * 8 + i)) (jLv (fw (n1 * 8 + i)) (fv (n1 * 8 + i)))).2 h1 l1
        have e9 : jEts (jHd f c4 q n1 (jPk sz)) fv fw (n1 * 8) sh sl h1 l1 (i + 1) = jEnt (5 + 28 * i) (jEts (jHd f c4 q n1 (jPk sz)) fv fw (n1 * 8) sh sl h1 l1 i) (fv (n1 * 8 + i)) (fw (n1 * 8 + i)) (jWr (jKey (jKy sh sl (fv (n1 * 8 + i)) (fw (n1 * 8 + i)) (jLv (fw (n1 * 8 + i)) (fv (n1 * 8 + i)))).1 (jKy sh sl (fv (n1 * 8 + i)) (fw (n1 * 8 + i)) (jLv (fw (n1 * 8 + i)) (fv (n1 * 8 + i)))).2) (jSeal, h1, l1) 12) := rfl
        generalize jWr (jKey (jKy sh sl (fv (n1 * 8 + i)) (fw (n1 * 8 + i)) (jLv (fw (n1 * 8 + i)) (fv (n1 * 8 + i)))).1 (jKy sh sl (fv (n1 * 8 + i)) (fw (n1 * 8 + i)) (jLv (fw (n1 * 8 + i)) (fv (n1 * 8 + i)))).2) (jSeal, h1, l1) 12 = q3 at hC9 e9
        refine clMo_175 (As := [.long ((jKy sh sl (fv (n1 * 8 + i)) (fw (n1 * 8 + i)) (jLv (fw (n1 * 8 + i)) (fv (n1 * 8 + i)))).1), .long ((jKy sh sl (fv (n1 * 8 + i)) (fw (n1 * 8 + i)) (jLv (fw (n1 * 8 + i)) (fv (n1 * 8 + i)))).2), .long h1, .long l1]) (rest := []) hx hb hml hown hts hC9 hG hA hP hD hS 0 rfl [0, 1, 2, 3, 4] rfl rfl (fun _ => rfl) rfl hl.1 rfl (Nat.le_of_ble_eq_true rfl) ⟨by decide, by decide⟩ ⟨by decide, by decide⟩ dMo_packet_243 (fun u9 H locs _ hP hD hS => ?_)
        have hP : va_P G.1 vwCl [moC oy r (nI 0) u9.2.2.2.1 u9.2.2.2.2 (nI dp) sh sl (nI (5 + 28 * i + 4)) oh ol q3.1 q3.2.1 q3.2.2, aI G (r 0) 256 ckS, aI G (r 2) 176 (bN u9.1), aI G (r 3) 16 (bN u9.2.1), aI G (r 4) 16 (bN u9.2.2.1), aI G (r 7) 4 per, aJ G (r 8) 4 ph, aJ G (r 9) 4 pl, aI G (r 10) 4 ss, aI G (r 11) 1024 sv, aI G (r 12) 1024 sw, aI G (r 14) 229 (jPut ((fw (n1 * 8 + i)).toInt64) 2 (5 + 28 * i + 2) (jPut ((fv (n1 * 8 + i)).toInt64) 2 (5 + 28 * i) (jEts (jHd f c4 q n1 (jPk sz)) fv fw (n1 * 8) sh sl h1 l1 i) 2) 2)] H := hP
        have hD : va_D A [moC oy r (nI 0) u9.2.2.2.1 u9.2.2.2.2 (nI dp) sh sl (nI (5 + 28 * i + 4)) oh ol q3.1 q3.2.1 q3.2.2, aI G (r 0) 256 ckS, aI G (r 2) 176 (bN u9.1), aI G (r 3) 16 (bN u9.2.1), aI G (r 4) 16 (bN u9.2.2.1), aI G (r 7) 4 per, aJ G (r 8) 4 ph, aJ G (r 9) 4 pl, aI G (r 10) 4 ss, aI G (r 11) 1024 sv, aI G (r 12) 1024 sw, aI G (r 14) 229 (jPut ((fw (n1 * 8 + i)).toInt64) 2 (5 + 28 * i + 2) (jPut ((fv (n1 * 8 + i)).toInt64) 2 (5 + 28 * i) (jEts (jHd f c4 q n1 (jPk sz)) fv fw (n1 * 8) sh sl h1 l1 i) 2) 2)] := hD
        refine W.cs (cells' := 0) (slots' := 0) rfl rfl ?_
        refine W.eq (g2 := F0 m 246 ls []) rfl ?_
        refine lv_aload_n hx hb dMo_packet_246 rfl (lv_at hl 2 rfl) ?_
        refine lv_aload_n hx hb dMo_packet_247 rfl (lv_at hl 2 rfl) ?_
        refine gfMo_111 hx hb hts hown hG hP 0 rfl rfl dMo_packet_248 ?_
        refine lv_bipush (v := nI 8) hx hb dMo_packet_251 (by decide) ?_
        refine clMo_168 (As := [.long q3.1, .int (nI 8)]) (rest := []) hx hb hml hown hts (k_Mo_putAir l G oy r (nI 0) u9.2.2.2.1 u9.2.2.2.2 (nI dp) sh sl oh ol q3.1 q3.2.1 q3.2.2 (5 + 28 * i + 4) 8 (by omega) (by omega) (jPut ((fw (n1 * 8 + i)).toInt64) 2 (5 + 28 * i + 2) (jPut ((fv (n1 * 8 + i)).toInt64) 2 (5 + 28 * i) (jEts (jHd f c4 q n1 (jPk sz)) fv fw (n1 * 8) sh sl h1 l1 i) 2) 2) q3.1) hG hA hP hD hS 0 rfl [0, 11] rfl rfl (fun _ => rfl) rfl hl.1 rfl (Nat.le_of_ble_eq_true rfl) ⟨by decide, by decide⟩ ⟨by decide, by decide⟩ dMo_packet_253 (fun _ H locs _ hP hD hS => ?_)
        have hP : va_P G.1 vwCl [moC oy r (nI 0) u9.2.2.2.1 u9.2.2.2.2 (nI dp) sh sl (nI (5 + 28 * i + 12)) oh ol q3.1 q3.2.1 q3.2.2, aI G (r 0) 256 ckS, aI G (r 2) 176 (bN u9.1), aI G (r 3) 16 (bN u9.2.1), aI G (r 4) 16 (bN u9.2.2.1), aI G (r 7) 4 per, aJ G (r 8) 4 ph, aJ G (r 9) 4 pl, aI G (r 10) 4 ss, aI G (r 11) 1024 sv, aI G (r 12) 1024 sw, aI G (r 14) 229 (jPut q3.1 8 (5 + 28 * i + 4) (jPut ((fw (n1 * 8 + i)).toInt64) 2 (5 + 28 * i + 2) (jPut ((fv (n1 * 8 + i)).toInt64) 2 (5 + 28 * i) (jEts (jHd f c4 q n1 (jPk sz)) fv fw (n1 * 8) sh sl h1 l1 i) 2) 2) 8)] H := hP
        have hD : va_D A [moC oy r (nI 0) u9.2.2.2.1 u9.2.2.2.2 (nI dp) sh sl (nI (5 + 28 * i + 12)) oh ol q3.1 q3.2.1 q3.2.2, aI G (r 0) 256 ckS, aI G (r 2) 176 (bN u9.1), aI G (r 3) 16 (bN u9.2.1), aI G (r 4) 16 (bN u9.2.2.1), aI G (r 7) 4 per, aJ G (r 8) 4 ph, aJ G (r 9) 4 pl, aI G (r 10) 4 ss, aI G (r 11) 1024 sv, aI G (r 12) 1024 sw, aI G (r 14) 229 (jPut q3.1 8 (5 + 28 * i + 4) (jPut ((fw (n1 * 8 + i)).toInt64) 2 (5 + 28 * i + 2) (jPut ((fv (n1 * 8 + i)).toInt64) 2 (5 + 28 * i) (jEts (jHd f c4 q n1 (jPk sz)) fv fw (n1 * 8) sh sl h1 l1 i) 2) 2) 8)] := hD
        refine W.cs (cells' := 0) (slots' := 0) rfl rfl ?_
        refine W.eq (g2 := F0 m 256 ls []) rfl ?_
        refine lv_aload_n hx hb dMo_packet_256 rfl (lv_at hl 2 rfl) ?_
        refine lv_aload_n hx hb dMo_packet_257 rfl (lv_at hl 2 rfl) ?_
        refine gfMo_114 hx hb hts hown hG hP 0 rfl rfl dMo_packet_258 ?_
        refine lv_bipush (v := nI 8) hx hb dMo_packet_261 (by decide) ?_
        refine clMo_168 (As := [.long q3.2.1, .int (nI 8)]) (rest := []) hx hb hml hown hts (k_Mo_putAir l G oy r (nI 0) u9.2.2.2.1 u9.2.2.2.2 (nI dp) sh sl oh ol q3.1 q3.2.1 q3.2.2 (5 + 28 * i + 12) 8 (by omega) (by omega) (jPut q3.1 8 (5 + 28 * i + 4) (jPut ((fw (n1 * 8 + i)).toInt64) 2 (5 + 28 * i + 2) (jPut ((fv (n1 * 8 + i)).toInt64) 2 (5 + 28 * i) (jEts (jHd f c4 q n1 (jPk sz)) fv fw (n1 * 8) sh sl h1 l1 i) 2) 2) 8) q3.2.1) hG hA hP hD hS 0 rfl [0, 11] rfl rfl (fun _ => rfl) rfl hl.1 rfl (Nat.le_of_ble_eq_true rfl) ⟨by decide, by decide⟩ ⟨by decide, by decide⟩ dMo_packet_263 (fun _ H locs _ hP hD hS => ?_)
        have hP : va_P G.1 vwCl [moC oy r (nI 0) u9.2.2.2.1 u9.2.2.2.2 (nI dp) sh sl (nI (5 + 28 * i + 20)) oh ol q3.1 q3.2.1 q3.2.2, aI G (r 0) 256 ckS, aI G (r 2) 176 (bN u9.1), aI G (r 3) 16 (bN u9.2.1), aI G (r 4) 16 (bN u9.2.2.1), aI G (r 7) 4 per, aJ G (r 8) 4 ph, aJ G (r 9) 4 pl, aI G (r 10) 4 ss, aI G (r 11) 1024 sv, aI G (r 12) 1024 sw, aI G (r 14) 229 (jPut q3.2.1 8 (5 + 28 * i + 12) (jPut q3.1 8 (5 + 28 * i + 4) (jPut ((fw (n1 * 8 + i)).toInt64) 2 (5 + 28 * i + 2) (jPut ((fv (n1 * 8 + i)).toInt64) 2 (5 + 28 * i) (jEts (jHd f c4 q n1 (jPk sz)) fv fw (n1 * 8) sh sl h1 l1 i) 2) 2) 8) 8)] H := hP
        have hD : va_D A [moC oy r (nI 0) u9.2.2.2.1 u9.2.2.2.2 (nI dp) sh sl (nI (5 + 28 * i + 20)) oh ol q3.1 q3.2.1 q3.2.2, aI G (r 0) 256 ckS, aI G (r 2) 176 (bN u9.1), aI G (r 3) 16 (bN u9.2.1), aI G (r 4) 16 (bN u9.2.2.1), aI G (r 7) 4 per, aJ G (r 8) 4 ph, aJ G (r 9) 4 pl, aI G (r 10) 4 ss, aI G (r 11) 1024 sv, aI G (r 12) 1024 sw, aI G (r 14) 229 (jPut q3.2.1 8 (5 + 28 * i + 12) (jPut q3.1 8 (5 + 28 * i + 4) (jPut ((fw (n1 * 8 + i)).toInt64) 2 (5 + 28 * i + 2) (jPut ((fv (n1 * 8 + i)).toInt64) 2 (5 + 28 * i) (jEts (jHd f c4 q n1 (jPk sz)) fv fw (n1 * 8) sh sl h1 l1 i) 2) 2) 8) 8)] := hD
        refine W.cs (cells' := 0) (slots' := 0) rfl rfl ?_
        refine W.eq (g2 := F0 m 266 ls []) rfl ?_
        refine lv_aload_n hx hb dMo_packet_266 rfl (lv_at hl 2 rfl) ?_
        refine lv_aload_n hx hb dMo_packet_267 rfl (lv_at hl 2 rfl) ?_
        refine gfMo_117 hx hb hts hown hG hP 0 rfl rfl dMo_packet_268 ?_
        refine lv_bipush (v := nI 8) hx hb dMo_packet_271 (by decide) ?_
        refine clMo_168 (As := [.long q3.2.2, .int (nI 8)]) (rest := []) hx hb hml hown hts (k_Mo_putAir l G oy r (nI 0) u9.2.2.2.1 u9.2.2.2.2 (nI dp) sh sl oh ol q3.1 q3.2.1 q3.2.2 (5 + 28 * i + 20) 8 (by omega) (by omega) (jPut q3.2.1 8 (5 + 28 * i + 12) (jPut q3.1 8 (5 + 28 * i + 4) (jPut ((fw (n1 * 8 + i)).toInt64) 2 (5 + 28 * i + 2) (jPut ((fv (n1 * 8 + i)).toInt64) 2 (5 + 28 * i) (jEts (jHd f c4 q n1 (jPk sz)) fv fw (n1 * 8) sh sl h1 l1 i) 2) 2) 8) 8) q3.2.2) hG hA hP hD hS 0 rfl [0, 11] rfl rfl (fun _ => rfl) rfl hl.1 rfl (Nat.le_of_ble_eq_true rfl) ⟨by decide, by decide⟩ ⟨by decide, by decide⟩ dMo_packet_273 (fun _ H locs _ hP hD hS => ?_)
        have hP : va_P G.1 vwCl [moC oy r (nI 0) u9.2.2.2.1 u9.2.2.2.2 (nI dp) sh sl (nI (5 + 28 * i + 28)) oh ol q3.1 q3.2.1 q3.2.2, aI G (r 0) 256 ckS, aI G (r 2) 176 (bN u9.1), aI G (r 3) 16 (bN u9.2.1), aI G (r 4) 16 (bN u9.2.2.1), aI G (r 7) 4 per, aJ G (r 8) 4 ph, aJ G (r 9) 4 pl, aI G (r 10) 4 ss, aI G (r 11) 1024 sv, aI G (r 12) 1024 sw, aI G (r 14) 229 (jPut q3.2.2 8 (5 + 28 * i + 20) (jPut q3.2.1 8 (5 + 28 * i + 12) (jPut q3.1 8 (5 + 28 * i + 4) (jPut ((fw (n1 * 8 + i)).toInt64) 2 (5 + 28 * i + 2) (jPut ((fv (n1 * 8 + i)).toInt64) 2 (5 + 28 * i) (jEts (jHd f c4 q n1 (jPk sz)) fv fw (n1 * 8) sh sl h1 l1 i) 2) 2) 8) 8) 8)] H := hP
        have hD : va_D A [moC oy r (nI 0) u9.2.2.2.1 u9.2.2.2.2 (nI dp) sh sl (nI (5 + 28 * i + 28)) oh ol q3.1 q3.2.1 q3.2.2, aI G (r 0) 256 ckS, aI G (r 2) 176 (bN u9.1), aI G (r 3) 16 (bN u9.2.1), aI G (r 4) 16 (bN u9.2.2.1), aI G (r 7) 4 per, aJ G (r 8) 4 ph, aJ G (r 9) 4 pl, aI G (r 10) 4 ss, aI G (r 11) 1024 sv, aI G (r 12) 1024 sw, aI G (r 14) 229 (jPut q3.2.2 8 (5 + 28 * i + 20) (jPut q3.2.1 8 (5 + 28 * i + 12) (jPut q3.1 8 (5 + 28 * i + 4) (jPut ((fw (n1 * 8 + i)).toInt64) 2 (5 + 28 * i + 2) (jPut ((fv (n1 * 8 + i)).toInt64) 2 (5 + 28 * i) (jEts (jHd f c4 q n1 (jPk sz)) fv fw (n1 * 8) sh sl h1 l1 i) 2) 2) 8) 8) 8)] := hD
        refine W.cs (cells' := 0) (slots' := 0) rfl rfl ?_
        refine W.eq (g2 := F0 m 276 ls []) rfl ?_
        refine lv_iinc (v := nI (n1 * 8 + (i + 1))) (lv' := [(5, .int (nI (n1 * 8 + (i + 1)))), (7, .int (fw (n1 * 8 + i))), (6, .int (fv (n1 * 8 + i))), (0, .ref oy), (1, .int (nI c4)), (2, .int (nI n1))]) hx hb dMo_packet_276 hl (k := 5) rfl (nI_1 _) (by decide) rfl (fun ls hl => ?_)
        refine lv_goto (tgt := 145) hx hb dMo_packet_279 rfl ?_
        have hP9 : va_P G.1 vwCl [moC oy r (nI 0) u9.2.2.2.1 u9.2.2.2.2 (nI dp) sh sl (nI (5 + 28 * (i + 1))) oh ol q3.1 q3.2.1 q3.2.2, aI G (r 0) 256 ckS, aI G (r 2) 176 (bN u9.1), aI G (r 3) 16 (bN u9.2.1), aI G (r 4) 16 (bN u9.2.2.1), aI G (r 7) 4 per, aJ G (r 8) 4 ph, aJ G (r 9) 4 pl, aI G (r 10) 4 ss, aI G (r 11) 1024 sv, aI G (r 12) 1024 sw, aI G (r 14) 229 (jEts (jHd f c4 q n1 (jPk sz)) fv fw (n1 * 8) sh sl h1 l1 (i + 1))] H := by rw [e9]; exact hP
        have hD9 : va_D A [moC oy r (nI 0) u9.2.2.2.1 u9.2.2.2.2 (nI dp) sh sl (nI (5 + 28 * (i + 1))) oh ol q3.1 q3.2.1 q3.2.2, aI G (r 0) 256 ckS, aI G (r 2) 176 (bN u9.1), aI G (r 3) 16 (bN u9.2.1), aI G (r 4) 16 (bN u9.2.2.1), aI G (r 7) 4 per, aJ G (r 8) 4 ph, aJ G (r 9) 4 pl, aI G (r 10) 4 ss, aI G (r 11) 1024 sv, aI G (r 12) 1024 sw, aI G (r 14) 229 (jEts (jHd f c4 q n1 (jPk sz)) fv fw (n1 * 8) sh sl h1 l1 (i + 1))] := by rw [e9]; exact hD
        exact ih (i + 1) _ _ _ _ _ _ _ _ _ _ _ (by omega) hP9 hD9 hS (lv_sub hl [3, 4, 5, 0] rfl)
    exact loop (jEnd sz n1 - n1 * 8) 0 _ _ _ _ _ _ _ _ _ _ _ (by omega) hP hD hS (lv_sub hl [3, 4, 5, 0] rfl)
  · have hs8 : 0 < sz := Nat.pos_of_ne_zero (fun z => hs9 (by rw [z]; decide))
    refine lv_aload_n hx hb dMo_packet_35 rfl (lv_at hl 1 rfl) ?_
    refine gfMo_42 hx hb hts hown hG hP 0 rfl rfl dMo_packet_36 ?_
    refine lv_iload_n hx hb dMo_packet_39 rfl (lv_at hl 2 rfl) ?_
    refine ck_iald hx hb hG hP 8 rfl (by decide) c4 (rfl) (hc) dMo_packet_40 ?_
    refine ck_ri (y := nI sz) (hs) ?_
    refine lv_bipush (v := nI 7) hx hb dMo_packet_41 (by decide) ?_
    refine lv_iadd hx hb dMo_packet_43 ?_
    refine ck_ri (y := nI (sz + 7)) (nI_add _ 7) ?_
    refine lv_bipush (v := nI 8) hx hb dMo_packet_44 (by decide) ?_
    refine lv_idiv hx hb dMo_packet_46 (by decide) ?_
    refine ck_ri (y := nI (jPk sz)) ((pk_div (by omega) (by omega) (by omega)).trans (congrArg nI (by unfold jPk; split <;> omega))) ?_
    refine lv_goto (tgt := 51) hx hb dMo_packet_47 rfl ?_
    refine lv_istore (lv' := [(4, .int (nI (jPk sz))), (3, .int (nI 1)), (0, .ref oy), (1, .int (nI c4)), (2, .int (nI n1))]) hx hb dMo_packet_51 hl (by decide) rfl (fun ls hl => ?_)
    refine lv_aload_n hx hb dMo_packet_53 rfl (lv_at hl 2 rfl) ?_
    refine lv_iload_n hx hb dMo_packet_54 rfl (lv_at hl 3 rfl) ?_
    refine clMo_162 (As := [.int (nI c4)]) (rest := [.ref oy]) hx hb hml hown hts (k_Mo_isChannel l G (nI c4)) hG hA hP hD hS [] rfl rfl (fun _ => rfl) rfl hl.1 rfl (Nat.le_of_ble_eq_true rfl) ⟨by decide, by decide⟩ ⟨by decide, by decide⟩ dMo_packet_55 (fun _ H locs _ hP hD hS => ?_)
    have hP : va_P G.1 vwCl [moC oy r th fi se (nI dp) sh sl az oh ol w0 w1 w2, aI G (r 0) 256 ckS, aI G (r 2) 176 (bN ff), aI G (r 3) 16 (bN g), aI G (r 4) 16 (bN m0), aI G (r 7) 4 per, aJ G (r 8) 4 ph, aJ G (r 9) 4 pl, aI G (r 10) 4 ss, aI G (r 11) 1024 sv, aI G (r 12) 1024 sw, aI G (r 14) 229 f] H := hP
    have hD : va_D A [moC oy r th fi se (nI dp) sh sl az oh ol w0 w1 w2, aI G (r 0) 256 ckS, aI G (r 2) 176 (bN ff), aI G (r 3) 16 (bN g), aI G (r 4) 16 (bN m0), aI G (r 7) 4 per, aJ G (r 8) 4 ph, aJ G (r 9) 4 pl, aI G (r 10) 4 ss, aI G (r 11) 1024 sv, aI G (r 12) 1024 sw, aI G (r 14) 229 f] := hD
    refine W.cs (cells' := 0) (slots' := 0) rfl rfl ?_
    refine W.eq (g2 := F0 m 58 ls [.int (jB (jIn 4 (nI c4))), .ref oy]) rfl ?_
    refine lv_if_ne (tgt := 65) hx hb dMo_packet_58 rfl (fun _ => ?_) (fun h => absurd h (by rw [hci]; decide))
    refine lv_iload_n hx hb dMo_packet_65 rfl (lv_at hl 1 rfl) ?_
    refine lv_if_ne (tgt := 73) hx hb dMo_packet_66 rfl (fun _ => ?_) (fun h => absurd h (by decide))
    refine lv_iload_n hx hb dMo_packet_73 rfl (lv_at hl 4 rfl) ?_
    refine lv_if_lt (tgt := 83) hx hb dMo_packet_74 rfl (fun h => absurd h (nI_pos (by omega))) (fun _ => ?_)
    refine lv_iload_n hx hb dMo_packet_77 rfl (lv_at hl 4 rfl) ?_
    refine lv_iload hx hb dMo_packet_78 (lv_at hl 0 rfl) ?_
    refine lv_icmp_lt (tgt := 87) hx hb dMo_packet_80 rfl (fun _ => ?_) (fun h => absurd (nI_lt hn (by omega)) h)
    refine lv_iconst (v := nI 0) hx hb dMo_packet_87 (by decide) ?_
    refine pfMo_74 hx hb hts hown hG hP hD hS 0 rfl rfl rfl (Nat.le_of_ble_eq_true rfl) dMo_packet_88 (fun H locs hP hD hS => ?_)
    have hP : va_P G.1 vwCl [moC oy r (nI 0) fi se (nI dp) sh sl az oh ol w0 w1 w2, aI G (r 0) 256 ckS, aI G (r 2) 176 (bN ff), aI G (r 3) 16 (bN g), aI G (r 4) 16 (bN m0), aI G (r 7) 4 per, aJ G (r 8) 4 ph, aJ G (r 9) 4 pl, aI G (r 10) 4 ss, aI G (r 11) 1024 sv, aI G (r 12) 1024 sw, aI G (r 14) 229 f] H := hP
    have hD : va_D A [moC oy r (nI 0) fi se (nI dp) sh sl az oh ol w0 w1 w2, aI G (r 0) 256 ckS, aI G (r 2) 176 (bN ff), aI G (r 3) 16 (bN g), aI G (r 4) 16 (bN m0), aI G (r 7) 4 per, aJ G (r 8) 4 ph, aJ G (r 9) 4 pl, aI G (r 10) 4 ss, aI G (r 11) 1024 sv, aI G (r 12) 1024 sw, aI G (r 14) 229 f] := hD
    refine lv_aload_n hx hb dMo_packet_91 rfl (lv_at hl 2 rfl) ?_
    refine gfMo_74 hx hb hts hown hG hP 0 rfl rfl dMo_packet_92 ?_
    refine lv_if_le (tgt := 100) hx hb dMo_packet_95 rfl (fun _ => ?_) (fun h => absurd (by decide) h)
    refine lv_aload_n hx hb dMo_packet_100 rfl (lv_at hl 2 rfl) ?_
    refine lv_iconst (v := nI 0) hx hb dMo_packet_101 (by decide) ?_
    refine pfMo_136 hx hb hts hown hG hP hD hS 0 rfl rfl rfl (Nat.le_of_ble_eq_true rfl) dMo_packet_102 (fun H locs hP hD hS => ?_)
    have hP : va_P G.1 vwCl [moC oy r (nI 0) fi se (nI dp) sh sl (nI 0) oh ol w0 w1 w2, aI G (r 0) 256 ckS, aI G (r 2) 176 (bN ff), aI G (r 3) 16 (bN g), aI G (r 4) 16 (bN m0), aI G (r 7) 4 per, aJ G (r 8) 4 ph, aJ G (r 9) 4 pl, aI G (r 10) 4 ss, aI G (r 11) 1024 sv, aI G (r 12) 1024 sw, aI G (r 14) 229 f] H := hP
    have hD : va_D A [moC oy r (nI 0) fi se (nI dp) sh sl (nI 0) oh ol w0 w1 w2, aI G (r 0) 256 ckS, aI G (r 2) 176 (bN ff), aI G (r 3) 16 (bN g), aI G (r 4) 16 (bN m0), aI G (r 7) 4 per, aJ G (r 8) 4 ph, aJ G (r 9) 4 pl, aI G (r 10) 4 ss, aI G (r 11) 1024 sv, aI G (r 12) 1024 sw, aI G (r 14) 229 f] := hD
    refine lv_aload_n hx hb dMo_packet_105 rfl (lv_at hl 2 rfl) ?_
    refine lv_iload_n hx hb dMo_packet_106 rfl (lv_at hl 3 rfl) ?_
    refine lv_i2l (v := (nI c4).toInt64) hx hb dMo_packet_107 rfl ?_
    refine lv_iconst (v := nI 1) hx hb dMo_packet_108 (by decide) ?_
    refine clMo_168 (As := [.long ((nI c4).toInt64), .int (nI 1)]) (rest := []) hx hb hml hown hts (k_Mo_putAir l G oy r (nI 0) fi se (nI dp) sh sl oh ol w0 w1 w2 (0) 1 (by omega) (by omega) f ((nI c4).toInt64)) hG hA hP hD hS 0 rfl [0, 11] rfl rfl (fun _ => rfl) rfl hl.1 rfl (Nat.le_of_ble_eq_true rfl) ⟨by decide, by decide⟩ ⟨by decide, by decide⟩ dMo_packet_109 (fun _ H locs _ hP hD hS => ?_)
    have hP : va_P G.1 vwCl [moC oy r (nI 0) fi se (nI dp) sh sl (nI (1)) oh ol w0 w1 w2, aI G (r 0) 256 ckS, aI G (r 2) 176 (bN ff), aI G (r 3) 16 (bN g), aI G (r 4) 16 (bN m0), aI G (r 7) 4 per, aJ G (r 8) 4 ph, aJ G (r 9) 4 pl, aI G (r 10) 4 ss, aI G (r 11) 1024 sv, aI G (r 12) 1024 sw, aI G (r 14) 229 (jPut ((nI c4).toInt64) 1 (0) f 1)] H := hP
    have hD : va_D A [moC oy r (nI 0) fi se (nI dp) sh sl (nI (1)) oh ol w0 w1 w2, aI G (r 0) 256 ckS, aI G (r 2) 176 (bN ff), aI G (r 3) 16 (bN g), aI G (r 4) 16 (bN m0), aI G (r 7) 4 per, aJ G (r 8) 4 ph, aJ G (r 9) 4 pl, aI G (r 10) 4 ss, aI G (r 11) 1024 sv, aI G (r 12) 1024 sw, aI G (r 14) 229 (jPut ((nI c4).toInt64) 1 (0) f 1)] := hD
    refine W.cs (cells' := 0) (slots' := 0) rfl rfl ?_
    refine W.eq (g2 := F0 m 112 ls []) rfl ?_
    refine lv_aload_n hx hb dMo_packet_112 rfl (lv_at hl 2 rfl) ?_
    refine lv_aload_n hx hb dMo_packet_113 rfl (lv_at hl 2 rfl) ?_
    refine gfMo_32 hx hb hts hown hG hP 0 rfl rfl dMo_packet_114 ?_
    refine lv_iload_n hx hb dMo_packet_117 rfl (lv_at hl 3 rfl) ?_
    refine ck_iald hx hb hG hP 5 rfl (by decide) c4 (rfl) (hc) dMo_packet_118 ?_
    refine ck_ri (y := nI q) (hq) ?_
    refine lv_i2l (v := (nI q).toInt64) hx hb dMo_packet_119 rfl ?_
    refine lv_iconst (v := nI 2) hx hb dMo_packet_120 (by decide) ?_
    refine clMo_168 (As := [.long ((nI q).toInt64), .int (nI 2)]) (rest := []) hx hb hml hown hts (k_Mo_putAir l G oy r (nI 0) fi se (nI dp) sh sl oh ol w0 w1 w2 (1) 2 (by omega) (by omega) (jPut ((nI c4).toInt64) 1 (0) f 1) ((nI q).toInt64)) hG hA hP hD hS 0 rfl [0, 11] rfl rfl (fun _ => rfl) rfl hl.1 rfl (Nat.le_of_ble_eq_true rfl) ⟨by decide, by decide⟩ ⟨by decide, by decide⟩ dMo_packet_121 (fun _ H locs _ hP hD hS => ?_)
    have hP : va_P G.1 vwCl [moC oy r (nI 0) fi se (nI dp) sh sl (nI (3)) oh ol w0 w1 w2, aI G (r 0) 256 ckS, aI G (r 2) 176 (bN ff), aI G (r 3) 16 (bN g), aI G (r 4) 16 (bN m0), aI G (r 7) 4 per, aJ G (r 8) 4 ph, aJ G (r 9) 4 pl, aI G (r 10) 4 ss, aI G (r 11) 1024 sv, aI G (r 12) 1024 sw, aI G (r 14) 229 (jPut ((nI q).toInt64) 2 (1) (jPut ((nI c4).toInt64) 1 (0) f 1) 2)] H := hP
    have hD : va_D A [moC oy r (nI 0) fi se (nI dp) sh sl (nI (3)) oh ol w0 w1 w2, aI G (r 0) 256 ckS, aI G (r 2) 176 (bN ff), aI G (r 3) 16 (bN g), aI G (r 4) 16 (bN m0), aI G (r 7) 4 per, aJ G (r 8) 4 ph, aJ G (r 9) 4 pl, aI G (r 10) 4 ss, aI G (r 11) 1024 sv, aI G (r 12) 1024 sw, aI G (r 14) 229 (jPut ((nI q).toInt64) 2 (1) (jPut ((nI c4).toInt64) 1 (0) f 1) 2)] := hD
    refine W.cs (cells' := 0) (slots' := 0) rfl rfl ?_
    refine W.eq (g2 := F0 m 124 ls []) rfl ?_
    refine lv_aload_n hx hb dMo_packet_124 rfl (lv_at hl 2 rfl) ?_
    refine lv_iload_n hx hb dMo_packet_125 rfl (lv_at hl 4 rfl) ?_
    refine lv_i2l (v := (nI n1).toInt64) hx hb dMo_packet_126 rfl ?_
    refine lv_iconst (v := nI 1) hx hb dMo_packet_127 (by decide) ?_
    refine clMo_168 (As := [.long ((nI n1).toInt64), .int (nI 1)]) (rest := []) hx hb hml hown hts (k_Mo_putAir l G oy r (nI 0) fi se (nI dp) sh sl oh ol w0 w1 w2 (3) 1 (by omega) (by omega) (jPut ((nI q).toInt64) 2 (1) (jPut ((nI c4).toInt64) 1 (0) f 1) 2) ((nI n1).toInt64)) hG hA hP hD hS 0 rfl [0, 11] rfl rfl (fun _ => rfl) rfl hl.1 rfl (Nat.le_of_ble_eq_true rfl) ⟨by decide, by decide⟩ ⟨by decide, by decide⟩ dMo_packet_128 (fun _ H locs _ hP hD hS => ?_)
    have hP : va_P G.1 vwCl [moC oy r (nI 0) fi se (nI dp) sh sl (nI (4)) oh ol w0 w1 w2, aI G (r 0) 256 ckS, aI G (r 2) 176 (bN ff), aI G (r 3) 16 (bN g), aI G (r 4) 16 (bN m0), aI G (r 7) 4 per, aJ G (r 8) 4 ph, aJ G (r 9) 4 pl, aI G (r 10) 4 ss, aI G (r 11) 1024 sv, aI G (r 12) 1024 sw, aI G (r 14) 229 (jPut ((nI n1).toInt64) 1 (3) (jPut ((nI q).toInt64) 2 (1) (jPut ((nI c4).toInt64) 1 (0) f 1) 2) 1)] H := hP
    have hD : va_D A [moC oy r (nI 0) fi se (nI dp) sh sl (nI (4)) oh ol w0 w1 w2, aI G (r 0) 256 ckS, aI G (r 2) 176 (bN ff), aI G (r 3) 16 (bN g), aI G (r 4) 16 (bN m0), aI G (r 7) 4 per, aJ G (r 8) 4 ph, aJ G (r 9) 4 pl, aI G (r 10) 4 ss, aI G (r 11) 1024 sv, aI G (r 12) 1024 sw, aI G (r 14) 229 (jPut ((nI n1).toInt64) 1 (3) (jPut ((nI q).toInt64) 2 (1) (jPut ((nI c4).toInt64) 1 (0) f 1) 2) 1)] := hD
    refine W.cs (cells' := 0) (slots' := 0) rfl rfl ?_
    refine W.eq (g2 := F0 m 131 ls []) rfl ?_
    refine lv_aload_n hx hb dMo_packet_131 rfl (lv_at hl 2 rfl) ?_
    refine lv_iload hx hb dMo_packet_132 (lv_at hl 0 rfl) ?_
    refine lv_i2l (v := (nI (jPk sz)).toInt64) hx hb dMo_packet_134 rfl ?_
    refine lv_iconst (v := nI 1) hx hb dMo_packet_135 (by decide) ?_
    refine clMo_168 (As := [.long ((nI (jPk sz)).toInt64), .int (nI 1)]) (rest := []) hx hb hml hown hts (k_Mo_putAir l G oy r (nI 0) fi se (nI dp) sh sl oh ol w0 w1 w2 (4) 1 (by omega) (by omega) (jPut ((nI n1).toInt64) 1 (3) (jPut ((nI q).toInt64) 2 (1) (jPut ((nI c4).toInt64) 1 (0) f 1) 2) 1) ((nI (jPk sz)).toInt64)) hG hA hP hD hS 0 rfl [0, 11] rfl rfl (fun _ => rfl) rfl hl.1 rfl (Nat.le_of_ble_eq_true rfl) ⟨by decide, by decide⟩ ⟨by decide, by decide⟩ dMo_packet_136 (fun _ H locs _ hP hD hS => ?_)
    have hP : va_P G.1 vwCl [moC oy r (nI 0) fi se (nI dp) sh sl (nI (5)) oh ol w0 w1 w2, aI G (r 0) 256 ckS, aI G (r 2) 176 (bN ff), aI G (r 3) 16 (bN g), aI G (r 4) 16 (bN m0), aI G (r 7) 4 per, aJ G (r 8) 4 ph, aJ G (r 9) 4 pl, aI G (r 10) 4 ss, aI G (r 11) 1024 sv, aI G (r 12) 1024 sw, aI G (r 14) 229 (jPut ((nI (jPk sz)).toInt64) 1 (4) (jPut ((nI n1).toInt64) 1 (3) (jPut ((nI q).toInt64) 2 (1) (jPut ((nI c4).toInt64) 1 (0) f 1) 2) 1) 1)] H := hP
    have hD : va_D A [moC oy r (nI 0) fi se (nI dp) sh sl (nI (5)) oh ol w0 w1 w2, aI G (r 0) 256 ckS, aI G (r 2) 176 (bN ff), aI G (r 3) 16 (bN g), aI G (r 4) 16 (bN m0), aI G (r 7) 4 per, aJ G (r 8) 4 ph, aJ G (r 9) 4 pl, aI G (r 10) 4 ss, aI G (r 11) 1024 sv, aI G (r 12) 1024 sw, aI G (r 14) 229 (jPut ((nI (jPk sz)).toInt64) 1 (4) (jPut ((nI n1).toInt64) 1 (3) (jPut ((nI q).toInt64) 2 (1) (jPut ((nI c4).toInt64) 1 (0) f 1) 2) 1) 1)] := hD
    refine W.cs (cells' := 0) (slots' := 0) rfl rfl ?_
    refine W.eq (g2 := F0 m 139 ls []) rfl ?_
    refine lv_bipush (v := nI 8) hx hb dMo_packet_139 (by decide) ?_
    refine lv_iload_n hx hb dMo_packet_141 rfl (lv_at hl 4 rfl) ?_
    refine lv_imul hx hb dMo_packet_142 ?_
    refine ck_ri (y := nI (n1 * 8)) (by rw [pk_mul, Nat.mul_comm]) ?_
    refine lv_istore (lv' := [(5, .int (nI (n1 * 8))), (4, .int (nI (jPk sz))), (3, .int (nI 1)), (0, .ref oy), (1, .int (nI c4)), (2, .int (nI n1))]) hx hb dMo_packet_143 hl (by decide) rfl (fun ls hl => ?_)
    have loop : ∀ (k : Nat) (i : Nat) (f1 : Nat → Nat) (g1 : Nat → Nat) (m1 : Nat → Nat) (e1 : Int64) (e2 : Int64) (x0 : Int64) (x1 : Int64) (x2 : Int64) (H : Heap) (locs : List Loc) (ls : Array Slot), i + k = jEnd sz n1 - n1 * 8 → va_P G.1 vwCl [moC oy r (nI 0) e1 e2 (nI dp) sh sl (nI (5 + 28 * i)) oh ol x0 x1 x2, aI G (r 0) 256 ckS, aI G (r 2) 176 (bN f1), aI G (r 3) 16 (bN g1), aI G (r 4) 16 (bN m1), aI G (r 7) 4 per, aJ G (r 8) 4 ph, aJ G (r 9) 4 pl, aI G (r 10) 4 ss, aI G (r 11) 1024 sv, aI G (r 12) 1024 sw, aI G (r 14) 229 (jEts (jHd f c4 q n1 (jPk sz)) fv fw (n1 * 8) sh sl h1 l1 i)] H → va_D A [moC oy r (nI 0) e1 e2 (nI dp) sh sl (nI (5 + 28 * i)) oh ol x0 x1 x2, aI G (r 0) 256 ckS, aI G (r 2) 176 (bN f1), aI G (r 3) 16 (bN g1), aI G (r 4) 16 (bN m1), aI G (r 7) 4 per, aJ G (r 8) 4 ph, aJ G (r 9) 4 pl, aI G (r 10) 4 ss, aI G (r 11) 1024 sv, aI G (r 12) 1024 sw, aI G (r 14) 229 (jEts (jHd f c4 q n1 (jPk sz)) fv fw (n1 * 8) sh sl h1 l1 i)] → va_S A s.heap H locs → lv_has ls 8 [(0, .ref oy), (1, .int (nI c4)), (2, .int (nI n1)), (5, .int (nI (n1 * 8 + i)))] → W p l e { frames := 5, cells := 0, slots := 0, locals := 127 } s m args below meth c H locs 0 0 (MQ below (cq_out G (S := (Nat → Nat) × (Nat → Nat) × (Nat → Nat) × Int64 × Int64 × Int64 × Int64 × Int64) (fun _ => True) (fun u => some (.int (nI (5 + 28 * (jEnd sz n1 - n1 * 8))))) (fun u => [moC oy r (nI 0) u.2.2.2.1 u.2.2.2.2.1 (nI dp) sh sl (nI (5 + 28 * (jEnd sz n1 - n1 * 8))) oh ol u.2.2.2.2.2.1 u.2.2.2.2.2.2.1 u.2.2.2.2.2.2.2, aI G (r 0) 256 ckS, aI G (r 2) 176 (bN u.1), aI G (r 3) 16 (bN u.2.1), aI G (r 4) 16 (bN u.2.2.1), aI G (r 7) 4 per, aJ G (r 8) 4 ph, aJ G (r 9) 4 pl, aI G (r 10) 4 ss, aI G (r 11) 1024 sv, aI G (r 12) 1024 sw, aI G (r 14) 229 (jEts (jHd f c4 q n1 (jPk sz)) fv fw (n1 * 8) sh sl h1 l1 (jEnd sz n1 - n1 * 8))]) A) args s 0 0 A) (F0 m 145 ls []) := by
      intro k
      induction k with
      | zero =>
        intro i f1 g1 m1 e1 e2 x0 x1 x2 H locs ls hk hP hD hS hl
        refine lv_iload hx hb dMo_packet_145 (lv_at hl 3 rfl) ?_
        refine lv_bipush (v := nI 8) hx hb dMo_packet_147 (by decide) ?_
        refine lv_iload_n hx hb dMo_packet_149 rfl (lv_at hl 2 rfl) ?_
        refine lv_imul hx hb dMo_packet_150 ?_
        refine ck_ri (y := nI (n1 * 8)) (by rw [pk_mul, Nat.mul_comm]) ?_
        refine lv_bipush (v := nI 8) hx hb dMo_packet_151 (by decide) ?_
        refine lv_iadd hx hb dMo_packet_153 ?_
        refine ck_ri (y := nI (n1 * 8 + 8)) (nI_add _ 8) ?_
        refine lv_icmp_ge (tgt := 282) hx hb dMo_packet_154 rfl (fun h7 => ?_) (fun h7 => ?_)
        · have h6 : n1 * 8 + 8 ≤ n1 * 8 + i := (nI_leI (by omega) (by omega)).mp h7
          refine lv_aload_n hx hb dMo_packet_282 rfl (lv_at hl 0 rfl) ?_
          refine gfMo_136 hx hb hts hown hG hP 0 rfl rfl dMo_packet_283 ?_
          exact cq_iret (f1, g1, m1, e1, e2, x0, x1, x2) (trivial) hx hb hr hlk hP hS (by rw [show jEnd sz n1 - n1 * 8 = i by omega]) (by rw [show jEnd sz n1 - n1 * 8 = i by omega]) dMo_packet_286
        · have h6 : ¬ n1 * 8 + 8 ≤ n1 * 8 + i := fun z => h7 ((nI_leI (by omega) (by omega)).mpr z)
          refine lv_iload hx hb dMo_packet_157 (lv_at hl 3 rfl) ?_
          refine lv_aload_n hx hb dMo_packet_159 rfl (lv_at hl 0 rfl) ?_
          refine gfMo_42 hx hb hts hown hG hP 0 rfl rfl dMo_packet_160 ?_
          refine lv_iload_n hx hb dMo_packet_163 rfl (lv_at hl 1 rfl) ?_
          refine ck_iald hx hb hG hP 8 rfl (by decide) c4 (rfl) (hc) dMo_packet_164 ?_
          refine ck_ri (y := nI sz) (hs) ?_
          refine lv_icmp_ge (tgt := 282) hx hb dMo_packet_165 rfl (fun _ => ?_) (fun h => absurd (nI_le (by omega) (by omega)) h)
          refine lv_aload_n hx hb dMo_packet_282 rfl (lv_at hl 0 rfl) ?_
          refine gfMo_136 hx hb hts hown hG hP 0 rfl rfl dMo_packet_283 ?_
          exact cq_iret (f1, g1, m1, e1, e2, x0, x1, x2) (trivial) hx hb hr hlk hP hS (by rw [show jEnd sz n1 - n1 * 8 = i by omega]) (by rw [show jEnd sz n1 - n1 * 8 = i by omega]) dMo_packet_286
      | succ k ih =>
        intro i f1 g1 m1 e1 e2 x0 x1 x2 H locs ls hk hP hD hS hl
        refine lv_iload hx hb dMo_packet_145 (lv_at hl 3 rfl) ?_
        refine lv_bipush (v := nI 8) hx hb dMo_packet_147 (by decide) ?_
        refine lv_iload_n hx hb dMo_packet_149 rfl (lv_at hl 2 rfl) ?_
        refine lv_imul hx hb dMo_packet_150 ?_
        refine ck_ri (y := nI (n1 * 8)) (by rw [pk_mul, Nat.mul_comm]) ?_
        refine lv_bipush (v := nI 8) hx hb dMo_packet_151 (by decide) ?_
        refine lv_iadd hx hb dMo_packet_153 ?_
        refine ck_ri (y := nI (n1 * 8 + 8)) (nI_add _ 8) ?_
        refine lv_icmp_ge (tgt := 282) hx hb dMo_packet_154 rfl (fun h => absurd h (nI_ge (by omega) (by omega))) (fun _ => ?_)
        refine lv_iload hx hb dMo_packet_157 (lv_at hl 3 rfl) ?_
        refine lv_aload_n hx hb dMo_packet_159 rfl (lv_at hl 0 rfl) ?_
        refine gfMo_42 hx hb hts hown hG hP 0 rfl rfl dMo_packet_160 ?_
        refine lv_iload_n hx hb dMo_packet_163 rfl (lv_at hl 1 rfl) ?_
        refine ck_iald hx hb hG hP 8 rfl (by decide) c4 (rfl) (hc) dMo_packet_164 ?_
        refine ck_ri (y := nI sz) (hs) ?_
        refine lv_icmp_ge (tgt := 282) hx hb dMo_packet_165 rfl (fun h => absurd h (nI_ge (by omega) (by omega))) (fun _ => ?_)
        refine lv_aload_n hx hb dMo_packet_168 rfl (lv_at hl 0 rfl) ?_
        refine gfMo_45 hx hb hts hown hG hP 0 rfl rfl dMo_packet_169 ?_
        refine lv_sipush (v := nI 256) hx hb dMo_packet_172 (by decide) ?_
        refine lv_iload_n hx hb dMo_packet_175 rfl (lv_at hl 1 rfl) ?_
        refine lv_imul hx hb dMo_packet_176 ?_
        refine ck_ri (y := nI (256 * c4)) (pk_mul 256 _) ?_
        refine lv_iload hx hb dMo_packet_177 (lv_at hl 3 rfl) ?_
        refine lv_iadd hx hb dMo_packet_179 ?_
        refine ck_ri (y := nI (256 * c4 + (n1 * 8 + i))) (nI_add _ _) ?_
        refine ck_iald hx hb hG hP 9 rfl (by decide) (256 * c4 + (n1 * 8 + i)) (rfl) (by omega) dMo_packet_180 ?_
        refine ck_ri (y := fv (n1 * 8 + i)) ((hsv _ (by omega)).1) ?_
        refine lv_istore (lv' := [(6, .int (fv (n1 * 8 + i))), (0, .ref oy), (1, .int (nI c4)), (2, .int (nI n1)), (5, .int (nI (n1 * 8 + i)))]) hx hb dMo_packet_181 hl (by decide) rfl (fun ls hl => ?_)
        refine lv_aload_n hx hb dMo_packet_183 rfl (lv_at hl 1 rfl) ?_
        refine gfMo_48 hx hb hts hown hG hP 0 rfl rfl dMo_packet_184 ?_
        refine lv_sipush (v := nI 256) hx hb dMo_packet_187 (by decide) ?_
        refine lv_iload_n hx hb dMo_packet_190 rfl (lv_at hl 2 rfl) ?_
        refine lv_imul hx hb dMo_packet_191 ?_
        refine ck_ri (y := nI (256 * c4)) (pk_mul 256 _) ?_
        refine lv_iload hx hb dMo_packet_192 (lv_at hl 4 rfl) ?_
        refine lv_iadd hx hb dMo_packet_194 ?_
        refine ck_ri (y := nI (256 * c4 + (n1 * 8 + i))) (nI_add _ _) ?_
        refine ck_iald hx hb hG hP 10 rfl (by decide) (256 * c4 + (n1 * 8 + i)) (rfl) (by omega) dMo_packet_195 ?_
        refine ck_ri (y := fw (n1 * 8 + i)) ((hsv _ (by omega)).2) ?_
        refine lv_istore (lv' := [(7, .int (fw (n1 * 8 + i))), (6, .int (fv (n1 * 8 + i))), (0, .ref oy), (1, .int (nI c4)), (2, .int (nI n1)), (5, .int (nI (n1 * 8 + i)))]) hx hb dMo_packet_196 hl (by decide) rfl (fun ls hl => ?_)
        refine lv_aload_n hx hb dMo_packet_198 rfl (lv_at hl 2 rfl) ?_
        refine lv_iload hx hb dMo_packet_199 (lv_at hl 1 rfl) ?_
        refine lv_i2l (v := (fv (n1 * 8 + i)).toInt64) hx hb dMo_packet_201 rfl ?_
        refine lv_iconst (v := nI 2) hx hb dMo_packet_202 (by decide) ?_
        refine clMo_168 (As := [.long ((fv (n1 * 8 + i)).toInt64), .int (nI 2)]) (rest := []) hx hb hml hown hts (k_Mo_putAir l G oy r (nI 0) e1 e2 (nI dp) sh sl oh ol x0 x1 x2 (5 + 28 * i) 2 (by omega) (by omega) (jEts (jHd f c4 q n1 (jPk sz)) fv fw (n1 * 8) sh sl h1 l1 i) ((fv (n1 * 8 + i)).toInt64)) hG hA hP hD hS 0 rfl [0, 11] rfl rfl (fun _ => rfl) rfl hl.1 rfl (Nat.le_of_ble_eq_true rfl) ⟨by decide, by decide⟩ ⟨by decide, by decide⟩ dMo_packet_203 (fun _ H locs _ hP hD hS => ?_)
        have hP : va_P G.1 vwCl [moC oy r (nI 0) e1 e2 (nI dp) sh sl (nI (5 + 28 * i + 2)) oh ol x0 x1 x2, aI G (r 0) 256 ckS, aI G (r 2) 176 (bN f1), aI G (r 3) 16 (bN g1), aI G (r 4) 16 (bN m1), aI G (r 7) 4 per, aJ G (r 8) 4 ph, aJ G (r 9) 4 pl, aI G (r 10) 4 ss, aI G (r 11) 1024 sv, aI G (r 12) 1024 sw, aI G (r 14) 229 (jPut ((fv (n1 * 8 + i)).toInt64) 2 (5 + 28 * i) (jEts (jHd f c4 q n1 (jPk sz)) fv fw (n1 * 8) sh sl h1 l1 i) 2)] H := hP
        have hD : va_D A [moC oy r (nI 0) e1 e2 (nI dp) sh sl (nI (5 + 28 * i + 2)) oh ol x0 x1 x2, aI G (r 0) 256 ckS, aI G (r 2) 176 (bN f1), aI G (r 3) 16 (bN g1), aI G (r 4) 16 (bN m1), aI G (r 7) 4 per, aJ G (r 8) 4 ph, aJ G (r 9) 4 pl, aI G (r 10) 4 ss, aI G (r 11) 1024 sv, aI G (r 12) 1024 sw, aI G (r 14) 229 (jPut ((fv (n1 * 8 + i)).toInt64) 2 (5 + 28 * i) (jEts (jHd f c4 q n1 (jPk sz)) fv fw (n1 * 8) sh sl h1 l1 i) 2)] := hD
        refine W.cs (cells' := 0) (slots' := 0) rfl rfl ?_
        refine W.eq (g2 := F0 m 206 ls []) rfl ?_
        refine lv_aload_n hx hb dMo_packet_206 rfl (lv_at hl 2 rfl) ?_
        refine lv_iload hx hb dMo_packet_207 (lv_at hl 0 rfl) ?_
        refine lv_i2l (v := (fw (n1 * 8 + i)).toInt64) hx hb dMo_packet_209 rfl ?_
        refine lv_iconst (v := nI 2) hx hb dMo_packet_210 (by decide) ?_
        refine clMo_168 (As := [.long ((fw (n1 * 8 + i)).toInt64), .int (nI 2)]) (rest := []) hx hb hml hown hts (k_Mo_putAir l G oy r (nI 0) e1 e2 (nI dp) sh sl oh ol x0 x1 x2 (5 + 28 * i + 2) 2 (by omega) (by omega) (jPut ((fv (n1 * 8 + i)).toInt64) 2 (5 + 28 * i) (jEts (jHd f c4 q n1 (jPk sz)) fv fw (n1 * 8) sh sl h1 l1 i) 2) ((fw (n1 * 8 + i)).toInt64)) hG hA hP hD hS 0 rfl [0, 11] rfl rfl (fun _ => rfl) rfl hl.1 rfl (Nat.le_of_ble_eq_true rfl) ⟨by decide, by decide⟩ ⟨by decide, by decide⟩ dMo_packet_211 (fun _ H locs _ hP hD hS => ?_)
        have hP : va_P G.1 vwCl [moC oy r (nI 0) e1 e2 (nI dp) sh sl (nI (5 + 28 * i + 4)) oh ol x0 x1 x2, aI G (r 0) 256 ckS, aI G (r 2) 176 (bN f1), aI G (r 3) 16 (bN g1), aI G (r 4) 16 (bN m1), aI G (r 7) 4 per, aJ G (r 8) 4 ph, aJ G (r 9) 4 pl, aI G (r 10) 4 ss, aI G (r 11) 1024 sv, aI G (r 12) 1024 sw, aI G (r 14) 229 (jPut ((fw (n1 * 8 + i)).toInt64) 2 (5 + 28 * i + 2) (jPut ((fv (n1 * 8 + i)).toInt64) 2 (5 + 28 * i) (jEts (jHd f c4 q n1 (jPk sz)) fv fw (n1 * 8) sh sl h1 l1 i) 2) 2)] H := hP
        have hD : va_D A [moC oy r (nI 0) e1 e2 (nI dp) sh sl (nI (5 + 28 * i + 4)) oh ol x0 x1 x2, aI G (r 0) 256 ckS, aI G (r 2) 176 (bN f1), aI G (r 3) 16 (bN g1), aI G (r 4) 16 (bN m1), aI G (r 7) 4 per, aJ G (r 8) 4 ph, aJ G (r 9) 4 pl, aI G (r 10) 4 ss, aI G (r 11) 1024 sv, aI G (r 12) 1024 sw, aI G (r 14) 229 (jPut ((fw (n1 * 8 + i)).toInt64) 2 (5 + 28 * i + 2) (jPut ((fv (n1 * 8 + i)).toInt64) 2 (5 + 28 * i) (jEts (jHd f c4 q n1 (jPk sz)) fv fw (n1 * 8) sh sl h1 l1 i) 2) 2)] := hD
        refine W.cs (cells' := 0) (slots' := 0) rfl rfl ?_
        refine W.eq (g2 := F0 m 214 ls []) rfl ?_
        refine lv_aload_n hx hb dMo_packet_214 rfl (lv_at hl 2 rfl) ?_
        refine lv_iload hx hb dMo_packet_215 (lv_at hl 1 rfl) ?_
        refine lv_iload hx hb dMo_packet_217 (lv_at hl 0 rfl) ?_
        refine clMo_172 (As := [.int (fv (n1 * 8 + i)), .int (fw (n1 * 8 + i))]) (rest := []) hx hb hml hown hts (k_Mo_makeKy l G oy r (nI 0) e1 e2 dp hdp sh sl (nI (5 + 28 * i + 4)) oh ol x0 x1 x2 f1 g1 m1 (fv (n1 * 8 + i)) (fw (n1 * 8 + i)) (hsub _ (by omega))) hG hA hP hD hS 0 rfl [0, 1, 2, 3, 4] rfl rfl (fun _ => rfl) rfl hl.1 rfl (Nat.le_of_ble_eq_true rfl) ⟨by decide, by decide⟩ ⟨by decide, by decide⟩ dMo_packet_219 (fun u8 H locs _ hP hD hS => ?_)
        have hP : va_P G.1 vwCl [moC oy r (nI 0) ((jKy sh sl (fv (n1 * 8 + i)) (fw (n1 * 8 + i)) (jLv (fw (n1 * 8 + i)) (fv (n1 * 8 + i)))).1) ((jKy sh sl (fv (n1 * 8 + i)) (fw (n1 * 8 + i)) (jLv (fw (n1 * 8 + i)) (fv (n1 * 8 + i)))).2) (nI dp) sh sl (nI (5 + 28 * i + 4)) oh ol x0 x1 x2, aI G (r 0) 256 ckS, aI G (r 2) 176 (bN u8.1), aI G (r 3) 16 (bN u8.2.1), aI G (r 4) 16 (bN u8.2.2), aI G (r 7) 4 per, aJ G (r 8) 4 ph, aJ G (r 9) 4 pl, aI G (r 10) 4 ss, aI G (r 11) 1024 sv, aI G (r 12) 1024 sw, aI G (r 14) 229 (jPut ((fw (n1 * 8 + i)).toInt64) 2 (5 + 28 * i + 2) (jPut ((fv (n1 * 8 + i)).toInt64) 2 (5 + 28 * i) (jEts (jHd f c4 q n1 (jPk sz)) fv fw (n1 * 8) sh sl h1 l1 i) 2) 2)] H := hP
        have hD : va_D A [moC oy r (nI 0) ((jKy sh sl (fv (n1 * 8 + i)) (fw (n1 * 8 + i)) (jLv (fw (n1 * 8 + i)) (fv (n1 * 8 + i)))).1) ((jKy sh sl (fv (n1 * 8 + i)) (fw (n1 * 8 + i)) (jLv (fw (n1 * 8 + i)) (fv (n1 * 8 + i)))).2) (nI dp) sh sl (nI (5 + 28 * i + 4)) oh ol x0 x1 x2, aI G (r 0) 256 ckS, aI G (r 2) 176 (bN u8.1), aI G (r 3) 16 (bN u8.2.1), aI G (r 4) 16 (bN u8.2.2), aI G (r 7) 4 per, aJ G (r 8) 4 ph, aJ G (r 9) 4 pl, aI G (r 10) 4 ss, aI G (r 11) 1024 sv, aI G (r 12) 1024 sw, aI G (r 14) 229 (jPut ((fw (n1 * 8 + i)).toInt64) 2 (5 + 28 * i + 2) (jPut ((fv (n1 * 8 + i)).toInt64) 2 (5 + 28 * i) (jEts (jHd f c4 q n1 (jPk sz)) fv fw (n1 * 8) sh sl h1 l1 i) 2) 2)] := hD
        refine W.cs (cells' := 0) (slots' := 0) rfl rfl ?_
        refine W.eq (g2 := F0 m 222 ls []) rfl ?_
        refine lv_aload_n hx hb dMo_packet_222 rfl (lv_at hl 2 rfl) ?_
        refine lv_aload_n hx hb dMo_packet_223 rfl (lv_at hl 2 rfl) ?_
        refine gfMo_82 hx hb hts hown hG hP 0 rfl rfl dMo_packet_224 ?_
        refine lv_aload_n hx hb dMo_packet_227 rfl (lv_at hl 2 rfl) ?_
        refine gfMo_86 hx hb hts hown hG hP 0 rfl rfl dMo_packet_228 ?_
        refine lv_aload_n hx hb dMo_packet_231 rfl (lv_at hl 2 rfl) ?_
        refine gfMo_35 hx hb hts hown hG hP 0 rfl rfl dMo_packet_232 ?_
        refine lv_iload_n hx hb dMo_packet_235 rfl (lv_at hl 3 rfl) ?_
        refine ck_lald hx hb hG hP 6 rfl (by decide) c4 (rfl) (hc) dMo_packet_236 ?_
        refine ck_rl (y := h1) (hph) ?_
        refine lv_aload_n hx hb dMo_packet_237 rfl (lv_at hl 2 rfl) ?_
        refine gfMo_39 hx hb hts hown hG hP 0 rfl rfl dMo_packet_238 ?_
        refine lv_iload_n hx hb dMo_packet_241 rfl (lv_at hl 3 rfl) ?_
        refine ck_lald hx hb hG hP 7 rfl (by decide) c4 (rfl) (hc) dMo_packet_242 ?_
        refine ck_rl (y := l1) (hpl) ?_
        have hC9 := k_Mo_wrp l G oy r (nI 0) ((jKy sh sl (fv (n1 * 8 + i)) (fw (n1 * 8 + i)) (jLv (fw (n1 * 8 + i)) (fv (n1 * 8 + i)))).1) ((jKy sh sl (fv (n1 * 8 + i)) (fw (n1 * 8 + i)) (jLv (fw (n1 * 8 + i)) (fv (n1 * 8 + i)))).2) (nI dp) sh sl (nI (5 + 28 * i + 4)) oh ol x0 x1 x2 u8.1 u8.2.1 u8.2.2 (jKy sh sl (fv (n1 * 8 + i)) (fw (n1 * 8 + i)) (jLv (fw (n1 * 8 + i)) (fv (n1 * 8 + i)))).1 (jKy sh sl (fv (n1 * 8 + i)) (fw (n1 * 8 + i)) (jLv (fw (n1 * 8 + i)) (fv (n1 * 8 + i)))).2 h1 l1
        have e9 : jEts (jHd f c4 q n1 (jPk sz)) fv fw (n1 * 8) sh sl h1 l1 (i + 1) = jEnt (5 + 28 * i) (jEts (jHd f c4 q n1 (jPk sz)) fv fw (n1 * 8) sh sl h1 l1 i) (fv (n1 * 8 + i)) (fw (n1 * 8 + i)) (jWr (jKey (jKy sh sl (fv (n1 * 8 + i)) (fw (n1 * 8 + i)) (jLv (fw (n1 * 8 + i)) (fv (n1 * 8 + i)))).1 (jKy sh sl (fv (n1 * 8 + i)) (fw (n1 * 8 + i)) (jLv (fw (n1 * 8 + i)) (fv (n1 * 8 + i)))).2) (jSeal, h1, l1) 12) := rfl
        generalize jWr (jKey (jKy sh sl (fv (n1 * 8 + i)) (fw (n1 * 8 + i)) (jLv (fw (n1 * 8 + i)) (fv (n1 * 8 + i)))).1 (jKy sh sl (fv (n1 * 8 + i)) (fw (n1 * 8 + i)) (jLv (fw (n1 * 8 + i)) (fv (n1 * 8 + i)))).2) (jSeal, h1, l1) 12 = q3 at hC9 e9
        refine clMo_175 (As := [.long ((jKy sh sl (fv (n1 * 8 + i)) (fw (n1 * 8 + i)) (jLv (fw (n1 * 8 + i)) (fv (n1 * 8 + i)))).1), .long ((jKy sh sl (fv (n1 * 8 + i)) (fw (n1 * 8 + i)) (jLv (fw (n1 * 8 + i)) (fv (n1 * 8 + i)))).2), .long h1, .long l1]) (rest := []) hx hb hml hown hts hC9 hG hA hP hD hS 0 rfl [0, 1, 2, 3, 4] rfl rfl (fun _ => rfl) rfl hl.1 rfl (Nat.le_of_ble_eq_true rfl) ⟨by decide, by decide⟩ ⟨by decide, by decide⟩ dMo_packet_243 (fun u9 H locs _ hP hD hS => ?_)
        have hP : va_P G.1 vwCl [moC oy r (nI 0) u9.2.2.2.1 u9.2.2.2.2 (nI dp) sh sl (nI (5 + 28 * i + 4)) oh ol q3.1 q3.2.1 q3.2.2, aI G (r 0) 256 ckS, aI G (r 2) 176 (bN u9.1), aI G (r 3) 16 (bN u9.2.1), aI G (r 4) 16 (bN u9.2.2.1), aI G (r 7) 4 per, aJ G (r 8) 4 ph, aJ G (r 9) 4 pl, aI G (r 10) 4 ss, aI G (r 11) 1024 sv, aI G (r 12) 1024 sw, aI G (r 14) 229 (jPut ((fw (n1 * 8 + i)).toInt64) 2 (5 + 28 * i + 2) (jPut ((fv (n1 * 8 + i)).toInt64) 2 (5 + 28 * i) (jEts (jHd f c4 q n1 (jPk sz)) fv fw (n1 * 8) sh sl h1 l1 i) 2) 2)] H := hP
        have hD : va_D A [moC oy r (nI 0) u9.2.2.2.1 u9.2.2.2.2 (nI dp) sh sl (nI (5 + 28 * i + 4)) oh ol q3.1 q3.2.1 q3.2.2, aI G (r 0) 256 ckS, aI G (r 2) 176 (bN u9.1), aI G (r 3) 16 (bN u9.2.1), aI G (r 4) 16 (bN u9.2.2.1), aI G (r 7) 4 per, aJ G (r 8) 4 ph, aJ G (r 9) 4 pl, aI G (r 10) 4 ss, aI G (r 11) 1024 sv, aI G (r 12) 1024 sw, aI G (r 14) 229 (jPut ((fw (n1 * 8 + i)).toInt64) 2 (5 + 28 * i + 2) (jPut ((fv (n1 * 8 + i)).toInt64) 2 (5 + 28 * i) (jEts (jHd f c4 q n1 (jPk sz)) fv fw (n1 * 8) sh sl h1 l1 i) 2) 2)] := hD
        refine W.cs (cells' := 0) (slots' := 0) rfl rfl ?_
        refine W.eq (g2 := F0 m 246 ls []) rfl ?_
        refine lv_aload_n hx hb dMo_packet_246 rfl (lv_at hl 2 rfl) ?_
        refine lv_aload_n hx hb dMo_packet_247 rfl (lv_at hl 2 rfl) ?_
        refine gfMo_111 hx hb hts hown hG hP 0 rfl rfl dMo_packet_248 ?_
        refine lv_bipush (v := nI 8) hx hb dMo_packet_251 (by decide) ?_
        refine clMo_168 (As := [.long q3.1, .int (nI 8)]) (rest := []) hx hb hml hown hts (k_Mo_putAir l G oy r (nI 0) u9.2.2.2.1 u9.2.2.2.2 (nI dp) sh sl oh ol q3.1 q3.2.1 q3.2.2 (5 + 28 * i + 4) 8 (by omega) (by omega) (jPut ((fw (n1 * 8 + i)).toInt64) 2 (5 + 28 * i + 2) (jPut ((fv (n1 * 8 + i)).toInt64) 2 (5 + 28 * i) (jEts (jHd f c4 q n1 (jPk sz)) fv fw (n1 * 8) sh sl h1 l1 i) 2) 2) q3.1) hG hA hP hD hS 0 rfl [0, 11] rfl rfl (fun _ => rfl) rfl hl.1 rfl (Nat.le_of_ble_eq_true rfl) ⟨by decide, by decide⟩ ⟨by decide, by decide⟩ dMo_packet_253 (fun _ H locs _ hP hD hS => ?_)
        have hP : va_P G.1 vwCl [moC oy r (nI 0) u9.2.2.2.1 u9.2.2.2.2 (nI dp) sh sl (nI (5 + 28 * i + 12)) oh ol q3.1 q3.2.1 q3.2.2, aI G (r 0) 256 ckS, aI G (r 2) 176 (bN u9.1), aI G (r 3) 16 (bN u9.2.1), aI G (r 4) 16 (bN u9.2.2.1), aI G (r 7) 4 per, aJ G (r 8) 4 ph, aJ G (r 9) 4 pl, aI G (r 10) 4 ss, aI G (r 11) 1024 sv, aI G (r 12) 1024 sw, aI G (r 14) 229 (jPut q3.1 8 (5 + 28 * i + 4) (jPut ((fw (n1 * 8 + i)).toInt64) 2 (5 + 28 * i + 2) (jPut ((fv (n1 * 8 + i)).toInt64) 2 (5 + 28 * i) (jEts (jHd f c4 q n1 (jPk sz)) fv fw (n1 * 8) sh sl h1 l1 i) 2) 2) 8)] H := hP
        have hD : va_D A [moC oy r (nI 0) u9.2.2.2.1 u9.2.2.2.2 (nI dp) sh sl (nI (5 + 28 * i + 12)) oh ol q3.1 q3.2.1 q3.2.2, aI G (r 0) 256 ckS, aI G (r 2) 176 (bN u9.1), aI G (r 3) 16 (bN u9.2.1), aI G (r 4) 16 (bN u9.2.2.1), aI G (r 7) 4 per, aJ G (r 8) 4 ph, aJ G (r 9) 4 pl, aI G (r 10) 4 ss, aI G (r 11) 1024 sv, aI G (r 12) 1024 sw, aI G (r 14) 229 (jPut q3.1 8 (5 + 28 * i + 4) (jPut ((fw (n1 * 8 + i)).toInt64) 2 (5 + 28 * i + 2) (jPut ((fv (n1 * 8 + i)).toInt64) 2 (5 + 28 * i) (jEts (jHd f c4 q n1 (jPk sz)) fv fw (n1 * 8) sh sl h1 l1 i) 2) 2) 8)] := hD
        refine W.cs (cells' := 0) (slots' := 0) rfl rfl ?_
        refine W.eq (g2 := F0 m 256 ls []) rfl ?_
        refine lv_aload_n hx hb dMo_packet_256 rfl (lv_at hl 2 rfl) ?_
        refine lv_aload_n hx hb dMo_packet_257 rfl (lv_at hl 2 rfl) ?_
        refine gfMo_114 hx hb hts hown hG hP 0 rfl rfl dMo_packet_258 ?_
        refine lv_bipush (v := nI 8) hx hb dMo_packet_261 (by decide) ?_
        refine clMo_168 (As := [.long q3.2.1, .int (nI 8)]) (rest := []) hx hb hml hown hts (k_Mo_putAir l G oy r (nI 0) u9.2.2.2.1 u9.2.2.2.2 (nI dp) sh sl oh ol q3.1 q3.2.1 q3.2.2 (5 + 28 * i + 12) 8 (by omega) (by omega) (jPut q3.1 8 (5 + 28 * i + 4) (jPut ((fw (n1 * 8 + i)).toInt64) 2 (5 + 28 * i + 2) (jPut ((fv (n1 * 8 + i)).toInt64) 2 (5 + 28 * i) (jEts (jHd f c4 q n1 (jPk sz)) fv fw (n1 * 8) sh sl h1 l1 i) 2) 2) 8) q3.2.1) hG hA hP hD hS 0 rfl [0, 11] rfl rfl (fun _ => rfl) rfl hl.1 rfl (Nat.le_of_ble_eq_true rfl) ⟨by decide, by decide⟩ ⟨by decide, by decide⟩ dMo_packet_263 (fun _ H locs _ hP hD hS => ?_)
        have hP : va_P G.1 vwCl [moC oy r (nI 0) u9.2.2.2.1 u9.2.2.2.2 (nI dp) sh sl (nI (5 + 28 * i + 20)) oh ol q3.1 q3.2.1 q3.2.2, aI G (r 0) 256 ckS, aI G (r 2) 176 (bN u9.1), aI G (r 3) 16 (bN u9.2.1), aI G (r 4) 16 (bN u9.2.2.1), aI G (r 7) 4 per, aJ G (r 8) 4 ph, aJ G (r 9) 4 pl, aI G (r 10) 4 ss, aI G (r 11) 1024 sv, aI G (r 12) 1024 sw, aI G (r 14) 229 (jPut q3.2.1 8 (5 + 28 * i + 12) (jPut q3.1 8 (5 + 28 * i + 4) (jPut ((fw (n1 * 8 + i)).toInt64) 2 (5 + 28 * i + 2) (jPut ((fv (n1 * 8 + i)).toInt64) 2 (5 + 28 * i) (jEts (jHd f c4 q n1 (jPk sz)) fv fw (n1 * 8) sh sl h1 l1 i) 2) 2) 8) 8)] H := hP
        have hD : va_D A [moC oy r (nI 0) u9.2.2.2.1 u9.2.2.2.2 (nI dp) sh sl (nI (5 + 28 * i + 20)) oh ol q3.1 q3.2.1 q3.2.2, aI G (r 0) 256 ckS, aI G (r 2) 176 (bN u9.1), aI G (r 3) 16 (bN u9.2.1), aI G (r 4) 16 (bN u9.2.2.1), aI G (r 7) 4 per, aJ G (r 8) 4 ph, aJ G (r 9) 4 pl, aI G (r 10) 4 ss, aI G (r 11) 1024 sv, aI G (r 12) 1024 sw, aI G (r 14) 229 (jPut q3.2.1 8 (5 + 28 * i + 12) (jPut q3.1 8 (5 + 28 * i + 4) (jPut ((fw (n1 * 8 + i)).toInt64) 2 (5 + 28 * i + 2) (jPut ((fv (n1 * 8 + i)).toInt64) 2 (5 + 28 * i) (jEts (jHd f c4 q n1 (jPk sz)) fv fw (n1 * 8) sh sl h1 l1 i) 2) 2) 8) 8)] := hD
        refine W.cs (cells' := 0) (slots' := 0) rfl rfl ?_
        refine W.eq (g2 := F0 m 266 ls []) rfl ?_
        refine lv_aload_n hx hb dMo_packet_266 rfl (lv_at hl 2 rfl) ?_
        refine lv_aload_n hx hb dMo_packet_267 rfl (lv_at hl 2 rfl) ?_
        refine gfMo_117 hx hb hts hown hG hP 0 rfl rfl dMo_packet_268 ?_
        refine lv_bipush (v := nI 8) hx hb dMo_packet_271 (by decide) ?_
        refine clMo_168 (As := [.long q3.2.2, .int (nI 8)]) (rest := []) hx hb hml hown hts (k_Mo_putAir l G oy r (nI 0) u9.2.2.2.1 u9.2.2.2.2 (nI dp) sh sl oh ol q3.1 q3.2.1 q3.2.2 (5 + 28 * i + 20) 8 (by omega) (by omega) (jPut q3.2.1 8 (5 + 28 * i + 12) (jPut q3.1 8 (5 + 28 * i + 4) (jPut ((fw (n1 * 8 + i)).toInt64) 2 (5 + 28 * i + 2) (jPut ((fv (n1 * 8 + i)).toInt64) 2 (5 + 28 * i) (jEts (jHd f c4 q n1 (jPk sz)) fv fw (n1 * 8) sh sl h1 l1 i) 2) 2) 8) 8) q3.2.2) hG hA hP hD hS 0 rfl [0, 11] rfl rfl (fun _ => rfl) rfl hl.1 rfl (Nat.le_of_ble_eq_true rfl) ⟨by decide, by decide⟩ ⟨by decide, by decide⟩ dMo_packet_273 (fun _ H locs _ hP hD hS => ?_)
        have hP : va_P G.1 vwCl [moC oy r (nI 0) u9.2.2.2.1 u9.2.2.2.2 (nI dp) sh sl (nI (5 + 28 * i + 28)) oh ol q3.1 q3.2.1 q3.2.2, aI G (r 0) 256 ckS, aI G (r 2) 176 (bN u9.1), aI G (r 3) 16 (bN u9.2.1), aI G (r 4) 16 (bN u9.2.2.1), aI G (r 7) 4 per, aJ G (r 8) 4 ph, aJ G (r 9) 4 pl, aI G (r 10) 4 ss, aI G (r 11) 1024 sv, aI G (r 12) 1024 sw, aI G (r 14) 229 (jPut q3.2.2 8 (5 + 28 * i + 20) (jPut q3.2.1 8 (5 + 28 * i + 12) (jPut q3.1 8 (5 + 28 * i + 4) (jPut ((fw (n1 * 8 + i)).toInt64) 2 (5 + 28 * i + 2) (jPut ((fv (n1 * 8 + i)).toInt64) 2 (5 + 28 * i) (jEts (jHd f c4 q n1 (jPk sz)) fv fw (n1 * 8) sh sl h1 l1 i) 2) 2) 8) 8) 8)] H := hP
        have hD : va_D A [moC oy r (nI 0) u9.2.2.2.1 u9.2.2.2.2 (nI dp) sh sl (nI (5 + 28 * i + 28)) oh ol q3.1 q3.2.1 q3.2.2, aI G (r 0) 256 ckS, aI G (r 2) 176 (bN u9.1), aI G (r 3) 16 (bN u9.2.1), aI G (r 4) 16 (bN u9.2.2.1), aI G (r 7) 4 per, aJ G (r 8) 4 ph, aJ G (r 9) 4 pl, aI G (r 10) 4 ss, aI G (r 11) 1024 sv, aI G (r 12) 1024 sw, aI G (r 14) 229 (jPut q3.2.2 8 (5 + 28 * i + 20) (jPut q3.2.1 8 (5 + 28 * i + 12) (jPut q3.1 8 (5 + 28 * i + 4) (jPut ((fw (n1 * 8 + i)).toInt64) 2 (5 + 28 * i + 2) (jPut ((fv (n1 * 8 + i)).toInt64) 2 (5 + 28 * i) (jEts (jHd f c4 q n1 (jPk sz)) fv fw (n1 * 8) sh sl h1 l1 i) 2) 2) 8) 8) 8)] := hD
        refine W.cs (cells' := 0) (slots' := 0) rfl rfl ?_
        refine W.eq (g2 := F0 m 276 ls []) rfl ?_
        refine lv_iinc (v := nI (n1 * 8 + (i + 1))) (lv' := [(5, .int (nI (n1 * 8 + (i + 1)))), (7, .int (fw (n1 * 8 + i))), (6, .int (fv (n1 * 8 + i))), (0, .ref oy), (1, .int (nI c4)), (2, .int (nI n1))]) hx hb dMo_packet_276 hl (k := 5) rfl (nI_1 _) (by decide) rfl (fun ls hl => ?_)
        refine lv_goto (tgt := 145) hx hb dMo_packet_279 rfl ?_
        have hP9 : va_P G.1 vwCl [moC oy r (nI 0) u9.2.2.2.1 u9.2.2.2.2 (nI dp) sh sl (nI (5 + 28 * (i + 1))) oh ol q3.1 q3.2.1 q3.2.2, aI G (r 0) 256 ckS, aI G (r 2) 176 (bN u9.1), aI G (r 3) 16 (bN u9.2.1), aI G (r 4) 16 (bN u9.2.2.1), aI G (r 7) 4 per, aJ G (r 8) 4 ph, aJ G (r 9) 4 pl, aI G (r 10) 4 ss, aI G (r 11) 1024 sv, aI G (r 12) 1024 sw, aI G (r 14) 229 (jEts (jHd f c4 q n1 (jPk sz)) fv fw (n1 * 8) sh sl h1 l1 (i + 1))] H := by rw [e9]; exact hP
        have hD9 : va_D A [moC oy r (nI 0) u9.2.2.2.1 u9.2.2.2.2 (nI dp) sh sl (nI (5 + 28 * (i + 1))) oh ol q3.1 q3.2.1 q3.2.2, aI G (r 0) 256 ckS, aI G (r 2) 176 (bN u9.1), aI G (r 3) 16 (bN u9.2.1), aI G (r 4) 16 (bN u9.2.2.1), aI G (r 7) 4 per, aJ G (r 8) 4 ph, aJ G (r 9) 4 pl, aI G (r 10) 4 ss, aI G (r 11) 1024 sv, aI G (r 12) 1024 sw, aI G (r 14) 229 (jEts (jHd f c4 q n1 (jPk sz)) fv fw (n1 * 8) sh sl h1 l1 (i + 1))] := by rw [e9]; exact hD
        exact ih (i + 1) _ _ _ _ _ _ _ _ _ _ _ (by omega) hP9 hD9 hS (lv_sub hl [3, 4, 5, 0] rfl)
    exact loop (jEnd sz n1 - n1 * 8) 0 _ _ _ _ _ _ _ _ _ _ _ (by omega) hP hD hS (lv_sub hl [3, 4, 5, 0] rfl)
set_option maxHeartbeats 4000000 in
set_option maxRecDepth 100000 in
theorem k_Mo_hear_e1 (l : Launch) (G : gG) (oy : Nat) (r : Nat → Nat) (th : Int32) (fi se : Int64) (dp : Nat) (hdp : dp ≤ 8) (sh sl : Int64) (az : Int32) (oh ol w0 w1 w2 : Int64) (d1 : Int32) (hd : jIn (2 ^ dp) d1 = false) : Ck l G yMo_hear cMo_hear 6 (some .int) { frames := 5, cells := 0, slots := 0, locals := 127 } [.ref oy, .int d1] [moC oy r th fi se (nI dp) sh sl az oh ol w0 w1 w2] (some (.int (nI 0))) [moC oy r (nI 1) fi se (nI dp) sh sl az oh ol w0 w1 w2] := by
  refine Cq.of (by decide) (Nat.le_of_ble_eq_true rfl) ?_
  intro p e s m args below meth c A ls hx hb hr hml hts hown hlk hA hP hD hG hS hl
  have hl : lv_has ls 6 [(0, .ref oy), (1, .int d1)] := hl
  refine lv_aload_n hx hb dMo_hear_0 rfl (lv_at hl 0 rfl) ?_
  refine lv_aload_n hx hb dMo_hear_1 rfl (lv_at hl 0 rfl) ?_
  refine lv_iload_n hx hb dMo_hear_2 rfl (lv_at hl 1 rfl) ?_
  refine clMo_158 (As := [.int d1]) (rest := [.ref oy]) hx hb hml hown hts (k_Mo_isDecoder l G oy r th fi se dp hdp sh sl az oh ol w0 w1 w2 d1) hG hA hP hD hS 0 rfl [0] rfl rfl (fun _ => rfl) rfl hl.1 rfl (Nat.le_of_ble_eq_true rfl) ⟨by decide, by decide⟩ ⟨by decide, by decide⟩ dMo_hear_3 (fun _ H locs _ hP hD hS => ?_)
  have hP : va_P G.1 vwCl [moC oy r th fi se (nI dp) sh sl az oh ol w0 w1 w2] H := hP
  have hD : va_D A [moC oy r th fi se (nI dp) sh sl az oh ol w0 w1 w2] := hD
  refine W.cs (cells' := 0) (slots' := 0) rfl rfl ?_
  refine W.eq (g2 := F0 m 6 ls [.int (jB (jIn (2 ^ dp) d1)), .ref oy]) rfl ?_
  refine lv_if_ne (tgt := 13) hx hb dMo_hear_6 rfl (fun h => absurd (by rw [hd]; rfl) h) (fun _ => ?_)
  refine lv_iconst (v := nI 1) hx hb dMo_hear_9 (by decide) ?_
  refine lv_goto (tgt := 34) hx hb dMo_hear_10 rfl ?_
  refine pfMo_74 hx hb hts hown hG hP hD hS 0 rfl rfl rfl (Nat.le_of_ble_eq_true rfl) dMo_hear_34 (fun H locs hP hD hS => ?_)
  have hP : va_P G.1 vwCl [moC oy r (nI 1) fi se (nI dp) sh sl az oh ol w0 w1 w2] H := hP
  have hD : va_D A [moC oy r (nI 1) fi se (nI dp) sh sl az oh ol w0 w1 w2] := hD
  refine lv_aload_n hx hb dMo_hear_37 rfl (lv_at hl 0 rfl) ?_
  refine gfMo_74 hx hb hts hown hG hP 0 rfl rfl dMo_hear_38 ?_
  refine lv_if_gt (tgt := 54) hx hb dMo_hear_41 rfl (fun _ => ?_) (fun h => absurd (by decide) h)
  refine lv_iconst (v := nI 0) hx hb dMo_hear_54 (by decide) ?_
  exact cq_iret () (trivial) hx hb hr hlk hP hS (rfl) (rfl) dMo_hear_55
set_option maxHeartbeats 4000000 in
set_option maxRecDepth 100000 in
theorem k_Mo_hear_e2 (l : Launch) (G : gG) (oy : Nat) (r : Nat → Nat) (th : Int32) (fi se : Int64) (dp : Nat) (hdp : dp ≤ 8) (sh sl : Int64) (az : Int32) (oh ol w0 w1 w2 : Int64) (dd : Nat) (hd : dd < 2 ^ dp) (ins : Nat → Int32) (hi : ins dd = 0) : Ck l G yMo_hear cMo_hear 6 (some .int) { frames := 5, cells := 0, slots := 0, locals := 127 } [.ref oy, .int (nI dd)] [moC oy r th fi se (nI dp) sh sl az oh ol w0 w1 w2, aZ G (r 5) 256 ins] (some (.int (nI 0))) [moC oy r (nI 2) fi se (nI dp) sh sl az oh ol w0 w1 w2, aZ G (r 5) 256 ins] := by
  refine Cq.of (by decide) (Nat.le_of_ble_eq_true rfl) ?_
  intro p e s m args below meth c A ls hx hb hr hml hts hown hlk hA hP hD hG hS hl
  have hp2 := p2_le hdp
  have hp1 := Nat.two_pow_pos dp
  have hdi := jIn_nI (show 2 ^ dp < 2 ^ 31 by omega) hd
  have hl : lv_has ls 6 [(0, .ref oy), (1, .int (nI dd))] := hl
  refine lv_aload_n hx hb dMo_hear_0 rfl (lv_at hl 0 rfl) ?_
  refine lv_aload_n hx hb dMo_hear_1 rfl (lv_at hl 0 rfl) ?_
  refine lv_iload_n hx hb dMo_hear_2 rfl (lv_at hl 1 rfl) ?_
  refine clMo_158 (As := [.int (nI dd)]) (rest := [.ref oy]) hx hb hml hown hts (k_Mo_isDecoder l G oy r th fi se dp hdp sh sl az oh ol w0 w1 w2 (nI dd)) hG hA hP hD hS 0 rfl [0] rfl rfl (fun _ => rfl) rfl hl.1 rfl (Nat.le_of_ble_eq_true rfl) ⟨by decide, by decide⟩ ⟨by decide, by decide⟩ dMo_hear_3 (fun _ H locs _ hP hD hS => ?_)
  have hP : va_P G.1 vwCl [moC oy r th fi se (nI dp) sh sl az oh ol w0 w1 w2, aZ G (r 5) 256 ins] H := hP
  have hD : va_D A [moC oy r th fi se (nI dp) sh sl az oh ol w0 w1 w2, aZ G (r 5) 256 ins] := hD
  refine W.cs (cells' := 0) (slots' := 0) rfl rfl ?_
  refine W.eq (g2 := F0 m 6 ls [.int (jB (jIn (2 ^ dp) (nI dd))), .ref oy]) rfl ?_
  refine lv_if_ne (tgt := 13) hx hb dMo_hear_6 rfl (fun _ => ?_) (fun h => absurd h (by rw [hdi]; decide))
  refine lv_aload_n hx hb dMo_hear_13 rfl (lv_at hl 0 rfl) ?_
  refine gfMo_25 hx hb hts hown hG hP 0 rfl rfl dMo_hear_14 ?_
  refine lv_iload_n hx hb dMo_hear_17 rfl (lv_at hl 1 rfl) ?_
  refine ck_zald hx hb hG hP 1 rfl (by decide) dd (rfl) (by omega) dMo_hear_18 ?_
  refine lv_if_eq (tgt := 29) hx hb dMo_hear_19 rfl (fun _ => ?_) (fun h => absurd (hi) h)
  refine lv_iconst (v := nI 2) hx hb dMo_hear_29 (by decide) ?_
  refine lv_goto (tgt := 34) hx hb dMo_hear_30 rfl ?_
  refine pfMo_74 hx hb hts hown hG hP hD hS 0 rfl rfl rfl (Nat.le_of_ble_eq_true rfl) dMo_hear_34 (fun H locs hP hD hS => ?_)
  have hP : va_P G.1 vwCl [moC oy r (nI 2) fi se (nI dp) sh sl az oh ol w0 w1 w2, aZ G (r 5) 256 ins] H := hP
  have hD : va_D A [moC oy r (nI 2) fi se (nI dp) sh sl az oh ol w0 w1 w2, aZ G (r 5) 256 ins] := hD
  refine lv_aload_n hx hb dMo_hear_37 rfl (lv_at hl 0 rfl) ?_
  refine gfMo_74 hx hb hts hown hG hP 0 rfl rfl dMo_hear_38 ?_
  refine lv_if_gt (tgt := 54) hx hb dMo_hear_41 rfl (fun _ => ?_) (fun h => absurd (by decide) h)
  refine lv_iconst (v := nI 0) hx hb dMo_hear_54 (by decide) ?_
  exact cq_iret () (trivial) hx hb hr hlk hP hS (rfl) (rfl) dMo_hear_55
set_option maxHeartbeats 4000000 in
set_option maxRecDepth 100000 in
theorem k_Mo_hear_e3 (l : Launch) (G : gG) (oy : Nat) (r : Nat → Nat) (th : Int32) (fi se : Int64) (dp : Nat) (hdp : dp ≤ 8) (sh sl : Int64) (az : Int32) (oh ol w0 w1 w2 : Int64) (dd : Nat) (hd : dd < 2 ^ dp) (ins : Nat → Int32) (hi : ¬ ins dd = 0) : Ck l G yMo_hear cMo_hear 6 (some .int) { frames := 5, cells := 0, slots := 0, locals := 127 } [.ref oy, .int (nI dd)] [moC oy r th fi se (nI dp) sh sl (nI 0) oh ol w0 w1 w2, aZ G (r 5) 256 ins] (some (.int (nI 0))) [moC oy r (nI 2) fi se (nI dp) sh sl (nI 0) oh ol w0 w1 w2, aZ G (r 5) 256 ins] := by
  refine Cq.of (by decide) (Nat.le_of_ble_eq_true rfl) ?_
  intro p e s m args below meth c A ls hx hb hr hml hts hown hlk hA hP hD hG hS hl
  have hp2 := p2_le hdp
  have hp1 := Nat.two_pow_pos dp
  have hdi := jIn_nI (show 2 ^ dp < 2 ^ 31 by omega) hd
  have hl : lv_has ls 6 [(0, .ref oy), (1, .int (nI dd))] := hl
  refine lv_aload_n hx hb dMo_hear_0 rfl (lv_at hl 0 rfl) ?_
  refine lv_aload_n hx hb dMo_hear_1 rfl (lv_at hl 0 rfl) ?_
  refine lv_iload_n hx hb dMo_hear_2 rfl (lv_at hl 1 rfl) ?_
  refine clMo_158 (As := [.int (nI dd)]) (rest := [.ref oy]) hx hb hml hown hts (k_Mo_isDecoder l G oy r th fi se dp hdp sh sl (nI 0) oh ol w0 w1 w2 (nI dd)) hG hA hP hD hS 0 rfl [0] rfl rfl (fun _ => rfl) rfl hl.1 rfl (Nat.le_of_ble_eq_true rfl) ⟨by decide, by decide⟩ ⟨by decide, by decide⟩ dMo_hear_3 (fun _ H locs _ hP hD hS => ?_)
  have hP : va_P G.1 vwCl [moC oy r th fi se (nI dp) sh sl (nI 0) oh ol w0 w1 w2, aZ G (r 5) 256 ins] H := hP
  have hD : va_D A [moC oy r th fi se (nI dp) sh sl (nI 0) oh ol w0 w1 w2, aZ G (r 5) 256 ins] := hD
  refine W.cs (cells' := 0) (slots' := 0) rfl rfl ?_
  refine W.eq (g2 := F0 m 6 ls [.int (jB (jIn (2 ^ dp) (nI dd))), .ref oy]) rfl ?_
  refine lv_if_ne (tgt := 13) hx hb dMo_hear_6 rfl (fun _ => ?_) (fun h => absurd h (by rw [hdi]; decide))
  refine lv_aload_n hx hb dMo_hear_13 rfl (lv_at hl 0 rfl) ?_
  refine gfMo_25 hx hb hts hown hG hP 0 rfl rfl dMo_hear_14 ?_
  refine lv_iload_n hx hb dMo_hear_17 rfl (lv_at hl 1 rfl) ?_
  refine ck_zald hx hb hG hP 1 rfl (by decide) dd (rfl) (by omega) dMo_hear_18 ?_
  refine lv_if_eq (tgt := 29) hx hb dMo_hear_19 rfl (fun h => absurd h (hi)) (fun _ => ?_)
  refine lv_aload_n hx hb dMo_hear_22 rfl (lv_at hl 0 rfl) ?_
  refine gfMo_136 hx hb hts hown hG hP 0 rfl rfl dMo_hear_23 ?_
  refine lv_if_ne (tgt := 33) hx hb dMo_hear_26 rfl (fun h => absurd (rfl) h) (fun _ => ?_)
  refine lv_iconst (v := nI 2) hx hb dMo_hear_29 (by decide) ?_
  refine lv_goto (tgt := 34) hx hb dMo_hear_30 rfl ?_
  refine pfMo_74 hx hb hts hown hG hP hD hS 0 rfl rfl rfl (Nat.le_of_ble_eq_true rfl) dMo_hear_34 (fun H locs hP hD hS => ?_)
  have hP : va_P G.1 vwCl [moC oy r (nI 2) fi se (nI dp) sh sl (nI 0) oh ol w0 w1 w2, aZ G (r 5) 256 ins] H := hP
  have hD : va_D A [moC oy r (nI 2) fi se (nI dp) sh sl (nI 0) oh ol w0 w1 w2, aZ G (r 5) 256 ins] := hD
  refine lv_aload_n hx hb dMo_hear_37 rfl (lv_at hl 0 rfl) ?_
  refine gfMo_74 hx hb hts hown hG hP 0 rfl rfl dMo_hear_38 ?_
  refine lv_if_gt (tgt := 54) hx hb dMo_hear_41 rfl (fun _ => ?_) (fun h => absurd (by decide) h)
  refine lv_iconst (v := nI 0) hx hb dMo_hear_54 (by decide) ?_
  exact cq_iret () (trivial) hx hb hr hlk hP hS (rfl) (rfl) dMo_hear_55
set_option maxHeartbeats 4000000 in
set_option maxRecDepth 100000 in
theorem k_Mo_hear0 (l : Launch) (G : gG) (oy : Nat) (r : Nat → Nat) (th : Int32) (fi se : Int64) (dp : Nat) (hdp : dp ≤ 8) (sh sl : Int64) (az : Int32) (oh ol w0 w1 w2 : Int64) (dd : Nat) (hd : dd < 2 ^ dp) (ins f : Nat → Int32) (hi : ¬ ins dd = 0) (q : Nat) (hq : 0 < q) (hq2 : q ≤ 229) (hch : ¬ f 0 < nI 4) : Ck l G yMo_hear cMo_hear 6 (some .int) { frames := 5, cells := 0, slots := 0, locals := 127 } [.ref oy, .int (nI dd)] [moC oy r th fi se (nI dp) sh sl (nI q) oh ol w0 w1 w2, aZ G (r 5) 256 ins, aI G (r 14) 229 f] (some (.int (nI 0))) [moC oy r (nI 0) fi se (nI dp) sh sl (nI q) oh ol w0 w1 w2, aZ G (r 5) 256 ins, aI G (r 14) 229 f] := by
  refine Cq.of (by decide) (Nat.le_of_ble_eq_true rfl) ?_
  intro p e s m args below meth c A ls hx hb hr hml hts hown hlk hA hP hD hG hS hl
  have hp2 := p2_le hdp
  have hp1 := Nat.two_pow_pos dp
  have hdi := jIn_nI (show 2 ^ dp < 2 ^ 31 by omega) hd
  have hl : lv_has ls 6 [(0, .ref oy), (1, .int (nI dd))] := hl
  refine lv_aload_n hx hb dMo_hear_0 rfl (lv_at hl 0 rfl) ?_
  refine lv_aload_n hx hb dMo_hear_1 rfl (lv_at hl 0 rfl) ?_
  refine lv_iload_n hx hb dMo_hear_2 rfl (lv_at hl 1 rfl) ?_
  refine clMo_158 (As := [.int (nI dd)]) (rest := [.ref oy]) hx hb hml hown hts (k_Mo_isDecoder l G oy r th fi se dp hdp sh sl (nI q) oh ol w0 w1 w2 (nI dd)) hG hA hP hD hS 0 rfl [0] rfl rfl (fun _ => rfl) rfl hl.1 rfl (Nat.le_of_ble_eq_true rfl) ⟨by decide, by decide⟩ ⟨by decide, by decide⟩ dMo_hear_3 (fun _ H locs _ hP hD hS => ?_)
  have hP : va_P G.1 vwCl [moC oy r th fi se (nI dp) sh sl (nI q) oh ol w0 w1 w2, aZ G (r 5) 256 ins, aI G (r 14) 229 f] H := hP
  have hD : va_D A [moC oy r th fi se (nI dp) sh sl (nI q) oh ol w0 w1 w2, aZ G (r 5) 256 ins, aI G (r 14) 229 f] := hD
  refine W.cs (cells' := 0) (slots' := 0) rfl rfl ?_
  refine W.eq (g2 := F0 m 6 ls [.int (jB (jIn (2 ^ dp) (nI dd))), .ref oy]) rfl ?_
  refine lv_if_ne (tgt := 13) hx hb dMo_hear_6 rfl (fun _ => ?_) (fun h => absurd h (by rw [hdi]; decide))
  refine lv_aload_n hx hb dMo_hear_13 rfl (lv_at hl 0 rfl) ?_
  refine gfMo_25 hx hb hts hown hG hP 0 rfl rfl dMo_hear_14 ?_
  refine lv_iload_n hx hb dMo_hear_17 rfl (lv_at hl 1 rfl) ?_
  refine ck_zald hx hb hG hP 1 rfl (by decide) dd (rfl) (by omega) dMo_hear_18 ?_
  refine lv_if_eq (tgt := 29) hx hb dMo_hear_19 rfl (fun h => absurd h (hi)) (fun _ => ?_)
  refine lv_aload_n hx hb dMo_hear_22 rfl (lv_at hl 0 rfl) ?_
  refine gfMo_136 hx hb hts hown hG hP 0 rfl rfl dMo_hear_23 ?_
  refine lv_if_ne (tgt := 33) hx hb dMo_hear_26 rfl (fun _ => ?_) (fun h => absurd h (nI_ne0 hq (by omega)))
  refine lv_iconst (v := nI 0) hx hb dMo_hear_33 (by decide) ?_
  refine pfMo_74 hx hb hts hown hG hP hD hS 0 rfl rfl rfl (Nat.le_of_ble_eq_true rfl) dMo_hear_34 (fun H locs hP hD hS => ?_)
  have hP : va_P G.1 vwCl [moC oy r (nI 0) fi se (nI dp) sh sl (nI q) oh ol w0 w1 w2, aZ G (r 5) 256 ins, aI G (r 14) 229 f] H := hP
  have hD : va_D A [moC oy r (nI 0) fi se (nI dp) sh sl (nI q) oh ol w0 w1 w2, aZ G (r 5) 256 ins, aI G (r 14) 229 f] := hD
  refine lv_aload_n hx hb dMo_hear_37 rfl (lv_at hl 0 rfl) ?_
  refine gfMo_74 hx hb hts hown hG hP 0 rfl rfl dMo_hear_38 ?_
  refine lv_if_gt (tgt := 54) hx hb dMo_hear_41 rfl (fun h => absurd h (by decide)) (fun _ => ?_)
  refine lv_aload_n hx hb dMo_hear_44 rfl (lv_at hl 0 rfl) ?_
  refine gfMo_54 hx hb hts hown hG hP 0 rfl rfl dMo_hear_45 ?_
  refine lv_iconst (v := nI 0) hx hb dMo_hear_48 (by decide) ?_
  refine ck_iald hx hb hG hP 2 rfl (by decide) 0 (rfl) (by omega) dMo_hear_49 ?_
  refine lv_iconst (v := nI 3) hx hb dMo_hear_50 (by decide) ?_
  refine lv_icmp_le (tgt := 56) hx hb dMo_hear_51 rfl (fun h => absurd h (Int32.not_le.mpr (i4_gt hch))) (fun _ => ?_)
  refine lv_iconst (v := nI 0) hx hb dMo_hear_54 (by decide) ?_
  exact cq_iret () (trivial) hx hb hr hlk hP hS (rfl) (rfl) dMo_hear_55
set_option maxHeartbeats 4000000 in
set_option maxRecDepth 100000 in
theorem k_Mo_hear1 (l : Launch) (G : gG) (oy : Nat) (r : Nat → Nat) (th : Int32) (fi se : Int64) (dp : Nat) (hdp : dp ≤ 8) (sh sl : Int64) (az : Int32) (oh ol w0 w1 w2 : Int64) (dd : Nat) (hd : dd < 2 ^ dp) (c4 : Nat) (hc : c4 < 4) (ff g m0 : Nat → Nat) (ins f hp : Nat → Int32) (hh hl9 : Nat → Int64) (hi : ¬ ins dd = 0) (m1 : Nat) (hm1 : m1 ≤ 8) (hch : f 0 = nI c4) : Cq l G yMo_hear cMo_hear 6 (some .int) { frames := 5, cells := 0, slots := 0, locals := 127 } [.ref oy, .int (nI dd)] [moC oy r th fi se (nI dp) sh sl (nI (5 + 28 * m1)) oh ol w0 w1 w2, aI G (r 0) 256 ckS, aI G (r 1) 256 ckU, aI G (r 2) 176 (bN ff), aI G (r 3) 16 (bN g), aI G (r 4) 16 (bN m0), aZ G (r 5) 256 ins, aI G (r 14) 229 f, aI G (r 15) 1024 hp, aJ G (r 16) 1024 hh, aJ G (r 17) 1024 hl9] (S := (Nat → Nat) × (Nat → Nat) × (Nat → Nat) × Int64 × Int64 × Int64 × Int64 × Int64) (fun _ => True) (fun u => some (.int (jHr dp (nI dd) f sh sl m1 0 false).1)) (fun u => [moC oy r (nI 0) u.2.2.2.1 u.2.2.2.2.1 (nI dp) sh sl (nI (5 + 28 * m1)) oh ol u.2.2.2.2.2.1 u.2.2.2.2.2.2.1 u.2.2.2.2.2.2.2, aI G (r 0) 256 ckS, aI G (r 1) 256 ckU, aI G (r 2) 176 (bN u.1), aI G (r 3) 16 (bN u.2.1), aI G (r 4) 16 (bN u.2.2.1), aZ G (r 5) 256 ins, aI G (r 14) 229 f, aI G (r 15) 1024 (jKp (jHr dp (nI dd) f sh sl m1 0 false).2 hp (256 * c4 + dd) (jRd f 1 2).toInt32), aJ G (r 16) 1024 (jKh (jHr dp (nI dd) f sh sl m1 0 false).2 hh (256 * c4 + dd)), aJ G (r 17) 1024 (jKl (jHr dp (nI dd) f sh sl m1 0 false).2 hl9 (256 * c4 + dd))]) := by
  refine Cq.of (by decide) (Nat.le_of_ble_eq_true rfl) ?_
  intro p e s m args below meth c A ls hx hb hr hml hts hown hlk hA hP hD hG hS hl
  have hp2 := p2_le hdp
  have hp1 := Nat.two_pow_pos dp
  have hdi := jIn_nI (show 2 ^ dp < 2 ^ 31 by omega) hd
  have hci := jIn_nI (show 4 < 2 ^ 31 by decide) hc
  have hl : lv_has ls 6 [(0, .ref oy), (1, .int (nI dd))] := hl
  refine lv_aload_n hx hb dMo_hear_0 rfl (lv_at hl 0 rfl) ?_
  refine lv_aload_n hx hb dMo_hear_1 rfl (lv_at hl 0 rfl) ?_
  refine lv_iload_n hx hb dMo_hear_2 rfl (lv_at hl 1 rfl) ?_
  refine clMo_158 (As := [.int (nI dd)]) (rest := [.ref oy]) hx hb hml hown hts (k_Mo_isDecoder l G oy r th fi se dp hdp sh sl (nI (5 + 28 * m1)) oh ol w0 w1 w2 (nI dd)) hG hA hP hD hS 0 rfl [0] rfl rfl (fun _ => rfl) rfl hl.1 rfl (Nat.le_of_ble_eq_true rfl) ⟨by decide, by decide⟩ ⟨by decide, by decide⟩ dMo_hear_3 (fun _ H locs _ hP hD hS => ?_)
  have hP : va_P G.1 vwCl [moC oy r th fi se (nI dp) sh sl (nI (5 + 28 * m1)) oh ol w0 w1 w2, aI G (r 0) 256 ckS, aI G (r 1) 256 ckU, aI G (r 2) 176 (bN ff), aI G (r 3) 16 (bN g), aI G (r 4) 16 (bN m0), aZ G (r 5) 256 ins, aI G (r 14) 229 f, aI G (r 15) 1024 hp, aJ G (r 16) 1024 hh, aJ G (r 17) 1024 hl9] H := hP
  have hD : va_D A [moC oy r th fi se (nI dp) sh sl (nI (5 + 28 * m1)) oh ol w0 w1 w2, aI G (r 0) 256 ckS, aI G (r 1) 256 ckU, aI G (r 2) 176 (bN ff), aI G (r 3) 16 (bN g), aI G (r 4) 16 (bN m0), aZ G (r 5) 256 ins, aI G (r 14) 229 f, aI G (r 15) 1024 hp, aJ G (r 16) 1024 hh, aJ G (r 17) 1024 hl9] := hD
  refine W.cs (cells' := 0) (slots' := 0) rfl rfl ?_
  refine W.eq (g2 := F0 m 6 ls [.int (jB (jIn (2 ^ dp) (nI dd))), .ref oy]) rfl ?_
  refine lv_if_ne (tgt := 13) hx hb dMo_hear_6 rfl (fun _ => ?_) (fun h => absurd h (by rw [hdi]; decide))
  refine lv_aload_n hx hb dMo_hear_13 rfl (lv_at hl 0 rfl) ?_
  refine gfMo_25 hx hb hts hown hG hP 0 rfl rfl dMo_hear_14 ?_
  refine lv_iload_n hx hb dMo_hear_17 rfl (lv_at hl 1 rfl) ?_
  refine ck_zald hx hb hG hP 6 rfl (by decide) dd (rfl) (by omega) dMo_hear_18 ?_
  refine lv_if_eq (tgt := 29) hx hb dMo_hear_19 rfl (fun h => absurd h (hi)) (fun _ => ?_)
  refine lv_aload_n hx hb dMo_hear_22 rfl (lv_at hl 0 rfl) ?_
  refine gfMo_136 hx hb hts hown hG hP 0 rfl rfl dMo_hear_23 ?_
  refine lv_if_ne (tgt := 33) hx hb dMo_hear_26 rfl (fun _ => ?_) (fun h => absurd h (nI_ne0 (by omega) (by omega)))
  refine lv_iconst (v := nI 0) hx hb dMo_hear_33 (by decide) ?_
  refine pfMo_74 hx hb hts hown hG hP hD hS 0 rfl rfl rfl (Nat.le_of_ble_eq_true rfl) dMo_hear_34 (fun H locs hP hD hS => ?_)
  have hP : va_P G.1 vwCl [moC oy r (nI 0) fi se (nI dp) sh sl (nI (5 + 28 * m1)) oh ol w0 w1 w2, aI G (r 0) 256 ckS, aI G (r 1) 256 ckU, aI G (r 2) 176 (bN ff), aI G (r 3) 16 (bN g), aI G (r 4) 16 (bN m0), aZ G (r 5) 256 ins, aI G (r 14) 229 f, aI G (r 15) 1024 hp, aJ G (r 16) 1024 hh, aJ G (r 17) 1024 hl9] H := hP
  have hD : va_D A [moC oy r (nI 0) fi se (nI dp) sh sl (nI (5 + 28 * m1)) oh ol w0 w1 w2, aI G (r 0) 256 ckS, aI G (r 1) 256 ckU, aI G (r 2) 176 (bN ff), aI G (r 3) 16 (bN g), aI G (r 4) 16 (bN m0), aZ G (r 5) 256 ins, aI G (r 14) 229 f, aI G (r 15) 1024 hp, aJ G (r 16) 1024 hh, aJ G (r 17) 1024 hl9] := hD
  refine lv_aload_n hx hb dMo_hear_37 rfl (lv_at hl 0 rfl) ?_
  refine gfMo_74 hx hb hts hown hG hP 0 rfl rfl dMo_hear_38 ?_
  refine lv_if_gt (tgt := 54) hx hb dMo_hear_41 rfl (fun h => absurd h (by decide)) (fun _ => ?_)
  refine lv_aload_n hx hb dMo_hear_44 rfl (lv_at hl 0 rfl) ?_
  refine gfMo_54 hx hb hts hown hG hP 0 rfl rfl dMo_hear_45 ?_
  refine lv_iconst (v := nI 0) hx hb dMo_hear_48 (by decide) ?_
  refine ck_iald hx hb hG hP 7 rfl (by decide) 0 (rfl) (by omega) dMo_hear_49 ?_
  refine ck_ri (y := nI c4) (hch) ?_
  refine lv_iconst (v := nI 3) hx hb dMo_hear_50 (by decide) ?_
  refine lv_icmp_le (tgt := 56) hx hb dMo_hear_51 rfl (fun _ => ?_) (fun h => absurd (nI_le (by omega) (by omega)) h)
  refine lv_iconst (v := nI 0) hx hb dMo_hear_56 (by decide) ?_
  refine lv_istore_n (lv' := [(2, .int (nI 0)), (0, .ref oy), (1, .int (nI dd))]) hx hb dMo_hear_57 rfl hl (by decide) rfl (fun ls hl => ?_)
  refine lv_iconst (v := nI 5) hx hb dMo_hear_58 (by decide) ?_
  refine lv_istore_n (lv' := [(3, .int (nI 5)), (2, .int (nI 0)), (0, .ref oy), (1, .int (nI dd))]) hx hb dMo_hear_59 rfl hl (by decide) rfl (fun ls hl => ?_)
  have loop : ∀ (k : Nat) (i : Nat) (b : Bool) (f1 : Nat → Nat) (g1 : Nat → Nat) (m2 : Nat → Nat) (e1 : Int64) (e2 : Int64) (x0 : Int64) (x1 : Int64) (x2 : Int64) (H : Heap) (locs : List Loc) (ls : Array Slot), i + k = m1 → jHr dp (nI dd) f sh sl m1 0 false = jHr dp (nI dd) f sh sl k i b → va_P G.1 vwCl [moC oy r (nI 0) e1 e2 (nI dp) sh sl (nI (5 + 28 * m1)) oh ol x0 x1 x2, aI G (r 0) 256 ckS, aI G (r 1) 256 ckU, aI G (r 2) 176 (bN f1), aI G (r 3) 16 (bN g1), aI G (r 4) 16 (bN m2), aZ G (r 5) 256 ins, aI G (r 14) 229 f, aI G (r 15) 1024 hp, aJ G (r 16) 1024 hh, aJ G (r 17) 1024 hl9] H → va_D A [moC oy r (nI 0) e1 e2 (nI dp) sh sl (nI (5 + 28 * m1)) oh ol x0 x1 x2, aI G (r 0) 256 ckS, aI G (r 1) 256 ckU, aI G (r 2) 176 (bN f1), aI G (r 3) 16 (bN g1), aI G (r 4) 16 (bN m2), aZ G (r 5) 256 ins, aI G (r 14) 229 f, aI G (r 15) 1024 hp, aJ G (r 16) 1024 hh, aJ G (r 17) 1024 hl9] → va_S A s.heap H locs → lv_has ls 6 [(0, .ref oy), (1, .int (nI dd)), (2, .int (rAn b)), (3, .int (nI (5 + 28 * i)))] → W p l e { frames := 5, cells := 0, slots := 0, locals := 127 } s m args below meth c H locs 0 0 (MQ below (cq_out G (S := (Nat → Nat) × (Nat → Nat) × (Nat → Nat) × Int64 × Int64 × Int64 × Int64 × Int64) (fun _ => True) (fun u => some (.int (jHr dp (nI dd) f sh sl m1 0 false).1)) (fun u => [moC oy r (nI 0) u.2.2.2.1 u.2.2.2.2.1 (nI dp) sh sl (nI (5 + 28 * m1)) oh ol u.2.2.2.2.2.1 u.2.2.2.2.2.2.1 u.2.2.2.2.2.2.2, aI G (r 0) 256 ckS, aI G (r 1) 256 ckU, aI G (r 2) 176 (bN u.1), aI G (r 3) 16 (bN u.2.1), aI G (r 4) 16 (bN u.2.2.1), aZ G (r 5) 256 ins, aI G (r 14) 229 f, aI G (r 15) 1024 (jKp (jHr dp (nI dd) f sh sl m1 0 false).2 hp (256 * c4 + dd) (jRd f 1 2).toInt32), aJ G (r 16) 1024 (jKh (jHr dp (nI dd) f sh sl m1 0 false).2 hh (256 * c4 + dd)), aJ G (r 17) 1024 (jKl (jHr dp (nI dd) f sh sl m1 0 false).2 hl9 (256 * c4 + dd))]) A) args s 0 0 A) (F0 m 60 ls []) := by
    intro k
    induction k with
    | zero =>
      intro i b f1 g1 m2 e1 e2 x0 x1 x2 H locs ls hk hq hP hD hS hl
      refine lv_iload_n hx hb dMo_hear_60 rfl (lv_at hl 3 rfl) ?_
      refine lv_aload_n hx hb dMo_hear_61 rfl (lv_at hl 0 rfl) ?_
      refine gfMo_136 hx hb hts hown hG hP 0 rfl rfl dMo_hear_62 ?_
      refine lv_icmp_ge (tgt := 251) hx hb dMo_hear_65 rfl (fun _ => ?_) (fun h => absurd (nI_le (by omega) (by omega)) h)
      refine lv_iload_n hx hb dMo_hear_251 rfl (lv_at hl 2 rfl) ?_
      exact cq_iret (f1, g1, m2, e1, e2, x0, x1, x2) (trivial) hx hb hr hlk hP hS (by rw [hq]; rfl) (by rw [hq]; rfl) dMo_hear_252
    | succ k ih =>
      intro i b f1 g1 m2 e1 e2 x0 x1 x2 H locs ls hk hq hP hD hS hl
      refine lv_iload_n hx hb dMo_hear_60 rfl (lv_at hl 3 rfl) ?_
      refine lv_aload_n hx hb dMo_hear_61 rfl (lv_at hl 0 rfl) ?_
      refine gfMo_136 hx hb hts hown hG hP 0 rfl rfl dMo_hear_62 ?_
      refine lv_icmp_ge (tgt := 251) hx hb dMo_hear_65 rfl (fun h => absurd h (nI_ge (by omega) (by omega))) (fun _ => ?_)
      refine lv_aload_n hx hb dMo_hear_68 rfl (lv_at hl 0 rfl) ?_
      refine lv_iload_n hx hb dMo_hear_69 rfl (lv_at hl 3 rfl) ?_
      refine lv_iconst (v := nI 2) hx hb dMo_hear_70 (by decide) ?_
      refine clMo_178 (As := [.int (nI (5 + 28 * i)), .int (nI 2)]) (rest := []) hx hb hml hown hts (k_Mo_airNumber l G oy r (nI 0) e1 e2 (nI dp) sh sl (nI (5 + 28 * m1)) oh ol x0 x1 x2 (5 + 28 * i) 2 (by omega) f) hG hA hP hD hS 0 rfl [0, 7] rfl rfl (fun _ => rfl) rfl hl.1 rfl (Nat.le_of_ble_eq_true rfl) ⟨by decide, by decide⟩ ⟨by decide, by decide⟩ dMo_hear_71 (fun _ H locs _ hP hD hS => ?_)
      have hP : va_P G.1 vwCl [moC oy r (nI 0) e1 e2 (nI dp) sh sl (nI (5 + 28 * m1)) oh ol x0 x1 x2, aI G (r 0) 256 ckS, aI G (r 1) 256 ckU, aI G (r 2) 176 (bN f1), aI G (r 3) 16 (bN g1), aI G (r 4) 16 (bN m2), aZ G (r 5) 256 ins, aI G (r 14) 229 f, aI G (r 15) 1024 hp, aJ G (r 16) 1024 hh, aJ G (r 17) 1024 hl9] H := hP
      have hD : va_D A [moC oy r (nI 0) e1 e2 (nI dp) sh sl (nI (5 + 28 * m1)) oh ol x0 x1 x2, aI G (r 0) 256 ckS, aI G (r 1) 256 ckU, aI G (r 2) 176 (bN f1), aI G (r 3) 16 (bN g1), aI G (r 4) 16 (bN m2), aZ G (r 5) 256 ins, aI G (r 14) 229 f, aI G (r 15) 1024 hp, aJ G (r 16) 1024 hh, aJ G (r 17) 1024 hl9] := hD
      refine W.cs (cells' := 0) (slots' := 0) rfl rfl ?_
      refine W.eq (g2 := F0 m 74 ls [.long (jRd f (5 + 28 * i) 2)]) rfl ?_
      refine lv_l2i (v := (jRd f (5 + 28 * i) 2).toInt32) hx hb dMo_hear_74 rfl ?_
      refine ck_ri (y := jV f i) (rfl) ?_
      refine lv_topi (fun v9 e_v9 => ?_)
      refine lv_istore (lv' := [(4, .int v9), (0, .ref oy), (1, .int (nI dd)), (2, .int (rAn b)), (3, .int (nI (5 + 28 * i)))]) hx hb dMo_hear_75 hl (by decide) rfl (fun ls hl => ?_)
      refine lv_aload_n hx hb dMo_hear_77 rfl (lv_at hl 1 rfl) ?_
      refine lv_iload_n hx hb dMo_hear_78 rfl (lv_at hl 4 rfl) ?_
      refine lv_iconst (v := nI 2) hx hb dMo_hear_79 (by decide) ?_
      refine lv_iadd hx hb dMo_hear_80 ?_
      refine ck_ri (y := nI (5 + 28 * i + 2)) (nI_add _ 2) ?_
      refine lv_iconst (v := nI 2) hx hb dMo_hear_81 (by decide) ?_
      refine clMo_178 (As := [.int (nI (5 + 28 * i + 2)), .int (nI 2)]) (rest := []) hx hb hml hown hts (k_Mo_airNumber l G oy r (nI 0) e1 e2 (nI dp) sh sl (nI (5 + 28 * m1)) oh ol x0 x1 x2 (5 + 28 * i + 2) 2 (by omega) f) hG hA hP hD hS 0 rfl [0, 7] rfl rfl (fun _ => rfl) rfl hl.1 rfl (Nat.le_of_ble_eq_true rfl) ⟨by decide, by decide⟩ ⟨by decide, by decide⟩ dMo_hear_82 (fun _ H locs _ hP hD hS => ?_)
      have hP : va_P G.1 vwCl [moC oy r (nI 0) e1 e2 (nI dp) sh sl (nI (5 + 28 * m1)) oh ol x0 x1 x2, aI G (r 0) 256 ckS, aI G (r 1) 256 ckU, aI G (r 2) 176 (bN f1), aI G (r 3) 16 (bN g1), aI G (r 4) 16 (bN m2), aZ G (r 5) 256 ins, aI G (r 14) 229 f, aI G (r 15) 1024 hp, aJ G (r 16) 1024 hh, aJ G (r 17) 1024 hl9] H := hP
      have hD : va_D A [moC oy r (nI 0) e1 e2 (nI dp) sh sl (nI (5 + 28 * m1)) oh ol x0 x1 x2, aI G (r 0) 256 ckS, aI G (r 1) 256 ckU, aI G (r 2) 176 (bN f1), aI G (r 3) 16 (bN g1), aI G (r 4) 16 (bN m2), aZ G (r 5) 256 ins, aI G (r 14) 229 f, aI G (r 15) 1024 hp, aJ G (r 16) 1024 hh, aJ G (r 17) 1024 hl9] := hD
      refine W.cs (cells' := 0) (slots' := 0) rfl rfl ?_
      refine W.eq (g2 := F0 m 85 ls [.long (jRd f (5 + 28 * i + 2) 2)]) rfl ?_
      refine lv_l2i (v := (jRd f (5 + 28 * i + 2) 2).toInt32) hx hb dMo_hear_85 rfl ?_
      refine ck_ri (y := jW f i) (rfl) ?_
      refine lv_topi (fun w9 e_w9 => ?_)
      refine lv_istore (lv' := [(5, .int w9), (4, .int v9), (0, .ref oy), (1, .int (nI dd)), (2, .int (rAn b)), (3, .int (nI (5 + 28 * i)))]) hx hb dMo_hear_86 hl (by decide) rfl (fun ls hl => ?_)
      refine lv_aload_n hx hb dMo_hear_88 rfl (lv_at hl 2 rfl) ?_
      refine lv_iload hx hb dMo_hear_89 (lv_at hl 1 rfl) ?_
      refine lv_iload hx hb dMo_hear_91 (lv_at hl 0 rfl) ?_
      refine clMo_182 (As := [.int v9, .int w9]) (rest := []) hx hb hml hown hts (k_Mo_isSub l G oy r (nI 0) e1 e2 dp hdp sh sl (nI (5 + 28 * m1)) oh ol x0 x1 x2 v9 w9) hG hA hP hD hS 0 rfl [0] rfl rfl (fun _ => rfl) rfl hl.1 rfl (Nat.le_of_ble_eq_true rfl) ⟨by decide, by decide⟩ ⟨by decide, by decide⟩ dMo_hear_93 (fun _ H locs _ hP hD hS => ?_)
      have hP : va_P G.1 vwCl [moC oy r (nI 0) e1 e2 (nI dp) sh sl (nI (5 + 28 * m1)) oh ol x0 x1 x2, aI G (r 0) 256 ckS, aI G (r 1) 256 ckU, aI G (r 2) 176 (bN f1), aI G (r 3) 16 (bN g1), aI G (r 4) 16 (bN m2), aZ G (r 5) 256 ins, aI G (r 14) 229 f, aI G (r 15) 1024 hp, aJ G (r 16) 1024 hh, aJ G (r 17) 1024 hl9] H := hP
      have hD : va_D A [moC oy r (nI 0) e1 e2 (nI dp) sh sl (nI (5 + 28 * m1)) oh ol x0 x1 x2, aI G (r 0) 256 ckS, aI G (r 1) 256 ckU, aI G (r 2) 176 (bN f1), aI G (r 3) 16 (bN g1), aI G (r 4) 16 (bN m2), aZ G (r 5) 256 ins, aI G (r 14) 229 f, aI G (r 15) 1024 hp, aJ G (r 16) 1024 hh, aJ G (r 17) 1024 hl9] := hD
      refine W.cs (cells' := 0) (slots' := 0) rfl rfl ?_
      refine W.eq (g2 := F0 m 96 ls [.int (jB (jSub dp v9 w9))]) rfl ?_
      refine lv_if_eq (tgt := 245) hx hb dMo_hear_96 rfl (fun h7 => ?_) (fun h7 => ?_)
      · have hd9 : jDer dp (nI dd) v9 w9 = false := jDer_n ((jB_0 _).mp h7)
        refine lv_iinc (v := nI (5 + 28 * (i + 1))) (lv' := [(3, .int (nI (5 + 28 * (i + 1)))), (5, .int w9), (4, .int v9), (0, .ref oy), (1, .int (nI dd)), (2, .int (rAn b))]) hx hb dMo_hear_245 hl (k := 5) rfl (nI_add (5 + 28 * i) 28) (by decide) rfl (fun ls hl => ?_)
        refine lv_goto (tgt := 60) hx hb dMo_hear_248 rfl ?_
        have e10 := hq.trans (if_neg (by rw [← e_v9, ← e_w9, hd9]; decide))
        exact ih (i + 1) b _ _ _ _ _ _ _ _ _ _ _ (by omega) e10 hP hD hS (lv_sub hl [3, 4, 5, 0] rfl)
      · have hs7 : jSub dp v9 w9 = true := (jB_n0 _).mp h7
        refine lv_aload_n hx hb dMo_hear_99 rfl (lv_at hl 2 rfl) ?_
        refine lv_iload hx hb dMo_hear_100 (lv_at hl 1 rfl) ?_
        refine lv_iload hx hb dMo_hear_102 (lv_at hl 0 rfl) ?_
        refine lv_iload_n hx hb dMo_hear_104 rfl (lv_at hl 3 rfl) ?_
        refine clMo_185 (As := [.int v9, .int w9, .int (nI dd)]) (rest := []) hx hb hml hown hts (k_Mo_hasLf l G oy r (nI 0) e1 e2 dp hdp sh sl (nI (5 + 28 * m1)) oh ol x0 x1 x2 v9 w9 dd hd hs7) hG hA hP hD hS 0 rfl [0] rfl rfl (fun _ => rfl) rfl hl.1 rfl (Nat.le_of_ble_eq_true rfl) ⟨by decide, by decide⟩ ⟨by decide, by decide⟩ dMo_hear_105 (fun _ H locs _ hP hD hS => ?_)
        have hP : va_P G.1 vwCl [moC oy r (nI 0) e1 e2 (nI dp) sh sl (nI (5 + 28 * m1)) oh ol x0 x1 x2, aI G (r 0) 256 ckS, aI G (r 1) 256 ckU, aI G (r 2) 176 (bN f1), aI G (r 3) 16 (bN g1), aI G (r 4) 16 (bN m2), aZ G (r 5) 256 ins, aI G (r 14) 229 f, aI G (r 15) 1024 hp, aJ G (r 16) 1024 hh, aJ G (r 17) 1024 hl9] H := hP
        have hD : va_D A [moC oy r (nI 0) e1 e2 (nI dp) sh sl (nI (5 + 28 * m1)) oh ol x0 x1 x2, aI G (r 0) 256 ckS, aI G (r 1) 256 ckU, aI G (r 2) 176 (bN f1), aI G (r 3) 16 (bN g1), aI G (r 4) 16 (bN m2), aZ G (r 5) 256 ins, aI G (r 14) 229 f, aI G (r 15) 1024 hp, aJ G (r 16) 1024 hh, aJ G (r 17) 1024 hl9] := hD
        refine W.cs (cells' := 0) (slots' := 0) rfl rfl ?_
        refine W.eq (g2 := F0 m 108 ls [.int (jB (jDer dp (nI dd) v9 w9))]) rfl ?_
        refine lv_if_eq (tgt := 245) hx hb dMo_hear_108 rfl (fun h8 => ?_) (fun h8 => ?_)
        · have hd9 : jDer dp (nI dd) v9 w9 = false := (jB_0 _).mp h8
          refine lv_iinc (v := nI (5 + 28 * (i + 1))) (lv' := [(3, .int (nI (5 + 28 * (i + 1)))), (5, .int w9), (4, .int v9), (0, .ref oy), (1, .int (nI dd)), (2, .int (rAn b))]) hx hb dMo_hear_245 hl (k := 5) rfl (nI_add (5 + 28 * i) 28) (by decide) rfl (fun ls hl => ?_)
          refine lv_goto (tgt := 60) hx hb dMo_hear_248 rfl ?_
          have e10 := hq.trans (if_neg (by rw [← e_v9, ← e_w9, hd9]; decide))
          exact ih (i + 1) b _ _ _ _ _ _ _ _ _ _ _ (by omega) e10 hP hD hS (lv_sub hl [3, 4, 5, 0] rfl)
        · have hd9 : jDer dp (nI dd) v9 w9 = true := (jB_n0 _).mp h8
          refine lv_aload_n hx hb dMo_hear_111 rfl (lv_at hl 2 rfl) ?_
          refine lv_aload_n hx hb dMo_hear_112 rfl (lv_at hl 2 rfl) ?_
          refine lv_iload_n hx hb dMo_hear_113 rfl (lv_at hl 5 rfl) ?_
          refine lv_iconst (v := nI 4) hx hb dMo_hear_114 (by decide) ?_
          refine lv_iadd hx hb dMo_hear_115 ?_
          refine ck_ri (y := nI (5 + 28 * i + 4)) (nI_add _ 4) ?_
          refine lv_bipush (v := nI 8) hx hb dMo_hear_116 (by decide) ?_
          refine clMo_178 (As := [.int (nI (5 + 28 * i + 4)), .int (nI 8)]) (rest := [.ref oy]) hx hb hml hown hts (k_Mo_airNumber l G oy r (nI 0) e1 e2 (nI dp) sh sl (nI (5 + 28 * m1)) oh ol x0 x1 x2 (5 + 28 * i + 4) 8 (by omega) f) hG hA hP hD hS 0 rfl [0, 7] rfl rfl (fun _ => rfl) rfl hl.1 rfl (Nat.le_of_ble_eq_true rfl) ⟨by decide, by decide⟩ ⟨by decide, by decide⟩ dMo_hear_118 (fun _ H locs _ hP hD hS => ?_)
          have hP : va_P G.1 vwCl [moC oy r (nI 0) e1 e2 (nI dp) sh sl (nI (5 + 28 * m1)) oh ol x0 x1 x2, aI G (r 0) 256 ckS, aI G (r 1) 256 ckU, aI G (r 2) 176 (bN f1), aI G (r 3) 16 (bN g1), aI G (r 4) 16 (bN m2), aZ G (r 5) 256 ins, aI G (r 14) 229 f, aI G (r 15) 1024 hp, aJ G (r 16) 1024 hh, aJ G (r 17) 1024 hl9] H := hP
          have hD : va_D A [moC oy r (nI 0) e1 e2 (nI dp) sh sl (nI (5 + 28 * m1)) oh ol x0 x1 x2, aI G (r 0) 256 ckS, aI G (r 1) 256 ckU, aI G (r 2) 176 (bN f1), aI G (r 3) 16 (bN g1), aI G (r 4) 16 (bN m2), aZ G (r 5) 256 ins, aI G (r 14) 229 f, aI G (r 15) 1024 hp, aJ G (r 16) 1024 hh, aJ G (r 17) 1024 hl9] := hD
          refine W.cs (cells' := 0) (slots' := 0) rfl rfl ?_
          refine W.eq (g2 := F0 m 121 ls [.long (jRd f (5 + 28 * i + 4) 8), .ref oy]) rfl ?_
          refine pfMo_111 hx hb hts hown hG hP hD hS 0 rfl rfl rfl (Nat.le_of_ble_eq_true rfl) dMo_hear_121 (fun H locs hP hD hS => ?_)
          have hP : va_P G.1 vwCl [moC oy r (nI 0) e1 e2 (nI dp) sh sl (nI (5 + 28 * m1)) oh ol (jRd f (5 + 28 * i + 4) 8) x1 x2, aI G (r 0) 256 ckS, aI G (r 1) 256 ckU, aI G (r 2) 176 (bN f1), aI G (r 3) 16 (bN g1), aI G (r 4) 16 (bN m2), aZ G (r 5) 256 ins, aI G (r 14) 229 f, aI G (r 15) 1024 hp, aJ G (r 16) 1024 hh, aJ G (r 17) 1024 hl9] H := hP
          have hD : va_D A [moC oy r (nI 0) e1 e2 (nI dp) sh sl (nI (5 + 28 * m1)) oh ol (jRd f (5 + 28 * i + 4) 8) x1 x2, aI G (r 0) 256 ckS, aI G (r 1) 256 ckU, aI G (r 2) 176 (bN f1), aI G (r 3) 16 (bN g1), aI G (r 4) 16 (bN m2), aZ G (r 5) 256 ins, aI G (r 14) 229 f, aI G (r 15) 1024 hp, aJ G (r 16) 1024 hh, aJ G (r 17) 1024 hl9] := hD
          refine lv_aload_n hx hb dMo_hear_124 rfl (lv_at hl 2 rfl) ?_
          refine lv_aload_n hx hb dMo_hear_125 rfl (lv_at hl 2 rfl) ?_
          refine lv_iload_n hx hb dMo_hear_126 rfl (lv_at hl 5 rfl) ?_
          refine lv_bipush (v := nI 12) hx hb dMo_hear_127 (by decide) ?_
          refine lv_iadd hx hb dMo_hear_129 ?_
          refine ck_ri (y := nI (5 + 28 * i + 12)) (nI_add _ 12) ?_
          refine lv_bipush (v := nI 8) hx hb dMo_hear_130 (by decide) ?_
          refine clMo_178 (As := [.int (nI (5 + 28 * i + 12)), .int (nI 8)]) (rest := [.ref oy]) hx hb hml hown hts (k_Mo_airNumber l G oy r (nI 0) e1 e2 (nI dp) sh sl (nI (5 + 28 * m1)) oh ol (jRd f (5 + 28 * i + 4) 8) x1 x2 (5 + 28 * i + 12) 8 (by omega) f) hG hA hP hD hS 0 rfl [0, 7] rfl rfl (fun _ => rfl) rfl hl.1 rfl (Nat.le_of_ble_eq_true rfl) ⟨by decide, by decide⟩ ⟨by decide, by decide⟩ dMo_hear_132 (fun _ H locs _ hP hD hS => ?_)
          have hP : va_P G.1 vwCl [moC oy r (nI 0) e1 e2 (nI dp) sh sl (nI (5 + 28 * m1)) oh ol (jRd f (5 + 28 * i + 4) 8) x1 x2, aI G (r 0) 256 ckS, aI G (r 1) 256 ckU, aI G (r 2) 176 (bN f1), aI G (r 3) 16 (bN g1), aI G (r 4) 16 (bN m2), aZ G (r 5) 256 ins, aI G (r 14) 229 f, aI G (r 15) 1024 hp, aJ G (r 16) 1024 hh, aJ G (r 17) 1024 hl9] H := hP
          have hD : va_D A [moC oy r (nI 0) e1 e2 (nI dp) sh sl (nI (5 + 28 * m1)) oh ol (jRd f (5 + 28 * i + 4) 8) x1 x2, aI G (r 0) 256 ckS, aI G (r 1) 256 ckU, aI G (r 2) 176 (bN f1), aI G (r 3) 16 (bN g1), aI G (r 4) 16 (bN m2), aZ G (r 5) 256 ins, aI G (r 14) 229 f, aI G (r 15) 1024 hp, aJ G (r 16) 1024 hh, aJ G (r 17) 1024 hl9] := hD
          refine W.cs (cells' := 0) (slots' := 0) rfl rfl ?_
          refine W.eq (g2 := F0 m 135 ls [.long (jRd f (5 + 28 * i + 12) 8), .ref oy]) rfl ?_
          refine pfMo_114 hx hb hts hown hG hP hD hS 0 rfl rfl rfl (Nat.le_of_ble_eq_true rfl) dMo_hear_135 (fun H locs hP hD hS => ?_)
          have hP : va_P G.1 vwCl [moC oy r (nI 0) e1 e2 (nI dp) sh sl (nI (5 + 28 * m1)) oh ol (jRd f (5 + 28 * i + 4) 8) (jRd f (5 + 28 * i + 12) 8) x2, aI G (r 0) 256 ckS, aI G (r 1) 256 ckU, aI G (r 2) 176 (bN f1), aI G (r 3) 16 (bN g1), aI G (r 4) 16 (bN m2), aZ G (r 5) 256 ins, aI G (r 14) 229 f, aI G (r 15) 1024 hp, aJ G (r 16) 1024 hh, aJ G (r 17) 1024 hl9] H := hP
          have hD : va_D A [moC oy r (nI 0) e1 e2 (nI dp) sh sl (nI (5 + 28 * m1)) oh ol (jRd f (5 + 28 * i + 4) 8) (jRd f (5 + 28 * i + 12) 8) x2, aI G (r 0) 256 ckS, aI G (r 1) 256 ckU, aI G (r 2) 176 (bN f1), aI G (r 3) 16 (bN g1), aI G (r 4) 16 (bN m2), aZ G (r 5) 256 ins, aI G (r 14) 229 f, aI G (r 15) 1024 hp, aJ G (r 16) 1024 hh, aJ G (r 17) 1024 hl9] := hD
          refine lv_aload_n hx hb dMo_hear_138 rfl (lv_at hl 2 rfl) ?_
          refine lv_aload_n hx hb dMo_hear_139 rfl (lv_at hl 2 rfl) ?_
          refine lv_iload_n hx hb dMo_hear_140 rfl (lv_at hl 5 rfl) ?_
          refine lv_bipush (v := nI 20) hx hb dMo_hear_141 (by decide) ?_
          refine lv_iadd hx hb dMo_hear_143 ?_
          refine ck_ri (y := nI (5 + 28 * i + 20)) (nI_add _ 20) ?_
          refine lv_bipush (v := nI 8) hx hb dMo_hear_144 (by decide) ?_
          refine clMo_178 (As := [.int (nI (5 + 28 * i + 20)), .int (nI 8)]) (rest := [.ref oy]) hx hb hml hown hts (k_Mo_airNumber l G oy r (nI 0) e1 e2 (nI dp) sh sl (nI (5 + 28 * m1)) oh ol (jRd f (5 + 28 * i + 4) 8) (jRd f (5 + 28 * i + 12) 8) x2 (5 + 28 * i + 20) 8 (by omega) f) hG hA hP hD hS 0 rfl [0, 7] rfl rfl (fun _ => rfl) rfl hl.1 rfl (Nat.le_of_ble_eq_true rfl) ⟨by decide, by decide⟩ ⟨by decide, by decide⟩ dMo_hear_146 (fun _ H locs _ hP hD hS => ?_)
          have hP : va_P G.1 vwCl [moC oy r (nI 0) e1 e2 (nI dp) sh sl (nI (5 + 28 * m1)) oh ol (jRd f (5 + 28 * i + 4) 8) (jRd f (5 + 28 * i + 12) 8) x2, aI G (r 0) 256 ckS, aI G (r 1) 256 ckU, aI G (r 2) 176 (bN f1), aI G (r 3) 16 (bN g1), aI G (r 4) 16 (bN m2), aZ G (r 5) 256 ins, aI G (r 14) 229 f, aI G (r 15) 1024 hp, aJ G (r 16) 1024 hh, aJ G (r 17) 1024 hl9] H := hP
          have hD : va_D A [moC oy r (nI 0) e1 e2 (nI dp) sh sl (nI (5 + 28 * m1)) oh ol (jRd f (5 + 28 * i + 4) 8) (jRd f (5 + 28 * i + 12) 8) x2, aI G (r 0) 256 ckS, aI G (r 1) 256 ckU, aI G (r 2) 176 (bN f1), aI G (r 3) 16 (bN g1), aI G (r 4) 16 (bN m2), aZ G (r 5) 256 ins, aI G (r 14) 229 f, aI G (r 15) 1024 hp, aJ G (r 16) 1024 hh, aJ G (r 17) 1024 hl9] := hD
          refine W.cs (cells' := 0) (slots' := 0) rfl rfl ?_
          refine W.eq (g2 := F0 m 149 ls [.long (jRd f (5 + 28 * i + 20) 8), .ref oy]) rfl ?_
          refine pfMo_117 hx hb hts hown hG hP hD hS 0 rfl rfl rfl (Nat.le_of_ble_eq_true rfl) dMo_hear_149 (fun H locs hP hD hS => ?_)
          have hP : va_P G.1 vwCl [moC oy r (nI 0) e1 e2 (nI dp) sh sl (nI (5 + 28 * m1)) oh ol (jRd f (5 + 28 * i + 4) 8) (jRd f (5 + 28 * i + 12) 8) (jRd f (5 + 28 * i + 20) 8), aI G (r 0) 256 ckS, aI G (r 1) 256 ckU, aI G (r 2) 176 (bN f1), aI G (r 3) 16 (bN g1), aI G (r 4) 16 (bN m2), aZ G (r 5) 256 ins, aI G (r 14) 229 f, aI G (r 15) 1024 hp, aJ G (r 16) 1024 hh, aJ G (r 17) 1024 hl9] H := hP
          have hD : va_D A [moC oy r (nI 0) e1 e2 (nI dp) sh sl (nI (5 + 28 * m1)) oh ol (jRd f (5 + 28 * i + 4) 8) (jRd f (5 + 28 * i + 12) 8) (jRd f (5 + 28 * i + 20) 8), aI G (r 0) 256 ckS, aI G (r 1) 256 ckU, aI G (r 2) 176 (bN f1), aI G (r 3) 16 (bN g1), aI G (r 4) 16 (bN m2), aZ G (r 5) 256 ins, aI G (r 14) 229 f, aI G (r 15) 1024 hp, aJ G (r 16) 1024 hh, aJ G (r 17) 1024 hl9] := hD
          refine lv_aload_n hx hb dMo_hear_152 rfl (lv_at hl 2 rfl) ?_
          refine lv_iload hx hb dMo_hear_153 (lv_at hl 1 rfl) ?_
          refine lv_iload hx hb dMo_hear_155 (lv_at hl 0 rfl) ?_
          refine clMo_172 (As := [.int v9, .int w9]) (rest := []) hx hb hml hown hts (k_Mo_makeKy l G oy r (nI 0) e1 e2 dp hdp sh sl (nI (5 + 28 * m1)) oh ol (jRd f (5 + 28 * i + 4) 8) (jRd f (5 + 28 * i + 12) 8) (jRd f (5 + 28 * i + 20) 8) f1 g1 m2 v9 w9 (hs7)) hG hA hP hD hS 0 rfl [0, 1, 3, 4, 5] rfl rfl (fun _ => rfl) rfl hl.1 rfl (Nat.le_of_ble_eq_true rfl) ⟨by decide, by decide⟩ ⟨by decide, by decide⟩ dMo_hear_157 (fun u8 H locs _ hP hD hS => ?_)
          have hP : va_P G.1 vwCl [moC oy r (nI 0) ((jKy sh sl v9 w9 (jLv w9 v9)).1) ((jKy sh sl v9 w9 (jLv w9 v9)).2) (nI dp) sh sl (nI (5 + 28 * m1)) oh ol (jRd f (5 + 28 * i + 4) 8) (jRd f (5 + 28 * i + 12) 8) (jRd f (5 + 28 * i + 20) 8), aI G (r 0) 256 ckS, aI G (r 1) 256 ckU, aI G (r 2) 176 (bN u8.1), aI G (r 3) 16 (bN u8.2.1), aI G (r 4) 16 (bN u8.2.2), aZ G (r 5) 256 ins, aI G (r 14) 229 f, aI G (r 15) 1024 hp, aJ G (r 16) 1024 hh, aJ G (r 17) 1024 hl9] H := hP
          have hD : va_D A [moC oy r (nI 0) ((jKy sh sl v9 w9 (jLv w9 v9)).1) ((jKy sh sl v9 w9 (jLv w9 v9)).2) (nI dp) sh sl (nI (5 + 28 * m1)) oh ol (jRd f (5 + 28 * i + 4) 8) (jRd f (5 + 28 * i + 12) 8) (jRd f (5 + 28 * i + 20) 8), aI G (r 0) 256 ckS, aI G (r 1) 256 ckU, aI G (r 2) 176 (bN u8.1), aI G (r 3) 16 (bN u8.2.1), aI G (r 4) 16 (bN u8.2.2), aZ G (r 5) 256 ins, aI G (r 14) 229 f, aI G (r 15) 1024 hp, aJ G (r 16) 1024 hh, aJ G (r 17) 1024 hl9] := hD
          refine W.cs (cells' := 0) (slots' := 0) rfl rfl ?_
          refine W.eq (g2 := F0 m 160 ls []) rfl ?_
          refine lv_aload_n hx hb dMo_hear_160 rfl (lv_at hl 2 rfl) ?_
          refine lv_aload_n hx hb dMo_hear_161 rfl (lv_at hl 2 rfl) ?_
          refine gfMo_82 hx hb hts hown hG hP 0 rfl rfl dMo_hear_162 ?_
          refine lv_aload_n hx hb dMo_hear_165 rfl (lv_at hl 2 rfl) ?_
          refine gfMo_86 hx hb hts hown hG hP 0 rfl rfl dMo_hear_166 ?_
          have hC9 := k_Mo_unw l G oy r (nI 0) ((jKy sh sl v9 w9 (jLv w9 v9)).1) ((jKy sh sl v9 w9 (jLv w9 v9)).2) (nI dp) sh sl (nI (5 + 28 * m1)) oh ol (jRd f (5 + 28 * i + 4) 8) (jRd f (5 + 28 * i + 12) 8) (jRd f (5 + 28 * i + 20) 8) u8.1 u8.2.1 u8.2.2 (jKy sh sl v9 w9 (jLv w9 v9)).1 (jKy sh sl v9 w9 (jLv w9 v9)).2
          generalize hU9 : jUw (jKey (jKy sh sl v9 w9 (jLv w9 v9)).1 (jKy sh sl v9 w9 (jLv w9 v9)).2) (jRd f (5 + 28 * i + 4) 8, jRd f (5 + 28 * i + 12) 8, jRd f (5 + 28 * i + 20) 8) 12 = q3 at hC9
          have hU8 : jU f sh sl i (jV f i) (jW f i) = q3 := by rw [← e_v9, ← e_w9]; exact hU9
          refine clMo_189 (As := [.long ((jKy sh sl v9 w9 (jLv w9 v9)).1), .long ((jKy sh sl v9 w9 (jLv w9 v9)).2)]) (rest := []) hx hb hml hown hts hC9 hG hA hP hD hS 0 rfl [0, 1, 2, 3, 4, 5] rfl rfl (fun _ => rfl) rfl hl.1 rfl (Nat.le_of_ble_eq_true rfl) ⟨by decide, by decide⟩ ⟨by decide, by decide⟩ dMo_hear_169 (fun u9 H locs _ hP hD hS => ?_)
          have hP : va_P G.1 vwCl [moC oy r (nI 0) u9.2.2.2.1 u9.2.2.2.2 (nI dp) sh sl (nI (5 + 28 * m1)) oh ol q3.1 q3.2.1 q3.2.2, aI G (r 0) 256 ckS, aI G (r 1) 256 ckU, aI G (r 2) 176 (bN u9.1), aI G (r 3) 16 (bN u9.2.1), aI G (r 4) 16 (bN u9.2.2.1), aZ G (r 5) 256 ins, aI G (r 14) 229 f, aI G (r 15) 1024 hp, aJ G (r 16) 1024 hh, aJ G (r 17) 1024 hl9] H := hP
          have hD : va_D A [moC oy r (nI 0) u9.2.2.2.1 u9.2.2.2.2 (nI dp) sh sl (nI (5 + 28 * m1)) oh ol q3.1 q3.2.1 q3.2.2, aI G (r 0) 256 ckS, aI G (r 1) 256 ckU, aI G (r 2) 176 (bN u9.1), aI G (r 3) 16 (bN u9.2.1), aI G (r 4) 16 (bN u9.2.2.1), aZ G (r 5) 256 ins, aI G (r 14) 229 f, aI G (r 15) 1024 hp, aJ G (r 16) 1024 hh, aJ G (r 17) 1024 hl9] := hD
          refine W.cs (cells' := 0) (slots' := 0) rfl rfl ?_
          refine W.eq (g2 := F0 m 172 ls [.int (jB (decide (q3.1 = jSeal)))]) rfl ?_
          refine lv_if_eq (tgt := 243) hx hb dMo_hear_172 rfl (fun h9 => ?_) (fun h9 => ?_)
          · have hs9 : ¬ q3.1 = jSeal := of_decide_eq_false ((jB_0 _).mp h9)
            refine lv_iconst (v := (-1)) hx hb dMo_hear_243 (by decide) ?_
            refine lv_istore_n (lv' := [(2, .int (-1)), (5, .int w9), (4, .int v9), (0, .ref oy), (1, .int (nI dd)), (3, .int (nI (5 + 28 * i)))]) hx hb dMo_hear_244 rfl hl (by decide) rfl (fun ls hl => ?_)
            refine lv_iinc (v := nI (5 + 28 * (i + 1))) (lv' := [(3, .int (nI (5 + 28 * (i + 1)))), (2, .int (-1)), (5, .int w9), (4, .int v9), (0, .ref oy), (1, .int (nI dd))]) hx hb dMo_hear_245 hl (k := 5) rfl (nI_add (5 + 28 * i) 28) (by decide) rfl (fun ls hl => ?_)
            refine lv_goto (tgt := 60) hx hb dMo_hear_248 rfl ?_
            have e10 := hq.trans ((if_pos (by rw [← e_v9, ← e_w9]; exact hd9)).trans (if_neg (by rw [hU8]; exact hs9)))
            exact ih (i + 1) true _ _ _ _ _ _ _ _ _ _ _ (by omega) e10 hP hD hS (lv_sub hl [4, 5, 1, 0] rfl)
          · have hs9 : q3.1 = jSeal := of_decide_eq_true ((jB_n0 _).mp h9)
            refine lv_aload_n hx hb dMo_hear_175 rfl (lv_at hl 2 rfl) ?_
            refine gfMo_57 hx hb hts hown hG hP 0 rfl rfl dMo_hear_176 ?_
            refine lv_sipush (v := nI 256) hx hb dMo_hear_179 (by decide) ?_
            refine lv_aload_n hx hb dMo_hear_182 rfl (lv_at hl 2 rfl) ?_
            refine gfMo_54 hx hb hts hown hG hP 0 rfl rfl dMo_hear_183 ?_
            refine lv_iconst (v := nI 0) hx hb dMo_hear_186 (by decide) ?_
            refine ck_iald hx hb hG hP 7 rfl (by decide) 0 (rfl) (by omega) dMo_hear_187 ?_
            refine ck_ri (y := nI c4) (hch) ?_
            refine lv_imul hx hb dMo_hear_188 ?_
            refine ck_ri (y := nI (256 * c4)) (pk_mul 256 _) ?_
            refine lv_iload_n hx hb dMo_hear_189 rfl (lv_at hl 3 rfl) ?_
            refine lv_iadd hx hb dMo_hear_190 ?_
            refine ck_ri (y := nI (256 * c4 + dd)) (nI_add _ _) ?_
            refine lv_aload_n hx hb dMo_hear_191 rfl (lv_at hl 2 rfl) ?_
            refine lv_iconst (v := nI 1) hx hb dMo_hear_192 (by decide) ?_
            refine lv_iconst (v := nI 2) hx hb dMo_hear_193 (by decide) ?_
            refine clMo_178 (As := [.int (nI 1), .int (nI 2)]) (rest := [.int (nI (256 * c4 + dd)), .ref (r 15)]) hx hb hml hown hts (k_Mo_airNumber l G oy r (nI 0) u9.2.2.2.1 u9.2.2.2.2 (nI dp) sh sl (nI (5 + 28 * m1)) oh ol q3.1 q3.2.1 q3.2.2 (1) 2 (by omega) f) hG hA hP hD hS 0 rfl [0, 7] rfl rfl (fun _ => rfl) rfl hl.1 rfl (Nat.le_of_ble_eq_true rfl) ⟨by decide, by decide⟩ ⟨by decide, by decide⟩ dMo_hear_194 (fun _ H locs _ hP hD hS => ?_)
            have hP : va_P G.1 vwCl [moC oy r (nI 0) u9.2.2.2.1 u9.2.2.2.2 (nI dp) sh sl (nI (5 + 28 * m1)) oh ol q3.1 q3.2.1 q3.2.2, aI G (r 0) 256 ckS, aI G (r 1) 256 ckU, aI G (r 2) 176 (bN u9.1), aI G (r 3) 16 (bN u9.2.1), aI G (r 4) 16 (bN u9.2.2.1), aZ G (r 5) 256 ins, aI G (r 14) 229 f, aI G (r 15) 1024 hp, aJ G (r 16) 1024 hh, aJ G (r 17) 1024 hl9] H := hP
            have hD : va_D A [moC oy r (nI 0) u9.2.2.2.1 u9.2.2.2.2 (nI dp) sh sl (nI (5 + 28 * m1)) oh ol q3.1 q3.2.1 q3.2.2, aI G (r 0) 256 ckS, aI G (r 1) 256 ckU, aI G (r 2) 176 (bN u9.1), aI G (r 3) 16 (bN u9.2.1), aI G (r 4) 16 (bN u9.2.2.1), aZ G (r 5) 256 ins, aI G (r 14) 229 f, aI G (r 15) 1024 hp, aJ G (r 16) 1024 hh, aJ G (r 17) 1024 hl9] := hD
            refine W.cs (cells' := 0) (slots' := 0) rfl rfl ?_
            refine W.eq (g2 := F0 m 197 ls [.long (jRd f (1) 2), .int (nI (256 * c4 + dd)), .ref (r 15)]) rfl ?_
            refine lv_l2i (v := (jRd f (1) 2).toInt32) hx hb dMo_hear_197 rfl ?_
            refine ck_iast hx hb hG hP hD hS 8 rfl (by decide) (256 * c4 + dd) (rfl) (by omega) dMo_hear_198 (fun H locs hP hD hS => ?_)
            have hP : va_P G.1 vwCl [moC oy r (nI 0) u9.2.2.2.1 u9.2.2.2.2 (nI dp) sh sl (nI (5 + 28 * m1)) oh ol q3.1 q3.2.1 q3.2.2, aI G (r 0) 256 ckS, aI G (r 1) 256 ckU, aI G (r 2) 176 (bN u9.1), aI G (r 3) 16 (bN u9.2.1), aI G (r 4) 16 (bN u9.2.2.1), aZ G (r 5) 256 ins, aI G (r 14) 229 f, aI G (r 15) 1024 (upd hp (256 * c4 + dd) ((jRd f (1) 2).toInt32)), aJ G (r 16) 1024 hh, aJ G (r 17) 1024 hl9] H := hP
            have hD : va_D A [moC oy r (nI 0) u9.2.2.2.1 u9.2.2.2.2 (nI dp) sh sl (nI (5 + 28 * m1)) oh ol q3.1 q3.2.1 q3.2.2, aI G (r 0) 256 ckS, aI G (r 1) 256 ckU, aI G (r 2) 176 (bN u9.1), aI G (r 3) 16 (bN u9.2.1), aI G (r 4) 16 (bN u9.2.2.1), aZ G (r 5) 256 ins, aI G (r 14) 229 f, aI G (r 15) 1024 (upd hp (256 * c4 + dd) ((jRd f (1) 2).toInt32)), aJ G (r 16) 1024 hh, aJ G (r 17) 1024 hl9] := hD
            refine lv_aload_n hx hb dMo_hear_199 rfl (lv_at hl 2 rfl) ?_
            refine gfMo_60 hx hb hts hown hG hP 0 rfl rfl dMo_hear_200 ?_
            refine lv_sipush (v := nI 256) hx hb dMo_hear_203 (by decide) ?_
            refine lv_aload_n hx hb dMo_hear_206 rfl (lv_at hl 2 rfl) ?_
            refine gfMo_54 hx hb hts hown hG hP 0 rfl rfl dMo_hear_207 ?_
            refine lv_iconst (v := nI 0) hx hb dMo_hear_210 (by decide) ?_
            refine ck_iald hx hb hG hP 7 rfl (by decide) 0 (rfl) (by omega) dMo_hear_211 ?_
            refine ck_ri (y := nI c4) (hch) ?_
            refine lv_imul hx hb dMo_hear_212 ?_
            refine ck_ri (y := nI (256 * c4)) (pk_mul 256 _) ?_
            refine lv_iload_n hx hb dMo_hear_213 rfl (lv_at hl 3 rfl) ?_
            refine lv_iadd hx hb dMo_hear_214 ?_
            refine ck_ri (y := nI (256 * c4 + dd)) (nI_add _ _) ?_
            refine lv_aload_n hx hb dMo_hear_215 rfl (lv_at hl 2 rfl) ?_
            refine gfMo_114 hx hb hts hown hG hP 0 rfl rfl dMo_hear_216 ?_
            refine ck_last hx hb hG hP hD hS 9 rfl (by decide) (256 * c4 + dd) (rfl) (by omega) dMo_hear_219 (fun H locs hP hD hS => ?_)
            have hP : va_P G.1 vwCl [moC oy r (nI 0) u9.2.2.2.1 u9.2.2.2.2 (nI dp) sh sl (nI (5 + 28 * m1)) oh ol q3.1 q3.2.1 q3.2.2, aI G (r 0) 256 ckS, aI G (r 1) 256 ckU, aI G (r 2) 176 (bN u9.1), aI G (r 3) 16 (bN u9.2.1), aI G (r 4) 16 (bN u9.2.2.1), aZ G (r 5) 256 ins, aI G (r 14) 229 f, aI G (r 15) 1024 (upd hp (256 * c4 + dd) ((jRd f (1) 2).toInt32)), aJ G (r 16) 1024 (vp_updL hh (256 * c4 + dd) q3.2.1), aJ G (r 17) 1024 hl9] H := hP
            have hD : va_D A [moC oy r (nI 0) u9.2.2.2.1 u9.2.2.2.2 (nI dp) sh sl (nI (5 + 28 * m1)) oh ol q3.1 q3.2.1 q3.2.2, aI G (r 0) 256 ckS, aI G (r 1) 256 ckU, aI G (r 2) 176 (bN u9.1), aI G (r 3) 16 (bN u9.2.1), aI G (r 4) 16 (bN u9.2.2.1), aZ G (r 5) 256 ins, aI G (r 14) 229 f, aI G (r 15) 1024 (upd hp (256 * c4 + dd) ((jRd f (1) 2).toInt32)), aJ G (r 16) 1024 (vp_updL hh (256 * c4 + dd) q3.2.1), aJ G (r 17) 1024 hl9] := hD
            refine lv_aload_n hx hb dMo_hear_220 rfl (lv_at hl 2 rfl) ?_
            refine gfMo_63 hx hb hts hown hG hP 0 rfl rfl dMo_hear_221 ?_
            refine lv_sipush (v := nI 256) hx hb dMo_hear_224 (by decide) ?_
            refine lv_aload_n hx hb dMo_hear_227 rfl (lv_at hl 2 rfl) ?_
            refine gfMo_54 hx hb hts hown hG hP 0 rfl rfl dMo_hear_228 ?_
            refine lv_iconst (v := nI 0) hx hb dMo_hear_231 (by decide) ?_
            refine ck_iald hx hb hG hP 7 rfl (by decide) 0 (rfl) (by omega) dMo_hear_232 ?_
            refine ck_ri (y := nI c4) (hch) ?_
            refine lv_imul hx hb dMo_hear_233 ?_
            refine ck_ri (y := nI (256 * c4)) (pk_mul 256 _) ?_
            refine lv_iload_n hx hb dMo_hear_234 rfl (lv_at hl 3 rfl) ?_
            refine lv_iadd hx hb dMo_hear_235 ?_
            refine ck_ri (y := nI (256 * c4 + dd)) (nI_add _ _) ?_
            refine lv_aload_n hx hb dMo_hear_236 rfl (lv_at hl 2 rfl) ?_
            refine gfMo_117 hx hb hts hown hG hP 0 rfl rfl dMo_hear_237 ?_
            refine ck_last hx hb hG hP hD hS 10 rfl (by decide) (256 * c4 + dd) (rfl) (by omega) dMo_hear_240 (fun H locs hP hD hS => ?_)
            have hP : va_P G.1 vwCl [moC oy r (nI 0) u9.2.2.2.1 u9.2.2.2.2 (nI dp) sh sl (nI (5 + 28 * m1)) oh ol q3.1 q3.2.1 q3.2.2, aI G (r 0) 256 ckS, aI G (r 1) 256 ckU, aI G (r 2) 176 (bN u9.1), aI G (r 3) 16 (bN u9.2.1), aI G (r 4) 16 (bN u9.2.2.1), aZ G (r 5) 256 ins, aI G (r 14) 229 f, aI G (r 15) 1024 (upd hp (256 * c4 + dd) ((jRd f (1) 2).toInt32)), aJ G (r 16) 1024 (vp_updL hh (256 * c4 + dd) q3.2.1), aJ G (r 17) 1024 (vp_updL hl9 (256 * c4 + dd) q3.2.2)] H := hP
            have hD : va_D A [moC oy r (nI 0) u9.2.2.2.1 u9.2.2.2.2 (nI dp) sh sl (nI (5 + 28 * m1)) oh ol q3.1 q3.2.1 q3.2.2, aI G (r 0) 256 ckS, aI G (r 1) 256 ckU, aI G (r 2) 176 (bN u9.1), aI G (r 3) 16 (bN u9.2.1), aI G (r 4) 16 (bN u9.2.2.1), aZ G (r 5) 256 ins, aI G (r 14) 229 f, aI G (r 15) 1024 (upd hp (256 * c4 + dd) ((jRd f (1) 2).toInt32)), aJ G (r 16) 1024 (vp_updL hh (256 * c4 + dd) q3.2.1), aJ G (r 17) 1024 (vp_updL hl9 (256 * c4 + dd) q3.2.2)] := hD
            refine lv_iconst (v := nI 1) hx hb dMo_hear_241 (by decide) ?_
            have e10 : jHr dp (nI dd) f sh sl m1 0 false = (nI 1, some (q3.2.1, q3.2.2)) := by
              have e11 := hq.trans ((if_pos (by rw [← e_v9, ← e_w9]; exact hd9)).trans (if_pos (by rw [hU8]; exact hs9)))
              rw [hU8] at e11
              exact e11
            exact cq_iret (u9.1, u9.2.1, u9.2.2.1, u9.2.2.2.1, u9.2.2.2.2, q3.1, q3.2.1, q3.2.2) (trivial) hx hb hr hlk hP hS (by rw [e10]) (by rw [e10]; rfl) dMo_hear_242
  exact loop m1 0 false _ _ _ _ _ _ _ _ _ _ _ (by omega) rfl hP hD hS (lv_sub hl [2, 3, 1, 0] rfl)
