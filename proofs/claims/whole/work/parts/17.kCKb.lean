/-! CoverKeys: its public methods -/
def jIf (b : Int32) (x y : Int64) : Int64 := if b = 0 then y else x
def jIi (b : Int32) (x y : Int32) : Int32 := if b = 0 then y else x
theorem lbF_or (w v : Int32) : ∀ k n : Nat, lbF w v k n = -1 ∨ ∃ j, j < n + k ∧ lbF w v k n = nI j
  | 0, n => Or.inl rfl
  | k + 1, n => by
    unfold lbF
    by_cases h : isr w (nI n) = v
    · rw [if_pos h]; exact Or.inr ⟨n, by omega, rfl⟩
    · rw [if_neg h]
      rcases lbF_or w v k (n + 1) with h1 | ⟨j, h1, h2⟩
      · exact Or.inl h1
      · exact Or.inr ⟨j, by omega, h2⟩
/-- the levels between w and v, where w is below v -/
def jLv (w v : Int32) : Nat := (jLb w v).toNatClampNeg
theorem jLv_le (w v : Int32) : jLv w v ≤ 8 := by
  unfold jLv jLb
  rcases lbF_or w v 9 0 with h | ⟨j, h1, h2⟩
  · rw [h]; decide
  · rw [h2, nI_clamp (by omega)]; omega
theorem jLv_ok {w v : Int32} (h : ¬ jLb w v < nI 1) : jLb w v = nI (jLv w v) := by
  unfold jLv
  unfold jLb at h ⊢
  rcases lbF_or w v 9 0 with h0 | ⟨j, h1, h2⟩
  · rw [h0] at h; exact absurd (by decide) h
  · rw [h2, nI_clamp (by omega)]
theorem jSub_lv {dp : Nat} {v w : Int32} (h : jSub dp v w = true) (hv : ¬ v = 0) : jLb w v = nI (jLv w v) := by
  unfold jSub at h
  rw [decide_eq_false hv] at h
  simp only [Bool.false_and, Bool.false_or, Bool.and_eq_true, Bool.not_eq_true', decide_eq_false_iff_not] at h
  exact jLv_ok h.2.2
set_option maxHeartbeats 4000000 in
set_option maxRecDepth 100000 in
theorem k_CK_out (l : Launch) (G : gG) (ox oc ot oo oe op ocs ods : Nat) (oh ol : Int64) (b1 : Int32) : Ck l G yCK_out cCK_out 2 (some .long) { frames := 0, cells := 0, slots := 0, locals := 0 } [.ref ox, .int b1] [oC ox 7 [.ref oc, .ref ot, .ref oo, .ref oe, .ref op, .ref ocs, .ref ods, .long oh, .long ol]] (some (.long (jIf b1 ol oh))) [oC ox 7 [.ref oc, .ref ot, .ref oo, .ref oe, .ref op, .ref ocs, .ref ods, .long oh, .long ol]] := by
  refine Cq.of (by decide) (Nat.le_of_ble_eq_true rfl) ?_
  intro p e s m args below meth c A ls hx hb hr hml hts hown hlk hA hP hD hG hS hl
  have hl : lv_has ls 2 [(0, .ref ox), (1, .int b1)] := hl
  refine lv_iload_n hx hb dCK_out_0 rfl (lv_at hl 1 rfl) ?_
  refine lv_if_eq (tgt := 11) hx hb dCK_out_1 rfl (fun h1 => ?_) (fun h1 => ?_)
  · have b_h1 := decide_eq_true h1
    refine lv_aload_n hx hb dCK_out_11 rfl (lv_at hl 0 rfl) ?_
    refine gfCK_192 hx hb hts hown hG hP 0 rfl rfl dCK_out_12 ?_
    exact cq_lret () (trivial) hx hb hr hlk hP hS (by unfold jIf; rw [if_pos h1]) (rfl) dCK_out_15
  · have b_h1 := decide_eq_false h1
    refine lv_aload_n hx hb dCK_out_4 rfl (lv_at hl 0 rfl) ?_
    refine gfCK_189 hx hb hts hown hG hP 0 rfl rfl dCK_out_5 ?_
    refine lv_goto (tgt := 15) hx hb dCK_out_8 rfl ?_
    exact cq_lret () (trivial) hx hb hr hlk hP hS (by unfold jIf; rw [if_neg h1]) (rfl) dCK_out_15
set_option maxHeartbeats 4000000 in
set_option maxRecDepth 100000 in
theorem k_CK_air (l : Launch) (G : gG) (ox oc ot oo oe op ocs ods : Nat) (oh ol : Int64) (ob q : Nat) (f : Nat → Int32) (hq : q ≤ 229) (i1 : Nat) (hi : i1 < q) : Ck l G yCK_air cCK_air 2 (some .int) { frames := 1, cells := 0, slots := 0, locals := 21 } [.ref ox, .int (nI i1)] [oC ox 7 [.ref oc, .ref ot, .ref oo, .ref oe, .ref op, .ref ocs, .ref ods, .long oh, .long ol], oC op 5 [.ref ob, .int (nI q)], aI G ob 229 f] (some (.int (f i1))) [oC ox 7 [.ref oc, .ref ot, .ref oo, .ref oe, .ref op, .ref ocs, .ref ods, .long oh, .long ol], oC op 5 [.ref ob, .int (nI q)], aI G ob 229 f] := by
  refine Cq.of (by decide) (Nat.le_of_ble_eq_true rfl) ?_
  intro p e s m args below meth c A ls hx hb hr hml hts hown hlk hA hP hD hG hS hl
  have hl : lv_has ls 2 [(0, .ref ox), (1, .int (nI i1))] := hl
  refine lv_aload_n hx hb dCK_air_0 rfl (lv_at hl 0 rfl) ?_
  refine lv_iload_n hx hb dCK_air_1 rfl (lv_at hl 1 rfl) ?_
  refine clCK_138 (As := [.int (nI i1)]) (rest := []) hx hb hml hown hts (k_CK_checkByte l G ox oc ot oo oe op ocs ods oh ol ob q hq i1 hi) hG hA hP hD hS 0 rfl [0, 1] rfl rfl (fun _ => rfl) rfl hl.1 rfl (Nat.le_of_ble_eq_true rfl) ⟨by decide, by decide⟩ ⟨by decide, by decide⟩ dCK_air_2 (fun _ H locs _ hP hD hS => ?_)
  have hP : va_P G.1 vwCl [oC ox 7 [.ref oc, .ref ot, .ref oo, .ref oe, .ref op, .ref ocs, .ref ods, .long oh, .long ol], oC op 5 [.ref ob, .int (nI q)], aI G ob 229 f] H := hP
  have hD : va_D A [oC ox 7 [.ref oc, .ref ot, .ref oo, .ref oe, .ref op, .ref ocs, .ref ods, .long oh, .long ol], oC op 5 [.ref ob, .int (nI q)], aI G ob 229 f] := hD
  refine W.cs (cells' := 0) (slots' := 0) rfl rfl ?_
  refine W.eq (g2 := F0 m 5 ls []) rfl ?_
  refine lv_aload_n hx hb dCK_air_5 rfl (lv_at hl 0 rfl) ?_
  refine gfCK_40 hx hb hts hown hG hP 0 rfl rfl dCK_air_6 ?_
  refine gfCK_141 hx hb hts hown hG hP 1 rfl rfl dCK_air_9 ?_
  refine lv_iload_n hx hb dCK_air_12 rfl (lv_at hl 1 rfl) ?_
  refine ck_iald hx hb hG hP 2 rfl (by decide) i1 (rfl) (by omega) dCK_air_13 ?_
  exact cq_iret () (trivial) hx hb hr hlk hP hS (rfl) (rfl) dCK_air_14
set_option maxHeartbeats 4000000 in
set_option maxRecDepth 100000 in
theorem k_CK_flip (l : Launch) (G : gG) (ox oc ot oo oe op ocs ods : Nat) (oh ol : Int64) (ob q : Nat) (f : Nat → Int32) (hq : q ≤ 229) (i1 : Nat) (hi : i1 < q) (m1 : Int32) : Ck l G yCK_flip cCK_flip 3 none { frames := 1, cells := 0, slots := 0, locals := 21 } [.ref ox, .int (nI i1), .int m1] [oC ox 7 [.ref oc, .ref ot, .ref oo, .ref oe, .ref op, .ref ocs, .ref ods, .long oh, .long ol], oC op 5 [.ref ob, .int (nI q)], aI G ob 229 f] (none) [oC ox 7 [.ref oc, .ref ot, .ref oo, .ref oe, .ref op, .ref ocs, .ref ods, .long oh, .long ol], oC op 5 [.ref ob, .int (nI q)], aI G ob 229 (upd f i1 (f i1 ^^^ (m1 &&& nI 255)))] := by
  refine Cq.of (by decide) (Nat.le_of_ble_eq_true rfl) ?_
  intro p e s m args below meth c A ls hx hb hr hml hts hown hlk hA hP hD hG hS hl
  have hl : lv_has ls 3 [(0, .ref ox), (1, .int (nI i1)), (2, .int m1)] := hl
  refine lv_aload_n hx hb dCK_flip_0 rfl (lv_at hl 0 rfl) ?_
  refine lv_iload_n hx hb dCK_flip_1 rfl (lv_at hl 1 rfl) ?_
  refine clCK_138 (As := [.int (nI i1)]) (rest := []) hx hb hml hown hts (k_CK_checkByte l G ox oc ot oo oe op ocs ods oh ol ob q hq i1 hi) hG hA hP hD hS 0 rfl [0, 1] rfl rfl (fun _ => rfl) rfl hl.1 rfl (Nat.le_of_ble_eq_true rfl) ⟨by decide, by decide⟩ ⟨by decide, by decide⟩ dCK_flip_2 (fun _ H locs _ hP hD hS => ?_)
  have hP : va_P G.1 vwCl [oC ox 7 [.ref oc, .ref ot, .ref oo, .ref oe, .ref op, .ref ocs, .ref ods, .long oh, .long ol], oC op 5 [.ref ob, .int (nI q)], aI G ob 229 f] H := hP
  have hD : va_D A [oC ox 7 [.ref oc, .ref ot, .ref oo, .ref oe, .ref op, .ref ocs, .ref ods, .long oh, .long ol], oC op 5 [.ref ob, .int (nI q)], aI G ob 229 f] := hD
  refine W.cs (cells' := 0) (slots' := 0) rfl rfl ?_
  refine W.eq (g2 := F0 m 5 ls []) rfl ?_
  refine lv_aload_n hx hb dCK_flip_5 rfl (lv_at hl 0 rfl) ?_
  refine gfCK_40 hx hb hts hown hG hP 0 rfl rfl dCK_flip_6 ?_
  refine gfCK_141 hx hb hts hown hG hP 1 rfl rfl dCK_flip_9 ?_
  refine lv_iload_n hx hb dCK_flip_12 rfl (lv_at hl 1 rfl) ?_
  refine lv_dup2_11 hx hb dCK_flip_13 rfl rfl ?_
  refine ck_iald hx hb hG hP 2 rfl (by decide) i1 (rfl) (by omega) dCK_flip_14 ?_
  refine lv_iload_n hx hb dCK_flip_15 rfl (lv_at hl 2 rfl) ?_
  refine lv_sipush (v := nI 255) hx hb dCK_flip_16 (by decide) ?_
  refine lv_iand hx hb dCK_flip_19 ?_
  refine lv_ixor hx hb dCK_flip_20 ?_
  refine ck_iast hx hb hG hP hD hS 2 rfl (by decide) i1 (rfl) (by omega) dCK_flip_21 (fun H locs hP hD hS => ?_)
  have hP : va_P G.1 vwCl [oC ox 7 [.ref oc, .ref ot, .ref oo, .ref oe, .ref op, .ref ocs, .ref ods, .long oh, .long ol], oC op 5 [.ref ob, .int (nI q)], aI G ob 229 (upd f i1 ((f i1) ^^^ (m1 &&& (nI 255))))] H := hP
  have hD : va_D A [oC ox 7 [.ref oc, .ref ot, .ref oo, .ref oe, .ref op, .ref ocs, .ref ods, .long oh, .long ol], oC op 5 [.ref ob, .int (nI q)], aI G ob 229 (upd f i1 ((f i1) ^^^ (m1 &&& (nI 255))))] := hD
  exact cq_vret () (trivial) hx hb hr hlk hP hS rfl (rfl) dCK_flip_22
set_option maxHeartbeats 4000000 in
set_option maxRecDepth 100000 in
theorem x_CK_air (l : Launch) (hl0 : l.stackTraces = false) (G : gG) (ox oc ot oo oe op ocs ods : Nat) (oh ol : Int64) (ob q : Nat) (i1 : Int32) (hi : jIn q i1 = false) : Cx l G yCK_air cCK_air 2 (some .int) { frames := 7, cells := 1, slots := 6, locals := 103 } [.ref ox, .int i1] [oC ox 7 [.ref oc, .ref ot, .ref oo, .ref oe, .ref op, .ref ocs, .ref ods, .long oh, .long ol], oC op 5 [.ref ob, .int (nI q)]] "java/lang/IndexOutOfBoundsException" [oC ox 7 [.ref oc, .ref ot, .ref oo, .ref oe, .ref op, .ref ocs, .ref ods, .long oh, .long ol], oC op 5 [.ref ob, .int (nI q)]] := by
  refine Cx.of (by decide) (Nat.le_of_ble_eq_true rfl) ?_
  intro p e s m args below meth c A ls hx hb hr hml hts hown hlk htb hA hP hD hG hS hl
  have hl : lv_has ls 2 [(0, .ref ox), (1, .int i1)] := hl
  refine lv_aload_n hx hb dCK_air_0 rfl (lv_at hl 0 rfl) ?_
  refine lv_iload_n hx hb dCK_air_1 rfl (lv_at hl 1 rfl) ?_
  exact cxCK_138 (As := [.int i1]) (rest := []) hx hb hml hown hts (x_CK_checkByte l hl0 G ox oc ot oo oe op ocs ods oh ol ob q i1 hi) hG hA hP hD hS 0 rfl [0, 1] rfl rfl rfl rfl hl.1 rfl (Nat.le_of_ble_eq_true rfl) ⟨by decide, by decide⟩ ⟨by decide, by decide⟩ dCK_air_2 htb hlk (by decide) (by decide)
set_option maxHeartbeats 4000000 in
set_option maxRecDepth 100000 in
theorem x_CK_flip (l : Launch) (hl0 : l.stackTraces = false) (G : gG) (ox oc ot oo oe op ocs ods : Nat) (oh ol : Int64) (ob q : Nat) (i1 : Int32) (hi : jIn q i1 = false) (m1 : Int32) : Cx l G yCK_flip cCK_flip 3 none { frames := 7, cells := 1, slots := 6, locals := 103 } [.ref ox, .int i1, .int m1] [oC ox 7 [.ref oc, .ref ot, .ref oo, .ref oe, .ref op, .ref ocs, .ref ods, .long oh, .long ol], oC op 5 [.ref ob, .int (nI q)]] "java/lang/IndexOutOfBoundsException" [oC ox 7 [.ref oc, .ref ot, .ref oo, .ref oe, .ref op, .ref ocs, .ref ods, .long oh, .long ol], oC op 5 [.ref ob, .int (nI q)]] := by
  refine Cx.of (by decide) (Nat.le_of_ble_eq_true rfl) ?_
  intro p e s m args below meth c A ls hx hb hr hml hts hown hlk htb hA hP hD hG hS hl
  have hl : lv_has ls 3 [(0, .ref ox), (1, .int i1), (2, .int m1)] := hl
  refine lv_aload_n hx hb dCK_flip_0 rfl (lv_at hl 0 rfl) ?_
  refine lv_iload_n hx hb dCK_flip_1 rfl (lv_at hl 1 rfl) ?_
  exact cxCK_138 (As := [.int i1]) (rest := []) hx hb hml hown hts (x_CK_checkByte l hl0 G ox oc ot oo oe op ocs ods oh ol ob q i1 hi) hG hA hP hD hS 0 rfl [0, 1] rfl rfl rfl rfl hl.1 rfl (Nat.le_of_ble_eq_true rfl) ⟨by decide, by decide⟩ ⟨by decide, by decide⟩ dCK_flip_2 htb hlk (by decide) (by decide)
set_option maxHeartbeats 4000000 in
set_option maxRecDepth 100000 in
theorem k_CK_subscribe (l : Launch) (G : gG) (ox oc ot oo oe op ocs ods : Nat) (oh ol : Int64) (dp : Nat) (hdp : dp ≤ 8) (sh sl : Int64) (kk : Nat → Nat) (ks kv kw c4 : Nat) (hc : c4 < 4) (dd : Nat) (hd : dd < 2 ^ dp) (p1 s1 : Int32) (h1 l1 : Int64) (fs : Nat → Int32) (b : Bool) : Ck l G yCK_subscribe cCK_subscribe 6 (some .boolean) { frames := 2, cells := 0, slots := 0, locals := 41 } [.ref ox, .int (nI dd), .int (nI c4), .int (jB b)] [oC ox 7 [.ref oc, .ref ot, .ref oo, .ref oe, .ref op, .ref ocs, .ref ods, .long oh, .long ol], oC ot 6 [.int (nI dp), .long sh, .long sl], aH G ocs 4 (fun j => some (kk j)), oC (kk c4) 0 [.ref ks, .ref kv, .ref kw, .int p1, .int s1, .long h1, .long l1], aZ G ks 256 fs] (some (.int (jB (!decide (fs dd = jB b))))) [oC ox 7 [.ref oc, .ref ot, .ref oo, .ref oe, .ref op, .ref ocs, .ref ods, .long oh, .long ol], oC ot 6 [.int (nI dp), .long sh, .long sl], aH G ocs 4 (fun j => some (kk j)), oC (kk c4) 0 [.ref ks, .ref kv, .ref kw, .int p1, .int s1, .long h1, .long l1], aZ G ks 256 (upd fs dd (jB b))] := by
  refine Cq.of (by decide) (Nat.le_of_ble_eq_true rfl) ?_
  intro p e s m args below meth c A ls hx hb hr hml hts hown hlk hA hP hD hG hS hl
  have hp2 : 2 ^ dp ≤ 256 := Nat.pow_le_pow_right (n := 2) (by decide) hdp
  have hp1 : 1 ≤ 2 ^ dp := Nat.one_le_two_pow
  have hl : lv_has ls 6 [(0, .ref ox), (1, .int (nI dd)), (2, .int (nI c4)), (3, .int (jB b))] := hl
  refine lv_aload_n hx hb dCK_subscribe_0 rfl (lv_at hl 0 rfl) ?_
  refine lv_iload_n hx hb dCK_subscribe_1 rfl (lv_at hl 1 rfl) ?_
  refine clCK_72 (As := [.int (nI dd)]) (rest := []) hx hb hml hown hts (k_CK_checkDecoder l G ox oc ot oo oe op ocs ods oh ol dp hdp sh sl dd hd) hG hA hP hD hS 0 rfl [0, 1] rfl rfl (fun _ => rfl) rfl hl.1 rfl (Nat.le_of_ble_eq_true rfl) ⟨by decide, by decide⟩ ⟨by decide, by decide⟩ dCK_subscribe_2 (fun _ H locs _ hP hD hS => ?_)
  have hP : va_P G.1 vwCl [oC ox 7 [.ref oc, .ref ot, .ref oo, .ref oe, .ref op, .ref ocs, .ref ods, .long oh, .long ol], oC ot 6 [.int (nI dp), .long sh, .long sl], aH G ocs 4 (fun j => some (kk j)), oC (kk c4) 0 [.ref ks, .ref kv, .ref kw, .int p1, .int s1, .long h1, .long l1], aZ G ks 256 fs] H := hP
  have hD : va_D A [oC ox 7 [.ref oc, .ref ot, .ref oo, .ref oe, .ref op, .ref ocs, .ref ods, .long oh, .long ol], oC ot 6 [.int (nI dp), .long sh, .long sl], aH G ocs 4 (fun j => some (kk j)), oC (kk c4) 0 [.ref ks, .ref kv, .ref kw, .int p1, .int s1, .long h1, .long l1], aZ G ks 256 fs] := hD
  refine W.cs (cells' := 0) (slots' := 0) rfl rfl ?_
  refine W.eq (g2 := F0 m 5 ls []) rfl ?_
  refine lv_iload_n hx hb dCK_subscribe_5 rfl (lv_at hl 2 rfl) ?_
  refine clCK_86 (As := [.int (nI c4)]) (rest := []) hx hb hml hown hts (k_CK_checkChannel l G (nI c4) (jIn_nI (by decide) hc)) hG hA hP hD hS [] rfl rfl (fun _ => rfl) rfl hl.1 rfl (Nat.le_of_ble_eq_true rfl) ⟨by decide, by decide⟩ ⟨by decide, by decide⟩ dCK_subscribe_6 (fun _ H locs _ hP hD hS => ?_)
  have hP : va_P G.1 vwCl [oC ox 7 [.ref oc, .ref ot, .ref oo, .ref oe, .ref op, .ref ocs, .ref ods, .long oh, .long ol], oC ot 6 [.int (nI dp), .long sh, .long sl], aH G ocs 4 (fun j => some (kk j)), oC (kk c4) 0 [.ref ks, .ref kv, .ref kw, .int p1, .int s1, .long h1, .long l1], aZ G ks 256 fs] H := hP
  have hD : va_D A [oC ox 7 [.ref oc, .ref ot, .ref oo, .ref oe, .ref op, .ref ocs, .ref ods, .long oh, .long ol], oC ot 6 [.int (nI dp), .long sh, .long sl], aH G ocs 4 (fun j => some (kk j)), oC (kk c4) 0 [.ref ks, .ref kv, .ref kw, .int p1, .int s1, .long h1, .long l1], aZ G ks 256 fs] := hD
  refine W.cs (cells' := 0) (slots' := 0) rfl rfl ?_
  refine W.eq (g2 := F0 m 9 ls []) rfl ?_
  refine lv_aload_n hx hb dCK_subscribe_9 rfl (lv_at hl 0 rfl) ?_
  refine gfCK_46 hx hb hts hown hG hP 0 rfl rfl dCK_subscribe_10 ?_
  refine lv_iload_n hx hb dCK_subscribe_13 rfl (lv_at hl 2 rfl) ?_
  refine ck_hald (v := .ref (kk c4)) hx hb hG hP 2 rfl (by decide) c4 (rfl) (hc) (rfl) dCK_subscribe_14 ?_
  refine gfCK_89 hx hb hts hown hG hP 3 rfl rfl dCK_subscribe_15 ?_
  refine lv_astore (lv' := [(4, .ref ks), (0, .ref ox), (1, .int (nI dd)), (2, .int (nI c4)), (3, .int (jB b))]) hx hb dCK_subscribe_18 hl (by decide) rfl (fun ls hl => ?_)
  refine lv_aload hx hb dCK_subscribe_20 (lv_at hl 0 rfl) ?_
  refine lv_iload_n hx hb dCK_subscribe_22 rfl (lv_at hl 2 rfl) ?_
  refine ck_zald hx hb hG hP 4 rfl (by decide) dd (rfl) (by omega) dCK_subscribe_23 ?_
  refine lv_iload_n hx hb dCK_subscribe_24 rfl (lv_at hl 4 rfl) ?_
  refine lv_icmp_eq (tgt := 32) hx hb dCK_subscribe_25 rfl (fun h9 => ?_) (fun h9 => ?_)
  · have b_h9 := decide_eq_true h9
    refine lv_iconst (v := nI 0) hx hb dCK_subscribe_32 (by decide) ?_
    refine lv_istore (lv' := [(5, .int (nI 0)), (4, .ref ks), (0, .ref ox), (1, .int (nI dd)), (2, .int (nI c4)), (3, .int (jB b))]) hx hb dCK_subscribe_33 hl (by decide) rfl (fun ls hl => ?_)
    refine lv_aload hx hb dCK_subscribe_35 (lv_at hl 1 rfl) ?_
    refine lv_iload_n hx hb dCK_subscribe_37 rfl (lv_at hl 3 rfl) ?_
    refine lv_iload_n hx hb dCK_subscribe_38 rfl (lv_at hl 5 rfl) ?_
    refine ck_zast (x' := jB b) hx hb hG hP hD hS 4 rfl (by decide) dd (rfl) (by omega) (jB_vp b) dCK_subscribe_39 (fun H locs hP hD hS => ?_)
    have hP : va_P G.1 vwCl [oC ox 7 [.ref oc, .ref ot, .ref oo, .ref oe, .ref op, .ref ocs, .ref ods, .long oh, .long ol], oC ot 6 [.int (nI dp), .long sh, .long sl], aH G ocs 4 (fun j => some (kk j)), oC (kk c4) 0 [.ref ks, .ref kv, .ref kw, .int p1, .int s1, .long h1, .long l1], aZ G ks 256 (upd fs dd (jB b))] H := hP
    have hD : va_D A [oC ox 7 [.ref oc, .ref ot, .ref oo, .ref oe, .ref op, .ref ocs, .ref ods, .long oh, .long ol], oC ot 6 [.int (nI dp), .long sh, .long sl], aH G ocs 4 (fun j => some (kk j)), oC (kk c4) 0 [.ref ks, .ref kv, .ref kw, .int p1, .int s1, .long h1, .long l1], aZ G ks 256 (upd fs dd (jB b))] := hD
    refine lv_iload hx hb dCK_subscribe_40 (lv_at hl 0 rfl) ?_
    exact cq_zret () (trivial) hx hb hr hlk hP hS (rfl) (by rw [b_h9]; rfl) (rfl) dCK_subscribe_42
  · have b_h9 := decide_eq_false h9
    refine lv_iconst (v := nI 1) hx hb dCK_subscribe_28 (by decide) ?_
    refine lv_goto (tgt := 33) hx hb dCK_subscribe_29 rfl ?_
    refine lv_istore (lv' := [(5, .int (nI 1)), (4, .ref ks), (0, .ref ox), (1, .int (nI dd)), (2, .int (nI c4)), (3, .int (jB b))]) hx hb dCK_subscribe_33 hl (by decide) rfl (fun ls hl => ?_)
    refine lv_aload hx hb dCK_subscribe_35 (lv_at hl 1 rfl) ?_
    refine lv_iload_n hx hb dCK_subscribe_37 rfl (lv_at hl 3 rfl) ?_
    refine lv_iload_n hx hb dCK_subscribe_38 rfl (lv_at hl 5 rfl) ?_
    refine ck_zast (x' := jB b) hx hb hG hP hD hS 4 rfl (by decide) dd (rfl) (by omega) (jB_vp b) dCK_subscribe_39 (fun H locs hP hD hS => ?_)
    have hP : va_P G.1 vwCl [oC ox 7 [.ref oc, .ref ot, .ref oo, .ref oe, .ref op, .ref ocs, .ref ods, .long oh, .long ol], oC ot 6 [.int (nI dp), .long sh, .long sl], aH G ocs 4 (fun j => some (kk j)), oC (kk c4) 0 [.ref ks, .ref kv, .ref kw, .int p1, .int s1, .long h1, .long l1], aZ G ks 256 (upd fs dd (jB b))] H := hP
    have hD : va_D A [oC ox 7 [.ref oc, .ref ot, .ref oo, .ref oe, .ref op, .ref ocs, .ref ods, .long oh, .long ol], oC ot 6 [.int (nI dp), .long sh, .long sl], aH G ocs 4 (fun j => some (kk j)), oC (kk c4) 0 [.ref ks, .ref kv, .ref kw, .int p1, .int s1, .long h1, .long l1], aZ G ks 256 (upd fs dd (jB b))] := hD
    refine lv_iload hx hb dCK_subscribe_40 (lv_at hl 0 rfl) ?_
    exact cq_zret () (trivial) hx hb hr hlk hP hS (rfl) (by rw [b_h9]; rfl) (rfl) dCK_subscribe_42
set_option maxHeartbeats 4000000 in
set_option maxRecDepth 100000 in
theorem x_CK_subscribe1 (l : Launch) (hl0 : l.stackTraces = false) (G : gG) (ox oc ot oo oe op ocs ods : Nat) (oh ol : Int64) (dp : Nat) (hdp : dp ≤ 8) (sh sl : Int64) (d1 c1 b1 : Int32) (hd : jIn (2 ^ dp) d1 = false) : Cx l G yCK_subscribe cCK_subscribe 6 (some .boolean) { frames := 7, cells := 1, slots := 6, locals := 103 } [.ref ox, .int d1, .int c1, .int b1] [oC ox 7 [.ref oc, .ref ot, .ref oo, .ref oe, .ref op, .ref ocs, .ref ods, .long oh, .long ol], oC ot 6 [.int (nI dp), .long sh, .long sl]] "java/lang/IndexOutOfBoundsException" [oC ox 7 [.ref oc, .ref ot, .ref oo, .ref oe, .ref op, .ref ocs, .ref ods, .long oh, .long ol], oC ot 6 [.int (nI dp), .long sh, .long sl]] := by
  refine Cx.of (by decide) (Nat.le_of_ble_eq_true rfl) ?_
  intro p e s m args below meth c A ls hx hb hr hml hts hown hlk htb hA hP hD hG hS hl
  have hl : lv_has ls 6 [(0, .ref ox), (1, .int d1), (2, .int c1), (3, .int b1)] := hl
  refine lv_aload_n hx hb dCK_subscribe_0 rfl (lv_at hl 0 rfl) ?_
  refine lv_iload_n hx hb dCK_subscribe_1 rfl (lv_at hl 1 rfl) ?_
  exact cxCK_72 (As := [.int d1]) (rest := []) hx hb hml hown hts (x_CK_checkDecoder l hl0 G ox oc ot oo oe op ocs ods oh ol dp hdp sh sl d1 hd) hG hA hP hD hS 0 rfl [0, 1] rfl rfl rfl rfl hl.1 rfl (Nat.le_of_ble_eq_true rfl) ⟨by decide, by decide⟩ ⟨by decide, by decide⟩ dCK_subscribe_2 htb hlk (by decide) (by decide)
set_option maxHeartbeats 4000000 in
set_option maxRecDepth 100000 in
theorem x_CK_subscribe2 (l : Launch) (hl0 : l.stackTraces = false) (G : gG) (ox oc ot oo oe op ocs ods : Nat) (oh ol : Int64) (dp : Nat) (hdp : dp ≤ 8) (sh sl : Int64) (dd : Nat) (hd : dd < 2 ^ dp) (c1 b1 : Int32) (hc : jIn 4 c1 = false) : Cx l G yCK_subscribe cCK_subscribe 6 (some .boolean) { frames := 7, cells := 1, slots := 6, locals := 102 } [.ref ox, .int (nI dd), .int c1, .int b1] [oC ox 7 [.ref oc, .ref ot, .ref oo, .ref oe, .ref op, .ref ocs, .ref ods, .long oh, .long ol], oC ot 6 [.int (nI dp), .long sh, .long sl]] "java/lang/IndexOutOfBoundsException" [oC ox 7 [.ref oc, .ref ot, .ref oo, .ref oe, .ref op, .ref ocs, .ref ods, .long oh, .long ol], oC ot 6 [.int (nI dp), .long sh, .long sl]] := by
  refine Cx.of (by decide) (Nat.le_of_ble_eq_true rfl) ?_
  intro p e s m args below meth c A ls hx hb hr hml hts hown hlk htb hA hP hD hG hS hl
  have hl : lv_has ls 6 [(0, .ref ox), (1, .int (nI dd)), (2, .int c1), (3, .int b1)] := hl
  refine lv_aload_n hx hb dCK_subscribe_0 rfl (lv_at hl 0 rfl) ?_
  refine lv_iload_n hx hb dCK_subscribe_1 rfl (lv_at hl 1 rfl) ?_
  refine clCK_72 (As := [.int (nI dd)]) (rest := []) hx hb hml hown hts (k_CK_checkDecoder l G ox oc ot oo oe op ocs ods oh ol dp hdp sh sl dd hd) hG hA hP hD hS 0 rfl [0, 1] rfl rfl (fun _ => rfl) rfl hl.1 rfl (Nat.le_of_ble_eq_true rfl) ⟨by decide, by decide⟩ ⟨by decide, by decide⟩ dCK_subscribe_2 (fun _ H locs _ hP hD hS => ?_)
  have hP : va_P G.1 vwCl [oC ox 7 [.ref oc, .ref ot, .ref oo, .ref oe, .ref op, .ref ocs, .ref ods, .long oh, .long ol], oC ot 6 [.int (nI dp), .long sh, .long sl]] H := hP
  have hD : va_D A [oC ox 7 [.ref oc, .ref ot, .ref oo, .ref oe, .ref op, .ref ocs, .ref ods, .long oh, .long ol], oC ot 6 [.int (nI dp), .long sh, .long sl]] := hD
  refine W.cs (cells' := 0) (slots' := 0) rfl rfl ?_
  refine W.eq (g2 := F0 m 5 ls []) rfl ?_
  refine lv_iload_n hx hb dCK_subscribe_5 rfl (lv_at hl 2 rfl) ?_
  exact cxCK_86 (As := [.int c1]) (rest := []) hx hb hml hown hts (x_CK_checkChannel l hl0 G c1 hc) hG hA hP hD hS [] rfl rfl rfl rfl hl.1 rfl (Nat.le_of_ble_eq_true rfl) ⟨by decide, by decide⟩ ⟨by decide, by decide⟩ dCK_subscribe_6 htb hlk (by decide) (by decide)
set_option maxHeartbeats 4000000 in
set_option maxRecDepth 100000 in
theorem k_CK_period (l : Launch) (G : gG) (ox oc ot oo oe op ocs ods : Nat) (oh ol : Int64) (om dp : Nat) (hdp : dp ≤ 8) (sh sl : Int64) (kk : Nat → Nat) (ks kv kw c4 : Nat) (hc : c4 < 4) (q : Nat) (hq : q < 999) (s1 : Int32) (h1 l1 kh kl : Int64) (f g fv fw : Nat → Int32) : Ck l G yCK_period cCK_period 7 (some .int) { frames := 2, cells := 0, slots := 0, locals := 51 } [.ref ox, .int (nI c4), .long kh, .long kl] [oC ox 7 [.ref oc, .ref ot, .ref oo, .ref oe, .ref op, .ref ocs, .ref ods, .long oh, .long ol], aH G ocs 4 (fun j => some (kk j)), oC oo 2 [.ref om], aZ G om 512 f, oC ot 6 [.int (nI dp), .long sh, .long sl], oC (kk c4) 0 [.ref ks, .ref kv, .ref kw, .int (nI q), .int s1, .long h1, .long l1], aZ G ks 256 g, aI G kv 128 fv, aI G kw 128 fw] (some (.int (nI (jCov (jMk f g (2 ^ dp)) (2 ^ dp) fv fw).1))) [oC ox 7 [.ref oc, .ref ot, .ref oo, .ref oe, .ref op, .ref ocs, .ref ods, .long oh, .long ol], aH G ocs 4 (fun j => some (kk j)), oC oo 2 [.ref om], aZ G om 512 (jMk f g (2 ^ dp)), oC ot 6 [.int (nI dp), .long sh, .long sl], oC (kk c4) 0 [.ref ks, .ref kv, .ref kw, .int (nI (q + 1)), .int (nI (jCov (jMk f g (2 ^ dp)) (2 ^ dp) fv fw).1), .long kh, .long kl], aZ G ks 256 g, aI G kv 128 ((jCov (jMk f g (2 ^ dp)) (2 ^ dp) fv fw).2.1), aI G kw 128 ((jCov (jMk f g (2 ^ dp)) (2 ^ dp) fv fw).2.2)] := by
  refine Cq.of (by decide) (Nat.le_of_ble_eq_true rfl) ?_
  intro p e s m args below meth c A ls hx hb hr hml hts hown hlk hA hP hD hG hS hl
  have hl : lv_has ls 7 [(0, .ref ox), (1, .int (nI c4)), (2, .long kh), (4, .long kl)] := hl
  refine lv_iload_n hx hb dCK_period_0 rfl (lv_at hl 1 rfl) ?_
  refine clCK_86 (As := [.int (nI c4)]) (rest := []) hx hb hml hown hts (k_CK_checkChannel l G (nI c4) (jIn_nI (by decide) hc)) hG hA hP hD hS [] rfl rfl (fun _ => rfl) rfl hl.1 rfl (Nat.le_of_ble_eq_true rfl) ⟨by decide, by decide⟩ ⟨by decide, by decide⟩ dCK_period_1 (fun _ H locs _ hP hD hS => ?_)
  have hP : va_P G.1 vwCl [oC ox 7 [.ref oc, .ref ot, .ref oo, .ref oe, .ref op, .ref ocs, .ref ods, .long oh, .long ol], aH G ocs 4 (fun j => some (kk j)), oC oo 2 [.ref om], aZ G om 512 f, oC ot 6 [.int (nI dp), .long sh, .long sl], oC (kk c4) 0 [.ref ks, .ref kv, .ref kw, .int (nI q), .int s1, .long h1, .long l1], aZ G ks 256 g, aI G kv 128 fv, aI G kw 128 fw] H := hP
  have hD : va_D A [oC ox 7 [.ref oc, .ref ot, .ref oo, .ref oe, .ref op, .ref ocs, .ref ods, .long oh, .long ol], aH G ocs 4 (fun j => some (kk j)), oC oo 2 [.ref om], aZ G om 512 f, oC ot 6 [.int (nI dp), .long sh, .long sl], oC (kk c4) 0 [.ref ks, .ref kv, .ref kw, .int (nI q), .int s1, .long h1, .long l1], aZ G ks 256 g, aI G kv 128 fv, aI G kw 128 fw] := hD
  refine W.cs (cells' := 0) (slots' := 0) rfl rfl ?_
  refine W.eq (g2 := F0 m 4 ls []) rfl ?_
  refine lv_aload_n hx hb dCK_period_4 rfl (lv_at hl 0 rfl) ?_
  refine gfCK_46 hx hb hts hown hG hP 0 rfl rfl dCK_period_5 ?_
  refine lv_iload_n hx hb dCK_period_8 rfl (lv_at hl 1 rfl) ?_
  refine ck_hald (v := .ref (kk c4)) hx hb hG hP 1 rfl (by decide) c4 (rfl) (hc) (rfl) dCK_period_9 ?_
  refine lv_astore (lv' := [(6, .ref (kk c4)), (0, .ref ox), (1, .int (nI c4)), (2, .long kh), (4, .long kl)]) hx hb dCK_period_10 hl (by decide) rfl (fun ls hl => ?_)
  refine lv_aload hx hb dCK_period_12 (lv_at hl 0 rfl) ?_
  refine gfCK_93 hx hb hts hown hG hP 5 rfl rfl dCK_period_14 ?_
  refine lv_sipush (v := nI 999) hx hb dCK_period_17 (by decide) ?_
  refine lv_icmp_lt (tgt := 33) hx hb dCK_period_20 rfl (fun _ => ?_) (fun h => absurd (nI_lt hq (by omega)) h)
  refine lv_aload hx hb dCK_period_33 (lv_at hl 0 rfl) ?_
  refine lv_lload_n hx hb dCK_period_35 rfl (lv_at hl 3 rfl) ?_
  refine lv_lload hx hb dCK_period_36 (lv_at hl 4 rfl) ?_
  refine clCK_102 (As := [.long kh, .long kl]) (rest := []) hx hb hml hown hts (k_Ch_beginPeriod l G (kk c4) ks kv kw q s1 h1 l1 kh kl) hG hA hP hD hS 5 rfl [5] rfl rfl (fun _ => rfl) rfl hl.1 rfl (Nat.le_of_ble_eq_true rfl) ⟨by decide, by decide⟩ ⟨by decide, by decide⟩ dCK_period_38 (fun _ H locs _ hP hD hS => ?_)
  have hP : va_P G.1 vwCl [oC ox 7 [.ref oc, .ref ot, .ref oo, .ref oe, .ref op, .ref ocs, .ref ods, .long oh, .long ol], aH G ocs 4 (fun j => some (kk j)), oC oo 2 [.ref om], aZ G om 512 f, oC ot 6 [.int (nI dp), .long sh, .long sl], oC (kk c4) 0 [.ref ks, .ref kv, .ref kw, .int (nI (q + 1)), .int s1, .long kh, .long kl], aZ G ks 256 g, aI G kv 128 fv, aI G kw 128 fw] H := hP
  have hD : va_D A [oC ox 7 [.ref oc, .ref ot, .ref oo, .ref oe, .ref op, .ref ocs, .ref ods, .long oh, .long ol], aH G ocs 4 (fun j => some (kk j)), oC oo 2 [.ref om], aZ G om 512 f, oC ot 6 [.int (nI dp), .long sh, .long sl], oC (kk c4) 0 [.ref ks, .ref kv, .ref kw, .int (nI (q + 1)), .int s1, .long kh, .long kl], aZ G ks 256 g, aI G kv 128 fv, aI G kw 128 fw] := hD
  refine W.cs (cells' := 0) (slots' := 0) rfl rfl ?_
  refine W.eq (g2 := F0 m 41 ls []) rfl ?_
  refine lv_aload_n hx hb dCK_period_41 rfl (lv_at hl 1 rfl) ?_
  refine gfCK_26 hx hb hts hown hG hP 0 rfl rfl dCK_period_42 ?_
  refine lv_aload_n hx hb dCK_period_45 rfl (lv_at hl 1 rfl) ?_
  refine gfCK_19 hx hb hts hown hG hP 0 rfl rfl dCK_period_46 ?_
  refine lv_aload hx hb dCK_period_49 (lv_at hl 0 rfl) ?_
  refine clCK_106 (As := [.ref ot, .ref (kk c4)]) (rest := []) hx hb hml hown hts (k_Co_find l G oo om ot (kk c4) ks kv kw dp hdp sh sl kh kl (nI (q + 1)) s1 f g fv fw) hG hA hP hD hS 2 rfl [2, 3, 4, 5, 6, 7, 8] rfl rfl (fun _ => rfl) rfl hl.1 rfl (Nat.le_of_ble_eq_true rfl) ⟨by decide, by decide⟩ ⟨by decide, by decide⟩ dCK_period_51 (fun _ H locs _ hP hD hS => ?_)
  have hP : va_P G.1 vwCl [oC ox 7 [.ref oc, .ref ot, .ref oo, .ref oe, .ref op, .ref ocs, .ref ods, .long oh, .long ol], aH G ocs 4 (fun j => some (kk j)), oC oo 2 [.ref om], aZ G om 512 (jMk f g (2 ^ dp)), oC ot 6 [.int (nI dp), .long sh, .long sl], oC (kk c4) 0 [.ref ks, .ref kv, .ref kw, .int (nI (q + 1)), .int (nI (jCov (jMk f g (2 ^ dp)) (2 ^ dp) fv fw).1), .long kh, .long kl], aZ G ks 256 g, aI G kv 128 ((jCov (jMk f g (2 ^ dp)) (2 ^ dp) fv fw).2.1), aI G kw 128 ((jCov (jMk f g (2 ^ dp)) (2 ^ dp) fv fw).2.2)] H := hP
  have hD : va_D A [oC ox 7 [.ref oc, .ref ot, .ref oo, .ref oe, .ref op, .ref ocs, .ref ods, .long oh, .long ol], aH G ocs 4 (fun j => some (kk j)), oC oo 2 [.ref om], aZ G om 512 (jMk f g (2 ^ dp)), oC ot 6 [.int (nI dp), .long sh, .long sl], oC (kk c4) 0 [.ref ks, .ref kv, .ref kw, .int (nI (q + 1)), .int (nI (jCov (jMk f g (2 ^ dp)) (2 ^ dp) fv fw).1), .long kh, .long kl], aZ G ks 256 g, aI G kv 128 ((jCov (jMk f g (2 ^ dp)) (2 ^ dp) fv fw).2.1), aI G kw 128 ((jCov (jMk f g (2 ^ dp)) (2 ^ dp) fv fw).2.2)] := hD
  refine W.cs (cells' := 0) (slots' := 0) rfl rfl ?_
  refine W.eq (g2 := F0 m 54 ls []) rfl ?_
  generalize jCov (jMk f g (2 ^ dp)) (2 ^ dp) fv fw = cv at hP hD ⊢
  refine lv_aload hx hb dCK_period_54 (lv_at hl 0 rfl) ?_
  refine gfCK_110 hx hb hts hown hG hP 5 rfl rfl dCK_period_56 ?_
  exact cq_iret () (trivial) hx hb hr hlk hP hS (rfl) (rfl) dCK_period_59
set_option maxHeartbeats 4000000 in
set_option maxRecDepth 100000 in
theorem x_CK_period1 (l : Launch) (hl0 : l.stackTraces = false) (G : gG) (ox : Nat) (c1 : Int32) (hc : jIn 4 c1 = false) (kh kl : Int64) : Cx l G yCK_period cCK_period 7 (some .int) { frames := 7, cells := 1, slots := 6, locals := 102 } [.ref ox, .int c1, .long kh, .long kl] [] "java/lang/IndexOutOfBoundsException" [] := by
  refine Cx.of (by decide) (Nat.le_of_ble_eq_true rfl) ?_
  intro p e s m args below meth c A ls hx hb hr hml hts hown hlk htb hA hP hD hG hS hl
  have hl : lv_has ls 7 [(0, .ref ox), (1, .int c1), (2, .long kh), (4, .long kl)] := hl
  refine lv_iload_n hx hb dCK_period_0 rfl (lv_at hl 1 rfl) ?_
  exact cxCK_86 (As := [.int c1]) (rest := []) hx hb hml hown hts (x_CK_checkChannel l hl0 G c1 hc) hG hA hP hD hS [] rfl rfl rfl rfl hl.1 rfl (Nat.le_of_ble_eq_true rfl) ⟨by decide, by decide⟩ ⟨by decide, by decide⟩ dCK_period_1 htb hlk (by decide) (by decide)
set_option maxHeartbeats 4000000 in
set_option maxRecDepth 100000 in
theorem x_CK_period2 (l : Launch) (hl0 : l.stackTraces = false) (G : gG) (ox oc ot oo oe op ocs ods : Nat) (oh ol : Int64) (kk : Nat → Nat) (ks kv kw c4 : Nat) (hc : c4 < 4) (q : Nat) (hq : 999 ≤ q) (hq2 : q < 2 ^ 30) (s1 : Int32) (h1 l1 kh kl : Int64) : Cx l G yCK_period cCK_period 7 (some .int) { frames := 6, cells := 1, slots := 6, locals := 82 } [.ref ox, .int (nI c4), .long kh, .long kl] [oC ox 7 [.ref oc, .ref ot, .ref oo, .ref oe, .ref op, .ref ocs, .ref ods, .long oh, .long ol], aH G ocs 4 (fun j => some (kk j)), oC (kk c4) 0 [.ref ks, .ref kv, .ref kw, .int (nI q), .int s1, .long h1, .long l1]] "java/lang/UnsupportedOperationException" [oC ox 7 [.ref oc, .ref ot, .ref oo, .ref oe, .ref op, .ref ocs, .ref ods, .long oh, .long ol], aH G ocs 4 (fun j => some (kk j)), oC (kk c4) 0 [.ref ks, .ref kv, .ref kw, .int (nI q), .int s1, .long h1, .long l1]] := by
  refine Cx.of (by decide) (Nat.le_of_ble_eq_true rfl) ?_
  intro p e s m args below meth c A ls hx hb hr hml hts hown hlk htb hA hP hD hG hS hl
  have hl : lv_has ls 7 [(0, .ref ox), (1, .int (nI c4)), (2, .long kh), (4, .long kl)] := hl
  refine lv_iload_n hx hb dCK_period_0 rfl (lv_at hl 1 rfl) ?_
  refine clCK_86 (As := [.int (nI c4)]) (rest := []) hx hb hml hown hts (k_CK_checkChannel l G (nI c4) (jIn_nI (by decide) hc)) hG hA hP hD hS [] rfl rfl (fun _ => rfl) rfl hl.1 rfl (Nat.le_of_ble_eq_true rfl) ⟨by decide, by decide⟩ ⟨by decide, by decide⟩ dCK_period_1 (fun _ H locs _ hP hD hS => ?_)
  have hP : va_P G.1 vwCl [oC ox 7 [.ref oc, .ref ot, .ref oo, .ref oe, .ref op, .ref ocs, .ref ods, .long oh, .long ol], aH G ocs 4 (fun j => some (kk j)), oC (kk c4) 0 [.ref ks, .ref kv, .ref kw, .int (nI q), .int s1, .long h1, .long l1]] H := hP
  have hD : va_D A [oC ox 7 [.ref oc, .ref ot, .ref oo, .ref oe, .ref op, .ref ocs, .ref ods, .long oh, .long ol], aH G ocs 4 (fun j => some (kk j)), oC (kk c4) 0 [.ref ks, .ref kv, .ref kw, .int (nI q), .int s1, .long h1, .long l1]] := hD
  refine W.cs (cells' := 0) (slots' := 0) rfl rfl ?_
  refine W.eq (g2 := F0 m 4 ls []) rfl ?_
  refine lv_aload_n hx hb dCK_period_4 rfl (lv_at hl 0 rfl) ?_
  refine gfCK_46 hx hb hts hown hG hP 0 rfl rfl dCK_period_5 ?_
  refine lv_iload_n hx hb dCK_period_8 rfl (lv_at hl 1 rfl) ?_
  refine ck_hald (v := .ref (kk c4)) hx hb hG hP 1 rfl (by decide) c4 (rfl) (hc) (rfl) dCK_period_9 ?_
  refine lv_astore (lv' := [(6, .ref (kk c4)), (0, .ref ox), (1, .int (nI c4)), (2, .long kh), (4, .long kl)]) hx hb dCK_period_10 hl (by decide) rfl (fun ls hl => ?_)
  refine lv_aload hx hb dCK_period_12 (lv_at hl 0 rfl) ?_
  refine gfCK_93 hx hb hts hown hG hP 2 rfl rfl dCK_period_14 ?_
  refine lv_sipush (v := nI 999) hx hb dCK_period_17 (by decide) ?_
  refine lv_icmp_lt (tgt := 33) hx hb dCK_period_20 rfl (fun h => absurd h (nI_nlt hq (by omega))) (fun _ => ?_)
  exact cxUOE (sx := 99) (tx := "no more periods") hl0 hx hb hml hown hts htb hlk hG hP hS hl.1 (by decide) dCK_period_23 dCK_period_26 dCK_period_27 dCK_period_29 dCK_period_32 (by decide) (Nat.le_of_ble_eq_true rfl) (by decide) (by decide) (by decide) (by decide)
set_option maxHeartbeats 4000000 in
set_option maxRecDepth 100000 in
theorem k_CK_has0 (l : Launch) (G : gG) (ox oc ot oo oe op ocs ods : Nat) (oh ol : Int64) (dp : Nat) (hdp : dp ≤ 8) (sh sl : Int64) (dec : Nat → Option Nat) (dd : Nat) (hd : dd < 2 ^ dp) (c4 : Nat) (hc : c4 < 4) (ho : dec dd = none) : Ck l G yCK_has cCK_has 4 (some .int) { frames := 2, cells := 0, slots := 0, locals := 41 } [.ref ox, .int (nI dd), .int (nI c4)] [oC ox 7 [.ref oc, .ref ot, .ref oo, .ref oe, .ref op, .ref ocs, .ref ods, .long oh, .long ol], oC ot 6 [.int (nI dp), .long sh, .long sl], aQ G ods 256 dec] (some (.int (-1))) [oC ox 7 [.ref oc, .ref ot, .ref oo, .ref oe, .ref op, .ref ocs, .ref ods, .long oh, .long ol], oC ot 6 [.int (nI dp), .long sh, .long sl], aQ G ods 256 dec] := by
  refine Cq.of (by decide) (Nat.le_of_ble_eq_true rfl) ?_
  intro p e s m args below meth c A ls hx hb hr hml hts hown hlk hA hP hD hG hS hl
  have hp2 : 2 ^ dp ≤ 256 := Nat.pow_le_pow_right (n := 2) (by decide) hdp
  have hp1 : 1 ≤ 2 ^ dp := Nat.one_le_two_pow
  have hl : lv_has ls 4 [(0, .ref ox), (1, .int (nI dd)), (2, .int (nI c4))] := hl
  refine lv_aload_n hx hb dCK_has_0 rfl (lv_at hl 0 rfl) ?_
  refine lv_iload_n hx hb dCK_has_1 rfl (lv_at hl 1 rfl) ?_
  refine clCK_72 (As := [.int (nI dd)]) (rest := []) hx hb hml hown hts (k_CK_checkDecoder l G ox oc ot oo oe op ocs ods oh ol dp hdp sh sl dd hd) hG hA hP hD hS 0 rfl [0, 1] rfl rfl (fun _ => rfl) rfl hl.1 rfl (Nat.le_of_ble_eq_true rfl) ⟨by decide, by decide⟩ ⟨by decide, by decide⟩ dCK_has_2 (fun _ H locs _ hP hD hS => ?_)
  have hP : va_P G.1 vwCl [oC ox 7 [.ref oc, .ref ot, .ref oo, .ref oe, .ref op, .ref ocs, .ref ods, .long oh, .long ol], oC ot 6 [.int (nI dp), .long sh, .long sl], aQ G ods 256 dec] H := hP
  have hD : va_D A [oC ox 7 [.ref oc, .ref ot, .ref oo, .ref oe, .ref op, .ref ocs, .ref ods, .long oh, .long ol], oC ot 6 [.int (nI dp), .long sh, .long sl], aQ G ods 256 dec] := hD
  refine W.cs (cells' := 0) (slots' := 0) rfl rfl ?_
  refine W.eq (g2 := F0 m 5 ls []) rfl ?_
  refine lv_iload_n hx hb dCK_has_5 rfl (lv_at hl 2 rfl) ?_
  refine clCK_86 (As := [.int (nI c4)]) (rest := []) hx hb hml hown hts (k_CK_checkChannel l G (nI c4) (jIn_nI (by decide) hc)) hG hA hP hD hS [] rfl rfl (fun _ => rfl) rfl hl.1 rfl (Nat.le_of_ble_eq_true rfl) ⟨by decide, by decide⟩ ⟨by decide, by decide⟩ dCK_has_6 (fun _ H locs _ hP hD hS => ?_)
  have hP : va_P G.1 vwCl [oC ox 7 [.ref oc, .ref ot, .ref oo, .ref oe, .ref op, .ref ocs, .ref ods, .long oh, .long ol], oC ot 6 [.int (nI dp), .long sh, .long sl], aQ G ods 256 dec] H := hP
  have hD : va_D A [oC ox 7 [.ref oc, .ref ot, .ref oo, .ref oe, .ref op, .ref ocs, .ref ods, .long oh, .long ol], oC ot 6 [.int (nI dp), .long sh, .long sl], aQ G ods 256 dec] := hD
  refine W.cs (cells' := 0) (slots' := 0) rfl rfl ?_
  refine W.eq (g2 := F0 m 9 ls []) rfl ?_
  refine lv_aload_n hx hb dCK_has_9 rfl (lv_at hl 0 rfl) ?_
  refine gfCK_52 hx hb hts hown hG hP 0 rfl rfl dCK_has_10 ?_
  refine lv_iload_n hx hb dCK_has_13 rfl (lv_at hl 1 rfl) ?_
  refine ck_qald (v := .null) hx hb hG hP 2 rfl (by decide) dd (rfl) (by omega) (by rw [ho]; rfl) dCK_has_14 ?_
  refine lv_astore_nN (lv' := [(3, .null), (0, .ref ox), (1, .int (nI dd)), (2, .int (nI c4))]) hx hb dCK_has_15 rfl hl (by decide) rfl (fun ls hl => ?_)
  refine lv_aload_nN hx hb dCK_has_16 rfl (lv_at hl 0 rfl) ?_
  refine lv_ifnonnullN hx hb dCK_has_17 ?_
  refine lv_iconst (v := (-1)) hx hb dCK_has_20 (by decide) ?_
  refine lv_goto (tgt := 30) hx hb dCK_has_21 rfl ?_
  exact cq_iret () (trivial) hx hb hr hlk hP hS (rfl) (rfl) dCK_has_30
set_option maxHeartbeats 4000000 in
set_option maxRecDepth 100000 in
theorem k_CK_has1 (l : Launch) (G : gG) (ox oc ot oo oe op ocs ods : Nat) (oh ol : Int64) (dp : Nat) (hdp : dp ≤ 8) (sh sl : Int64) (dec : Nat → Option Nat) (dd : Nat) (hd : dd < 2 ^ dp) (c4 od dq dh dl : Nat) (hc : c4 < 4) (ho : dec dd = some od) (pf : Nat → Int32) : Ck l G yCK_has cCK_has 4 (some .int) { frames := 2, cells := 0, slots := 0, locals := 41 } [.ref ox, .int (nI dd), .int (nI c4)] [oC ox 7 [.ref oc, .ref ot, .ref oo, .ref oe, .ref op, .ref ocs, .ref ods, .long oh, .long ol], oC ot 6 [.int (nI dp), .long sh, .long sl], aQ G ods 256 dec, oC od 3 [.ref dq, .ref dh, .ref dl], aI G dq 4 pf] (some (.int (pf c4))) [oC ox 7 [.ref oc, .ref ot, .ref oo, .ref oe, .ref op, .ref ocs, .ref ods, .long oh, .long ol], oC ot 6 [.int (nI dp), .long sh, .long sl], aQ G ods 256 dec, oC od 3 [.ref dq, .ref dh, .ref dl], aI G dq 4 pf] := by
  refine Cq.of (by decide) (Nat.le_of_ble_eq_true rfl) ?_
  intro p e s m args below meth c A ls hx hb hr hml hts hown hlk hA hP hD hG hS hl
  have hp2 : 2 ^ dp ≤ 256 := Nat.pow_le_pow_right (n := 2) (by decide) hdp
  have hp1 : 1 ≤ 2 ^ dp := Nat.one_le_two_pow
  have hl : lv_has ls 4 [(0, .ref ox), (1, .int (nI dd)), (2, .int (nI c4))] := hl
  refine lv_aload_n hx hb dCK_has_0 rfl (lv_at hl 0 rfl) ?_
  refine lv_iload_n hx hb dCK_has_1 rfl (lv_at hl 1 rfl) ?_
  refine clCK_72 (As := [.int (nI dd)]) (rest := []) hx hb hml hown hts (k_CK_checkDecoder l G ox oc ot oo oe op ocs ods oh ol dp hdp sh sl dd hd) hG hA hP hD hS 0 rfl [0, 1] rfl rfl (fun _ => rfl) rfl hl.1 rfl (Nat.le_of_ble_eq_true rfl) ⟨by decide, by decide⟩ ⟨by decide, by decide⟩ dCK_has_2 (fun _ H locs _ hP hD hS => ?_)
  have hP : va_P G.1 vwCl [oC ox 7 [.ref oc, .ref ot, .ref oo, .ref oe, .ref op, .ref ocs, .ref ods, .long oh, .long ol], oC ot 6 [.int (nI dp), .long sh, .long sl], aQ G ods 256 dec, oC od 3 [.ref dq, .ref dh, .ref dl], aI G dq 4 pf] H := hP
  have hD : va_D A [oC ox 7 [.ref oc, .ref ot, .ref oo, .ref oe, .ref op, .ref ocs, .ref ods, .long oh, .long ol], oC ot 6 [.int (nI dp), .long sh, .long sl], aQ G ods 256 dec, oC od 3 [.ref dq, .ref dh, .ref dl], aI G dq 4 pf] := hD
  refine W.cs (cells' := 0) (slots' := 0) rfl rfl ?_
  refine W.eq (g2 := F0 m 5 ls []) rfl ?_
  refine lv_iload_n hx hb dCK_has_5 rfl (lv_at hl 2 rfl) ?_
  refine clCK_86 (As := [.int (nI c4)]) (rest := []) hx hb hml hown hts (k_CK_checkChannel l G (nI c4) (jIn_nI (by decide) hc)) hG hA hP hD hS [] rfl rfl (fun _ => rfl) rfl hl.1 rfl (Nat.le_of_ble_eq_true rfl) ⟨by decide, by decide⟩ ⟨by decide, by decide⟩ dCK_has_6 (fun _ H locs _ hP hD hS => ?_)
  have hP : va_P G.1 vwCl [oC ox 7 [.ref oc, .ref ot, .ref oo, .ref oe, .ref op, .ref ocs, .ref ods, .long oh, .long ol], oC ot 6 [.int (nI dp), .long sh, .long sl], aQ G ods 256 dec, oC od 3 [.ref dq, .ref dh, .ref dl], aI G dq 4 pf] H := hP
  have hD : va_D A [oC ox 7 [.ref oc, .ref ot, .ref oo, .ref oe, .ref op, .ref ocs, .ref ods, .long oh, .long ol], oC ot 6 [.int (nI dp), .long sh, .long sl], aQ G ods 256 dec, oC od 3 [.ref dq, .ref dh, .ref dl], aI G dq 4 pf] := hD
  refine W.cs (cells' := 0) (slots' := 0) rfl rfl ?_
  refine W.eq (g2 := F0 m 9 ls []) rfl ?_
  refine lv_aload_n hx hb dCK_has_9 rfl (lv_at hl 0 rfl) ?_
  refine gfCK_52 hx hb hts hown hG hP 0 rfl rfl dCK_has_10 ?_
  refine lv_iload_n hx hb dCK_has_13 rfl (lv_at hl 1 rfl) ?_
  refine ck_qald (v := .ref od) hx hb hG hP 2 rfl (by decide) dd (rfl) (by omega) (by rw [ho]; rfl) dCK_has_14 ?_
  refine lv_astore_n (lv' := [(3, .ref od), (0, .ref ox), (1, .int (nI dd)), (2, .int (nI c4))]) hx hb dCK_has_15 rfl hl (by decide) rfl (fun ls hl => ?_)
  refine lv_aload_n hx hb dCK_has_16 rfl (lv_at hl 0 rfl) ?_
  refine lv_ifnonnull (tgt := 24) hx hb dCK_has_17 rfl ?_
  refine lv_aload_n hx hb dCK_has_24 rfl (lv_at hl 0 rfl) ?_
  refine gfCK_169 hx hb hts hown hG hP 3 rfl rfl dCK_has_25 ?_
  refine lv_iload_n hx hb dCK_has_28 rfl (lv_at hl 3 rfl) ?_
  refine ck_iald hx hb hG hP 4 rfl (by decide) c4 (rfl) (hc) dCK_has_29 ?_
  exact cq_iret () (trivial) hx hb hr hlk hP hS (rfl) (rfl) dCK_has_30
set_option maxHeartbeats 4000000 in
set_option maxRecDepth 100000 in
theorem x_CK_has1 (l : Launch) (hl0 : l.stackTraces = false) (G : gG) (ox oc ot oo oe op ocs ods : Nat) (oh ol : Int64) (dp : Nat) (hdp : dp ≤ 8) (sh sl : Int64) (d1 c1 : Int32) (hd : jIn (2 ^ dp) d1 = false) : Cx l G yCK_has cCK_has 4 (some .int) { frames := 7, cells := 1, slots := 6, locals := 103 } [.ref ox, .int d1, .int c1] [oC ox 7 [.ref oc, .ref ot, .ref oo, .ref oe, .ref op, .ref ocs, .ref ods, .long oh, .long ol], oC ot 6 [.int (nI dp), .long sh, .long sl]] "java/lang/IndexOutOfBoundsException" [oC ox 7 [.ref oc, .ref ot, .ref oo, .ref oe, .ref op, .ref ocs, .ref ods, .long oh, .long ol], oC ot 6 [.int (nI dp), .long sh, .long sl]] := by
  refine Cx.of (by decide) (Nat.le_of_ble_eq_true rfl) ?_
  intro p e s m args below meth c A ls hx hb hr hml hts hown hlk htb hA hP hD hG hS hl
  have hl : lv_has ls 4 [(0, .ref ox), (1, .int d1), (2, .int c1)] := hl
  refine lv_aload_n hx hb dCK_has_0 rfl (lv_at hl 0 rfl) ?_
  refine lv_iload_n hx hb dCK_has_1 rfl (lv_at hl 1 rfl) ?_
  exact cxCK_72 (As := [.int d1]) (rest := []) hx hb hml hown hts (x_CK_checkDecoder l hl0 G ox oc ot oo oe op ocs ods oh ol dp hdp sh sl d1 hd) hG hA hP hD hS 0 rfl [0, 1] rfl rfl rfl rfl hl.1 rfl (Nat.le_of_ble_eq_true rfl) ⟨by decide, by decide⟩ ⟨by decide, by decide⟩ dCK_has_2 htb hlk (by decide) (by decide)
set_option maxHeartbeats 4000000 in
set_option maxRecDepth 100000 in
theorem x_CK_has2 (l : Launch) (hl0 : l.stackTraces = false) (G : gG) (ox oc ot oo oe op ocs ods : Nat) (oh ol : Int64) (dp : Nat) (hdp : dp ≤ 8) (sh sl : Int64) (dd : Nat) (hd : dd < 2 ^ dp) (c1 : Int32) (hc : jIn 4 c1 = false) : Cx l G yCK_has cCK_has 4 (some .int) { frames := 7, cells := 1, slots := 6, locals := 102 } [.ref ox, .int (nI dd), .int c1] [oC ox 7 [.ref oc, .ref ot, .ref oo, .ref oe, .ref op, .ref ocs, .ref ods, .long oh, .long ol], oC ot 6 [.int (nI dp), .long sh, .long sl]] "java/lang/IndexOutOfBoundsException" [oC ox 7 [.ref oc, .ref ot, .ref oo, .ref oe, .ref op, .ref ocs, .ref ods, .long oh, .long ol], oC ot 6 [.int (nI dp), .long sh, .long sl]] := by
  refine Cx.of (by decide) (Nat.le_of_ble_eq_true rfl) ?_
  intro p e s m args below meth c A ls hx hb hr hml hts hown hlk htb hA hP hD hG hS hl
  have hl : lv_has ls 4 [(0, .ref ox), (1, .int (nI dd)), (2, .int c1)] := hl
  refine lv_aload_n hx hb dCK_has_0 rfl (lv_at hl 0 rfl) ?_
  refine lv_iload_n hx hb dCK_has_1 rfl (lv_at hl 1 rfl) ?_
  refine clCK_72 (As := [.int (nI dd)]) (rest := []) hx hb hml hown hts (k_CK_checkDecoder l G ox oc ot oo oe op ocs ods oh ol dp hdp sh sl dd hd) hG hA hP hD hS 0 rfl [0, 1] rfl rfl (fun _ => rfl) rfl hl.1 rfl (Nat.le_of_ble_eq_true rfl) ⟨by decide, by decide⟩ ⟨by decide, by decide⟩ dCK_has_2 (fun _ H locs _ hP hD hS => ?_)
  have hP : va_P G.1 vwCl [oC ox 7 [.ref oc, .ref ot, .ref oo, .ref oe, .ref op, .ref ocs, .ref ods, .long oh, .long ol], oC ot 6 [.int (nI dp), .long sh, .long sl]] H := hP
  have hD : va_D A [oC ox 7 [.ref oc, .ref ot, .ref oo, .ref oe, .ref op, .ref ocs, .ref ods, .long oh, .long ol], oC ot 6 [.int (nI dp), .long sh, .long sl]] := hD
  refine W.cs (cells' := 0) (slots' := 0) rfl rfl ?_
  refine W.eq (g2 := F0 m 5 ls []) rfl ?_
  refine lv_iload_n hx hb dCK_has_5 rfl (lv_at hl 2 rfl) ?_
  exact cxCK_86 (As := [.int c1]) (rest := []) hx hb hml hown hts (x_CK_checkChannel l hl0 G c1 hc) hG hA hP hD hS [] rfl rfl rfl rfl hl.1 rfl (Nat.le_of_ble_eq_true rfl) ⟨by decide, by decide⟩ ⟨by decide, by decide⟩ dCK_has_6 htb hlk (by decide) (by decide)
set_option maxHeartbeats 4000000 in
set_option maxRecDepth 100000 in
theorem k_CK_seal (l : Launch) (G : gG) (ox oc ot oo oe op ocs ods : Nat) (oh ol : Int64) (owd : Nat) (g : Nat → Int32) (e0 f0 : Int64) (kk : Nat → Nat) (ks kv kw c4 : Nat) (hc : c4 < 4) (q : Nat) (hq : 0 < q) (hq2 : q < 2 ^ 30) (s1 : Int32) (h1 l1 i1 h2 l2 : Int64) : Ck l G yCK_seal cCK_seal 9 none { frames := 4, cells := 0, slots := 0, locals := 104 } [.ref ox, .int (nI c4), .long i1, .long h2, .long l2] [oC ox 7 [.ref oc, .ref ot, .ref oo, .ref oe, .ref op, .ref ocs, .ref ods, .long oh, .long ol], oC oc 1 [.ref owd, .long e0, .long f0], aI G owd 44 g, aH G ocs 4 (fun j => some (kk j)), oC (kk c4) 0 [.ref ks, .ref kv, .ref kw, .int (nI q), .int s1, .long h1, .long l1]] (none) [oC ox 7 [.ref oc, .ref ot, .ref oo, .ref oe, .ref op, .ref ocs, .ref ods, .long (h2 ^^^ (cE h1 l1 (lN 65536 * (nI c4).toInt64 + (nI q).toInt64) i1).1), .long (l2 ^^^ (cE h1 l1 (lN 65536 * (nI c4).toInt64 + (nI q).toInt64) i1).2)], oC oc 1 [.ref owd, .long ((cE h1 l1 (lN 65536 * (nI c4).toInt64 + (nI q).toInt64) i1).1), .long ((cE h1 l1 (lN 65536 * (nI c4).toInt64 + (nI q).toInt64) i1).2)], aI G owd 44 (jKey h1 l1), aH G ocs 4 (fun j => some (kk j)), oC (kk c4) 0 [.ref ks, .ref kv, .ref kw, .int (nI q), .int s1, .long h1, .long l1]] := by
  refine Cq.of (by decide) (Nat.le_of_ble_eq_true rfl) ?_
  intro p e s m args below meth c A ls hx hb hr hml hts hown hlk hA hP hD hG hS hl
  have hl : lv_has ls 9 [(0, .ref ox), (1, .int (nI c4)), (2, .long i1), (4, .long h2), (6, .long l2)] := hl
  refine lv_iload_n hx hb dCK_seal_0 rfl (lv_at hl 1 rfl) ?_
  refine clCK_86 (As := [.int (nI c4)]) (rest := []) hx hb hml hown hts (k_CK_checkChannel l G (nI c4) (jIn_nI (by decide) hc)) hG hA hP hD hS [] rfl rfl (fun _ => rfl) rfl hl.1 rfl (Nat.le_of_ble_eq_true rfl) ⟨by decide, by decide⟩ ⟨by decide, by decide⟩ dCK_seal_1 (fun _ H locs _ hP hD hS => ?_)
  have hP : va_P G.1 vwCl [oC ox 7 [.ref oc, .ref ot, .ref oo, .ref oe, .ref op, .ref ocs, .ref ods, .long oh, .long ol], oC oc 1 [.ref owd, .long e0, .long f0], aI G owd 44 g, aH G ocs 4 (fun j => some (kk j)), oC (kk c4) 0 [.ref ks, .ref kv, .ref kw, .int (nI q), .int s1, .long h1, .long l1]] H := hP
  have hD : va_D A [oC ox 7 [.ref oc, .ref ot, .ref oo, .ref oe, .ref op, .ref ocs, .ref ods, .long oh, .long ol], oC oc 1 [.ref owd, .long e0, .long f0], aI G owd 44 g, aH G ocs 4 (fun j => some (kk j)), oC (kk c4) 0 [.ref ks, .ref kv, .ref kw, .int (nI q), .int s1, .long h1, .long l1]] := hD
  refine W.cs (cells' := 0) (slots' := 0) rfl rfl ?_
  refine W.eq (g2 := F0 m 4 ls []) rfl ?_
  refine lv_aload_n hx hb dCK_seal_4 rfl (lv_at hl 0 rfl) ?_
  refine lv_iload_n hx hb dCK_seal_5 rfl (lv_at hl 1 rfl) ?_
  refine clCK_113 (As := [.int (nI c4)]) (rest := []) hx hb hml hown hts (k_CK_checkBegan l G ox oc ot oo oe op ocs ods oh ol kk ks kv kw c4 hc q hq hq2 s1 h1 l1) hG hA hP hD hS 0 rfl [0, 3, 4] rfl rfl (fun _ => rfl) rfl hl.1 rfl (Nat.le_of_ble_eq_true rfl) ⟨by decide, by decide⟩ ⟨by decide, by decide⟩ dCK_seal_6 (fun _ H locs _ hP hD hS => ?_)
  have hP : va_P G.1 vwCl [oC ox 7 [.ref oc, .ref ot, .ref oo, .ref oe, .ref op, .ref ocs, .ref ods, .long oh, .long ol], oC oc 1 [.ref owd, .long e0, .long f0], aI G owd 44 g, aH G ocs 4 (fun j => some (kk j)), oC (kk c4) 0 [.ref ks, .ref kv, .ref kw, .int (nI q), .int s1, .long h1, .long l1]] H := hP
  have hD : va_D A [oC ox 7 [.ref oc, .ref ot, .ref oo, .ref oe, .ref op, .ref ocs, .ref ods, .long oh, .long ol], oC oc 1 [.ref owd, .long e0, .long f0], aI G owd 44 g, aH G ocs 4 (fun j => some (kk j)), oC (kk c4) 0 [.ref ks, .ref kv, .ref kw, .int (nI q), .int s1, .long h1, .long l1]] := hD
  refine W.cs (cells' := 0) (slots' := 0) rfl rfl ?_
  refine W.eq (g2 := F0 m 9 ls []) rfl ?_
  refine lv_aload_n hx hb dCK_seal_9 rfl (lv_at hl 0 rfl) ?_
  refine gfCK_46 hx hb hts hown hG hP 0 rfl rfl dCK_seal_10 ?_
  refine lv_iload_n hx hb dCK_seal_13 rfl (lv_at hl 1 rfl) ?_
  refine ck_hald (v := .ref (kk c4)) hx hb hG hP 3 rfl (by decide) c4 (rfl) (hc) (rfl) dCK_seal_14 ?_
  refine lv_astore (lv' := [(8, .ref (kk c4)), (0, .ref ox), (1, .int (nI c4)), (2, .long i1), (4, .long h2), (6, .long l2)]) hx hb dCK_seal_15 hl (by decide) rfl (fun ls hl => ?_)
  refine lv_aload_n hx hb dCK_seal_17 rfl (lv_at hl 1 rfl) ?_
  refine gfCK_12 hx hb hts hown hG hP 0 rfl rfl dCK_seal_18 ?_
  refine lv_aload hx hb dCK_seal_21 (lv_at hl 0 rfl) ?_
  refine gfCK_171 hx hb hts hown hG hP 4 rfl rfl dCK_seal_23 ?_
  refine lv_aload hx hb dCK_seal_26 (lv_at hl 0 rfl) ?_
  refine gfCK_172 hx hb hts hown hG hP 4 rfl rfl dCK_seal_28 ?_
  refine clCK_173 (As := [.long h1, .long l1]) (rest := []) hx hb hml hown hts (k_Ci_key l G oc owd g e0 f0 h1 l1) hG hA hP hD hS 1 rfl [1, 2] rfl rfl (fun _ => rfl) rfl hl.1 rfl (Nat.le_of_ble_eq_true rfl) ⟨by decide, by decide⟩ ⟨by decide, by decide⟩ dCK_seal_31 (fun _ H locs _ hP hD hS => ?_)
  have hP : va_P G.1 vwCl [oC ox 7 [.ref oc, .ref ot, .ref oo, .ref oe, .ref op, .ref ocs, .ref ods, .long oh, .long ol], oC oc 1 [.ref owd, .long e0, .long f0], aI G owd 44 (jKey h1 l1), aH G ocs 4 (fun j => some (kk j)), oC (kk c4) 0 [.ref ks, .ref kv, .ref kw, .int (nI q), .int s1, .long h1, .long l1]] H := hP
  have hD : va_D A [oC ox 7 [.ref oc, .ref ot, .ref oo, .ref oe, .ref op, .ref ocs, .ref ods, .long oh, .long ol], oC oc 1 [.ref owd, .long e0, .long f0], aI G owd 44 (jKey h1 l1), aH G ocs 4 (fun j => some (kk j)), oC (kk c4) 0 [.ref ks, .ref kv, .ref kw, .int (nI q), .int s1, .long h1, .long l1]] := hD
  refine W.cs (cells' := 0) (slots' := 0) rfl rfl ?_
  refine W.eq (g2 := F0 m 34 ls []) rfl ?_
  refine lv_aload_n hx hb dCK_seal_34 rfl (lv_at hl 1 rfl) ?_
  refine lv_iload_n hx hb dCK_seal_35 rfl (lv_at hl 2 rfl) ?_
  refine lv_aload hx hb dCK_seal_36 (lv_at hl 0 rfl) ?_
  refine gfCK_93 hx hb hts hown hG hP 4 rfl rfl dCK_seal_38 ?_
  refine lv_lload_n hx hb dCK_seal_41 rfl (lv_at hl 3 rfl) ?_
  refine lv_lload hx hb dCK_seal_42 (lv_at hl 4 rfl) ?_
  refine lv_lload hx hb dCK_seal_44 (lv_at hl 5 rfl) ?_
  refine clCK_176 (As := [.int (nI c4), .int (nI q), .long i1, .long h2, .long l2]) (rest := []) hx hb hml hown hts (k_CK_maskBlock l G ox oc owd ot oo oe op ocs ods oh ol e0 f0 (jKey h1 l1) (nI c4) (nI q) i1 h2 l2) hG hA hP hD hS 0 rfl [0, 1, 2] rfl rfl (fun _ => rfl) rfl hl.1 rfl (Nat.le_of_ble_eq_true rfl) ⟨by decide, by decide⟩ ⟨by decide, by decide⟩ dCK_seal_46 (fun _ H locs _ hP hD hS => ?_)
  have hP : va_P G.1 vwCl [oC ox 7 [.ref oc, .ref ot, .ref oo, .ref oe, .ref op, .ref ocs, .ref ods, .long (h2 ^^^ jEH (jKey h1 l1) (lN 65536 * (nI c4).toInt64 + (nI q).toInt64) i1), .long (l2 ^^^ jEL (jKey h1 l1) (lN 65536 * (nI c4).toInt64 + (nI q).toInt64) i1)], oC oc 1 [.ref owd, .long (jEH (jKey h1 l1) (lN 65536 * (nI c4).toInt64 + (nI q).toInt64) i1), .long (jEL (jKey h1 l1) (lN 65536 * (nI c4).toInt64 + (nI q).toInt64) i1)], aI G owd 44 (jKey h1 l1), aH G ocs 4 (fun j => some (kk j)), oC (kk c4) 0 [.ref ks, .ref kv, .ref kw, .int (nI q), .int s1, .long h1, .long l1]] H := hP
  have hD : va_D A [oC ox 7 [.ref oc, .ref ot, .ref oo, .ref oe, .ref op, .ref ocs, .ref ods, .long (h2 ^^^ jEH (jKey h1 l1) (lN 65536 * (nI c4).toInt64 + (nI q).toInt64) i1), .long (l2 ^^^ jEL (jKey h1 l1) (lN 65536 * (nI c4).toInt64 + (nI q).toInt64) i1)], oC oc 1 [.ref owd, .long (jEH (jKey h1 l1) (lN 65536 * (nI c4).toInt64 + (nI q).toInt64) i1), .long (jEL (jKey h1 l1) (lN 65536 * (nI c4).toInt64 + (nI q).toInt64) i1)], aI G owd 44 (jKey h1 l1), aH G ocs 4 (fun j => some (kk j)), oC (kk c4) 0 [.ref ks, .ref kv, .ref kw, .int (nI q), .int s1, .long h1, .long l1]] := hD
  refine W.cs (cells' := 0) (slots' := 0) rfl rfl ?_
  refine W.eq (g2 := F0 m 49 ls []) rfl ?_
  exact cq_vret () (trivial) hx hb hr hlk hP hS rfl (rfl) dCK_seal_49
set_option maxHeartbeats 4000000 in
set_option maxRecDepth 100000 in
theorem x_CK_seal1 (l : Launch) (hl0 : l.stackTraces = false) (G : gG) (ox : Nat) (c1 : Int32) (hc : jIn 4 c1 = false) (i1 h2 l2 : Int64) : Cx l G yCK_seal cCK_seal 9 none { frames := 7, cells := 1, slots := 6, locals := 102 } [.ref ox, .int c1, .long i1, .long h2, .long l2] [] "java/lang/IndexOutOfBoundsException" [] := by
  refine Cx.of (by decide) (Nat.le_of_ble_eq_true rfl) ?_
  intro p e s m args below meth c A ls hx hb hr hml hts hown hlk htb hA hP hD hG hS hl
  have hl : lv_has ls 9 [(0, .ref ox), (1, .int c1), (2, .long i1), (4, .long h2), (6, .long l2)] := hl
  refine lv_iload_n hx hb dCK_seal_0 rfl (lv_at hl 1 rfl) ?_
  exact cxCK_86 (As := [.int c1]) (rest := []) hx hb hml hown hts (x_CK_checkChannel l hl0 G c1 hc) hG hA hP hD hS [] rfl rfl rfl rfl hl.1 rfl (Nat.le_of_ble_eq_true rfl) ⟨by decide, by decide⟩ ⟨by decide, by decide⟩ dCK_seal_1 htb hlk (by decide) (by decide)
set_option maxHeartbeats 4000000 in
set_option maxRecDepth 100000 in
theorem x_CK_seal2 (l : Launch) (hl0 : l.stackTraces = false) (G : gG) (ox oc ot oo oe op ocs ods : Nat) (oh ol : Int64) (kk : Nat → Nat) (ks kv kw c4 : Nat) (hc : c4 < 4) (s1 : Int32) (h1 l1 i1 h2 l2 : Int64) : Cx l G yCK_seal cCK_seal 9 none { frames := 7, cells := 1, slots := 6, locals := 103 } [.ref ox, .int (nI c4), .long i1, .long h2, .long l2] [oC ox 7 [.ref oc, .ref ot, .ref oo, .ref oe, .ref op, .ref ocs, .ref ods, .long oh, .long ol], aH G ocs 4 (fun j => some (kk j)), oC (kk c4) 0 [.ref ks, .ref kv, .ref kw, .int (nI 0), .int s1, .long h1, .long l1]] "java/lang/IllegalStateException" [oC ox 7 [.ref oc, .ref ot, .ref oo, .ref oe, .ref op, .ref ocs, .ref ods, .long oh, .long ol], aH G ocs 4 (fun j => some (kk j)), oC (kk c4) 0 [.ref ks, .ref kv, .ref kw, .int (nI 0), .int s1, .long h1, .long l1]] := by
  refine Cx.of (by decide) (Nat.le_of_ble_eq_true rfl) ?_
  intro p e s m args below meth c A ls hx hb hr hml hts hown hlk htb hA hP hD hG hS hl
  have hl : lv_has ls 9 [(0, .ref ox), (1, .int (nI c4)), (2, .long i1), (4, .long h2), (6, .long l2)] := hl
  refine lv_iload_n hx hb dCK_seal_0 rfl (lv_at hl 1 rfl) ?_
  refine clCK_86 (As := [.int (nI c4)]) (rest := []) hx hb hml hown hts (k_CK_checkChannel l G (nI c4) (jIn_nI (by decide) hc)) hG hA hP hD hS [] rfl rfl (fun _ => rfl) rfl hl.1 rfl (Nat.le_of_ble_eq_true rfl) ⟨by decide, by decide⟩ ⟨by decide, by decide⟩ dCK_seal_1 (fun _ H locs _ hP hD hS => ?_)
  have hP : va_P G.1 vwCl [oC ox 7 [.ref oc, .ref ot, .ref oo, .ref oe, .ref op, .ref ocs, .ref ods, .long oh, .long ol], aH G ocs 4 (fun j => some (kk j)), oC (kk c4) 0 [.ref ks, .ref kv, .ref kw, .int (nI 0), .int s1, .long h1, .long l1]] H := hP
  have hD : va_D A [oC ox 7 [.ref oc, .ref ot, .ref oo, .ref oe, .ref op, .ref ocs, .ref ods, .long oh, .long ol], aH G ocs 4 (fun j => some (kk j)), oC (kk c4) 0 [.ref ks, .ref kv, .ref kw, .int (nI 0), .int s1, .long h1, .long l1]] := hD
  refine W.cs (cells' := 0) (slots' := 0) rfl rfl ?_
  refine W.eq (g2 := F0 m 4 ls []) rfl ?_
  refine lv_aload_n hx hb dCK_seal_4 rfl (lv_at hl 0 rfl) ?_
  refine lv_iload_n hx hb dCK_seal_5 rfl (lv_at hl 1 rfl) ?_
  exact cxCK_113 (As := [.int (nI c4)]) (rest := []) hx hb hml hown hts (x_CK_checkBegan l hl0 G ox oc ot oo oe op ocs ods oh ol kk ks kv kw c4 hc s1 h1 l1) hG hA hP hD hS 0 rfl [0, 1, 2] rfl rfl rfl rfl hl.1 rfl (Nat.le_of_ble_eq_true rfl) ⟨by decide, by decide⟩ ⟨by decide, by decide⟩ dCK_seal_6 htb hlk (by decide) (by decide)
set_option maxHeartbeats 4000000 in
set_option maxRecDepth 100000 in
theorem k_CK_key (l : Launch) (G : gG) (ox oc ot oo oe op ocs ods : Nat) (oh ol : Int64) (dp : Nat) (hdp : dp ≤ 8) (sh sl : Int64) (owd : Nat) (g : Nat → Int32) (e0 f0 : Int64) (v1 w1 b1 : Int32) (hs : jSub dp v1 w1 = true) : Cq l G yCK_key cCK_key 4 (some .long) { frames := 5, cells := 0, slots := 0, locals := 123 } [.ref ox, .int v1, .int w1, .int b1] [oC ox 7 [.ref oc, .ref ot, .ref oo, .ref oe, .ref op, .ref ocs, .ref ods, .long oh, .long ol], oC ot 6 [.int (nI dp), .long sh, .long sl], oC oc 1 [.ref owd, .long e0, .long f0], aI G owd 44 g] (S := Nat → Int32) (fun _ => True) (fun u => some (.long (jIf b1 (jKy sh sl v1 w1 (jLv w1 v1)).2 (jKy sh sl v1 w1 (jLv w1 v1)).1))) (fun u => [oC ox 7 [.ref oc, .ref ot, .ref oo, .ref oe, .ref op, .ref ocs, .ref ods, .long oh, .long ol], oC ot 6 [.int (nI dp), .long sh, .long sl], oC oc 1 [.ref owd, .long ((jKy sh sl v1 w1 (jLv w1 v1)).1), .long ((jKy sh sl v1 w1 (jLv w1 v1)).2)], aI G owd 44 u]) := by
  refine Cq.of (by decide) (Nat.le_of_ble_eq_true rfl) ?_
  intro p e s m args below meth c A ls hx hb hr hml hts hown hlk hA hP hD hG hS hl
  have hl : lv_has ls 4 [(0, .ref ox), (1, .int v1), (2, .int w1), (3, .int b1)] := hl
  refine lv_aload_n hx hb dCK_key_0 rfl (lv_at hl 0 rfl) ?_
  refine gfCK_19 hx hb hts hown hG hP 0 rfl rfl dCK_key_1 ?_
  refine lv_iload_n hx hb dCK_key_4 rfl (lv_at hl 1 rfl) ?_
  refine lv_iload_n hx hb dCK_key_5 rfl (lv_at hl 2 rfl) ?_
  refine clCK_229 (As := [.int v1, .int w1]) (rest := []) hx hb hml hown hts (k_Tr_isSubset l G ot dp hdp sh sl v1 w1) hG hA hP hD hS 1 rfl [1] rfl rfl (fun _ => rfl) rfl hl.1 rfl (Nat.le_of_ble_eq_true rfl) ⟨by decide, by decide⟩ ⟨by decide, by decide⟩ dCK_key_6 (fun _ H locs _ hP hD hS => ?_)
  have hP : va_P G.1 vwCl [oC ox 7 [.ref oc, .ref ot, .ref oo, .ref oe, .ref op, .ref ocs, .ref ods, .long oh, .long ol], oC ot 6 [.int (nI dp), .long sh, .long sl], oC oc 1 [.ref owd, .long e0, .long f0], aI G owd 44 g] H := hP
  have hD : va_D A [oC ox 7 [.ref oc, .ref ot, .ref oo, .ref oe, .ref op, .ref ocs, .ref ods, .long oh, .long ol], oC ot 6 [.int (nI dp), .long sh, .long sl], oC oc 1 [.ref owd, .long e0, .long f0], aI G owd 44 g] := hD
  refine W.cs (cells' := 0) (slots' := 0) rfl rfl ?_
  refine W.eq (g2 := F0 m 9 ls [.int (jB (jSub dp v1 w1))]) rfl ?_
  refine lv_if_ne (tgt := 22) hx hb dCK_key_9 rfl (fun _ => ?_) (fun h => absurd h (by rw [hs]; decide))
  refine lv_aload_n hx hb dCK_key_22 rfl (lv_at hl 0 rfl) ?_
  refine gfCK_19 hx hb hts hown hG hP 0 rfl rfl dCK_key_23 ?_
  refine lv_aload_n hx hb dCK_key_26 rfl (lv_at hl 0 rfl) ?_
  refine gfCK_12 hx hb hts hown hG hP 0 rfl rfl dCK_key_27 ?_
  refine lv_iload_n hx hb dCK_key_30 rfl (lv_at hl 1 rfl) ?_
  refine lv_iload_n hx hb dCK_key_31 rfl (lv_at hl 2 rfl) ?_
  refine clCK_235 (As := [.ref oc, .int v1, .int w1]) (rest := []) hx hb hml hown hts (k_Tr_findKey l G ot oc owd dp sh sl e0 f0 g v1 w1 (jLv w1 v1) (jLv_le w1 v1) (fun hv => jSub_lv hs hv)) hG hA hP hD hS 1 rfl [1, 2, 3] rfl rfl (fun _ => rfl) rfl hl.1 rfl (Nat.le_of_ble_eq_true rfl) ⟨by decide, by decide⟩ ⟨by decide, by decide⟩ dCK_key_32 (fun g1 H locs _ hP hD hS => ?_)
  have hP : va_P G.1 vwCl [oC ox 7 [.ref oc, .ref ot, .ref oo, .ref oe, .ref op, .ref ocs, .ref ods, .long oh, .long ol], oC ot 6 [.int (nI dp), .long sh, .long sl], oC oc 1 [.ref owd, .long ((jKy sh sl v1 w1 (jLv w1 v1)).1), .long ((jKy sh sl v1 w1 (jLv w1 v1)).2)], aI G owd 44 g1] H := hP
  have hD : va_D A [oC ox 7 [.ref oc, .ref ot, .ref oo, .ref oe, .ref op, .ref ocs, .ref ods, .long oh, .long ol], oC ot 6 [.int (nI dp), .long sh, .long sl], oC oc 1 [.ref owd, .long ((jKy sh sl v1 w1 (jLv w1 v1)).1), .long ((jKy sh sl v1 w1 (jLv w1 v1)).2)], aI G owd 44 g1] := hD
  refine W.cs (cells' := 0) (slots' := 0) rfl rfl ?_
  refine W.eq (g2 := F0 m 35 ls []) rfl ?_
  generalize jKy sh sl v1 w1 (jLv w1 v1) = ky at hP hD ⊢
  refine lv_iload_n hx hb dCK_key_35 rfl (lv_at hl 3 rfl) ?_
  refine lv_if_eq (tgt := 49) hx hb dCK_key_36 rfl (fun h1 => ?_) (fun h1 => ?_)
  · have b_h1 := decide_eq_true h1
    refine lv_aload_n hx hb dCK_key_49 rfl (lv_at hl 0 rfl) ?_
    refine gfCK_12 hx hb hts hown hG hP 0 rfl rfl dCK_key_50 ?_
    refine gfCK_227 hx hb hts hown hG hP 2 rfl rfl dCK_key_53 ?_
    exact cq_lret g1 (trivial) hx hb hr hlk hP hS (by unfold jIf; rw [if_pos h1]) (rfl) dCK_key_56
  · have b_h1 := decide_eq_false h1
    refine lv_aload_n hx hb dCK_key_39 rfl (lv_at hl 0 rfl) ?_
    refine gfCK_12 hx hb hts hown hG hP 0 rfl rfl dCK_key_40 ?_
    refine gfCK_228 hx hb hts hown hG hP 2 rfl rfl dCK_key_43 ?_
    refine lv_goto (tgt := 56) hx hb dCK_key_46 rfl ?_
    exact cq_lret g1 (trivial) hx hb hr hlk hP hS (by unfold jIf; rw [if_neg h1]) (rfl) dCK_key_56
set_option maxHeartbeats 4000000 in
set_option maxRecDepth 100000 in
theorem x_CK_key (l : Launch) (hl0 : l.stackTraces = false) (G : gG) (ox oc ot oo oe op ocs ods : Nat) (oh ol : Int64) (dp : Nat) (hdp : dp ≤ 8) (sh sl : Int64) (v1 w1 b1 : Int32) (hs : jSub dp v1 w1 = false) : Cx l G yCK_key cCK_key 4 (some .long) { frames := 6, cells := 1, slots := 6, locals := 82 } [.ref ox, .int v1, .int w1, .int b1] [oC ox 7 [.ref oc, .ref ot, .ref oo, .ref oe, .ref op, .ref ocs, .ref ods, .long oh, .long ol], oC ot 6 [.int (nI dp), .long sh, .long sl]] "java/lang/IllegalArgumentException" [oC ox 7 [.ref oc, .ref ot, .ref oo, .ref oe, .ref op, .ref ocs, .ref ods, .long oh, .long ol], oC ot 6 [.int (nI dp), .long sh, .long sl]] := by
  refine Cx.of (by decide) (Nat.le_of_ble_eq_true rfl) ?_
  intro p e s m args below meth c A ls hx hb hr hml hts hown hlk htb hA hP hD hG hS hl
  have hl : lv_has ls 4 [(0, .ref ox), (1, .int v1), (2, .int w1), (3, .int b1)] := hl
  refine lv_aload_n hx hb dCK_key_0 rfl (lv_at hl 0 rfl) ?_
  refine gfCK_19 hx hb hts hown hG hP 0 rfl rfl dCK_key_1 ?_
  refine lv_iload_n hx hb dCK_key_4 rfl (lv_at hl 1 rfl) ?_
  refine lv_iload_n hx hb dCK_key_5 rfl (lv_at hl 2 rfl) ?_
  refine clCK_229 (As := [.int v1, .int w1]) (rest := []) hx hb hml hown hts (k_Tr_isSubset l G ot dp hdp sh sl v1 w1) hG hA hP hD hS 1 rfl [1] rfl rfl (fun _ => rfl) rfl hl.1 rfl (Nat.le_of_ble_eq_true rfl) ⟨by decide, by decide⟩ ⟨by decide, by decide⟩ dCK_key_6 (fun _ H locs _ hP hD hS => ?_)
  have hP : va_P G.1 vwCl [oC ox 7 [.ref oc, .ref ot, .ref oo, .ref oe, .ref op, .ref ocs, .ref ods, .long oh, .long ol], oC ot 6 [.int (nI dp), .long sh, .long sl]] H := hP
  have hD : va_D A [oC ox 7 [.ref oc, .ref ot, .ref oo, .ref oe, .ref op, .ref ocs, .ref ods, .long oh, .long ol], oC ot 6 [.int (nI dp), .long sh, .long sl]] := hD
  refine W.cs (cells' := 0) (slots' := 0) rfl rfl ?_
  refine W.eq (g2 := F0 m 9 ls [.int (jB (jSub dp v1 w1))]) rfl ?_
  refine lv_if_ne (tgt := 22) hx hb dCK_key_9 rfl (fun h => absurd (by rw [hs]; rfl) h) (fun _ => ?_)
  exact cxIAE (sx := 233) (tx := "no subset of this tree") hl0 hx hb hml hown hts htb hlk hG hP hS hl.1 (by decide) dCK_key_12 dCK_key_15 dCK_key_16 dCK_key_18 dCK_key_21 (by decide) (Nat.le_of_ble_eq_true rfl) (by decide) (by decide) (by decide) (by decide)
