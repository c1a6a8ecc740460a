/-! CoverKeys: count, begin, packet -/
/-- a packet's head, on top of the bytes that were there -/
def jHd (f : Nat → Int32) (c q n pk : Nat) : Nat → Int32 := jPut (nI pk).toInt64 1 4 (jPut (nI n).toInt64 1 3 (jPut (nI q).toInt64 2 1 (jPut (nI c).toInt64 1 0 f 1) 2) 1) 1
/-- the entries behind it, from the subset b on -/
def jEts (f fv fw : Nat → Int32) (b : Nat) (sh sl h l : Int64) : Nat → (Nat → Int32)
  | 0 => f
  | i + 1 => jEnt (5 + 28 * i) (jEts f fv fw b sh sl h l i) (fv (b + i)) (fw (b + i)) (jWr (jKey (jKy sh sl (fv (b + i)) (fw (b + i)) (jLv (fw (b + i)) (fv (b + i)))).1 (jKy sh sl (fv (b + i)) (fw (b + i)) (jLv (fw (b + i)) (fv (b + i)))).2) (jSeal, h, l) 12)
def jEnd (sz n : Nat) : Nat := if (n + 1) * 8 < sz then (n + 1) * 8 else sz
theorem jEnd_ok {sz n : Nat} (h1 : sz < 2 ^ 20) (h2 : n < 2 ^ 20) : (if nI ((n + 1) * 8) < nI sz then nI ((n + 1) * 8) else nI sz) = nI (jEnd sz n) := by
  unfold jEnd
  by_cases h : (n + 1) * 8 < sz
  · rw [if_pos h, if_pos ((nI_ltI (by omega) (by omega)).mpr h)]
  · rw [if_neg h, if_neg (fun z => h ((nI_ltI (by omega) (by omega)).mp z))]
theorem jEnd_le {sz n : Nat} (h : n < jPk sz) : n * 8 ≤ jEnd sz n ∧ jEnd sz n ≤ n * 8 + 8 ∧ jEnd sz n ≤ sz := by
  unfold jPk at h
  unfold jEnd
  split <;> split at h <;> omega
set_option maxHeartbeats 4000000 in
set_option maxRecDepth 100000 in
theorem k_CK_subscribersOfAll (l : Launch) (G : gG) (ox oc ot oo oe op ocs ods : Nat) (oh ol : Int64) (kk ks kv kw : Nat → Nat) (cp cs : Nat → Int32) (ch cl : Nat → Int64) (fs : Nat → Nat → Int32) : Ck l G yCK_subscribersOfAll cCK_subscribersOfAll 4 (some .int) { frames := 0, cells := 0, slots := 0, locals := 0 } [.ref ox] [oC ox 7 [.ref oc, .ref ot, .ref oo, .ref oe, .ref op, .ref ocs, .ref ods, .long oh, .long ol], aH G ocs 4 (fun j => some (kk j)), oC (kk 0) 0 [.ref (ks 0), .ref (kv 0), .ref (kw 0), .int (cp 0), .int (cs 0), .long (ch 0), .long (cl 0)], aZ G (ks 0) 256 (fs 0), oC (kk 1) 0 [.ref (ks 1), .ref (kv 1), .ref (kw 1), .int (cp 1), .int (cs 1), .long (ch 1), .long (cl 1)], aZ G (ks 1) 256 (fs 1), oC (kk 2) 0 [.ref (ks 2), .ref (kv 2), .ref (kw 2), .int (cp 2), .int (cs 2), .long (ch 2), .long (cl 2)], aZ G (ks 2) 256 (fs 2), oC (kk 3) 0 [.ref (ks 3), .ref (kv 3), .ref (kw 3), .int (cp 3), .int (cs 3), .long (ch 3), .long (cl 3)], aZ G (ks 3) 256 (fs 3)] (some (.int (nI (cntZ (fs 0) 256 + cntZ (fs 1) 256 + cntZ (fs 2) 256 + cntZ (fs 3) 256)))) [oC ox 7 [.ref oc, .ref ot, .ref oo, .ref oe, .ref op, .ref ocs, .ref ods, .long oh, .long ol], aH G ocs 4 (fun j => some (kk j)), oC (kk 0) 0 [.ref (ks 0), .ref (kv 0), .ref (kw 0), .int (cp 0), .int (cs 0), .long (ch 0), .long (cl 0)], aZ G (ks 0) 256 (fs 0), oC (kk 1) 0 [.ref (ks 1), .ref (kv 1), .ref (kw 1), .int (cp 1), .int (cs 1), .long (ch 1), .long (cl 1)], aZ G (ks 1) 256 (fs 1), oC (kk 2) 0 [.ref (ks 2), .ref (kv 2), .ref (kw 2), .int (cp 2), .int (cs 2), .long (ch 2), .long (cl 2)], aZ G (ks 2) 256 (fs 2), oC (kk 3) 0 [.ref (ks 3), .ref (kv 3), .ref (kw 3), .int (cp 3), .int (cs 3), .long (ch 3), .long (cl 3)], aZ G (ks 3) 256 (fs 3)] := by
  refine Cq.of (by decide) (Nat.le_of_ble_eq_true rfl) ?_
  intro p e s m args below meth c A ls hx hb hr hml hts hown hlk hA hP hD hG hS hl
  have hl : lv_has ls 4 [(0, .ref ox)] := hl
  refine lv_iconst (v := nI 0) hx hb dCK_subscribersOfAll_0 (by decide) ?_
  refine lv_istore_n (lv' := [(1, .int (nI 0)), (0, .ref ox)]) hx hb dCK_subscribersOfAll_1 rfl hl (by decide) rfl (fun ls hl => ?_)
  refine lv_iconst (v := nI 0) hx hb dCK_subscribersOfAll_2 (by decide) ?_
  refine lv_istore_n (lv' := [(2, .int (nI 0)), (1, .int (nI 0)), (0, .ref ox)]) hx hb dCK_subscribersOfAll_3 rfl hl (by decide) rfl (fun ls hl => ?_)
  refine lv_iload_n hx hb dCK_subscribersOfAll_4 rfl (lv_at hl 0 rfl) ?_
  refine lv_iconst (v := nI 4) hx hb dCK_subscribersOfAll_5 (by decide) ?_
  refine lv_icmp_ge (tgt := 47) hx hb dCK_subscribersOfAll_6 rfl (fun h => absurd h (by decide)) (fun _ => ?_)
  refine lv_iconst (v := nI 0) hx hb dCK_subscribersOfAll_9 (by decide) ?_
  refine lv_istore_n (lv' := [(3, .int (nI 0)), (2, .int (nI 0)), (1, .int (nI 0)), (0, .ref ox)]) hx hb dCK_subscribersOfAll_10 rfl hl (by decide) rfl (fun ls hl => ?_)
  have loop0 : ∀ (k : Nat) (n : Nat) (H : Heap) (locs : List Loc) (ls : Array Slot), n + k = 256 → va_P G.1 vwCl [oC ox 7 [.ref oc, .ref ot, .ref oo, .ref oe, .ref op, .ref ocs, .ref ods, .long oh, .long ol], aH G ocs 4 (fun j => some (kk j)), oC (kk 0) 0 [.ref (ks 0), .ref (kv 0), .ref (kw 0), .int (cp 0), .int (cs 0), .long (ch 0), .long (cl 0)], aZ G (ks 0) 256 (fs 0), oC (kk 1) 0 [.ref (ks 1), .ref (kv 1), .ref (kw 1), .int (cp 1), .int (cs 1), .long (ch 1), .long (cl 1)], aZ G (ks 1) 256 (fs 1), oC (kk 2) 0 [.ref (ks 2), .ref (kv 2), .ref (kw 2), .int (cp 2), .int (cs 2), .long (ch 2), .long (cl 2)], aZ G (ks 2) 256 (fs 2), oC (kk 3) 0 [.ref (ks 3), .ref (kv 3), .ref (kw 3), .int (cp 3), .int (cs 3), .long (ch 3), .long (cl 3)], aZ G (ks 3) 256 (fs 3)] H → va_D A [oC ox 7 [.ref oc, .ref ot, .ref oo, .ref oe, .ref op, .ref ocs, .ref ods, .long oh, .long ol], aH G ocs 4 (fun j => some (kk j)), oC (kk 0) 0 [.ref (ks 0), .ref (kv 0), .ref (kw 0), .int (cp 0), .int (cs 0), .long (ch 0), .long (cl 0)], aZ G (ks 0) 256 (fs 0), oC (kk 1) 0 [.ref (ks 1), .ref (kv 1), .ref (kw 1), .int (cp 1), .int (cs 1), .long (ch 1), .long (cl 1)], aZ G (ks 1) 256 (fs 1), oC (kk 2) 0 [.ref (ks 2), .ref (kv 2), .ref (kw 2), .int (cp 2), .int (cs 2), .long (ch 2), .long (cl 2)], aZ G (ks 2) 256 (fs 2), oC (kk 3) 0 [.ref (ks 3), .ref (kv 3), .ref (kw 3), .int (cp 3), .int (cs 3), .long (ch 3), .long (cl 3)], aZ G (ks 3) 256 (fs 3)] → va_S A s.heap H locs → lv_has ls 4 [(0, .ref ox), (1, .int (nI (cntZ (fs 0) n))), (2, .int (nI 0)), (3, .int (nI n))] → W p l e { frames := 0, cells := 0, slots := 0, locals := 0 } s m args below meth c H locs 0 0 (MQ below (cq_out G (S := Unit) (fun _ => True) (fun _ => (some (.int (nI (cntZ (fs 0) 256 + cntZ (fs 1) 256 + cntZ (fs 2) 256 + cntZ (fs 3) 256))))) (fun _ => [oC ox 7 [.ref oc, .ref ot, .ref oo, .ref oe, .ref op, .ref ocs, .ref ods, .long oh, .long ol], aH G ocs 4 (fun j => some (kk j)), oC (kk 0) 0 [.ref (ks 0), .ref (kv 0), .ref (kw 0), .int (cp 0), .int (cs 0), .long (ch 0), .long (cl 0)], aZ G (ks 0) 256 (fs 0), oC (kk 1) 0 [.ref (ks 1), .ref (kv 1), .ref (kw 1), .int (cp 1), .int (cs 1), .long (ch 1), .long (cl 1)], aZ G (ks 1) 256 (fs 1), oC (kk 2) 0 [.ref (ks 2), .ref (kv 2), .ref (kw 2), .int (cp 2), .int (cs 2), .long (ch 2), .long (cl 2)], aZ G (ks 2) 256 (fs 2), oC (kk 3) 0 [.ref (ks 3), .ref (kv 3), .ref (kw 3), .int (cp 3), .int (cs 3), .long (ch 3), .long (cl 3)], aZ G (ks 3) 256 (fs 3)]) A) args s 0 0 A) (F0 m 11 ls []) := by
    intro k
    induction k with
    | zero =>
      intro n H locs ls hk hP hD hS hl
      obtain rfl : n = 256 := by omega
      have hl : lv_has ls 4 [(0, .ref ox), (1, .int (nI (cntZ (fs 0) 256))), (2, .int (nI 0)), (3, .int (nI 256))] := hl
      refine lv_iload_n hx hb dCK_subscribersOfAll_11 rfl (lv_at hl 3 rfl) ?_
      refine lv_sipush (v := nI 256) hx hb dCK_subscribersOfAll_12 (by decide) ?_
      refine lv_icmp_ge (tgt := 41) hx hb dCK_subscribersOfAll_15 rfl (fun _ => ?_) (fun h => absurd (nI_le (by omega) (by omega)) h)
      refine lv_iinc (v := nI 1) (lv' := [(2, .int (nI 1)), (0, .ref ox), (1, .int (nI (cntZ (fs 0) 256))), (3, .int (nI 256))]) hx hb dCK_subscribersOfAll_41 hl (k := 2) rfl (by decide) (by decide) rfl (fun ls hl => ?_)
      refine lv_goto (tgt := 4) hx hb dCK_subscribersOfAll_44 rfl ?_
      refine lv_iload_n hx hb dCK_subscribersOfAll_4 rfl (lv_at hl 0 rfl) ?_
      refine lv_iconst (v := nI 4) hx hb dCK_subscribersOfAll_5 (by decide) ?_
      refine lv_icmp_ge (tgt := 47) hx hb dCK_subscribersOfAll_6 rfl (fun h => absurd h (by decide)) (fun _ => ?_)
      refine lv_iconst (v := nI 0) hx hb dCK_subscribersOfAll_9 (by decide) ?_
      refine lv_istore_n (lv' := [(3, .int (nI 0)), (2, .int (nI 1)), (0, .ref ox), (1, .int (nI (cntZ (fs 0) 256)))]) hx hb dCK_subscribersOfAll_10 rfl hl (by decide) rfl (fun ls hl => ?_)
      have loop1 : ∀ (k : Nat) (n : Nat) (H : Heap) (locs : List Loc) (ls : Array Slot), n + k = 256 → va_P G.1 vwCl [oC ox 7 [.ref oc, .ref ot, .ref oo, .ref oe, .ref op, .ref ocs, .ref ods, .long oh, .long ol], aH G ocs 4 (fun j => some (kk j)), oC (kk 0) 0 [.ref (ks 0), .ref (kv 0), .ref (kw 0), .int (cp 0), .int (cs 0), .long (ch 0), .long (cl 0)], aZ G (ks 0) 256 (fs 0), oC (kk 1) 0 [.ref (ks 1), .ref (kv 1), .ref (kw 1), .int (cp 1), .int (cs 1), .long (ch 1), .long (cl 1)], aZ G (ks 1) 256 (fs 1), oC (kk 2) 0 [.ref (ks 2), .ref (kv 2), .ref (kw 2), .int (cp 2), .int (cs 2), .long (ch 2), .long (cl 2)], aZ G (ks 2) 256 (fs 2), oC (kk 3) 0 [.ref (ks 3), .ref (kv 3), .ref (kw 3), .int (cp 3), .int (cs 3), .long (ch 3), .long (cl 3)], aZ G (ks 3) 256 (fs 3)] H → va_D A [oC ox 7 [.ref oc, .ref ot, .ref oo, .ref oe, .ref op, .ref ocs, .ref ods, .long oh, .long ol], aH G ocs 4 (fun j => some (kk j)), oC (kk 0) 0 [.ref (ks 0), .ref (kv 0), .ref (kw 0), .int (cp 0), .int (cs 0), .long (ch 0), .long (cl 0)], aZ G (ks 0) 256 (fs 0), oC (kk 1) 0 [.ref (ks 1), .ref (kv 1), .ref (kw 1), .int (cp 1), .int (cs 1), .long (ch 1), .long (cl 1)], aZ G (ks 1) 256 (fs 1), oC (kk 2) 0 [.ref (ks 2), .ref (kv 2), .ref (kw 2), .int (cp 2), .int (cs 2), .long (ch 2), .long (cl 2)], aZ G (ks 2) 256 (fs 2), oC (kk 3) 0 [.ref (ks 3), .ref (kv 3), .ref (kw 3), .int (cp 3), .int (cs 3), .long (ch 3), .long (cl 3)], aZ G (ks 3) 256 (fs 3)] → va_S A s.heap H locs → lv_has ls 4 [(0, .ref ox), (1, .int (nI (cntZ (fs 0) 256 + cntZ (fs 1) n))), (2, .int (nI 1)), (3, .int (nI n))] → W p l e { frames := 0, cells := 0, slots := 0, locals := 0 } s m args below meth c H locs 0 0 (MQ below (cq_out G (S := Unit) (fun _ => True) (fun _ => (some (.int (nI (cntZ (fs 0) 256 + cntZ (fs 1) 256 + cntZ (fs 2) 256 + cntZ (fs 3) 256))))) (fun _ => [oC ox 7 [.ref oc, .ref ot, .ref oo, .ref oe, .ref op, .ref ocs, .ref ods, .long oh, .long ol], aH G ocs 4 (fun j => some (kk j)), oC (kk 0) 0 [.ref (ks 0), .ref (kv 0), .ref (kw 0), .int (cp 0), .int (cs 0), .long (ch 0), .long (cl 0)], aZ G (ks 0) 256 (fs 0), oC (kk 1) 0 [.ref (ks 1), .ref (kv 1), .ref (kw 1), .int (cp 1), .int (cs 1), .long (ch 1), .long (cl 1)], aZ G (ks 1) 256 (fs 1), oC (kk 2) 0 [.ref (ks 2), .ref (kv 2), .ref (kw 2), .int (cp 2), .int (cs 2), .long (ch 2), .long (cl 2)], aZ G (ks 2) 256 (fs 2), oC (kk 3) 0 [.ref (ks 3), .ref (kv 3), .ref (kw 3), .int (cp 3), .int (cs 3), .long (ch 3), .long (cl 3)], aZ G (ks 3) 256 (fs 3)]) A) args s 0 0 A) (F0 m 11 ls []) := by
        intro k
        induction k with
        | zero =>
          intro n H locs ls hk hP hD hS hl
          obtain rfl : n = 256 := by omega
          have hl : lv_has ls 4 [(0, .ref ox), (1, .int (nI (cntZ (fs 0) 256 + cntZ (fs 1) 256))), (2, .int (nI 1)), (3, .int (nI 256))] := hl
          refine lv_iload_n hx hb dCK_subscribersOfAll_11 rfl (lv_at hl 3 rfl) ?_
          refine lv_sipush (v := nI 256) hx hb dCK_subscribersOfAll_12 (by decide) ?_
          refine lv_icmp_ge (tgt := 41) hx hb dCK_subscribersOfAll_15 rfl (fun _ => ?_) (fun h => absurd (nI_le (by omega) (by omega)) h)
          refine lv_iinc (v := nI 2) (lv' := [(2, .int (nI 2)), (0, .ref ox), (1, .int (nI (cntZ (fs 0) 256 + cntZ (fs 1) 256))), (3, .int (nI 256))]) hx hb dCK_subscribersOfAll_41 hl (k := 2) rfl (by decide) (by decide) rfl (fun ls hl => ?_)
          refine lv_goto (tgt := 4) hx hb dCK_subscribersOfAll_44 rfl ?_
          refine lv_iload_n hx hb dCK_subscribersOfAll_4 rfl (lv_at hl 0 rfl) ?_
          refine lv_iconst (v := nI 4) hx hb dCK_subscribersOfAll_5 (by decide) ?_
          refine lv_icmp_ge (tgt := 47) hx hb dCK_subscribersOfAll_6 rfl (fun h => absurd h (by decide)) (fun _ => ?_)
          refine lv_iconst (v := nI 0) hx hb dCK_subscribersOfAll_9 (by decide) ?_
          refine lv_istore_n (lv' := [(3, .int (nI 0)), (2, .int (nI 2)), (0, .ref ox), (1, .int (nI (cntZ (fs 0) 256 + cntZ (fs 1) 256)))]) hx hb dCK_subscribersOfAll_10 rfl hl (by decide) rfl (fun ls hl => ?_)
          have loop2 : ∀ (k : Nat) (n : Nat) (H : Heap) (locs : List Loc) (ls : Array Slot), n + k = 256 → va_P G.1 vwCl [oC ox 7 [.ref oc, .ref ot, .ref oo, .ref oe, .ref op, .ref ocs, .ref ods, .long oh, .long ol], aH G ocs 4 (fun j => some (kk j)), oC (kk 0) 0 [.ref (ks 0), .ref (kv 0), .ref (kw 0), .int (cp 0), .int (cs 0), .long (ch 0), .long (cl 0)], aZ G (ks 0) 256 (fs 0), oC (kk 1) 0 [.ref (ks 1), .ref (kv 1), .ref (kw 1), .int (cp 1), .int (cs 1), .long (ch 1), .long (cl 1)], aZ G (ks 1) 256 (fs 1), oC (kk 2) 0 [.ref (ks 2), .ref (kv 2), .ref (kw 2), .int (cp 2), .int (cs 2), .long (ch 2), .long (cl 2)], aZ G (ks 2) 256 (fs 2), oC (kk 3) 0 [.ref (ks 3), .ref (kv 3), .ref (kw 3), .int (cp 3), .int (cs 3), .long (ch 3), .long (cl 3)], aZ G (ks 3) 256 (fs 3)] H → va_D A [oC ox 7 [.ref oc, .ref ot, .ref oo, .ref oe, .ref op, .ref ocs, .ref ods, .long oh, .long ol], aH G ocs 4 (fun j => some (kk j)), oC (kk 0) 0 [.ref (ks 0), .ref (kv 0), .ref (kw 0), .int (cp 0), .int (cs 0), .long (ch 0), .long (cl 0)], aZ G (ks 0) 256 (fs 0), oC (kk 1) 0 [.ref (ks 1), .ref (kv 1), .ref (kw 1), .int (cp 1), .int (cs 1), .long (ch 1), .long (cl 1)], aZ G (ks 1) 256 (fs 1), oC (kk 2) 0 [.ref (ks 2), .ref (kv 2), .ref (kw 2), .int (cp 2), .int (cs 2), .long (ch 2), .long (cl 2)], aZ G (ks 2) 256 (fs 2), oC (kk 3) 0 [.ref (ks 3), .ref (kv 3), .ref (kw 3), .int (cp 3), .int (cs 3), .long (ch 3), .long (cl 3)], aZ G (ks 3) 256 (fs 3)] → va_S A s.heap H locs → lv_has ls 4 [(0, .ref ox), (1, .int (nI (cntZ (fs 0) 256 + cntZ (fs 1) 256 + cntZ (fs 2) n))), (2, .int (nI 2)), (3, .int (nI n))] → W p l e { frames := 0, cells := 0, slots := 0, locals := 0 } s m args below meth c H locs 0 0 (MQ below (cq_out G (S := Unit) (fun _ => True) (fun _ => (some (.int (nI (cntZ (fs 0) 256 + cntZ (fs 1) 256 + cntZ (fs 2) 256 + cntZ (fs 3) 256))))) (fun _ => [oC ox 7 [.ref oc, .ref ot, .ref oo, .ref oe, .ref op, .ref ocs, .ref ods, .long oh, .long ol], aH G ocs 4 (fun j => some (kk j)), oC (kk 0) 0 [.ref (ks 0), .ref (kv 0), .ref (kw 0), .int (cp 0), .int (cs 0), .long (ch 0), .long (cl 0)], aZ G (ks 0) 256 (fs 0), oC (kk 1) 0 [.ref (ks 1), .ref (kv 1), .ref (kw 1), .int (cp 1), .int (cs 1), .long (ch 1), .long (cl 1)], aZ G (ks 1) 256 (fs 1), oC (kk 2) 0 [.ref (ks 2), .ref (kv 2), .ref (kw 2), .int (cp 2), .int (cs 2), .long (ch 2), .long (cl 2)], aZ G (ks 2) 256 (fs 2), oC (kk 3) 0 [.ref (ks 3), .ref (kv 3), .ref (kw 3), .int (cp 3), .int (cs 3), .long (ch 3), .long (cl 3)], aZ G (ks 3) 256 (fs 3)]) A) args s 0 0 A) (F0 m 11 ls []) := by
            intro k
            induction k with
            | zero =>
              intro n H locs ls hk hP hD hS hl
              obtain rfl : n = 256 := by omega
              have hl : lv_has ls 4 [(0, .ref ox), (1, .int (nI (cntZ (fs 0) 256 + cntZ (fs 1) 256 + cntZ (fs 2) 256))), (2, .int (nI 2)), (3, .int (nI 256))] := hl
              refine lv_iload_n hx hb dCK_subscribersOfAll_11 rfl (lv_at hl 3 rfl) ?_
              refine lv_sipush (v := nI 256) hx hb dCK_subscribersOfAll_12 (by decide) ?_
              refine lv_icmp_ge (tgt := 41) hx hb dCK_subscribersOfAll_15 rfl (fun _ => ?_) (fun h => absurd (nI_le (by omega) (by omega)) h)
              refine lv_iinc (v := nI 3) (lv' := [(2, .int (nI 3)), (0, .ref ox), (1, .int (nI (cntZ (fs 0) 256 + cntZ (fs 1) 256 + cntZ (fs 2) 256))), (3, .int (nI 256))]) hx hb dCK_subscribersOfAll_41 hl (k := 2) rfl (by decide) (by decide) rfl (fun ls hl => ?_)
              refine lv_goto (tgt := 4) hx hb dCK_subscribersOfAll_44 rfl ?_
              refine lv_iload_n hx hb dCK_subscribersOfAll_4 rfl (lv_at hl 0 rfl) ?_
              refine lv_iconst (v := nI 4) hx hb dCK_subscribersOfAll_5 (by decide) ?_
              refine lv_icmp_ge (tgt := 47) hx hb dCK_subscribersOfAll_6 rfl (fun h => absurd h (by decide)) (fun _ => ?_)
              refine lv_iconst (v := nI 0) hx hb dCK_subscribersOfAll_9 (by decide) ?_
              refine lv_istore_n (lv' := [(3, .int (nI 0)), (2, .int (nI 3)), (0, .ref ox), (1, .int (nI (cntZ (fs 0) 256 + cntZ (fs 1) 256 + cntZ (fs 2) 256)))]) hx hb dCK_subscribersOfAll_10 rfl hl (by decide) rfl (fun ls hl => ?_)
              have loop3 : ∀ (k : Nat) (n : Nat) (H : Heap) (locs : List Loc) (ls : Array Slot), n + k = 256 → va_P G.1 vwCl [oC ox 7 [.ref oc, .ref ot, .ref oo, .ref oe, .ref op, .ref ocs, .ref ods, .long oh, .long ol], aH G ocs 4 (fun j => some (kk j)), oC (kk 0) 0 [.ref (ks 0), .ref (kv 0), .ref (kw 0), .int (cp 0), .int (cs 0), .long (ch 0), .long (cl 0)], aZ G (ks 0) 256 (fs 0), oC (kk 1) 0 [.ref (ks 1), .ref (kv 1), .ref (kw 1), .int (cp 1), .int (cs 1), .long (ch 1), .long (cl 1)], aZ G (ks 1) 256 (fs 1), oC (kk 2) 0 [.ref (ks 2), .ref (kv 2), .ref (kw 2), .int (cp 2), .int (cs 2), .long (ch 2), .long (cl 2)], aZ G (ks 2) 256 (fs 2), oC (kk 3) 0 [.ref (ks 3), .ref (kv 3), .ref (kw 3), .int (cp 3), .int (cs 3), .long (ch 3), .long (cl 3)], aZ G (ks 3) 256 (fs 3)] H → va_D A [oC ox 7 [.ref oc, .ref ot, .ref oo, .ref oe, .ref op, .ref ocs, .ref ods, .long oh, .long ol], aH G ocs 4 (fun j => some (kk j)), oC (kk 0) 0 [.ref (ks 0), .ref (kv 0), .ref (kw 0), .int (cp 0), .int (cs 0), .long (ch 0), .long (cl 0)], aZ G (ks 0) 256 (fs 0), oC (kk 1) 0 [.ref (ks 1), .ref (kv 1), .ref (kw 1), .int (cp 1), .int (cs 1), .long (ch 1), .long (cl 1)], aZ G (ks 1) 256 (fs 1), oC (kk 2) 0 [.ref (ks 2), .ref (kv 2), .ref (kw 2), .int (cp 2), .int (cs 2), .long (ch 2), .long (cl 2)], aZ G (ks 2) 256 (fs 2), oC (kk 3) 0 [.ref (ks 3), .ref (kv 3), .ref (kw 3), .int (cp 3), .int (cs 3), .long (ch 3), .long (cl 3)], aZ G (ks 3) 256 (fs 3)] → va_S A s.heap H locs → lv_has ls 4 [(0, .ref ox), (1, .int (nI (cntZ (fs 0) 256 + cntZ (fs 1) 256 + cntZ (fs 2) 256 + cntZ (fs 3) n))), (2, .int (nI 3)), (3, .int (nI n))] → W p l e { frames := 0, cells := 0, slots := 0, locals := 0 } s m args below meth c H locs 0 0 (MQ below (cq_out G (S := Unit) (fun _ => True) (fun _ => (some (.int (nI (cntZ (fs 0) 256 + cntZ (fs 1) 256 + cntZ (fs 2) 256 + cntZ (fs 3) 256))))) (fun _ => [oC ox 7 [.ref oc, .ref ot, .ref oo, .ref oe, .ref op, .ref ocs, .ref ods, .long oh, .long ol], aH G ocs 4 (fun j => some (kk j)), oC (kk 0) 0 [.ref (ks 0), .ref (kv 0), .ref (kw 0), .int (cp 0), .int (cs 0), .long (ch 0), .long (cl 0)], aZ G (ks 0) 256 (fs 0), oC (kk 1) 0 [.ref (ks 1), .ref (kv 1), .ref (kw 1), .int (cp 1), .int (cs 1), .long (ch 1), .long (cl 1)], aZ G (ks 1) 256 (fs 1), oC (kk 2) 0 [.ref (ks 2), .ref (kv 2), .ref (kw 2), .int (cp 2), .int (cs 2), .long (ch 2), .long (cl 2)], aZ G (ks 2) 256 (fs 2), oC (kk 3) 0 [.ref (ks 3), .ref (kv 3), .ref (kw 3), .int (cp 3), .int (cs 3), .long (ch 3), .long (cl 3)], aZ G (ks 3) 256 (fs 3)]) A) args s 0 0 A) (F0 m 11 ls []) := by
                intro k
                induction k with
                | zero =>
                  intro n H locs ls hk hP hD hS hl
                  obtain rfl : n = 256 := by omega
                  have hl : lv_has ls 4 [(0, .ref ox), (1, .int (nI (cntZ (fs 0) 256 + cntZ (fs 1) 256 + cntZ (fs 2) 256 + cntZ (fs 3) 256))), (2, .int (nI 3)), (3, .int (nI 256))] := hl
                  refine lv_iload_n hx hb dCK_subscribersOfAll_11 rfl (lv_at hl 3 rfl) ?_
                  refine lv_sipush (v := nI 256) hx hb dCK_subscribersOfAll_12 (by decide) ?_
                  refine lv_icmp_ge (tgt := 41) hx hb dCK_subscribersOfAll_15 rfl (fun _ => ?_) (fun h => absurd (nI_le (by omega) (by omega)) h)
                  refine lv_iinc (v := nI 4) (lv' := [(2, .int (nI 4)), (0, .ref ox), (1, .int (nI (cntZ (fs 0) 256 + cntZ (fs 1) 256 + cntZ (fs 2) 256 + cntZ (fs 3) 256))), (3, .int (nI 256))]) hx hb dCK_subscribersOfAll_41 hl (k := 2) rfl (by decide) (by decide) rfl (fun ls hl => ?_)
                  refine lv_goto (tgt := 4) hx hb dCK_subscribersOfAll_44 rfl ?_
                  refine lv_iload_n hx hb dCK_subscribersOfAll_4 rfl (lv_at hl 0 rfl) ?_
                  refine lv_iconst (v := nI 4) hx hb dCK_subscribersOfAll_5 (by decide) ?_
                  refine lv_icmp_ge (tgt := 47) hx hb dCK_subscribersOfAll_6 rfl (fun _ => ?_) (fun h => absurd (by decide) h)
                  refine lv_iload_n hx hb dCK_subscribersOfAll_47 rfl (lv_at hl 2 rfl) ?_
                  exact cq_iret () (trivial) hx hb hr hlk hP hS (rfl) (rfl) dCK_subscribersOfAll_48
                | succ k ih =>
                  intro n H locs ls hk hP hD hS hl
                  refine lv_iload_n hx hb dCK_subscribersOfAll_11 rfl (lv_at hl 3 rfl) ?_
                  refine lv_sipush (v := nI 256) hx hb dCK_subscribersOfAll_12 (by decide) ?_
                  refine lv_icmp_ge (tgt := 41) hx hb dCK_subscribersOfAll_15 rfl (fun h => absurd h (nI_ge (by omega) (by omega))) (fun _ => ?_)
                  refine lv_aload_n hx hb dCK_subscribersOfAll_18 rfl (lv_at hl 0 rfl) ?_
                  refine gfCK_46 hx hb hts hown hG hP 0 rfl rfl dCK_subscribersOfAll_19 ?_
                  refine lv_iload_n hx hb dCK_subscribersOfAll_22 rfl (lv_at hl 2 rfl) ?_
                  refine ck_hald (v := .ref (kk 3)) hx hb hG hP 1 rfl (by decide) 3 (rfl) (by decide) (rfl) dCK_subscribersOfAll_23 ?_
                  refine gfCK_89 hx hb hts hown hG hP 8 rfl rfl dCK_subscribersOfAll_24 ?_
                  refine lv_iload_n hx hb dCK_subscribersOfAll_27 rfl (lv_at hl 3 rfl) ?_
                  refine ck_zald hx hb hG hP 9 rfl (by decide) n (rfl) (by omega) dCK_subscribersOfAll_28 ?_
                  refine lv_if_eq (tgt := 35) hx hb dCK_subscribersOfAll_29 rfl (fun h9 => ?_) (fun h9 => ?_)
                  · have b_h9 := decide_eq_true h9
                    refine lv_iinc (v := nI (n + 1)) (lv' := [(3, .int (nI (n + 1))), (0, .ref ox), (1, .int (nI (cntZ (fs 0) 256 + cntZ (fs 1) 256 + cntZ (fs 2) 256 + cntZ (fs 3) n))), (2, .int (nI 3))]) hx hb dCK_subscribersOfAll_35 hl (k := 3) rfl (nI_1 n) (by decide) rfl (fun ls hl => ?_)
                    refine lv_goto (tgt := 11) hx hb dCK_subscribersOfAll_38 rfl ?_
                    have e1 : cntZ (fs 3) (n + 1) = cntZ (fs 3) n := if_pos h9
                    exact ih (n + 1) _ _ _ (by omega) hP hD hS (by rw [e1]; exact lv_sub hl [1, 2, 3, 0] rfl)
                  · have b_h9 := decide_eq_false h9
                    refine lv_iinc (v := nI (cntZ (fs 0) 256 + cntZ (fs 1) 256 + cntZ (fs 2) 256 + cntZ (fs 3) n + 1)) (lv' := [(1, .int (nI (cntZ (fs 0) 256 + cntZ (fs 1) 256 + cntZ (fs 2) 256 + cntZ (fs 3) n + 1))), (0, .ref ox), (2, .int (nI 3)), (3, .int (nI n))]) hx hb dCK_subscribersOfAll_32 hl (k := 1) rfl (nI_1 _) (by decide) rfl (fun ls hl => ?_)
                    refine lv_iinc (v := nI (n + 1)) (lv' := [(3, .int (nI (n + 1))), (1, .int (nI (cntZ (fs 0) 256 + cntZ (fs 1) 256 + cntZ (fs 2) 256 + cntZ (fs 3) n + 1))), (0, .ref ox), (2, .int (nI 3))]) hx hb dCK_subscribersOfAll_35 hl (k := 3) rfl (nI_1 n) (by decide) rfl (fun ls hl => ?_)
                    refine lv_goto (tgt := 11) hx hb dCK_subscribersOfAll_38 rfl ?_
                    have e1 : cntZ (fs 3) (n + 1) = cntZ (fs 3) n + 1 := if_neg h9
                    exact ih (n + 1) _ _ _ (by omega) hP hD hS (by rw [e1]; exact lv_sub hl [2, 1, 3, 0] rfl)
              exact loop3 256 0 _ _ _ (by omega) hP hD hS (lv_sub hl [2, 3, 1, 0] rfl)
            | succ k ih =>
              intro n H locs ls hk hP hD hS hl
              refine lv_iload_n hx hb dCK_subscribersOfAll_11 rfl (lv_at hl 3 rfl) ?_
              refine lv_sipush (v := nI 256) hx hb dCK_subscribersOfAll_12 (by decide) ?_
              refine lv_icmp_ge (tgt := 41) hx hb dCK_subscribersOfAll_15 rfl (fun h => absurd h (nI_ge (by omega) (by omega))) (fun _ => ?_)
              refine lv_aload_n hx hb dCK_subscribersOfAll_18 rfl (lv_at hl 0 rfl) ?_
              refine gfCK_46 hx hb hts hown hG hP 0 rfl rfl dCK_subscribersOfAll_19 ?_
              refine lv_iload_n hx hb dCK_subscribersOfAll_22 rfl (lv_at hl 2 rfl) ?_
              refine ck_hald (v := .ref (kk 2)) hx hb hG hP 1 rfl (by decide) 2 (rfl) (by decide) (rfl) dCK_subscribersOfAll_23 ?_
              refine gfCK_89 hx hb hts hown hG hP 6 rfl rfl dCK_subscribersOfAll_24 ?_
              refine lv_iload_n hx hb dCK_subscribersOfAll_27 rfl (lv_at hl 3 rfl) ?_
              refine ck_zald hx hb hG hP 7 rfl (by decide) n (rfl) (by omega) dCK_subscribersOfAll_28 ?_
              refine lv_if_eq (tgt := 35) hx hb dCK_subscribersOfAll_29 rfl (fun h9 => ?_) (fun h9 => ?_)
              · have b_h9 := decide_eq_true h9
                refine lv_iinc (v := nI (n + 1)) (lv' := [(3, .int (nI (n + 1))), (0, .ref ox), (1, .int (nI (cntZ (fs 0) 256 + cntZ (fs 1) 256 + cntZ (fs 2) n))), (2, .int (nI 2))]) hx hb dCK_subscribersOfAll_35 hl (k := 3) rfl (nI_1 n) (by decide) rfl (fun ls hl => ?_)
                refine lv_goto (tgt := 11) hx hb dCK_subscribersOfAll_38 rfl ?_
                have e1 : cntZ (fs 2) (n + 1) = cntZ (fs 2) n := if_pos h9
                exact ih (n + 1) _ _ _ (by omega) hP hD hS (by rw [e1]; exact lv_sub hl [1, 2, 3, 0] rfl)
              · have b_h9 := decide_eq_false h9
                refine lv_iinc (v := nI (cntZ (fs 0) 256 + cntZ (fs 1) 256 + cntZ (fs 2) n + 1)) (lv' := [(1, .int (nI (cntZ (fs 0) 256 + cntZ (fs 1) 256 + cntZ (fs 2) n + 1))), (0, .ref ox), (2, .int (nI 2)), (3, .int (nI n))]) hx hb dCK_subscribersOfAll_32 hl (k := 1) rfl (nI_1 _) (by decide) rfl (fun ls hl => ?_)
                refine lv_iinc (v := nI (n + 1)) (lv' := [(3, .int (nI (n + 1))), (1, .int (nI (cntZ (fs 0) 256 + cntZ (fs 1) 256 + cntZ (fs 2) n + 1))), (0, .ref ox), (2, .int (nI 2))]) hx hb dCK_subscribersOfAll_35 hl (k := 3) rfl (nI_1 n) (by decide) rfl (fun ls hl => ?_)
                refine lv_goto (tgt := 11) hx hb dCK_subscribersOfAll_38 rfl ?_
                have e1 : cntZ (fs 2) (n + 1) = cntZ (fs 2) n + 1 := if_neg h9
                exact ih (n + 1) _ _ _ (by omega) hP hD hS (by rw [e1]; exact lv_sub hl [2, 1, 3, 0] rfl)
          exact loop2 256 0 _ _ _ (by omega) hP hD hS (lv_sub hl [2, 3, 1, 0] rfl)
        | succ k ih =>
          intro n H locs ls hk hP hD hS hl
          refine lv_iload_n hx hb dCK_subscribersOfAll_11 rfl (lv_at hl 3 rfl) ?_
          refine lv_sipush (v := nI 256) hx hb dCK_subscribersOfAll_12 (by decide) ?_
          refine lv_icmp_ge (tgt := 41) hx hb dCK_subscribersOfAll_15 rfl (fun h => absurd h (nI_ge (by omega) (by omega))) (fun _ => ?_)
          refine lv_aload_n hx hb dCK_subscribersOfAll_18 rfl (lv_at hl 0 rfl) ?_
          refine gfCK_46 hx hb hts hown hG hP 0 rfl rfl dCK_subscribersOfAll_19 ?_
          refine lv_iload_n hx hb dCK_subscribersOfAll_22 rfl (lv_at hl 2 rfl) ?_
          refine ck_hald (v := .ref (kk 1)) hx hb hG hP 1 rfl (by decide) 1 (rfl) (by decide) (rfl) dCK_subscribersOfAll_23 ?_
          refine gfCK_89 hx hb hts hown hG hP 4 rfl rfl dCK_subscribersOfAll_24 ?_
          refine lv_iload_n hx hb dCK_subscribersOfAll_27 rfl (lv_at hl 3 rfl) ?_
          refine ck_zald hx hb hG hP 5 rfl (by decide) n (rfl) (by omega) dCK_subscribersOfAll_28 ?_
          refine lv_if_eq (tgt := 35) hx hb dCK_subscribersOfAll_29 rfl (fun h9 => ?_) (fun h9 => ?_)
          · have b_h9 := decide_eq_true h9
            refine lv_iinc (v := nI (n + 1)) (lv' := [(3, .int (nI (n + 1))), (0, .ref ox), (1, .int (nI (cntZ (fs 0) 256 + cntZ (fs 1) n))), (2, .int (nI 1))]) hx hb dCK_subscribersOfAll_35 hl (k := 3) rfl (nI_1 n) (by decide) rfl (fun ls hl => ?_)
            refine lv_goto (tgt := 11) hx hb dCK_subscribersOfAll_38 rfl ?_
            have e1 : cntZ (fs 1) (n + 1) = cntZ (fs 1) n := if_pos h9
            exact ih (n + 1) _ _ _ (by omega) hP hD hS (by rw [e1]; exact lv_sub hl [1, 2, 3, 0] rfl)
          · have b_h9 := decide_eq_false h9
            refine lv_iinc (v := nI (cntZ (fs 0) 256 + cntZ (fs 1) n + 1)) (lv' := [(1, .int (nI (cntZ (fs 0) 256 + cntZ (fs 1) n + 1))), (0, .ref ox), (2, .int (nI 1)), (3, .int (nI n))]) hx hb dCK_subscribersOfAll_32 hl (k := 1) rfl (nI_1 _) (by decide) rfl (fun ls hl => ?_)
            refine lv_iinc (v := nI (n + 1)) (lv' := [(3, .int (nI (n + 1))), (1, .int (nI (cntZ (fs 0) 256 + cntZ (fs 1) n + 1))), (0, .ref ox), (2, .int (nI 1))]) hx hb dCK_subscribersOfAll_35 hl (k := 3) rfl (nI_1 n) (by decide) rfl (fun ls hl => ?_)
            refine lv_goto (tgt := 11) hx hb dCK_subscribersOfAll_38 rfl ?_
            have e1 : cntZ (fs 1) (n + 1) = cntZ (fs 1) n + 1 := if_neg h9
            exact ih (n + 1) _ _ _ (by omega) hP hD hS (by rw [e1]; exact lv_sub hl [2, 1, 3, 0] rfl)
      exact loop1 256 0 _ _ _ (by omega) hP hD hS (lv_sub hl [2, 3, 1, 0] rfl)
    | succ k ih =>
      intro n H locs ls hk hP hD hS hl
      refine lv_iload_n hx hb dCK_subscribersOfAll_11 rfl (lv_at hl 3 rfl) ?_
      refine lv_sipush (v := nI 256) hx hb dCK_subscribersOfAll_12 (by decide) ?_
      refine lv_icmp_ge (tgt := 41) hx hb dCK_subscribersOfAll_15 rfl (fun h => absurd h (nI_ge (by omega) (by omega))) (fun _ => ?_)
      refine lv_aload_n hx hb dCK_subscribersOfAll_18 rfl (lv_at hl 0 rfl) ?_
      refine gfCK_46 hx hb hts hown hG hP 0 rfl rfl dCK_subscribersOfAll_19 ?_
      refine lv_iload_n hx hb dCK_subscribersOfAll_22 rfl (lv_at hl 2 rfl) ?_
      refine ck_hald (v := .ref (kk 0)) hx hb hG hP 1 rfl (by decide) 0 (rfl) (by decide) (rfl) dCK_subscribersOfAll_23 ?_
      refine gfCK_89 hx hb hts hown hG hP 2 rfl rfl dCK_subscribersOfAll_24 ?_
      refine lv_iload_n hx hb dCK_subscribersOfAll_27 rfl (lv_at hl 3 rfl) ?_
      refine ck_zald hx hb hG hP 3 rfl (by decide) n (rfl) (by omega) dCK_subscribersOfAll_28 ?_
      refine lv_if_eq (tgt := 35) hx hb dCK_subscribersOfAll_29 rfl (fun h9 => ?_) (fun h9 => ?_)
      · have b_h9 := decide_eq_true h9
        refine lv_iinc (v := nI (n + 1)) (lv' := [(3, .int (nI (n + 1))), (0, .ref ox), (1, .int (nI (cntZ (fs 0) n))), (2, .int (nI 0))]) hx hb dCK_subscribersOfAll_35 hl (k := 3) rfl (nI_1 n) (by decide) rfl (fun ls hl => ?_)
        refine lv_goto (tgt := 11) hx hb dCK_subscribersOfAll_38 rfl ?_
        have e1 : cntZ (fs 0) (n + 1) = cntZ (fs 0) n := if_pos h9
        exact ih (n + 1) _ _ _ (by omega) hP hD hS (by rw [e1]; exact lv_sub hl [1, 2, 3, 0] rfl)
      · have b_h9 := decide_eq_false h9
        refine lv_iinc (v := nI (cntZ (fs 0) n + 1)) (lv' := [(1, .int (nI (cntZ (fs 0) n + 1))), (0, .ref ox), (2, .int (nI 0)), (3, .int (nI n))]) hx hb dCK_subscribersOfAll_32 hl (k := 1) rfl (nI_1 _) (by decide) rfl (fun ls hl => ?_)
        refine lv_iinc (v := nI (n + 1)) (lv' := [(3, .int (nI (n + 1))), (1, .int (nI (cntZ (fs 0) n + 1))), (0, .ref ox), (2, .int (nI 0))]) hx hb dCK_subscribersOfAll_35 hl (k := 3) rfl (nI_1 n) (by decide) rfl (fun ls hl => ?_)
        refine lv_goto (tgt := 11) hx hb dCK_subscribersOfAll_38 rfl ?_
        have e1 : cntZ (fs 0) (n + 1) = cntZ (fs 0) n + 1 := if_neg h9
        exact ih (n + 1) _ _ _ (by omega) hP hD hS (by rw [e1]; exact lv_sub hl [2, 1, 3, 0] rfl)
  exact loop0 256 0 _ _ _ (by omega) hP hD hS (lv_sub hl [3, 2, 1, 0] rfl)
set_option maxHeartbeats 4000000 in
set_option maxRecDepth 100000 in
theorem k_CK_count0 (l : Launch) (G : gG) (ox oc ot oo oe op ocs ods : Nat) (oh ol : Int64) (d1 : Int32) (sh sl : Int64) : Ck l G yCK_count cCK_count 2 (some .int) { frames := 0, cells := 0, slots := 0, locals := 0 } [.ref ox, .int (nI 0)] [oC ox 7 [.ref oc, .ref ot, .ref oo, .ref oe, .ref op, .ref ocs, .ref ods, .long oh, .long ol], oC ot 6 [.int d1, .long sh, .long sl]] (some (.int d1)) [oC ox 7 [.ref oc, .ref ot, .ref oo, .ref oe, .ref op, .ref ocs, .ref ods, .long oh, .long ol], oC ot 6 [.int d1, .long sh, .long sl]] := by
  refine Cq.of (by decide) (Nat.le_of_ble_eq_true rfl) ?_
  intro p e s m args below meth c A ls hx hb hr hml hts hown hlk hA hP hD hG hS hl
  have hl : lv_has ls 2 [(0, .ref ox), (1, .int (nI 0))] := hl
  refine lv_iload_n hx hb dCK_count_0 rfl (lv_at hl 1 rfl) ?_
  refine lv_if_lt (tgt := 10) hx hb dCK_count_1 rfl (fun h => absurd h (nI_pos (by omega))) (fun _ => ?_)
  refine lv_iload_n hx hb dCK_count_4 rfl (lv_at hl 1 rfl) ?_
  refine lv_bipush (v := nI 8) hx hb dCK_count_5 (by decide) ?_
  refine lv_icmp_lt (tgt := 20) hx hb dCK_count_7 rfl (fun _ => ?_) (fun h => absurd (nI_lt (by omega) (by omega)) h)
  refine lv_iload_n hx hb dCK_count_20 rfl (lv_at hl 1 rfl) ?_
  refine lv_tableIn (tgt := 52) hx hb dCK_count_21 (by decide) (by decide) rfl rfl ?_
  refine lv_aload_n hx hb dCK_count_52 rfl (lv_at hl 0 rfl) ?_
  refine gfCK_19 hx hb hts hown hG hP 0 rfl rfl dCK_count_53 ?_
  refine gfCK_240 hx hb hts hown hG hP 1 rfl rfl dCK_count_56 ?_
  exact cq_iret () (trivial) hx hb hr hlk hP hS (rfl) (rfl) dCK_count_59
set_option maxHeartbeats 4000000 in
set_option maxRecDepth 100000 in
theorem k_CK_count1 (l : Launch) (G : gG) (ox oc ot oo oe op ocs ods : Nat) (oh ol : Int64) (dec : Nat → Option Nat) : Ck l G yCK_count cCK_count 2 (some .int) { frames := 1, cells := 0, slots := 0, locals := 22 } [.ref ox, .int (nI 1)] [oC ox 7 [.ref oc, .ref ot, .ref oo, .ref oe, .ref op, .ref ocs, .ref ods, .long oh, .long ol], aQ G ods 256 dec] (some (.int (nI (cntD dec 256)))) [oC ox 7 [.ref oc, .ref ot, .ref oo, .ref oe, .ref op, .ref ocs, .ref ods, .long oh, .long ol], aQ G ods 256 dec] := by
  refine Cq.of (by decide) (Nat.le_of_ble_eq_true rfl) ?_
  intro p e s m args below meth c A ls hx hb hr hml hts hown hlk hA hP hD hG hS hl
  have hl : lv_has ls 2 [(0, .ref ox), (1, .int (nI 1))] := hl
  refine lv_iload_n hx hb dCK_count_0 rfl (lv_at hl 1 rfl) ?_
  refine lv_if_lt (tgt := 10) hx hb dCK_count_1 rfl (fun h => absurd h (nI_pos (by omega))) (fun _ => ?_)
  refine lv_iload_n hx hb dCK_count_4 rfl (lv_at hl 1 rfl) ?_
  refine lv_bipush (v := nI 8) hx hb dCK_count_5 (by decide) ?_
  refine lv_icmp_lt (tgt := 20) hx hb dCK_count_7 rfl (fun _ => ?_) (fun h => absurd (nI_lt (by omega) (by omega)) h)
  refine lv_iload_n hx hb dCK_count_20 rfl (lv_at hl 1 rfl) ?_
  refine lv_tableIn (tgt := 60) hx hb dCK_count_21 (by decide) (by decide) rfl rfl ?_
  refine lv_aload_n hx hb dCK_count_60 rfl (lv_at hl 0 rfl) ?_
  refine clCK_243 (As := []) (rest := []) hx hb hml hown hts (k_CK_installedDecoders l G ox oc ot oo oe op ocs ods oh ol dec) hG hA hP hD hS 0 rfl [0, 1] rfl rfl (fun _ => rfl) rfl hl.1 rfl (Nat.le_of_ble_eq_true rfl) ⟨by decide, by decide⟩ ⟨by decide, by decide⟩ dCK_count_61 (fun _ H locs _ hP hD hS => ?_)
  have hP : va_P G.1 vwCl [oC ox 7 [.ref oc, .ref ot, .ref oo, .ref oe, .ref op, .ref ocs, .ref ods, .long oh, .long ol], aQ G ods 256 dec] H := hP
  have hD : va_D A [oC ox 7 [.ref oc, .ref ot, .ref oo, .ref oe, .ref op, .ref ocs, .ref ods, .long oh, .long ol], aQ G ods 256 dec] := hD
  refine W.cs (cells' := 0) (slots' := 0) rfl rfl ?_
  refine W.eq (g2 := F0 m 64 ls [.int (nI (cntD dec 256))]) rfl ?_
  exact cq_iret () (trivial) hx hb hr hlk hP hS (rfl) (rfl) dCK_count_64
set_option maxHeartbeats 4000000 in
set_option maxRecDepth 100000 in
theorem k_CK_count2 (l : Launch) (G : gG) (ox oc ot oo oe op ocs ods : Nat) (oh ol : Int64) (kk ks kv kw : Nat → Nat) (cp cs : Nat → Int32) (ch cl : Nat → Int64) (fs : Nat → Nat → Int32) : Ck l G yCK_count cCK_count 2 (some .int) { frames := 1, cells := 0, slots := 0, locals := 23 } [.ref ox, .int (nI 2)] [oC ox 7 [.ref oc, .ref ot, .ref oo, .ref oe, .ref op, .ref ocs, .ref ods, .long oh, .long ol], aH G ocs 4 (fun j => some (kk j)), oC (kk 0) 0 [.ref (ks 0), .ref (kv 0), .ref (kw 0), .int (cp 0), .int (cs 0), .long (ch 0), .long (cl 0)], aZ G (ks 0) 256 (fs 0), oC (kk 1) 0 [.ref (ks 1), .ref (kv 1), .ref (kw 1), .int (cp 1), .int (cs 1), .long (ch 1), .long (cl 1)], aZ G (ks 1) 256 (fs 1), oC (kk 2) 0 [.ref (ks 2), .ref (kv 2), .ref (kw 2), .int (cp 2), .int (cs 2), .long (ch 2), .long (cl 2)], aZ G (ks 2) 256 (fs 2), oC (kk 3) 0 [.ref (ks 3), .ref (kv 3), .ref (kw 3), .int (cp 3), .int (cs 3), .long (ch 3), .long (cl 3)], aZ G (ks 3) 256 (fs 3)] (some (.int (nI (cntZ (fs 0) 256 + cntZ (fs 1) 256 + cntZ (fs 2) 256 + cntZ (fs 3) 256)))) [oC ox 7 [.ref oc, .ref ot, .ref oo, .ref oe, .ref op, .ref ocs, .ref ods, .long oh, .long ol], aH G ocs 4 (fun j => some (kk j)), oC (kk 0) 0 [.ref (ks 0), .ref (kv 0), .ref (kw 0), .int (cp 0), .int (cs 0), .long (ch 0), .long (cl 0)], aZ G (ks 0) 256 (fs 0), oC (kk 1) 0 [.ref (ks 1), .ref (kv 1), .ref (kw 1), .int (cp 1), .int (cs 1), .long (ch 1), .long (cl 1)], aZ G (ks 1) 256 (fs 1), oC (kk 2) 0 [.ref (ks 2), .ref (kv 2), .ref (kw 2), .int (cp 2), .int (cs 2), .long (ch 2), .long (cl 2)], aZ G (ks 2) 256 (fs 2), oC (kk 3) 0 [.ref (ks 3), .ref (kv 3), .ref (kw 3), .int (cp 3), .int (cs 3), .long (ch 3), .long (cl 3)], aZ G (ks 3) 256 (fs 3)] := by
  refine Cq.of (by decide) (Nat.le_of_ble_eq_true rfl) ?_
  intro p e s m args below meth c A ls hx hb hr hml hts hown hlk hA hP hD hG hS hl
  have hl : lv_has ls 2 [(0, .ref ox), (1, .int (nI 2))] := hl
  refine lv_iload_n hx hb dCK_count_0 rfl (lv_at hl 1 rfl) ?_
  refine lv_if_lt (tgt := 10) hx hb dCK_count_1 rfl (fun h => absurd h (nI_pos (by omega))) (fun _ => ?_)
  refine lv_iload_n hx hb dCK_count_4 rfl (lv_at hl 1 rfl) ?_
  refine lv_bipush (v := nI 8) hx hb dCK_count_5 (by decide) ?_
  refine lv_icmp_lt (tgt := 20) hx hb dCK_count_7 rfl (fun _ => ?_) (fun h => absurd (nI_lt (by omega) (by omega)) h)
  refine lv_iload_n hx hb dCK_count_20 rfl (lv_at hl 1 rfl) ?_
  refine lv_tableIn (tgt := 65) hx hb dCK_count_21 (by decide) (by decide) rfl rfl ?_
  refine lv_aload_n hx hb dCK_count_65 rfl (lv_at hl 0 rfl) ?_
  refine clCK_246 (As := []) (rest := []) hx hb hml hown hts (k_CK_subscribersOfAll l G ox oc ot oo oe op ocs ods oh ol kk ks kv kw cp cs ch cl fs) hG hA hP hD hS 0 rfl [0, 1, 2, 3, 4, 5, 6, 7, 8, 9] rfl rfl (fun _ => rfl) rfl hl.1 rfl (Nat.le_of_ble_eq_true rfl) ⟨by decide, by decide⟩ ⟨by decide, by decide⟩ dCK_count_66 (fun _ H locs _ hP hD hS => ?_)
  have hP : va_P G.1 vwCl [oC ox 7 [.ref oc, .ref ot, .ref oo, .ref oe, .ref op, .ref ocs, .ref ods, .long oh, .long ol], aH G ocs 4 (fun j => some (kk j)), oC (kk 0) 0 [.ref (ks 0), .ref (kv 0), .ref (kw 0), .int (cp 0), .int (cs 0), .long (ch 0), .long (cl 0)], aZ G (ks 0) 256 (fs 0), oC (kk 1) 0 [.ref (ks 1), .ref (kv 1), .ref (kw 1), .int (cp 1), .int (cs 1), .long (ch 1), .long (cl 1)], aZ G (ks 1) 256 (fs 1), oC (kk 2) 0 [.ref (ks 2), .ref (kv 2), .ref (kw 2), .int (cp 2), .int (cs 2), .long (ch 2), .long (cl 2)], aZ G (ks 2) 256 (fs 2), oC (kk 3) 0 [.ref (ks 3), .ref (kv 3), .ref (kw 3), .int (cp 3), .int (cs 3), .long (ch 3), .long (cl 3)], aZ G (ks 3) 256 (fs 3)] H := hP
  have hD : va_D A [oC ox 7 [.ref oc, .ref ot, .ref oo, .ref oe, .ref op, .ref ocs, .ref ods, .long oh, .long ol], aH G ocs 4 (fun j => some (kk j)), oC (kk 0) 0 [.ref (ks 0), .ref (kv 0), .ref (kw 0), .int (cp 0), .int (cs 0), .long (ch 0), .long (cl 0)], aZ G (ks 0) 256 (fs 0), oC (kk 1) 0 [.ref (ks 1), .ref (kv 1), .ref (kw 1), .int (cp 1), .int (cs 1), .long (ch 1), .long (cl 1)], aZ G (ks 1) 256 (fs 1), oC (kk 2) 0 [.ref (ks 2), .ref (kv 2), .ref (kw 2), .int (cp 2), .int (cs 2), .long (ch 2), .long (cl 2)], aZ G (ks 2) 256 (fs 2), oC (kk 3) 0 [.ref (ks 3), .ref (kv 3), .ref (kw 3), .int (cp 3), .int (cs 3), .long (ch 3), .long (cl 3)], aZ G (ks 3) 256 (fs 3)] := hD
  refine W.cs (cells' := 0) (slots' := 0) rfl rfl ?_
  refine W.eq (g2 := F0 m 69 ls [.int (nI (cntZ (fs 0) 256 + cntZ (fs 1) 256 + cntZ (fs 2) 256 + cntZ (fs 3) 256))]) rfl ?_
  exact cq_iret () (trivial) hx hb hr hlk hP hS (rfl) (rfl) dCK_count_69
set_option maxHeartbeats 4000000 in
set_option maxRecDepth 100000 in
theorem k_CK_count3 (l : Launch) (G : gG) (ox oc ot oo oe op ocs ods : Nat) (oh ol : Int64) (ob : Nat) (n0 : Int32) : Ck l G yCK_count cCK_count 2 (some .int) { frames := 0, cells := 0, slots := 0, locals := 0 } [.ref ox, .int (nI 3)] [oC ox 7 [.ref oc, .ref ot, .ref oo, .ref oe, .ref op, .ref ocs, .ref ods, .long oh, .long ol], oC op 5 [.ref ob, .int n0]] (some (.int n0)) [oC ox 7 [.ref oc, .ref ot, .ref oo, .ref oe, .ref op, .ref ocs, .ref ods, .long oh, .long ol], oC op 5 [.ref ob, .int n0]] := by
  refine Cq.of (by decide) (Nat.le_of_ble_eq_true rfl) ?_
  intro p e s m args below meth c A ls hx hb hr hml hts hown hlk hA hP hD hG hS hl
  have hl : lv_has ls 2 [(0, .ref ox), (1, .int (nI 3))] := hl
  refine lv_iload_n hx hb dCK_count_0 rfl (lv_at hl 1 rfl) ?_
  refine lv_if_lt (tgt := 10) hx hb dCK_count_1 rfl (fun h => absurd h (nI_pos (by omega))) (fun _ => ?_)
  refine lv_iload_n hx hb dCK_count_4 rfl (lv_at hl 1 rfl) ?_
  refine lv_bipush (v := nI 8) hx hb dCK_count_5 (by decide) ?_
  refine lv_icmp_lt (tgt := 20) hx hb dCK_count_7 rfl (fun _ => ?_) (fun h => absurd (nI_lt (by omega) (by omega)) h)
  refine lv_iload_n hx hb dCK_count_20 rfl (lv_at hl 1 rfl) ?_
  refine lv_tableIn (tgt := 70) hx hb dCK_count_21 (by decide) (by decide) rfl rfl ?_
  refine lv_aload_n hx hb dCK_count_70 rfl (lv_at hl 0 rfl) ?_
  refine gfCK_40 hx hb hts hown hG hP 0 rfl rfl dCK_count_71 ?_
  refine gfCK_135 hx hb hts hown hG hP 1 rfl rfl dCK_count_74 ?_
  exact cq_iret () (trivial) hx hb hr hlk hP hS (rfl) (rfl) dCK_count_77
set_option maxHeartbeats 4000000 in
set_option maxRecDepth 100000 in
theorem k_CK_count4 (l : Launch) (G : gG) (ox oc ot oo oe op ocs ods : Nat) (oh ol : Int64) (kk : Nat → Nat) (ks kv kw c4 : Nat) (hc : c4 < 4) (p1 s1 : Int32) (h1 l1 : Int64) : Ck l G yCK_count cCK_count 2 (some .int) { frames := 0, cells := 0, slots := 0, locals := 0 } [.ref ox, .int (nI (c4 + 4))] [oC ox 7 [.ref oc, .ref ot, .ref oo, .ref oe, .ref op, .ref ocs, .ref ods, .long oh, .long ol], aH G ocs 4 (fun j => some (kk j)), oC (kk c4) 0 [.ref ks, .ref kv, .ref kw, .int p1, .int s1, .long h1, .long l1]] (some (.int p1)) [oC ox 7 [.ref oc, .ref ot, .ref oo, .ref oe, .ref op, .ref ocs, .ref ods, .long oh, .long ol], aH G ocs 4 (fun j => some (kk j)), oC (kk c4) 0 [.ref ks, .ref kv, .ref kw, .int p1, .int s1, .long h1, .long l1]] := by
  refine Cq.of (by decide) (Nat.le_of_ble_eq_true rfl) ?_
  intro p e s m args below meth c A ls hx hb hr hml hts hown hlk hA hP hD hG hS hl
  have hl : lv_has ls 2 [(0, .ref ox), (1, .int (nI (c4 + 4)))] := hl
  refine lv_iload_n hx hb dCK_count_0 rfl (lv_at hl 1 rfl) ?_
  refine lv_if_lt (tgt := 10) hx hb dCK_count_1 rfl (fun h => absurd h (nI_pos (by omega))) (fun _ => ?_)
  refine lv_iload_n hx hb dCK_count_4 rfl (lv_at hl 1 rfl) ?_
  refine lv_bipush (v := nI 8) hx hb dCK_count_5 (by decide) ?_
  refine lv_icmp_lt (tgt := 20) hx hb dCK_count_7 rfl (fun _ => ?_) (fun h => absurd (nI_lt (by omega) (by omega)) h)
  refine lv_iload_n hx hb dCK_count_20 rfl (lv_at hl 1 rfl) ?_
  refine lv_tableOut (tgt := 78) hx hb dCK_count_21 (Or.inr (by rw [nI_toInt (by omega)]; omega)) rfl ?_
  refine lv_aload_n hx hb dCK_count_78 rfl (lv_at hl 0 rfl) ?_
  refine gfCK_46 hx hb hts hown hG hP 0 rfl rfl dCK_count_79 ?_
  refine lv_iload_n hx hb dCK_count_82 rfl (lv_at hl 1 rfl) ?_
  refine lv_iconst (v := nI 4) hx hb dCK_count_83 (by decide) ?_
  refine lv_isub hx hb dCK_count_84 ?_
  refine ck_hald (v := .ref (kk c4)) hx hb hG hP 1 rfl (by decide) c4 (pk_sub (by omega)) (hc) (rfl) dCK_count_85 ?_
  refine gfCK_93 hx hb hts hown hG hP 2 rfl rfl dCK_count_86 ?_
  exact cq_iret () (trivial) hx hb hr hlk hP hS (rfl) (rfl) dCK_count_89
set_option maxHeartbeats 4000000 in
set_option maxRecDepth 100000 in
theorem x_CK_count (l : Launch) (hl0 : l.stackTraces = false) (G : gG) (ox : Nat) (wh : Int32) (hw : jIn 8 wh = false) : Cx l G yCK_count cCK_count 2 (some .int) { frames := 6, cells := 1, slots := 6, locals := 82 } [.ref ox, .int wh] [] "java/lang/IllegalArgumentException" [] := by
  refine Cx.of (by decide) (Nat.le_of_ble_eq_true rfl) ?_
  intro p e s m args below meth c A ls hx hb hr hml hts hown hlk htb hA hP hD hG hS hl
  have hl : lv_has ls 2 [(0, .ref ox), (1, .int wh)] := hl
  refine lv_iload_n hx hb dCK_count_0 rfl (lv_at hl 1 rfl) ?_
  refine lv_if_lt (tgt := 10) hx hb dCK_count_1 rfl (fun h5 => ?_) (fun h5 => ?_)
  · have b_h5 := decide_eq_true h5
    exact cxIAE (sx := 238) (tx := "nothing of the kind is counted") hl0 hx hb hml hown hts htb hlk hG hP hS hl.1 (by decide) dCK_count_10 dCK_count_13 dCK_count_14 dCK_count_16 dCK_count_19 (by decide) (Nat.le_of_ble_eq_true rfl) (by decide) (by decide) (by decide) (by decide)
  · have b_h5 := decide_eq_false h5
    refine lv_iload_n hx hb dCK_count_4 rfl (lv_at hl 1 rfl) ?_
    refine lv_bipush (v := nI 8) hx hb dCK_count_5 (by decide) ?_
    refine lv_icmp_lt (tgt := 20) hx hb dCK_count_7 rfl (fun h => absurd h (jIn_lt hw h5)) (fun _ => ?_)
    exact cxIAE (sx := 238) (tx := "nothing of the kind is counted") hl0 hx hb hml hown hts htb hlk hG hP hS hl.1 (by decide) dCK_count_10 dCK_count_13 dCK_count_14 dCK_count_16 dCK_count_19 (by decide) (Nat.le_of_ble_eq_true rfl) (by decide) (by decide) (by decide) (by decide)
set_option maxHeartbeats 4000000 in
set_option maxRecDepth 100000 in
theorem k_CK_begin (l : Launch) (G : gG) (ox oc ot oo oe op ocs ods : Nat) (oh ol : Int64) (kk ks kv kw : Nat → Nat) (cp cs : Nat → Int32) (ch cl : Nat → Int64) (fs : Nat → Nat → Int32) (ob d : Nat) (hd1 : 1 ≤ d) (hd2 : d ≤ 8) (d0 n0 : Int32) (sh0 sl0 sh sl : Int64) (dec : Nat → Option Nat) : Ck l G yCK_begin cCK_begin 7 none { frames := 1, cells := 0, slots := 0, locals := 25 } [.ref ox, .int (nI d), .long sh, .long sl] [oC ox 7 [.ref oc, .ref ot, .ref oo, .ref oe, .ref op, .ref ocs, .ref ods, .long oh, .long ol], oC ot 6 [.int d0, .long sh0, .long sl0], oC op 5 [.ref ob, .int n0], aH G ocs 4 (fun j => some (kk j)), aQ G ods 256 dec, oC (kk 0) 0 [.ref (ks 0), .ref (kv 0), .ref (kw 0), .int (cp 0), .int (cs 0), .long (ch 0), .long (cl 0)], aZ G (ks 0) 256 (fs 0), oC (kk 1) 0 [.ref (ks 1), .ref (kv 1), .ref (kw 1), .int (cp 1), .int (cs 1), .long (ch 1), .long (cl 1)], aZ G (ks 1) 256 (fs 1), oC (kk 2) 0 [.ref (ks 2), .ref (kv 2), .ref (kw 2), .int (cp 2), .int (cs 2), .long (ch 2), .long (cl 2)], aZ G (ks 2) 256 (fs 2), oC (kk 3) 0 [.ref (ks 3), .ref (kv 3), .ref (kw 3), .int (cp 3), .int (cs 3), .long (ch 3), .long (cl 3)], aZ G (ks 3) 256 (fs 3)] (none) [oC ox 7 [.ref oc, .ref ot, .ref oo, .ref oe, .ref op, .ref ocs, .ref ods, .long oh, .long ol], oC ot 6 [.int (nI d), .long sh, .long sl], oC op 5 [.ref ob, .int (nI 0)], aH G ocs 4 (fun j => some (kk j)), aQ G ods 256 (fun _ => none), oC (kk 0) 0 [.ref (ks 0), .ref (kv 0), .ref (kw 0), .int (nI 0), .int (nI 0), .long (ch 0), .long (cl 0)], aZ G (ks 0) 256 (fun _ => nI 0), oC (kk 1) 0 [.ref (ks 1), .ref (kv 1), .ref (kw 1), .int (nI 0), .int (nI 0), .long (ch 1), .long (cl 1)], aZ G (ks 1) 256 (fun _ => nI 0), oC (kk 2) 0 [.ref (ks 2), .ref (kv 2), .ref (kw 2), .int (nI 0), .int (nI 0), .long (ch 2), .long (cl 2)], aZ G (ks 2) 256 (fun _ => nI 0), oC (kk 3) 0 [.ref (ks 3), .ref (kv 3), .ref (kw 3), .int (nI 0), .int (nI 0), .long (ch 3), .long (cl 3)], aZ G (ks 3) 256 (fun _ => nI 0)] := by
  refine Cq.of (by decide) (Nat.le_of_ble_eq_true rfl) ?_
  intro p e s m args below meth c A ls hx hb hr hml hts hown hlk hA hP hD hG hS hl
  have hl : lv_has ls 7 [(0, .ref ox), (1, .int (nI d)), (2, .long sh), (4, .long sl)] := hl
  refine lv_iload_n hx hb dCK_begin_0 rfl (lv_at hl 1 rfl) ?_
  refine lv_iconst (v := nI 1) hx hb dCK_begin_1 (by decide) ?_
  refine lv_icmp_lt (tgt := 11) hx hb dCK_begin_2 rfl (fun h => absurd h (nI_nlt (by omega) (by omega))) (fun _ => ?_)
  refine lv_iload_n hx hb dCK_begin_5 rfl (lv_at hl 1 rfl) ?_
  refine lv_bipush (v := nI 8) hx hb dCK_begin_6 (by decide) ?_
  refine lv_icmp_le (tgt := 21) hx hb dCK_begin_8 rfl (fun _ => ?_) (fun h => absurd (nI_le (by omega) (by omega)) h)
  refine lv_aload_n hx hb dCK_begin_21 rfl (lv_at hl 0 rfl) ?_
  refine gfCK_19 hx hb hts hown hG hP 0 rfl rfl dCK_begin_22 ?_
  refine lv_iload_n hx hb dCK_begin_25 rfl (lv_at hl 1 rfl) ?_
  refine lv_lload_n hx hb dCK_begin_26 rfl (lv_at hl 2 rfl) ?_
  refine lv_lload hx hb dCK_begin_27 (lv_at hl 3 rfl) ?_
  refine clCK_57 (As := [.int (nI d), .long sh, .long sl]) (rest := []) hx hb hml hown hts (k_Tr_plant l G ot d0 (nI d) sh0 sl0 sh sl) hG hA hP hD hS 1 rfl [1] rfl rfl (fun _ => rfl) rfl hl.1 rfl (Nat.le_of_ble_eq_true rfl) ⟨by decide, by decide⟩ ⟨by decide, by decide⟩ dCK_begin_29 (fun _ H locs _ hP hD hS => ?_)
  have hP : va_P G.1 vwCl [oC ox 7 [.ref oc, .ref ot, .ref oo, .ref oe, .ref op, .ref ocs, .ref ods, .long oh, .long ol], oC ot 6 [.int (nI d), .long sh, .long sl], oC op 5 [.ref ob, .int n0], aH G ocs 4 (fun j => some (kk j)), aQ G ods 256 dec, oC (kk 0) 0 [.ref (ks 0), .ref (kv 0), .ref (kw 0), .int (cp 0), .int (cs 0), .long (ch 0), .long (cl 0)], aZ G (ks 0) 256 (fs 0), oC (kk 1) 0 [.ref (ks 1), .ref (kv 1), .ref (kw 1), .int (cp 1), .int (cs 1), .long (ch 1), .long (cl 1)], aZ G (ks 1) 256 (fs 1), oC (kk 2) 0 [.ref (ks 2), .ref (kv 2), .ref (kw 2), .int (cp 2), .int (cs 2), .long (ch 2), .long (cl 2)], aZ G (ks 2) 256 (fs 2), oC (kk 3) 0 [.ref (ks 3), .ref (kv 3), .ref (kw 3), .int (cp 3), .int (cs 3), .long (ch 3), .long (cl 3)], aZ G (ks 3) 256 (fs 3)] H := hP
  have hD : va_D A [oC ox 7 [.ref oc, .ref ot, .ref oo, .ref oe, .ref op, .ref ocs, .ref ods, .long oh, .long ol], oC ot 6 [.int (nI d), .long sh, .long sl], oC op 5 [.ref ob, .int n0], aH G ocs 4 (fun j => some (kk j)), aQ G ods 256 dec, oC (kk 0) 0 [.ref (ks 0), .ref (kv 0), .ref (kw 0), .int (cp 0), .int (cs 0), .long (ch 0), .long (cl 0)], aZ G (ks 0) 256 (fs 0), oC (kk 1) 0 [.ref (ks 1), .ref (kv 1), .ref (kw 1), .int (cp 1), .int (cs 1), .long (ch 1), .long (cl 1)], aZ G (ks 1) 256 (fs 1), oC (kk 2) 0 [.ref (ks 2), .ref (kv 2), .ref (kw 2), .int (cp 2), .int (cs 2), .long (ch 2), .long (cl 2)], aZ G (ks 2) 256 (fs 2), oC (kk 3) 0 [.ref (ks 3), .ref (kv 3), .ref (kw 3), .int (cp 3), .int (cs 3), .long (ch 3), .long (cl 3)], aZ G (ks 3) 256 (fs 3)] := hD
  refine W.cs (cells' := 0) (slots' := 0) rfl rfl ?_
  refine W.eq (g2 := F0 m 32 ls []) rfl ?_
  refine lv_aload_n hx hb dCK_begin_32 rfl (lv_at hl 0 rfl) ?_
  refine gfCK_40 hx hb hts hown hG hP 0 rfl rfl dCK_begin_33 ?_
  refine clCK_68 (As := []) (rest := []) hx hb hml hown hts (k_Pa_clear l G op ob n0) hG hA hP hD hS 2 rfl [2] rfl rfl (fun _ => rfl) rfl hl.1 rfl (Nat.le_of_ble_eq_true rfl) ⟨by decide, by decide⟩ ⟨by decide, by decide⟩ dCK_begin_36 (fun _ H locs _ hP hD hS => ?_)
  have hP : va_P G.1 vwCl [oC ox 7 [.ref oc, .ref ot, .ref oo, .ref oe, .ref op, .ref ocs, .ref ods, .long oh, .long ol], oC ot 6 [.int (nI d), .long sh, .long sl], oC op 5 [.ref ob, .int (nI 0)], aH G ocs 4 (fun j => some (kk j)), aQ G ods 256 dec, oC (kk 0) 0 [.ref (ks 0), .ref (kv 0), .ref (kw 0), .int (cp 0), .int (cs 0), .long (ch 0), .long (cl 0)], aZ G (ks 0) 256 (fs 0), oC (kk 1) 0 [.ref (ks 1), .ref (kv 1), .ref (kw 1), .int (cp 1), .int (cs 1), .long (ch 1), .long (cl 1)], aZ G (ks 1) 256 (fs 1), oC (kk 2) 0 [.ref (ks 2), .ref (kv 2), .ref (kw 2), .int (cp 2), .int (cs 2), .long (ch 2), .long (cl 2)], aZ G (ks 2) 256 (fs 2), oC (kk 3) 0 [.ref (ks 3), .ref (kv 3), .ref (kw 3), .int (cp 3), .int (cs 3), .long (ch 3), .long (cl 3)], aZ G (ks 3) 256 (fs 3)] H := hP
  have hD : va_D A [oC ox 7 [.ref oc, .ref ot, .ref oo, .ref oe, .ref op, .ref ocs, .ref ods, .long oh, .long ol], oC ot 6 [.int (nI d), .long sh, .long sl], oC op 5 [.ref ob, .int (nI 0)], aH G ocs 4 (fun j => some (kk j)), aQ G ods 256 dec, oC (kk 0) 0 [.ref (ks 0), .ref (kv 0), .ref (kw 0), .int (cp 0), .int (cs 0), .long (ch 0), .long (cl 0)], aZ G (ks 0) 256 (fs 0), oC (kk 1) 0 [.ref (ks 1), .ref (kv 1), .ref (kw 1), .int (cp 1), .int (cs 1), .long (ch 1), .long (cl 1)], aZ G (ks 1) 256 (fs 1), oC (kk 2) 0 [.ref (ks 2), .ref (kv 2), .ref (kw 2), .int (cp 2), .int (cs 2), .long (ch 2), .long (cl 2)], aZ G (ks 2) 256 (fs 2), oC (kk 3) 0 [.ref (ks 3), .ref (kv 3), .ref (kw 3), .int (cp 3), .int (cs 3), .long (ch 3), .long (cl 3)], aZ G (ks 3) 256 (fs 3)] := hD
  refine W.cs (cells' := 0) (slots' := 0) rfl rfl ?_
  refine W.eq (g2 := F0 m 39 ls []) rfl ?_
  refine lv_iconst (v := nI 0) hx hb dCK_begin_39 (by decide) ?_
  refine lv_istore (lv' := [(6, .int (nI 0)), (0, .ref ox), (1, .int (nI d)), (2, .long sh), (4, .long sl)]) hx hb dCK_begin_40 hl (by decide) rfl (fun ls hl => ?_)
  refine lv_iload hx hb dCK_begin_42 (lv_at hl 0 rfl) ?_
  refine lv_iconst (v := nI 4) hx hb dCK_begin_44 (by decide) ?_
  refine lv_icmp_ge (tgt := 64) hx hb dCK_begin_45 rfl (fun h => absurd h (by decide)) (fun _ => ?_)
  refine lv_aload_n hx hb dCK_begin_48 rfl (lv_at hl 1 rfl) ?_
  refine gfCK_46 hx hb hts hown hG hP 0 rfl rfl dCK_begin_49 ?_
  refine lv_iload hx hb dCK_begin_52 (lv_at hl 0 rfl) ?_
  refine ck_hald (v := .ref (kk 0)) hx hb hG hP 3 rfl (by decide) 0 (rfl) (by decide) (rfl) dCK_begin_54 ?_
  refine clCK_71 (As := []) (rest := []) hx hb hml hown hts (k_Ch_clear l G (kk 0) (ks 0) (kv 0) (kw 0) (fs 0) (cp 0) (cs 0) (ch 0) (cl 0)) hG hA hP hD hS 5 rfl [5, 6] rfl rfl (fun _ => rfl) rfl hl.1 rfl (Nat.le_of_ble_eq_true rfl) ⟨by decide, by decide⟩ ⟨by decide, by decide⟩ dCK_begin_55 (fun _ H locs _ hP hD hS => ?_)
  have hP : va_P G.1 vwCl [oC ox 7 [.ref oc, .ref ot, .ref oo, .ref oe, .ref op, .ref ocs, .ref ods, .long oh, .long ol], oC ot 6 [.int (nI d), .long sh, .long sl], oC op 5 [.ref ob, .int (nI 0)], aH G ocs 4 (fun j => some (kk j)), aQ G ods 256 dec, oC (kk 0) 0 [.ref (ks 0), .ref (kv 0), .ref (kw 0), .int (nI 0), .int (nI 0), .long (ch 0), .long (cl 0)], aZ G (ks 0) 256 (fun _ => nI 0), oC (kk 1) 0 [.ref (ks 1), .ref (kv 1), .ref (kw 1), .int (cp 1), .int (cs 1), .long (ch 1), .long (cl 1)], aZ G (ks 1) 256 (fs 1), oC (kk 2) 0 [.ref (ks 2), .ref (kv 2), .ref (kw 2), .int (cp 2), .int (cs 2), .long (ch 2), .long (cl 2)], aZ G (ks 2) 256 (fs 2), oC (kk 3) 0 [.ref (ks 3), .ref (kv 3), .ref (kw 3), .int (cp 3), .int (cs 3), .long (ch 3), .long (cl 3)], aZ G (ks 3) 256 (fs 3)] H := hP
  have hD : va_D A [oC ox 7 [.ref oc, .ref ot, .ref oo, .ref oe, .ref op, .ref ocs, .ref ods, .long oh, .long ol], oC ot 6 [.int (nI d), .long sh, .long sl], oC op 5 [.ref ob, .int (nI 0)], aH G ocs 4 (fun j => some (kk j)), aQ G ods 256 dec, oC (kk 0) 0 [.ref (ks 0), .ref (kv 0), .ref (kw 0), .int (nI 0), .int (nI 0), .long (ch 0), .long (cl 0)], aZ G (ks 0) 256 (fun _ => nI 0), oC (kk 1) 0 [.ref (ks 1), .ref (kv 1), .ref (kw 1), .int (cp 1), .int (cs 1), .long (ch 1), .long (cl 1)], aZ G (ks 1) 256 (fs 1), oC (kk 2) 0 [.ref (ks 2), .ref (kv 2), .ref (kw 2), .int (cp 2), .int (cs 2), .long (ch 2), .long (cl 2)], aZ G (ks 2) 256 (fs 2), oC (kk 3) 0 [.ref (ks 3), .ref (kv 3), .ref (kw 3), .int (cp 3), .int (cs 3), .long (ch 3), .long (cl 3)], aZ G (ks 3) 256 (fs 3)] := hD
  refine W.cs (cells' := 0) (slots' := 0) rfl rfl ?_
  refine W.eq (g2 := F0 m 58 ls []) rfl ?_
  refine lv_iinc (v := nI 1) (lv' := [(6, .int (nI 1)), (0, .ref ox), (1, .int (nI d)), (2, .long sh), (4, .long sl)]) hx hb dCK_begin_58 hl (k := 0) rfl (by decide) (by decide) rfl (fun ls hl => ?_)
  refine lv_goto (tgt := 42) hx hb dCK_begin_61 rfl ?_
  refine lv_iload hx hb dCK_begin_42 (lv_at hl 0 rfl) ?_
  refine lv_iconst (v := nI 4) hx hb dCK_begin_44 (by decide) ?_
  refine lv_icmp_ge (tgt := 64) hx hb dCK_begin_45 rfl (fun h => absurd h (by decide)) (fun _ => ?_)
  refine lv_aload_n hx hb dCK_begin_48 rfl (lv_at hl 1 rfl) ?_
  refine gfCK_46 hx hb hts hown hG hP 0 rfl rfl dCK_begin_49 ?_
  refine lv_iload hx hb dCK_begin_52 (lv_at hl 0 rfl) ?_
  refine ck_hald (v := .ref (kk 1)) hx hb hG hP 3 rfl (by decide) 1 (rfl) (by decide) (rfl) dCK_begin_54 ?_
  refine clCK_71 (As := []) (rest := []) hx hb hml hown hts (k_Ch_clear l G (kk 1) (ks 1) (kv 1) (kw 1) (fs 1) (cp 1) (cs 1) (ch 1) (cl 1)) hG hA hP hD hS 7 rfl [7, 8] rfl rfl (fun _ => rfl) rfl hl.1 rfl (Nat.le_of_ble_eq_true rfl) ⟨by decide, by decide⟩ ⟨by decide, by decide⟩ dCK_begin_55 (fun _ H locs _ hP hD hS => ?_)
  have hP : va_P G.1 vwCl [oC ox 7 [.ref oc, .ref ot, .ref oo, .ref oe, .ref op, .ref ocs, .ref ods, .long oh, .long ol], oC ot 6 [.int (nI d), .long sh, .long sl], oC op 5 [.ref ob, .int (nI 0)], aH G ocs 4 (fun j => some (kk j)), aQ G ods 256 dec, oC (kk 0) 0 [.ref (ks 0), .ref (kv 0), .ref (kw 0), .int (nI 0), .int (nI 0), .long (ch 0), .long (cl 0)], aZ G (ks 0) 256 (fun _ => nI 0), oC (kk 1) 0 [.ref (ks 1), .ref (kv 1), .ref (kw 1), .int (nI 0), .int (nI 0), .long (ch 1), .long (cl 1)], aZ G (ks 1) 256 (fun _ => nI 0), oC (kk 2) 0 [.ref (ks 2), .ref (kv 2), .ref (kw 2), .int (cp 2), .int (cs 2), .long (ch 2), .long (cl 2)], aZ G (ks 2) 256 (fs 2), oC (kk 3) 0 [.ref (ks 3), .ref (kv 3), .ref (kw 3), .int (cp 3), .int (cs 3), .long (ch 3), .long (cl 3)], aZ G (ks 3) 256 (fs 3)] H := hP
  have hD : va_D A [oC ox 7 [.ref oc, .ref ot, .ref oo, .ref oe, .ref op, .ref ocs, .ref ods, .long oh, .long ol], oC ot 6 [.int (nI d), .long sh, .long sl], oC op 5 [.ref ob, .int (nI 0)], aH G ocs 4 (fun j => some (kk j)), aQ G ods 256 dec, oC (kk 0) 0 [.ref (ks 0), .ref (kv 0), .ref (kw 0), .int (nI 0), .int (nI 0), .long (ch 0), .long (cl 0)], aZ G (ks 0) 256 (fun _ => nI 0), oC (kk 1) 0 [.ref (ks 1), .ref (kv 1), .ref (kw 1), .int (nI 0), .int (nI 0), .long (ch 1), .long (cl 1)], aZ G (ks 1) 256 (fun _ => nI 0), oC (kk 2) 0 [.ref (ks 2), .ref (kv 2), .ref (kw 2), .int (cp 2), .int (cs 2), .long (ch 2), .long (cl 2)], aZ G (ks 2) 256 (fs 2), oC (kk 3) 0 [.ref (ks 3), .ref (kv 3), .ref (kw 3), .int (cp 3), .int (cs 3), .long (ch 3), .long (cl 3)], aZ G (ks 3) 256 (fs 3)] := hD
  refine W.cs (cells' := 0) (slots' := 0) rfl rfl ?_
  refine W.eq (g2 := F0 m 58 ls []) rfl ?_
  refine lv_iinc (v := nI 2) (lv' := [(6, .int (nI 2)), (0, .ref ox), (1, .int (nI d)), (2, .long sh), (4, .long sl)]) hx hb dCK_begin_58 hl (k := 0) rfl (by decide) (by decide) rfl (fun ls hl => ?_)
  refine lv_goto (tgt := 42) hx hb dCK_begin_61 rfl ?_
  refine lv_iload hx hb dCK_begin_42 (lv_at hl 0 rfl) ?_
  refine lv_iconst (v := nI 4) hx hb dCK_begin_44 (by decide) ?_
  refine lv_icmp_ge (tgt := 64) hx hb dCK_begin_45 rfl (fun h => absurd h (by decide)) (fun _ => ?_)
  refine lv_aload_n hx hb dCK_begin_48 rfl (lv_at hl 1 rfl) ?_
  refine gfCK_46 hx hb hts hown hG hP 0 rfl rfl dCK_begin_49 ?_
  refine lv_iload hx hb dCK_begin_52 (lv_at hl 0 rfl) ?_
  refine ck_hald (v := .ref (kk 2)) hx hb hG hP 3 rfl (by decide) 2 (rfl) (by decide) (rfl) dCK_begin_54 ?_
  refine clCK_71 (As := []) (rest := []) hx hb hml hown hts (k_Ch_clear l G (kk 2) (ks 2) (kv 2) (kw 2) (fs 2) (cp 2) (cs 2) (ch 2) (cl 2)) hG hA hP hD hS 9 rfl [9, 10] rfl rfl (fun _ => rfl) rfl hl.1 rfl (Nat.le_of_ble_eq_true rfl) ⟨by decide, by decide⟩ ⟨by decide, by decide⟩ dCK_begin_55 (fun _ H locs _ hP hD hS => ?_)
  have hP : va_P G.1 vwCl [oC ox 7 [.ref oc, .ref ot, .ref oo, .ref oe, .ref op, .ref ocs, .ref ods, .long oh, .long ol], oC ot 6 [.int (nI d), .long sh, .long sl], oC op 5 [.ref ob, .int (nI 0)], aH G ocs 4 (fun j => some (kk j)), aQ G ods 256 dec, oC (kk 0) 0 [.ref (ks 0), .ref (kv 0), .ref (kw 0), .int (nI 0), .int (nI 0), .long (ch 0), .long (cl 0)], aZ G (ks 0) 256 (fun _ => nI 0), oC (kk 1) 0 [.ref (ks 1), .ref (kv 1), .ref (kw 1), .int (nI 0), .int (nI 0), .long (ch 1), .long (cl 1)], aZ G (ks 1) 256 (fun _ => nI 0), oC (kk 2) 0 [.ref (ks 2), .ref (kv 2), .ref (kw 2), .int (nI 0), .int (nI 0), .long (ch 2), .long (cl 2)], aZ G (ks 2) 256 (fun _ => nI 0), oC (kk 3) 0 [.ref (ks 3), .ref (kv 3), .ref (kw 3), .int (cp 3), .int (cs 3), .long (ch 3), .long (cl 3)], aZ G (ks 3) 256 (fs 3)] H := hP
  have hD : va_D A [oC ox 7 [.ref oc, .ref ot, .ref oo, .ref oe, .ref op, .ref ocs, .ref ods, .long oh, .long ol], oC ot 6 [.int (nI d), .long sh, .long sl], oC op 5 [.ref ob, .int (nI 0)], aH G ocs 4 (fun j => some (kk j)), aQ G ods 256 dec, oC (kk 0) 0 [.ref (ks 0), .ref (kv 0), .ref (kw 0), .int (nI 0), .int (nI 0), .long (ch 0), .long (cl 0)], aZ G (ks 0) 256 (fun _ => nI 0), oC (kk 1) 0 [.ref (ks 1), .ref (kv 1), .ref (kw 1), .int (nI 0), .int (nI 0), .long (ch 1), .long (cl 1)], aZ G (ks 1) 256 (fun _ => nI 0), oC (kk 2) 0 [.ref (ks 2), .ref (kv 2), .ref (kw 2), .int (nI 0), .int (nI 0), .long (ch 2), .long (cl 2)], aZ G (ks 2) 256 (fun _ => nI 0), oC (kk 3) 0 [.ref (ks 3), .ref (kv 3), .ref (kw 3), .int (cp 3), .int (cs 3), .long (ch 3), .long (cl 3)], aZ G (ks 3) 256 (fs 3)] := hD
  refine W.cs (cells' := 0) (slots' := 0) rfl rfl ?_
  refine W.eq (g2 := F0 m 58 ls []) rfl ?_
  refine lv_iinc (v := nI 3) (lv' := [(6, .int (nI 3)), (0, .ref ox), (1, .int (nI d)), (2, .long sh), (4, .long sl)]) hx hb dCK_begin_58 hl (k := 0) rfl (by decide) (by decide) rfl (fun ls hl => ?_)
  refine lv_goto (tgt := 42) hx hb dCK_begin_61 rfl ?_
  refine lv_iload hx hb dCK_begin_42 (lv_at hl 0 rfl) ?_
  refine lv_iconst (v := nI 4) hx hb dCK_begin_44 (by decide) ?_
  refine lv_icmp_ge (tgt := 64) hx hb dCK_begin_45 rfl (fun h => absurd h (by decide)) (fun _ => ?_)
  refine lv_aload_n hx hb dCK_begin_48 rfl (lv_at hl 1 rfl) ?_
  refine gfCK_46 hx hb hts hown hG hP 0 rfl rfl dCK_begin_49 ?_
  refine lv_iload hx hb dCK_begin_52 (lv_at hl 0 rfl) ?_
  refine ck_hald (v := .ref (kk 3)) hx hb hG hP 3 rfl (by decide) 3 (rfl) (by decide) (rfl) dCK_begin_54 ?_
  refine clCK_71 (As := []) (rest := []) hx hb hml hown hts (k_Ch_clear l G (kk 3) (ks 3) (kv 3) (kw 3) (fs 3) (cp 3) (cs 3) (ch 3) (cl 3)) hG hA hP hD hS 11 rfl [11, 12] rfl rfl (fun _ => rfl) rfl hl.1 rfl (Nat.le_of_ble_eq_true rfl) ⟨by decide, by decide⟩ ⟨by decide, by decide⟩ dCK_begin_55 (fun _ H locs _ hP hD hS => ?_)
  have hP : va_P G.1 vwCl [oC ox 7 [.ref oc, .ref ot, .ref oo, .ref oe, .ref op, .ref ocs, .ref ods, .long oh, .long ol], oC ot 6 [.int (nI d), .long sh, .long sl], oC op 5 [.ref ob, .int (nI 0)], aH G ocs 4 (fun j => some (kk j)), aQ G ods 256 dec, oC (kk 0) 0 [.ref (ks 0), .ref (kv 0), .ref (kw 0), .int (nI 0), .int (nI 0), .long (ch 0), .long (cl 0)], aZ G (ks 0) 256 (fun _ => nI 0), oC (kk 1) 0 [.ref (ks 1), .ref (kv 1), .ref (kw 1), .int (nI 0), .int (nI 0), .long (ch 1), .long (cl 1)], aZ G (ks 1) 256 (fun _ => nI 0), oC (kk 2) 0 [.ref (ks 2), .ref (kv 2), .ref (kw 2), .int (nI 0), .int (nI 0), .long (ch 2), .long (cl 2)], aZ G (ks 2) 256 (fun _ => nI 0), oC (kk 3) 0 [.ref (ks 3), .ref (kv 3), .ref (kw 3), .int (nI 0), .int (nI 0), .long (ch 3), .long (cl 3)], aZ G (ks 3) 256 (fun _ => nI 0)] H := hP
  have hD : va_D A [oC ox 7 [.ref oc, .ref ot, .ref oo, .ref oe, .ref op, .ref ocs, .ref ods, .long oh, .long ol], oC ot 6 [.int (nI d), .long sh, .long sl], oC op 5 [.ref ob, .int (nI 0)], aH G ocs 4 (fun j => some (kk j)), aQ G ods 256 dec, oC (kk 0) 0 [.ref (ks 0), .ref (kv 0), .ref (kw 0), .int (nI 0), .int (nI 0), .long (ch 0), .long (cl 0)], aZ G (ks 0) 256 (fun _ => nI 0), oC (kk 1) 0 [.ref (ks 1), .ref (kv 1), .ref (kw 1), .int (nI 0), .int (nI 0), .long (ch 1), .long (cl 1)], aZ G (ks 1) 256 (fun _ => nI 0), oC (kk 2) 0 [.ref (ks 2), .ref (kv 2), .ref (kw 2), .int (nI 0), .int (nI 0), .long (ch 2), .long (cl 2)], aZ G (ks 2) 256 (fun _ => nI 0), oC (kk 3) 0 [.ref (ks 3), .ref (kv 3), .ref (kw 3), .int (nI 0), .int (nI 0), .long (ch 3), .long (cl 3)], aZ G (ks 3) 256 (fun _ => nI 0)] := hD
  refine W.cs (cells' := 0) (slots' := 0) rfl rfl ?_
  refine W.eq (g2 := F0 m 58 ls []) rfl ?_
  refine lv_iinc (v := nI 4) (lv' := [(6, .int (nI 4)), (0, .ref ox), (1, .int (nI d)), (2, .long sh), (4, .long sl)]) hx hb dCK_begin_58 hl (k := 0) rfl (by decide) (by decide) rfl (fun ls hl => ?_)
  refine lv_goto (tgt := 42) hx hb dCK_begin_61 rfl ?_
  refine lv_iload hx hb dCK_begin_42 (lv_at hl 0 rfl) ?_
  refine lv_iconst (v := nI 4) hx hb dCK_begin_44 (by decide) ?_
  refine lv_icmp_ge (tgt := 64) hx hb dCK_begin_45 rfl (fun _ => ?_) (fun h => absurd (by decide) h)
  refine lv_iconst (v := nI 0) hx hb dCK_begin_64 (by decide) ?_
  refine lv_istore (lv' := [(6, .int (nI 0)), (0, .ref ox), (1, .int (nI d)), (2, .long sh), (4, .long sl)]) hx hb dCK_begin_65 hl (by decide) rfl (fun ls hl => ?_)
  have loop : ∀ (k : Nat) (n : Nat) (H : Heap) (locs : List Loc) (ls : Array Slot), n + k = 256 → va_P G.1 vwCl [oC ox 7 [.ref oc, .ref ot, .ref oo, .ref oe, .ref op, .ref ocs, .ref ods, .long oh, .long ol], oC ot 6 [.int (nI d), .long sh, .long sl], oC op 5 [.ref ob, .int (nI 0)], aH G ocs 4 (fun j => some (kk j)), aQ G ods 256 (jFillQ dec n), oC (kk 0) 0 [.ref (ks 0), .ref (kv 0), .ref (kw 0), .int (nI 0), .int (nI 0), .long (ch 0), .long (cl 0)], aZ G (ks 0) 256 (fun _ => nI 0), oC (kk 1) 0 [.ref (ks 1), .ref (kv 1), .ref (kw 1), .int (nI 0), .int (nI 0), .long (ch 1), .long (cl 1)], aZ G (ks 1) 256 (fun _ => nI 0), oC (kk 2) 0 [.ref (ks 2), .ref (kv 2), .ref (kw 2), .int (nI 0), .int (nI 0), .long (ch 2), .long (cl 2)], aZ G (ks 2) 256 (fun _ => nI 0), oC (kk 3) 0 [.ref (ks 3), .ref (kv 3), .ref (kw 3), .int (nI 0), .int (nI 0), .long (ch 3), .long (cl 3)], aZ G (ks 3) 256 (fun _ => nI 0)] H → va_D A [oC ox 7 [.ref oc, .ref ot, .ref oo, .ref oe, .ref op, .ref ocs, .ref ods, .long oh, .long ol], oC ot 6 [.int (nI d), .long sh, .long sl], oC op 5 [.ref ob, .int (nI 0)], aH G ocs 4 (fun j => some (kk j)), aQ G ods 256 (jFillQ dec n), oC (kk 0) 0 [.ref (ks 0), .ref (kv 0), .ref (kw 0), .int (nI 0), .int (nI 0), .long (ch 0), .long (cl 0)], aZ G (ks 0) 256 (fun _ => nI 0), oC (kk 1) 0 [.ref (ks 1), .ref (kv 1), .ref (kw 1), .int (nI 0), .int (nI 0), .long (ch 1), .long (cl 1)], aZ G (ks 1) 256 (fun _ => nI 0), oC (kk 2) 0 [.ref (ks 2), .ref (kv 2), .ref (kw 2), .int (nI 0), .int (nI 0), .long (ch 2), .long (cl 2)], aZ G (ks 2) 256 (fun _ => nI 0), oC (kk 3) 0 [.ref (ks 3), .ref (kv 3), .ref (kw 3), .int (nI 0), .int (nI 0), .long (ch 3), .long (cl 3)], aZ G (ks 3) 256 (fun _ => nI 0)] → va_S A s.heap H locs → lv_has ls 7 [(0, .ref ox), (6, .int (nI n))] → W p l e { frames := 1, cells := 0, slots := 0, locals := 25 } s m args below meth c H locs 0 0 (MQ below (cq_out G (S := Unit) (fun _ => True) (fun _ => (none)) (fun _ => [oC ox 7 [.ref oc, .ref ot, .ref oo, .ref oe, .ref op, .ref ocs, .ref ods, .long oh, .long ol], oC ot 6 [.int (nI d), .long sh, .long sl], oC op 5 [.ref ob, .int (nI 0)], aH G ocs 4 (fun j => some (kk j)), aQ G ods 256 (fun _ => none), oC (kk 0) 0 [.ref (ks 0), .ref (kv 0), .ref (kw 0), .int (nI 0), .int (nI 0), .long (ch 0), .long (cl 0)], aZ G (ks 0) 256 (fun _ => nI 0), oC (kk 1) 0 [.ref (ks 1), .ref (kv 1), .ref (kw 1), .int (nI 0), .int (nI 0), .long (ch 1), .long (cl 1)], aZ G (ks 1) 256 (fun _ => nI 0), oC (kk 2) 0 [.ref (ks 2), .ref (kv 2), .ref (kw 2), .int (nI 0), .int (nI 0), .long (ch 2), .long (cl 2)], aZ G (ks 2) 256 (fun _ => nI 0), oC (kk 3) 0 [.ref (ks 3), .ref (kv 3), .ref (kw 3), .int (nI 0), .int (nI 0), .long (ch 3), .long (cl 3)], aZ G (ks 3) 256 (fun _ => nI 0)]) A) args s 0 0 A) (F0 m 67 ls []) := by
    intro k
    induction k with
    | zero =>
      intro n H locs ls hk hP hD hS hl
      refine lv_iload hx hb dCK_begin_67 (lv_at hl 1 rfl) ?_
      refine lv_sipush (v := nI 256) hx hb dCK_begin_69 (by decide) ?_
      refine lv_icmp_ge (tgt := 89) hx hb dCK_begin_72 rfl (fun _ => ?_) (fun h => absurd (nI_le (by omega) (by omega)) h)
      have hP := ck_cgQ hP 4 rfl (g := fun _ => none) (fun j hj => jFillQ_lt dec n j (by omega))
      exact cq_vret () (trivial) hx hb hr hlk hP hS rfl (rfl) dCK_begin_89
    | succ k ih =>
      intro n H locs ls hk hP hD hS hl
      refine lv_iload hx hb dCK_begin_67 (lv_at hl 1 rfl) ?_
      refine lv_sipush (v := nI 256) hx hb dCK_begin_69 (by decide) ?_
      refine lv_icmp_ge (tgt := 89) hx hb dCK_begin_72 rfl (fun h => absurd h (nI_ge (by omega) (by omega))) (fun _ => ?_)
      refine lv_aload_n hx hb dCK_begin_75 rfl (lv_at hl 0 rfl) ?_
      refine gfCK_52 hx hb hts hown hG hP 0 rfl rfl dCK_begin_76 ?_
      refine lv_iload hx hb dCK_begin_79 (lv_at hl 1 rfl) ?_
      refine lv_null hx hb dCK_begin_81 ?_
      refine ck_qnul hx hb hG hP hD hS 4 rfl (by decide) n (rfl) (by omega) dCK_begin_82 (fun H locs hP hD hS => ?_)
      have hP : va_P G.1 vwCl [oC ox 7 [.ref oc, .ref ot, .ref oo, .ref oe, .ref op, .ref ocs, .ref ods, .long oh, .long ol], oC ot 6 [.int (nI d), .long sh, .long sl], oC op 5 [.ref ob, .int (nI 0)], aH G ocs 4 (fun j => some (kk j)), aQ G ods 256 (va_up (jFillQ dec n) n none), oC (kk 0) 0 [.ref (ks 0), .ref (kv 0), .ref (kw 0), .int (nI 0), .int (nI 0), .long (ch 0), .long (cl 0)], aZ G (ks 0) 256 (fun _ => nI 0), oC (kk 1) 0 [.ref (ks 1), .ref (kv 1), .ref (kw 1), .int (nI 0), .int (nI 0), .long (ch 1), .long (cl 1)], aZ G (ks 1) 256 (fun _ => nI 0), oC (kk 2) 0 [.ref (ks 2), .ref (kv 2), .ref (kw 2), .int (nI 0), .int (nI 0), .long (ch 2), .long (cl 2)], aZ G (ks 2) 256 (fun _ => nI 0), oC (kk 3) 0 [.ref (ks 3), .ref (kv 3), .ref (kw 3), .int (nI 0), .int (nI 0), .long (ch 3), .long (cl 3)], aZ G (ks 3) 256 (fun _ => nI 0)] H := hP
      have hD : va_D A [oC ox 7 [.ref oc, .ref ot, .ref oo, .ref oe, .ref op, .ref ocs, .ref ods, .long oh, .long ol], oC ot 6 [.int (nI d), .long sh, .long sl], oC op 5 [.ref ob, .int (nI 0)], aH G ocs 4 (fun j => some (kk j)), aQ G ods 256 (va_up (jFillQ dec n) n none), oC (kk 0) 0 [.ref (ks 0), .ref (kv 0), .ref (kw 0), .int (nI 0), .int (nI 0), .long (ch 0), .long (cl 0)], aZ G (ks 0) 256 (fun _ => nI 0), oC (kk 1) 0 [.ref (ks 1), .ref (kv 1), .ref (kw 1), .int (nI 0), .int (nI 0), .long (ch 1), .long (cl 1)], aZ G (ks 1) 256 (fun _ => nI 0), oC (kk 2) 0 [.ref (ks 2), .ref (kv 2), .ref (kw 2), .int (nI 0), .int (nI 0), .long (ch 2), .long (cl 2)], aZ G (ks 2) 256 (fun _ => nI 0), oC (kk 3) 0 [.ref (ks 3), .ref (kv 3), .ref (kw 3), .int (nI 0), .int (nI 0), .long (ch 3), .long (cl 3)], aZ G (ks 3) 256 (fun _ => nI 0)] := hD
      refine lv_iinc (v := nI (n + 1)) (lv' := [(6, .int (nI (n + 1))), (0, .ref ox)]) hx hb dCK_begin_83 hl (k := 1) rfl (nI_1 n) (by decide) rfl (fun ls hl => ?_)
      refine lv_goto (tgt := 67) hx hb dCK_begin_86 rfl ?_
      exact ih (n + 1) _ _ _ (by omega) hP hD hS (lv_sub hl [1, 0] rfl)
  exact loop 256 0 _ _ _ (by omega) hP hD hS (lv_sub hl [1, 0] rfl)
set_option maxHeartbeats 4000000 in
set_option maxRecDepth 100000 in
theorem x_CK_begin (l : Launch) (hl0 : l.stackTraces = false) (G : gG) (ox : Nat) (d1 : Int32) (sh sl : Int64) (hd : (decide (d1 < nI 1) || !decide (d1 ≤ nI 8)) = true) : Cx l G yCK_begin cCK_begin 7 none { frames := 6, cells := 1, slots := 6, locals := 82 } [.ref ox, .int d1, .long sh, .long sl] [] "java/lang/IllegalArgumentException" [] := by
  refine Cx.of (by decide) (Nat.le_of_ble_eq_true rfl) ?_
  intro p e s m args below meth c A ls hx hb hr hml hts hown hlk htb hA hP hD hG hS hl
  have hl : lv_has ls 7 [(0, .ref ox), (1, .int d1), (2, .long sh), (4, .long sl)] := hl
  refine lv_iload_n hx hb dCK_begin_0 rfl (lv_at hl 1 rfl) ?_
  refine lv_iconst (v := nI 1) hx hb dCK_begin_1 (by decide) ?_
  refine lv_icmp_lt (tgt := 11) hx hb dCK_begin_2 rfl (fun h5 => ?_) (fun h5 => ?_)
  · have b_h5 := decide_eq_true h5
    exact cxIAE (sx := 63) (tx := "no such depth") hl0 hx hb hml hown hts htb hlk hG hP hS hl.1 (by decide) dCK_begin_11 dCK_begin_14 dCK_begin_15 dCK_begin_17 dCK_begin_20 (by decide) (Nat.le_of_ble_eq_true rfl) (by decide) (by decide) (by decide) (by decide)
  · have b_h5 := decide_eq_false h5
    refine lv_iload_n hx hb dCK_begin_5 rfl (lv_at hl 1 rfl) ?_
    refine lv_bipush (v := nI 8) hx hb dCK_begin_6 (by decide) ?_
    refine lv_icmp_le (tgt := 21) hx hb dCK_begin_8 rfl (fun h => absurd h (fun z => by rw [b_h5, decide_eq_true z] at hd; cases hd)) (fun _ => ?_)
    exact cxIAE (sx := 63) (tx := "no such depth") hl0 hx hb hml hown hts htb hlk hG hP hS hl.1 (by decide) dCK_begin_11 dCK_begin_14 dCK_begin_15 dCK_begin_17 dCK_begin_20 (by decide) (Nat.le_of_ble_eq_true rfl) (by decide) (by decide) (by decide) (by decide)
set_option maxHeartbeats 4000000 in
set_option maxRecDepth 100000 in
theorem k_CK_packet (l : Launch) (G : gG) (ox oc owd ot oo om oe op ob ocs ods : Nat) (oh ol : Int64) (kk : Nat → Nat) (ks kv kw c4 : Nat) (hc : c4 < 4) (dp : Nat) (sh sl : Int64) (g : Nat → Int32) (e0 f0 c0 h0 l0 h1 l1 : Int64) (fv fw f : Nat → Int32) (q sz n1 : Nat) (n0 : Int32) (hq : 0 < q) (hq2 : q < 2 ^ 16) (hs : sz ≤ 128) (hn : n1 < jPk sz) (hlv : ∀ j, j < sz → ¬ fv j = 0 → jLb (fw j) (fv j) = nI (jLv (fw j) (fv j))) : Cq l G yCK_packet cCK_packet 6 (some .int) { frames := 6, cells := 0, slots := 0, locals := 145 } [.ref ox, .int (nI c4), .int (nI n1)] [oC ox 7 [.ref oc, .ref ot, .ref oo, .ref oe, .ref op, .ref ocs, .ref ods, .long oh, .long ol], oC ot 6 [.int (nI dp), .long sh, .long sl], oC oc 1 [.ref owd, .long e0, .long f0], aI G owd 44 g, oC oe 4 [.long c0, .long h0, .long l0], oC op 5 [.ref ob, .int n0], aI G ob 229 f, oC (kk c4) 0 [.ref ks, .ref kv, .ref kw, .int (nI q), .int (nI sz), .long h1, .long l1], aI G kv 128 fv, aI G kw 128 fw, aH G ocs 4 (fun j => some (kk j))] (S := (Nat → Int32) × Int64 × Int64 × Int64 × Int64 × Int64) (fun _ => True) (fun u => some (.int (nI (5 + 28 * (jEnd sz n1 - n1 * 8))))) (fun u => [oC ox 7 [.ref oc, .ref ot, .ref oo, .ref oe, .ref op, .ref ocs, .ref ods, .long oh, .long ol], oC ot 6 [.int (nI dp), .long sh, .long sl], oC oc 1 [.ref owd, .long u.2.1, .long u.2.2.1], aI G owd 44 u.1, oC oe 4 [.long u.2.2.2.1, .long u.2.2.2.2.1, .long u.2.2.2.2.2], oC op 5 [.ref ob, .int (nI (5 + 28 * (jEnd sz n1 - n1 * 8)))], aI G ob 229 (jEts (jHd f c4 q n1 (jPk sz)) fv fw (n1 * 8) sh sl h1 l1 (jEnd sz n1 - n1 * 8)), oC (kk c4) 0 [.ref ks, .ref kv, .ref kw, .int (nI q), .int (nI sz), .long h1, .long l1], aI G kv 128 fv, aI G kw 128 fw, aH G ocs 4 (fun j => some (kk j))]) := by
  refine Cq.of (by decide) (Nat.le_of_ble_eq_true rfl) ?_
  intro p e s m args below meth c A ls hx hb hr hml hts hown hlk hA hP hD hG hS hl
  have hpk : jPk sz ≤ 16 := by unfold jPk; split <;> omega
  obtain ⟨he1, he2, he3⟩ := jEnd_le hn
  have hq2b : q < 2 ^ 30 := by omega
  have hl : lv_has ls 6 [(0, .ref ox), (1, .int (nI c4)), (2, .int (nI n1))] := hl
  refine lv_iload_n hx hb dCK_packet_0 rfl (lv_at hl 1 rfl) ?_
  refine clCK_86 (As := [.int (nI c4)]) (rest := []) hx hb hml hown hts (k_CK_checkChannel l G (nI c4) (jIn_nI (by decide) hc)) hG hA hP hD hS [] rfl rfl (fun _ => rfl) rfl hl.1 rfl (Nat.le_of_ble_eq_true rfl) ⟨by decide, by decide⟩ ⟨by decide, by decide⟩ dCK_packet_1 (fun _ H locs _ hP hD hS => ?_)
  have hP : va_P G.1 vwCl [oC ox 7 [.ref oc, .ref ot, .ref oo, .ref oe, .ref op, .ref ocs, .ref ods, .long oh, .long ol], oC ot 6 [.int (nI dp), .long sh, .long sl], oC oc 1 [.ref owd, .long e0, .long f0], aI G owd 44 g, oC oe 4 [.long c0, .long h0, .long l0], oC op 5 [.ref ob, .int n0], aI G ob 229 f, oC (kk c4) 0 [.ref ks, .ref kv, .ref kw, .int (nI q), .int (nI sz), .long h1, .long l1], aI G kv 128 fv, aI G kw 128 fw, aH G ocs 4 (fun j => some (kk j))] H := hP
  have hD : va_D A [oC ox 7 [.ref oc, .ref ot, .ref oo, .ref oe, .ref op, .ref ocs, .ref ods, .long oh, .long ol], oC ot 6 [.int (nI dp), .long sh, .long sl], oC oc 1 [.ref owd, .long e0, .long f0], aI G owd 44 g, oC oe 4 [.long c0, .long h0, .long l0], oC op 5 [.ref ob, .int n0], aI G ob 229 f, oC (kk c4) 0 [.ref ks, .ref kv, .ref kw, .int (nI q), .int (nI sz), .long h1, .long l1], aI G kv 128 fv, aI G kw 128 fw, aH G ocs 4 (fun j => some (kk j))] := hD
  refine W.cs (cells' := 0) (slots' := 0) rfl rfl ?_
  refine W.eq (g2 := F0 m 4 ls []) rfl ?_
  refine lv_aload_n hx hb dCK_packet_4 rfl (lv_at hl 0 rfl) ?_
  refine lv_iload_n hx hb dCK_packet_5 rfl (lv_at hl 1 rfl) ?_
  refine clCK_113 (As := [.int (nI c4)]) (rest := []) hx hb hml hown hts (k_CK_checkBegan l G ox oc ot oo oe op ocs ods oh ol kk ks kv kw c4 hc q hq hq2b (nI sz) h1 l1) hG hA hP hD hS 0 rfl [0, 10, 7] rfl rfl (fun _ => rfl) rfl hl.1 rfl (Nat.le_of_ble_eq_true rfl) ⟨by decide, by decide⟩ ⟨by decide, by decide⟩ dCK_packet_6 (fun _ H locs _ hP hD hS => ?_)
  have hP : va_P G.1 vwCl [oC ox 7 [.ref oc, .ref ot, .ref oo, .ref oe, .ref op, .ref ocs, .ref ods, .long oh, .long ol], oC ot 6 [.int (nI dp), .long sh, .long sl], oC oc 1 [.ref owd, .long e0, .long f0], aI G owd 44 g, oC oe 4 [.long c0, .long h0, .long l0], oC op 5 [.ref ob, .int n0], aI G ob 229 f, oC (kk c4) 0 [.ref ks, .ref kv, .ref kw, .int (nI q), .int (nI sz), .long h1, .long l1], aI G kv 128 fv, aI G kw 128 fw, aH G ocs 4 (fun j => some (kk j))] H := hP
  have hD : va_D A [oC ox 7 [.ref oc, .ref ot, .ref oo, .ref oe, .ref op, .ref ocs, .ref ods, .long oh, .long ol], oC ot 6 [.int (nI dp), .long sh, .long sl], oC oc 1 [.ref owd, .long e0, .long f0], aI G owd 44 g, oC oe 4 [.long c0, .long h0, .long l0], oC op 5 [.ref ob, .int n0], aI G ob 229 f, oC (kk c4) 0 [.ref ks, .ref kv, .ref kw, .int (nI q), .int (nI sz), .long h1, .long l1], aI G kv 128 fv, aI G kw 128 fw, aH G ocs 4 (fun j => some (kk j))] := hD
  refine W.cs (cells' := 0) (slots' := 0) rfl rfl ?_
  refine W.eq (g2 := F0 m 9 ls []) rfl ?_
  refine lv_aload_n hx hb dCK_packet_9 rfl (lv_at hl 0 rfl) ?_
  refine gfCK_46 hx hb hts hown hG hP 0 rfl rfl dCK_packet_10 ?_
  refine lv_iload_n hx hb dCK_packet_13 rfl (lv_at hl 1 rfl) ?_
  refine ck_hald (v := .ref (kk c4)) hx hb hG hP 10 rfl (by decide) c4 (rfl) (hc) (rfl) dCK_packet_14 ?_
  refine lv_astore_n (lv' := [(3, .ref (kk c4)), (0, .ref ox), (1, .int (nI c4)), (2, .int (nI n1))]) hx hb dCK_packet_15 rfl hl (by decide) rfl (fun ls hl => ?_)
  refine lv_iload_n hx hb dCK_packet_16 rfl (lv_at hl 3 rfl) ?_
  refine lv_if_lt (tgt := 28) hx hb dCK_packet_17 rfl (fun h => absurd h (nI_pos (by omega))) (fun _ => ?_)
  refine lv_iload_n hx hb dCK_packet_20 rfl (lv_at hl 3 rfl) ?_
  refine lv_aload_n hx hb dCK_packet_21 rfl (lv_at hl 0 rfl) ?_
  refine clCK_116 (As := []) (rest := [.int (nI n1)]) hx hb hml hown hts (k_Ch_packets l G (kk c4) ks kv kw sz hs (nI q) h1 l1) hG hA hP hD hS 7 rfl [7] rfl rfl (fun _ => rfl) rfl hl.1 rfl (Nat.le_of_ble_eq_true rfl) ⟨by decide, by decide⟩ ⟨by decide, by decide⟩ dCK_packet_22 (fun _ H locs _ hP hD hS => ?_)
  have hP : va_P G.1 vwCl [oC ox 7 [.ref oc, .ref ot, .ref oo, .ref oe, .ref op, .ref ocs, .ref ods, .long oh, .long ol], oC ot 6 [.int (nI dp), .long sh, .long sl], oC oc 1 [.ref owd, .long e0, .long f0], aI G owd 44 g, oC oe 4 [.long c0, .long h0, .long l0], oC op 5 [.ref ob, .int n0], aI G ob 229 f, oC (kk c4) 0 [.ref ks, .ref kv, .ref kw, .int (nI q), .int (nI sz), .long h1, .long l1], aI G kv 128 fv, aI G kw 128 fw, aH G ocs 4 (fun j => some (kk j))] H := hP
  have hD : va_D A [oC ox 7 [.ref oc, .ref ot, .ref oo, .ref oe, .ref op, .ref ocs, .ref ods, .long oh, .long ol], oC ot 6 [.int (nI dp), .long sh, .long sl], oC oc 1 [.ref owd, .long e0, .long f0], aI G owd 44 g, oC oe 4 [.long c0, .long h0, .long l0], oC op 5 [.ref ob, .int n0], aI G ob 229 f, oC (kk c4) 0 [.ref ks, .ref kv, .ref kw, .int (nI q), .int (nI sz), .long h1, .long l1], aI G kv 128 fv, aI G kw 128 fw, aH G ocs 4 (fun j => some (kk j))] := hD
  refine W.cs (cells' := 0) (slots' := 0) rfl rfl ?_
  refine W.eq (g2 := F0 m 25 ls [.int (nI (jPk sz)), .int (nI n1)]) rfl ?_
  refine lv_icmp_lt (tgt := 38) hx hb dCK_packet_25 rfl (fun _ => ?_) (fun h => absurd (nI_lt hn (by omega)) h)
  refine lv_aload_n hx hb dCK_packet_38 rfl (lv_at hl 1 rfl) ?_
  refine gfCK_40 hx hb hts hown hG hP 0 rfl rfl dCK_packet_39 ?_
  refine clCK_68 (As := []) (rest := []) hx hb hml hown hts (k_Pa_clear l G op ob n0) hG hA hP hD hS 5 rfl [5] rfl rfl (fun _ => rfl) rfl hl.1 rfl (Nat.le_of_ble_eq_true rfl) ⟨by decide, by decide⟩ ⟨by decide, by decide⟩ dCK_packet_42 (fun _ H locs _ hP hD hS => ?_)
  have hP : va_P G.1 vwCl [oC ox 7 [.ref oc, .ref ot, .ref oo, .ref oe, .ref op, .ref ocs, .ref ods, .long oh, .long ol], oC ot 6 [.int (nI dp), .long sh, .long sl], oC oc 1 [.ref owd, .long e0, .long f0], aI G owd 44 g, oC oe 4 [.long c0, .long h0, .long l0], oC op 5 [.ref ob, .int (nI 0)], aI G ob 229 f, oC (kk c4) 0 [.ref ks, .ref kv, .ref kw, .int (nI q), .int (nI sz), .long h1, .long l1], aI G kv 128 fv, aI G kw 128 fw, aH G ocs 4 (fun j => some (kk j))] H := hP
  have hD : va_D A [oC ox 7 [.ref oc, .ref ot, .ref oo, .ref oe, .ref op, .ref ocs, .ref ods, .long oh, .long ol], oC ot 6 [.int (nI dp), .long sh, .long sl], oC oc 1 [.ref owd, .long e0, .long f0], aI G owd 44 g, oC oe 4 [.long c0, .long h0, .long l0], oC op 5 [.ref ob, .int (nI 0)], aI G ob 229 f, oC (kk c4) 0 [.ref ks, .ref kv, .ref kw, .int (nI q), .int (nI sz), .long h1, .long l1], aI G kv 128 fv, aI G kw 128 fw, aH G ocs 4 (fun j => some (kk j))] := hD
  refine W.cs (cells' := 0) (slots' := 0) rfl rfl ?_
  refine W.eq (g2 := F0 m 45 ls []) rfl ?_
  refine lv_aload_n hx hb dCK_packet_45 rfl (lv_at hl 1 rfl) ?_
  refine gfCK_40 hx hb hts hown hG hP 0 rfl rfl dCK_packet_46 ?_
  refine lv_iload_n hx hb dCK_packet_49 rfl (lv_at hl 2 rfl) ?_
  refine lv_i2l (v := (nI c4).toInt64) hx hb dCK_packet_50 rfl ?_
  refine lv_iconst (v := nI 1) hx hb dCK_packet_51 (by decide) ?_
  refine clCK_121 (As := [.long ((nI c4).toInt64), .int (nI 1)]) (rest := []) hx hb hml hown hts (k_Pa_put l G op ob 0 1 f ((nI c4).toInt64) (by decide)) hG hA hP hD hS 5 rfl [5, 6] rfl rfl (fun _ => rfl) rfl hl.1 rfl (Nat.le_of_ble_eq_true rfl) ⟨by decide, by decide⟩ ⟨by decide, by decide⟩ dCK_packet_52 (fun _ H locs _ hP hD hS => ?_)
  have hP : va_P G.1 vwCl [oC ox 7 [.ref oc, .ref ot, .ref oo, .ref oe, .ref op, .ref ocs, .ref ods, .long oh, .long ol], oC ot 6 [.int (nI dp), .long sh, .long sl], oC oc 1 [.ref owd, .long e0, .long f0], aI G owd 44 g, oC oe 4 [.long c0, .long h0, .long l0], oC op 5 [.ref ob, .int (nI 1)], aI G ob 229 (jPut ((nI c4).toInt64) 1 0 f 1), oC (kk c4) 0 [.ref ks, .ref kv, .ref kw, .int (nI q), .int (nI sz), .long h1, .long l1], aI G kv 128 fv, aI G kw 128 fw, aH G ocs 4 (fun j => some (kk j))] H := hP
  have hD : va_D A [oC ox 7 [.ref oc, .ref ot, .ref oo, .ref oe, .ref op, .ref ocs, .ref ods, .long oh, .long ol], oC ot 6 [.int (nI dp), .long sh, .long sl], oC oc 1 [.ref owd, .long e0, .long f0], aI G owd 44 g, oC oe 4 [.long c0, .long h0, .long l0], oC op 5 [.ref ob, .int (nI 1)], aI G ob 229 (jPut ((nI c4).toInt64) 1 0 f 1), oC (kk c4) 0 [.ref ks, .ref kv, .ref kw, .int (nI q), .int (nI sz), .long h1, .long l1], aI G kv 128 fv, aI G kw 128 fw, aH G ocs 4 (fun j => some (kk j))] := hD
  refine W.cs (cells' := 0) (slots' := 0) rfl rfl ?_
  refine W.eq (g2 := F0 m 55 ls []) rfl ?_
  refine lv_aload_n hx hb dCK_packet_55 rfl (lv_at hl 1 rfl) ?_
  refine gfCK_40 hx hb hts hown hG hP 0 rfl rfl dCK_packet_56 ?_
  refine lv_aload_n hx hb dCK_packet_59 rfl (lv_at hl 0 rfl) ?_
  refine gfCK_93 hx hb hts hown hG hP 7 rfl rfl dCK_packet_60 ?_
  refine lv_i2l (v := (nI q).toInt64) hx hb dCK_packet_63 rfl ?_
  refine lv_iconst (v := nI 2) hx hb dCK_packet_64 (by decide) ?_
  refine clCK_121 (As := [.long ((nI q).toInt64), .int (nI 2)]) (rest := []) hx hb hml hown hts (k_Pa_put l G op ob 1 2 (jPut ((nI c4).toInt64) 1 0 f 1) ((nI q).toInt64) (by decide)) hG hA hP hD hS 5 rfl [5, 6] rfl rfl (fun _ => rfl) rfl hl.1 rfl (Nat.le_of_ble_eq_true rfl) ⟨by decide, by decide⟩ ⟨by decide, by decide⟩ dCK_packet_65 (fun _ H locs _ hP hD hS => ?_)
  have hP : va_P G.1 vwCl [oC ox 7 [.ref oc, .ref ot, .ref oo, .ref oe, .ref op, .ref ocs, .ref ods, .long oh, .long ol], oC ot 6 [.int (nI dp), .long sh, .long sl], oC oc 1 [.ref owd, .long e0, .long f0], aI G owd 44 g, oC oe 4 [.long c0, .long h0, .long l0], oC op 5 [.ref ob, .int (nI 3)], aI G ob 229 (jPut ((nI q).toInt64) 2 1 (jPut ((nI c4).toInt64) 1 0 f 1) 2), oC (kk c4) 0 [.ref ks, .ref kv, .ref kw, .int (nI q), .int (nI sz), .long h1, .long l1], aI G kv 128 fv, aI G kw 128 fw, aH G ocs 4 (fun j => some (kk j))] H := hP
  have hD : va_D A [oC ox 7 [.ref oc, .ref ot, .ref oo, .ref oe, .ref op, .ref ocs, .ref ods, .long oh, .long ol], oC ot 6 [.int (nI dp), .long sh, .long sl], oC oc 1 [.ref owd, .long e0, .long f0], aI G owd 44 g, oC oe 4 [.long c0, .long h0, .long l0], oC op 5 [.ref ob, .int (nI 3)], aI G ob 229 (jPut ((nI q).toInt64) 2 1 (jPut ((nI c4).toInt64) 1 0 f 1) 2), oC (kk c4) 0 [.ref ks, .ref kv, .ref kw, .int (nI q), .int (nI sz), .long h1, .long l1], aI G kv 128 fv, aI G kw 128 fw, aH G ocs 4 (fun j => some (kk j))] := hD
  refine W.cs (cells' := 0) (slots' := 0) rfl rfl ?_
  refine W.eq (g2 := F0 m 68 ls []) rfl ?_
  refine lv_aload_n hx hb dCK_packet_68 rfl (lv_at hl 1 rfl) ?_
  refine gfCK_40 hx hb hts hown hG hP 0 rfl rfl dCK_packet_69 ?_
  refine lv_iload_n hx hb dCK_packet_72 rfl (lv_at hl 3 rfl) ?_
  refine lv_i2l (v := (nI n1).toInt64) hx hb dCK_packet_73 rfl ?_
  refine lv_iconst (v := nI 1) hx hb dCK_packet_74 (by decide) ?_
  refine clCK_121 (As := [.long ((nI n1).toInt64), .int (nI 1)]) (rest := []) hx hb hml hown hts (k_Pa_put l G op ob 3 1 (jPut ((nI q).toInt64) 2 1 (jPut ((nI c4).toInt64) 1 0 f 1) 2) ((nI n1).toInt64) (by decide)) hG hA hP hD hS 5 rfl [5, 6] rfl rfl (fun _ => rfl) rfl hl.1 rfl (Nat.le_of_ble_eq_true rfl) ⟨by decide, by decide⟩ ⟨by decide, by decide⟩ dCK_packet_75 (fun _ H locs _ hP hD hS => ?_)
  have hP : va_P G.1 vwCl [oC ox 7 [.ref oc, .ref ot, .ref oo, .ref oe, .ref op, .ref ocs, .ref ods, .long oh, .long ol], oC ot 6 [.int (nI dp), .long sh, .long sl], oC oc 1 [.ref owd, .long e0, .long f0], aI G owd 44 g, oC oe 4 [.long c0, .long h0, .long l0], oC op 5 [.ref ob, .int (nI 4)], aI G ob 229 (jPut ((nI n1).toInt64) 1 3 (jPut ((nI q).toInt64) 2 1 (jPut ((nI c4).toInt64) 1 0 f 1) 2) 1), oC (kk c4) 0 [.ref ks, .ref kv, .ref kw, .int (nI q), .int (nI sz), .long h1, .long l1], aI G kv 128 fv, aI G kw 128 fw, aH G ocs 4 (fun j => some (kk j))] H := hP
  have hD : va_D A [oC ox 7 [.ref oc, .ref ot, .ref oo, .ref oe, .ref op, .ref ocs, .ref ods, .long oh, .long ol], oC ot 6 [.int (nI dp), .long sh, .long sl], oC oc 1 [.ref owd, .long e0, .long f0], aI G owd 44 g, oC oe 4 [.long c0, .long h0, .long l0], oC op 5 [.ref ob, .int (nI 4)], aI G ob 229 (jPut ((nI n1).toInt64) 1 3 (jPut ((nI q).toInt64) 2 1 (jPut ((nI c4).toInt64) 1 0 f 1) 2) 1), oC (kk c4) 0 [.ref ks, .ref kv, .ref kw, .int (nI q), .int (nI sz), .long h1, .long l1], aI G kv 128 fv, aI G kw 128 fw, aH G ocs 4 (fun j => some (kk j))] := hD
  refine W.cs (cells' := 0) (slots' := 0) rfl rfl ?_
  refine W.eq (g2 := F0 m 78 ls []) rfl ?_
  refine lv_aload_n hx hb dCK_packet_78 rfl (lv_at hl 1 rfl) ?_
  refine gfCK_40 hx hb hts hown hG hP 0 rfl rfl dCK_packet_79 ?_
  refine lv_aload_n hx hb dCK_packet_82 rfl (lv_at hl 0 rfl) ?_
  refine clCK_116 (As := []) (rest := [.ref op]) hx hb hml hown hts (k_Ch_packets l G (kk c4) ks kv kw sz hs (nI q) h1 l1) hG hA hP hD hS 7 rfl [7] rfl rfl (fun _ => rfl) rfl hl.1 rfl (Nat.le_of_ble_eq_true rfl) ⟨by decide, by decide⟩ ⟨by decide, by decide⟩ dCK_packet_83 (fun _ H locs _ hP hD hS => ?_)
  have hP : va_P G.1 vwCl [oC ox 7 [.ref oc, .ref ot, .ref oo, .ref oe, .ref op, .ref ocs, .ref ods, .long oh, .long ol], oC ot 6 [.int (nI dp), .long sh, .long sl], oC oc 1 [.ref owd, .long e0, .long f0], aI G owd 44 g, oC oe 4 [.long c0, .long h0, .long l0], oC op 5 [.ref ob, .int (nI 4)], aI G ob 229 (jPut ((nI n1).toInt64) 1 3 (jPut ((nI q).toInt64) 2 1 (jPut ((nI c4).toInt64) 1 0 f 1) 2) 1), oC (kk c4) 0 [.ref ks, .ref kv, .ref kw, .int (nI q), .int (nI sz), .long h1, .long l1], aI G kv 128 fv, aI G kw 128 fw, aH G ocs 4 (fun j => some (kk j))] H := hP
  have hD : va_D A [oC ox 7 [.ref oc, .ref ot, .ref oo, .ref oe, .ref op, .ref ocs, .ref ods, .long oh, .long ol], oC ot 6 [.int (nI dp), .long sh, .long sl], oC oc 1 [.ref owd, .long e0, .long f0], aI G owd 44 g, oC oe 4 [.long c0, .long h0, .long l0], oC op 5 [.ref ob, .int (nI 4)], aI G ob 229 (jPut ((nI n1).toInt64) 1 3 (jPut ((nI q).toInt64) 2 1 (jPut ((nI c4).toInt64) 1 0 f 1) 2) 1), oC (kk c4) 0 [.ref ks, .ref kv, .ref kw, .int (nI q), .int (nI sz), .long h1, .long l1], aI G kv 128 fv, aI G kw 128 fw, aH G ocs 4 (fun j => some (kk j))] := hD
  refine W.cs (cells' := 0) (slots' := 0) rfl rfl ?_
  refine W.eq (g2 := F0 m 86 ls [.int (nI (jPk sz)), .ref op]) rfl ?_
  refine lv_i2l (v := (nI (jPk sz)).toInt64) hx hb dCK_packet_86 rfl ?_
  refine lv_iconst (v := nI 1) hx hb dCK_packet_87 (by decide) ?_
  refine clCK_121 (As := [.long ((nI (jPk sz)).toInt64), .int (nI 1)]) (rest := []) hx hb hml hown hts (k_Pa_put l G op ob 4 1 (jPut ((nI n1).toInt64) 1 3 (jPut ((nI q).toInt64) 2 1 (jPut ((nI c4).toInt64) 1 0 f 1) 2) 1) ((nI (jPk sz)).toInt64) (by decide)) hG hA hP hD hS 5 rfl [5, 6] rfl rfl (fun _ => rfl) rfl hl.1 rfl (Nat.le_of_ble_eq_true rfl) ⟨by decide, by decide⟩ ⟨by decide, by decide⟩ dCK_packet_88 (fun _ H locs _ hP hD hS => ?_)
  have hP : va_P G.1 vwCl [oC ox 7 [.ref oc, .ref ot, .ref oo, .ref oe, .ref op, .ref ocs, .ref ods, .long oh, .long ol], oC ot 6 [.int (nI dp), .long sh, .long sl], oC oc 1 [.ref owd, .long e0, .long f0], aI G owd 44 g, oC oe 4 [.long c0, .long h0, .long l0], oC op 5 [.ref ob, .int (nI 5)], aI G ob 229 (jPut ((nI (jPk sz)).toInt64) 1 4 (jPut ((nI n1).toInt64) 1 3 (jPut ((nI q).toInt64) 2 1 (jPut ((nI c4).toInt64) 1 0 f 1) 2) 1) 1), oC (kk c4) 0 [.ref ks, .ref kv, .ref kw, .int (nI q), .int (nI sz), .long h1, .long l1], aI G kv 128 fv, aI G kw 128 fw, aH G ocs 4 (fun j => some (kk j))] H := hP
  have hD : va_D A [oC ox 7 [.ref oc, .ref ot, .ref oo, .ref oe, .ref op, .ref ocs, .ref ods, .long oh, .long ol], oC ot 6 [.int (nI dp), .long sh, .long sl], oC oc 1 [.ref owd, .long e0, .long f0], aI G owd 44 g, oC oe 4 [.long c0, .long h0, .long l0], oC op 5 [.ref ob, .int (nI 5)], aI G ob 229 (jPut ((nI (jPk sz)).toInt64) 1 4 (jPut ((nI n1).toInt64) 1 3 (jPut ((nI q).toInt64) 2 1 (jPut ((nI c4).toInt64) 1 0 f 1) 2) 1) 1), oC (kk c4) 0 [.ref ks, .ref kv, .ref kw, .int (nI q), .int (nI sz), .long h1, .long l1], aI G kv 128 fv, aI G kw 128 fw, aH G ocs 4 (fun j => some (kk j))] := hD
  refine W.cs (cells' := 0) (slots' := 0) rfl rfl ?_
  refine W.eq (g2 := F0 m 91 ls []) rfl ?_
  refine lv_aload_n hx hb dCK_packet_91 rfl (lv_at hl 0 rfl) ?_
  refine gfCK_110 hx hb hts hown hG hP 7 rfl rfl dCK_packet_92 ?_
  refine lv_iload_n hx hb dCK_packet_95 rfl (lv_at hl 3 rfl) ?_
  refine lv_iconst (v := nI 1) hx hb dCK_packet_96 (by decide) ?_
  refine lv_iadd hx hb dCK_packet_97 ?_
  refine ck_ri (y := nI (n1 + 1)) (nI_add n1 1) ?_
  refine lv_bipush (v := nI 8) hx hb dCK_packet_98 (by decide) ?_
  refine lv_imul hx hb dCK_packet_100 ?_
  refine ck_ri (y := nI ((n1 + 1) * 8)) (pk_mul (n1 + 1) 8) ?_
  refine va_mmin hx hb (hml.trans hl.1.symm) hown (hts _ kMminL) (hts _ kMminS) (hts _ kMI) (hts _ kMminC) (by decide) (by decide) (by decide) (by decide) dCK_packet_101 ?_
  refine ck_ri (y := nI (jEnd sz n1)) (jEnd_ok (by omega) (by omega)) ?_
  refine lv_istore (lv' := [(4, .int (nI (jEnd sz n1))), (3, .ref (kk c4)), (0, .ref ox), (1, .int (nI c4)), (2, .int (nI n1))]) hx hb dCK_packet_104 hl (by decide) rfl (fun ls hl => ?_)
  refine lv_iload_n hx hb dCK_packet_106 rfl (lv_at hl 4 rfl) ?_
  refine lv_bipush (v := nI 8) hx hb dCK_packet_107 (by decide) ?_
  refine lv_imul hx hb dCK_packet_109 ?_
  refine ck_ri (y := nI (n1 * 8)) (pk_mul n1 8) ?_
  refine lv_istore (lv' := [(5, .int (nI (n1 * 8))), (4, .int (nI (jEnd sz n1))), (3, .ref (kk c4)), (0, .ref ox), (1, .int (nI c4)), (2, .int (nI n1))]) hx hb dCK_packet_110 hl (by decide) rfl (fun ls hl => ?_)
  have loop : ∀ (k : Nat) (i : Nat) (g1 : Nat → Int32) (e1 : Int64) (f1 : Int64) (c2 : Int64) (h2 : Int64) (l2 : Int64) (H : Heap) (locs : List Loc) (ls : Array Slot), i + k = jEnd sz n1 - n1 * 8 → va_P G.1 vwCl [oC ox 7 [.ref oc, .ref ot, .ref oo, .ref oe, .ref op, .ref ocs, .ref ods, .long oh, .long ol], oC ot 6 [.int (nI dp), .long sh, .long sl], oC oc 1 [.ref owd, .long e1, .long f1], aI G owd 44 g1, oC oe 4 [.long c2, .long h2, .long l2], oC op 5 [.ref ob, .int (nI (5 + 28 * i))], aI G ob 229 (jEts (jHd f c4 q n1 (jPk sz)) fv fw (n1 * 8) sh sl h1 l1 i), oC (kk c4) 0 [.ref ks, .ref kv, .ref kw, .int (nI q), .int (nI sz), .long h1, .long l1], aI G kv 128 fv, aI G kw 128 fw, aH G ocs 4 (fun j => some (kk j))] H → va_D A [oC ox 7 [.ref oc, .ref ot, .ref oo, .ref oe, .ref op, .ref ocs, .ref ods, .long oh, .long ol], oC ot 6 [.int (nI dp), .long sh, .long sl], oC oc 1 [.ref owd, .long e1, .long f1], aI G owd 44 g1, oC oe 4 [.long c2, .long h2, .long l2], oC op 5 [.ref ob, .int (nI (5 + 28 * i))], aI G ob 229 (jEts (jHd f c4 q n1 (jPk sz)) fv fw (n1 * 8) sh sl h1 l1 i), oC (kk c4) 0 [.ref ks, .ref kv, .ref kw, .int (nI q), .int (nI sz), .long h1, .long l1], aI G kv 128 fv, aI G kw 128 fw, aH G ocs 4 (fun j => some (kk j))] → va_S A s.heap H locs → lv_has ls 6 [(0, .ref ox), (3, .ref (kk c4)), (4, .int (nI (jEnd sz n1))), (5, .int (nI (n1 * 8 + i)))] → W p l e { frames := 6, cells := 0, slots := 0, locals := 145 } s m args below meth c H locs 0 0 (MQ below (cq_out G (S := (Nat → Int32) × Int64 × Int64 × Int64 × Int64 × Int64) (fun _ => True) (fun u => some (.int (nI (5 + 28 * (jEnd sz n1 - n1 * 8))))) (fun u => [oC ox 7 [.ref oc, .ref ot, .ref oo, .ref oe, .ref op, .ref ocs, .ref ods, .long oh, .long ol], oC ot 6 [.int (nI dp), .long sh, .long sl], oC oc 1 [.ref owd, .long u.2.1, .long u.2.2.1], aI G owd 44 u.1, oC oe 4 [.long u.2.2.2.1, .long u.2.2.2.2.1, .long u.2.2.2.2.2], oC op 5 [.ref ob, .int (nI (5 + 28 * (jEnd sz n1 - n1 * 8)))], aI G ob 229 (jEts (jHd f c4 q n1 (jPk sz)) fv fw (n1 * 8) sh sl h1 l1 (jEnd sz n1 - n1 * 8)), oC (kk c4) 0 [.ref ks, .ref kv, .ref kw, .int (nI q), .int (nI sz), .long h1, .long l1], aI G kv 128 fv, aI G kw 128 fw, aH G ocs 4 (fun j => some (kk j))]) A) args s 0 0 A) (F0 m 112 ls []) := by
    intro k
    induction k with
    | zero =>
      intro i g1 e1 f1 c2 h2 l2 H locs ls hk hP hD hS hl
      refine lv_iload hx hb dCK_packet_112 (lv_at hl 3 rfl) ?_
      refine lv_iload hx hb dCK_packet_114 (lv_at hl 2 rfl) ?_
      refine lv_icmp_ge (tgt := 132) hx hb dCK_packet_116 rfl (fun _ => ?_) (fun h => absurd (nI_le (by omega) (by omega)) h)
      refine lv_aload_n hx hb dCK_packet_132 rfl (lv_at hl 0 rfl) ?_
      refine gfCK_40 hx hb hts hown hG hP 0 rfl rfl dCK_packet_133 ?_
      refine gfCK_135 hx hb hts hown hG hP 5 rfl rfl dCK_packet_136 ?_
      exact cq_iret (g1, e1, f1, c2, h2, l2) (trivial) hx hb hr hlk hP hS (by rw [show jEnd sz n1 - n1 * 8 = i by omega]) (by rw [show jEnd sz n1 - n1 * 8 = i by omega]) dCK_packet_139
    | succ k ih =>
      intro i g1 e1 f1 c2 h2 l2 H locs ls hk hP hD hS hl
      refine lv_iload hx hb dCK_packet_112 (lv_at hl 3 rfl) ?_
      refine lv_iload hx hb dCK_packet_114 (lv_at hl 2 rfl) ?_
      refine lv_icmp_ge (tgt := 132) hx hb dCK_packet_116 rfl (fun h => absurd h (nI_ge (by omega) (by omega))) (fun _ => ?_)
      refine lv_aload_n hx hb dCK_packet_119 rfl (lv_at hl 0 rfl) ?_
      refine lv_aload_n hx hb dCK_packet_120 rfl (lv_at hl 1 rfl) ?_
      refine lv_iload hx hb dCK_packet_121 (lv_at hl 3 rfl) ?_
      have hC9 := k_CK_putEntry l G ox oc owd ot oo om oe op ob ocs ods oh ol kk ks kv kw c4 hc dp sh sl g1 e1 f1 c2 h2 l2 h1 l1 (nI q) (nI sz) fv fw (jEts (jHd f c4 q n1 (jPk sz)) fv fw (n1 * 8) sh sl h1 l1 i) (5 + 28 * i) (n1 * 8 + i) (jLv (fw (n1 * 8 + i)) (fv (n1 * 8 + i))) (by omega) (by omega) (jLv_le _ _) (hlv _ (by omega))
      have e9 : jEts (jHd f c4 q n1 (jPk sz)) fv fw (n1 * 8) sh sl h1 l1 (i + 1) = jEnt (5 + 28 * i) (jEts (jHd f c4 q n1 (jPk sz)) fv fw (n1 * 8) sh sl h1 l1 i) (fv (n1 * 8 + i)) (fw (n1 * 8 + i)) (jWr (jKey (jKy sh sl (fv (n1 * 8 + i)) (fw (n1 * 8 + i)) (jLv (fw (n1 * 8 + i)) (fv (n1 * 8 + i)))).1 (jKy sh sl (fv (n1 * 8 + i)) (fw (n1 * 8 + i)) (jLv (fw (n1 * 8 + i)) (fv (n1 * 8 + i)))).2) (jSeal, h1, l1) 12) := rfl
      generalize jWr (jKey (jKy sh sl (fv (n1 * 8 + i)) (fw (n1 * 8 + i)) (jLv (fw (n1 * 8 + i)) (fv (n1 * 8 + i)))).1 (jKy sh sl (fv (n1 * 8 + i)) (fw (n1 * 8 + i)) (jLv (fw (n1 * 8 + i)) (fv (n1 * 8 + i)))).2) (jSeal, h1, l1) 12 = q3 at hC9 e9
      refine clCK_131 (As := [.ref (kk c4), .int (nI (n1 * 8 + i))]) (rest := []) hx hb hml hown hts hC9 hG hA hP hD hS 0 rfl [0, 1, 2, 3, 4, 5, 6, 7, 8, 9] rfl rfl (fun _ => rfl) rfl hl.1 rfl (Nat.le_of_ble_eq_true rfl) ⟨by decide, by decide⟩ ⟨by decide, by decide⟩ dCK_packet_123 (fun u9 H locs _ hP hD hS => ?_)
      have hP : va_P G.1 vwCl [oC ox 7 [.ref oc, .ref ot, .ref oo, .ref oe, .ref op, .ref ocs, .ref ods, .long oh, .long ol], oC ot 6 [.int (nI dp), .long sh, .long sl], oC oc 1 [.ref owd, .long u9.2.1, .long u9.2.2], aI G owd 44 u9.1, oC oe 4 [.long q3.1, .long q3.2.1, .long q3.2.2], oC op 5 [.ref ob, .int (nI (5 + 28 * i + 28))], aI G ob 229 (jEnt (5 + 28 * i) (jEts (jHd f c4 q n1 (jPk sz)) fv fw (n1 * 8) sh sl h1 l1 i) (fv (n1 * 8 + i)) (fw (n1 * 8 + i)) q3), oC (kk c4) 0 [.ref ks, .ref kv, .ref kw, .int (nI q), .int (nI sz), .long h1, .long l1], aI G kv 128 fv, aI G kw 128 fw, aH G ocs 4 (fun j => some (kk j))] H := hP
      have hD : va_D A [oC ox 7 [.ref oc, .ref ot, .ref oo, .ref oe, .ref op, .ref ocs, .ref ods, .long oh, .long ol], oC ot 6 [.int (nI dp), .long sh, .long sl], oC oc 1 [.ref owd, .long u9.2.1, .long u9.2.2], aI G owd 44 u9.1, oC oe 4 [.long q3.1, .long q3.2.1, .long q3.2.2], oC op 5 [.ref ob, .int (nI (5 + 28 * i + 28))], aI G ob 229 (jEnt (5 + 28 * i) (jEts (jHd f c4 q n1 (jPk sz)) fv fw (n1 * 8) sh sl h1 l1 i) (fv (n1 * 8 + i)) (fw (n1 * 8 + i)) q3), oC (kk c4) 0 [.ref ks, .ref kv, .ref kw, .int (nI q), .int (nI sz), .long h1, .long l1], aI G kv 128 fv, aI G kw 128 fw, aH G ocs 4 (fun j => some (kk j))] := hD
      refine W.cs (cells' := 0) (slots' := 0) rfl rfl ?_
      refine W.eq (g2 := F0 m 126 ls []) rfl ?_
      have hP9 : va_P G.1 vwCl [oC ox 7 [.ref oc, .ref ot, .ref oo, .ref oe, .ref op, .ref ocs, .ref ods, .long oh, .long ol], oC ot 6 [.int (nI dp), .long sh, .long sl], oC oc 1 [.ref owd, .long u9.2.1, .long u9.2.2], aI G owd 44 u9.1, oC oe 4 [.long q3.1, .long q3.2.1, .long q3.2.2], oC op 5 [.ref ob, .int (nI (5 + 28 * (i + 1)))], aI G ob 229 (jEts (jHd f c4 q n1 (jPk sz)) fv fw (n1 * 8) sh sl h1 l1 (i + 1)), oC (kk c4) 0 [.ref ks, .ref kv, .ref kw, .int (nI q), .int (nI sz), .long h1, .long l1], aI G kv 128 fv, aI G kw 128 fw, aH G ocs 4 (fun j => some (kk j))] H := by rw [e9]; exact hP
      have hD9 : va_D A [oC ox 7 [.ref oc, .ref ot, .ref oo, .ref oe, .ref op, .ref ocs, .ref ods, .long oh, .long ol], oC ot 6 [.int (nI dp), .long sh, .long sl], oC oc 1 [.ref owd, .long u9.2.1, .long u9.2.2], aI G owd 44 u9.1, oC oe 4 [.long q3.1, .long q3.2.1, .long q3.2.2], oC op 5 [.ref ob, .int (nI (5 + 28 * (i + 1)))], aI G ob 229 (jEts (jHd f c4 q n1 (jPk sz)) fv fw (n1 * 8) sh sl h1 l1 (i + 1)), oC (kk c4) 0 [.ref ks, .ref kv, .ref kw, .int (nI q), .int (nI sz), .long h1, .long l1], aI G kv 128 fv, aI G kw 128 fw, aH G ocs 4 (fun j => some (kk j))] := by rw [e9]; exact hD
      refine lv_iinc (v := nI (n1 * 8 + (i + 1))) (lv' := [(5, .int (nI (n1 * 8 + (i + 1)))), (0, .ref ox), (3, .ref (kk c4)), (4, .int (nI (jEnd sz n1)))]) hx hb dCK_packet_126 hl (k := 3) rfl (nI_1 _) (by decide) rfl (fun ls hl => ?_)
      refine lv_goto (tgt := 112) hx hb dCK_packet_129 rfl ?_
      exact ih (i + 1) _ _ _ _ _ _ _ _ _ (by omega) hP9 hD9 hS (lv_sub hl [1, 2, 3, 0] rfl)
  exact loop (jEnd sz n1 - n1 * 8) 0 _ _ _ _ _ _ _ _ _ (by omega) hP hD hS (lv_sub hl [3, 2, 1, 0] rfl)
set_option maxHeartbeats 4000000 in
set_option maxRecDepth 100000 in
theorem x_CK_packet1 (l : Launch) (hl0 : l.stackTraces = false) (G : gG) (ox : Nat) (c1 n1 : Int32) (hc : jIn 4 c1 = false) : Cx l G yCK_packet cCK_packet 6 (some .int) { frames := 7, cells := 1, slots := 6, locals := 102 } [.ref ox, .int c1, .int n1] [] "java/lang/IndexOutOfBoundsException" [] := by
  refine Cx.of (by decide) (Nat.le_of_ble_eq_true rfl) ?_
  intro p e s m args below meth c A ls hx hb hr hml hts hown hlk htb hA hP hD hG hS hl
  have hl : lv_has ls 6 [(0, .ref ox), (1, .int c1), (2, .int n1)] := hl
  refine lv_iload_n hx hb dCK_packet_0 rfl (lv_at hl 1 rfl) ?_
  exact cxCK_86 (As := [.int c1]) (rest := []) hx hb hml hown hts (x_CK_checkChannel l hl0 G c1 hc) hG hA hP hD hS [] rfl rfl rfl rfl hl.1 rfl (Nat.le_of_ble_eq_true rfl) ⟨by decide, by decide⟩ ⟨by decide, by decide⟩ dCK_packet_1 htb hlk (by decide) (by decide)
set_option maxHeartbeats 4000000 in
set_option maxRecDepth 100000 in
theorem x_CK_packet2 (l : Launch) (hl0 : l.stackTraces = false) (G : gG) (ox oc ot oo oe op ocs ods : Nat) (oh ol : Int64) (kk : Nat → Nat) (ks kv kw c4 : Nat) (hc : c4 < 4) (s1 n1 : Int32) (h1 l1 : Int64) : Cx l G yCK_packet cCK_packet 6 (some .int) { frames := 7, cells := 1, slots := 6, locals := 103 } [.ref ox, .int (nI c4), .int n1] [oC ox 7 [.ref oc, .ref ot, .ref oo, .ref oe, .ref op, .ref ocs, .ref ods, .long oh, .long ol], aH G ocs 4 (fun j => some (kk j)), oC (kk c4) 0 [.ref ks, .ref kv, .ref kw, .int (nI 0), .int s1, .long h1, .long l1]] "java/lang/IllegalStateException" [oC ox 7 [.ref oc, .ref ot, .ref oo, .ref oe, .ref op, .ref ocs, .ref ods, .long oh, .long ol], aH G ocs 4 (fun j => some (kk j)), oC (kk c4) 0 [.ref ks, .ref kv, .ref kw, .int (nI 0), .int s1, .long h1, .long l1]] := by
  refine Cx.of (by decide) (Nat.le_of_ble_eq_true rfl) ?_
  intro p e s m args below meth c A ls hx hb hr hml hts hown hlk htb hA hP hD hG hS hl
  have hl : lv_has ls 6 [(0, .ref ox), (1, .int (nI c4)), (2, .int n1)] := hl
  refine lv_iload_n hx hb dCK_packet_0 rfl (lv_at hl 1 rfl) ?_
  refine clCK_86 (As := [.int (nI c4)]) (rest := []) hx hb hml hown hts (k_CK_checkChannel l G (nI c4) (jIn_nI (by decide) hc)) hG hA hP hD hS [] rfl rfl (fun _ => rfl) rfl hl.1 rfl (Nat.le_of_ble_eq_true rfl) ⟨by decide, by decide⟩ ⟨by decide, by decide⟩ dCK_packet_1 (fun _ H locs _ hP hD hS => ?_)
  have hP : va_P G.1 vwCl [oC ox 7 [.ref oc, .ref ot, .ref oo, .ref oe, .ref op, .ref ocs, .ref ods, .long oh, .long ol], aH G ocs 4 (fun j => some (kk j)), oC (kk c4) 0 [.ref ks, .ref kv, .ref kw, .int (nI 0), .int s1, .long h1, .long l1]] H := hP
  have hD : va_D A [oC ox 7 [.ref oc, .ref ot, .ref oo, .ref oe, .ref op, .ref ocs, .ref ods, .long oh, .long ol], aH G ocs 4 (fun j => some (kk j)), oC (kk c4) 0 [.ref ks, .ref kv, .ref kw, .int (nI 0), .int s1, .long h1, .long l1]] := hD
  refine W.cs (cells' := 0) (slots' := 0) rfl rfl ?_
  refine W.eq (g2 := F0 m 4 ls []) rfl ?_
  refine lv_aload_n hx hb dCK_packet_4 rfl (lv_at hl 0 rfl) ?_
  refine lv_iload_n hx hb dCK_packet_5 rfl (lv_at hl 1 rfl) ?_
  exact cxCK_113 (As := [.int (nI c4)]) (rest := []) hx hb hml hown hts (x_CK_checkBegan l hl0 G ox oc ot oo oe op ocs ods oh ol kk ks kv kw c4 hc s1 h1 l1) hG hA hP hD hS 0 rfl [0, 1, 2] rfl rfl rfl rfl hl.1 rfl (Nat.le_of_ble_eq_true rfl) ⟨by decide, by decide⟩ ⟨by decide, by decide⟩ dCK_packet_6 htb hlk (by decide) (by decide)
set_option maxHeartbeats 4000000 in
set_option maxRecDepth 100000 in
theorem x_CK_packet3 (l : Launch) (hl0 : l.stackTraces = false) (G : gG) (ox oc ot oo oe op ocs ods : Nat) (oh ol : Int64) (kk : Nat → Nat) (ks kv kw c4 : Nat) (hc : c4 < 4) (q sz : Nat) (hq : 0 < q) (hq2 : q < 2 ^ 30) (hs : sz ≤ 128) (n1 : Int32) (h1 l1 : Int64) (hn : jIn (jPk sz) n1 = false) : Cx l G yCK_packet cCK_packet 6 (some .int) { frames := 6, cells := 1, slots := 6, locals := 82 } [.ref ox, .int (nI c4), .int n1] [oC ox 7 [.ref oc, .ref ot, .ref oo, .ref oe, .ref op, .ref ocs, .ref ods, .long oh, .long ol], aH G ocs 4 (fun j => some (kk j)), oC (kk c4) 0 [.ref ks, .ref kv, .ref kw, .int (nI q), .int (nI sz), .long h1, .long l1]] "java/lang/IllegalArgumentException" [oC ox 7 [.ref oc, .ref ot, .ref oo, .ref oe, .ref op, .ref ocs, .ref ods, .long oh, .long ol], aH G ocs 4 (fun j => some (kk j)), oC (kk c4) 0 [.ref ks, .ref kv, .ref kw, .int (nI q), .int (nI sz), .long h1, .long l1]] := by
  refine Cx.of (by decide) (Nat.le_of_ble_eq_true rfl) ?_
  intro p e s m args below meth c A ls hx hb hr hml hts hown hlk htb hA hP hD hG hS hl
  have hl : lv_has ls 6 [(0, .ref ox), (1, .int (nI c4)), (2, .int n1)] := hl
  refine lv_iload_n hx hb dCK_packet_0 rfl (lv_at hl 1 rfl) ?_
  refine clCK_86 (As := [.int (nI c4)]) (rest := []) hx hb hml hown hts (k_CK_checkChannel l G (nI c4) (jIn_nI (by decide) hc)) hG hA hP hD hS [] rfl rfl (fun _ => rfl) rfl hl.1 rfl (Nat.le_of_ble_eq_true rfl) ⟨by decide, by decide⟩ ⟨by decide, by decide⟩ dCK_packet_1 (fun _ H locs _ hP hD hS => ?_)
  have hP : va_P G.1 vwCl [oC ox 7 [.ref oc, .ref ot, .ref oo, .ref oe, .ref op, .ref ocs, .ref ods, .long oh, .long ol], aH G ocs 4 (fun j => some (kk j)), oC (kk c4) 0 [.ref ks, .ref kv, .ref kw, .int (nI q), .int (nI sz), .long h1, .long l1]] H := hP
  have hD : va_D A [oC ox 7 [.ref oc, .ref ot, .ref oo, .ref oe, .ref op, .ref ocs, .ref ods, .long oh, .long ol], aH G ocs 4 (fun j => some (kk j)), oC (kk c4) 0 [.ref ks, .ref kv, .ref kw, .int (nI q), .int (nI sz), .long h1, .long l1]] := hD
  refine W.cs (cells' := 0) (slots' := 0) rfl rfl ?_
  refine W.eq (g2 := F0 m 4 ls []) rfl ?_
  refine lv_aload_n hx hb dCK_packet_4 rfl (lv_at hl 0 rfl) ?_
  refine lv_iload_n hx hb dCK_packet_5 rfl (lv_at hl 1 rfl) ?_
  refine clCK_113 (As := [.int (nI c4)]) (rest := []) hx hb hml hown hts (k_CK_checkBegan l G ox oc ot oo oe op ocs ods oh ol kk ks kv kw c4 hc q hq hq2 (nI sz) h1 l1) hG hA hP hD hS 0 rfl [0, 1, 2] rfl rfl (fun _ => rfl) rfl hl.1 rfl (Nat.le_of_ble_eq_true rfl) ⟨by decide, by decide⟩ ⟨by decide, by decide⟩ dCK_packet_6 (fun _ H locs _ hP hD hS => ?_)
  have hP : va_P G.1 vwCl [oC ox 7 [.ref oc, .ref ot, .ref oo, .ref oe, .ref op, .ref ocs, .ref ods, .long oh, .long ol], aH G ocs 4 (fun j => some (kk j)), oC (kk c4) 0 [.ref ks, .ref kv, .ref kw, .int (nI q), .int (nI sz), .long h1, .long l1]] H := hP
  have hD : va_D A [oC ox 7 [.ref oc, .ref ot, .ref oo, .ref oe, .ref op, .ref ocs, .ref ods, .long oh, .long ol], aH G ocs 4 (fun j => some (kk j)), oC (kk c4) 0 [.ref ks, .ref kv, .ref kw, .int (nI q), .int (nI sz), .long h1, .long l1]] := hD
  refine W.cs (cells' := 0) (slots' := 0) rfl rfl ?_
  refine W.eq (g2 := F0 m 9 ls []) rfl ?_
  refine lv_aload_n hx hb dCK_packet_9 rfl (lv_at hl 0 rfl) ?_
  refine gfCK_46 hx hb hts hown hG hP 0 rfl rfl dCK_packet_10 ?_
  refine lv_iload_n hx hb dCK_packet_13 rfl (lv_at hl 1 rfl) ?_
  refine ck_hald (v := .ref (kk c4)) hx hb hG hP 1 rfl (by decide) c4 (rfl) (hc) (rfl) dCK_packet_14 ?_
  refine lv_astore_n (lv' := [(3, .ref (kk c4)), (0, .ref ox), (1, .int (nI c4)), (2, .int n1)]) hx hb dCK_packet_15 rfl hl (by decide) rfl (fun ls hl => ?_)
  refine lv_iload_n hx hb dCK_packet_16 rfl (lv_at hl 3 rfl) ?_
  refine lv_if_lt (tgt := 28) hx hb dCK_packet_17 rfl (fun h5 => ?_) (fun h5 => ?_)
  · have b_h5 := decide_eq_true h5
    exact cxIAE (sx := 119) (tx := "no such packet") hl0 hx hb hml hown hts htb hlk hG hP hS hl.1 (by decide) dCK_packet_28 dCK_packet_31 dCK_packet_32 dCK_packet_34 dCK_packet_37 (by decide) (Nat.le_of_ble_eq_true rfl) (by decide) (by decide) (by decide) (by decide)
  · have b_h5 := decide_eq_false h5
    refine lv_iload_n hx hb dCK_packet_20 rfl (lv_at hl 3 rfl) ?_
    refine lv_aload_n hx hb dCK_packet_21 rfl (lv_at hl 0 rfl) ?_
    refine clCK_116 (As := []) (rest := [.int n1]) hx hb hml hown hts (k_Ch_packets l G (kk c4) ks kv kw sz hs (nI q) h1 l1) hG hA hP hD hS 2 rfl [2] rfl rfl (fun _ => rfl) rfl hl.1 rfl (Nat.le_of_ble_eq_true rfl) ⟨by decide, by decide⟩ ⟨by decide, by decide⟩ dCK_packet_22 (fun _ H locs _ hP hD hS => ?_)
    have hP : va_P G.1 vwCl [oC ox 7 [.ref oc, .ref ot, .ref oo, .ref oe, .ref op, .ref ocs, .ref ods, .long oh, .long ol], aH G ocs 4 (fun j => some (kk j)), oC (kk c4) 0 [.ref ks, .ref kv, .ref kw, .int (nI q), .int (nI sz), .long h1, .long l1]] H := hP
    have hD : va_D A [oC ox 7 [.ref oc, .ref ot, .ref oo, .ref oe, .ref op, .ref ocs, .ref ods, .long oh, .long ol], aH G ocs 4 (fun j => some (kk j)), oC (kk c4) 0 [.ref ks, .ref kv, .ref kw, .int (nI q), .int (nI sz), .long h1, .long l1]] := hD
    refine W.cs (cells' := 0) (slots' := 0) rfl rfl ?_
    refine W.eq (g2 := F0 m 25 ls [.int (nI (jPk sz)), .int n1]) rfl ?_
    refine lv_icmp_lt (tgt := 38) hx hb dCK_packet_25 rfl (fun h => absurd h (jIn_lt hn h5)) (fun _ => ?_)
    exact cxIAE (sx := 119) (tx := "no such packet") hl0 hx hb hml hown hts htb hlk hG hP hS hl.1 (by decide) dCK_packet_28 dCK_packet_31 dCK_packet_32 dCK_packet_34 dCK_packet_37 (by decide) (Nat.le_of_ble_eq_true rfl) (by decide) (by decide) (by decide) (by decide)
