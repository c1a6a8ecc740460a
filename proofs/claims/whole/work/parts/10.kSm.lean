/-! channels, packets, decoders, envelopes -/
def jAq (q : Nat) : Nat := if q < 128 then q + 1 else q
def jAf (q : Nat) (f : Nat → Int32) (x : Int32) : Nat → Int32 := if q < 128 then upd f q x else f
def jPk (q : Nat) : Nat := if 1 < (q + 7) / 8 then (q + 7) / 8 else 1
theorem jPk_ok {q : Nat} (h : q < 2 ^ 30) : (if nI 1 < nI ((q + 7) / 8) then nI ((q + 7) / 8) else nI 1) = nI (jPk q) := by
  unfold jPk
  by_cases h1 : 1 < (q + 7) / 8
  · rw [if_pos h1, if_pos ((nI_ltI (by omega) (by omega)).mpr h1)]
  · rw [if_neg h1, if_neg (fun z => h1 ((nI_ltI (by omega) (by omega)).mp z))]
theorem jm1_sub (z : Nat) : nI z - nI 1 = jm1 z := by
  cases z with
  | zero => decide
  | succ z => exact pk_sub (by omega)
theorem jm1_dec (k : Nat) : nI k + Int32.ofInt (-1) = jm1 k := by
  cases k with
  | zero => decide
  | succ k => exact pk_m1 k
/-- the bytes of v, the highest first, from place q on -/
def jPut (v : Int64) (z q : Nat) (f : Nat → Int32) : Nat → (Nat → Int32)
  | 0 => f
  | n + 1 => upd (jPut v z q f n) (q + n) ((lush v (nI 8 * nI (z - 1 - n))).toInt32 &&& nI 255)
def jRd (f : Nat → Int32) (a : Nat) : Nat → Int64
  | 0 => lN 0
  | n + 1 => lsh (jRd f a n) (nI 8) ||| (f (a + n)).toInt64
def jSel (t : Nat) (x y : Int64) : Int64 := if t % 2 = 1 then x else y
abbrev Q3 : Type := Int64 × Int64 × Int64
def jWs (w : Nat → Int32) (t : Nat) (c h l : Int64) : Q3 := (jEH w c (jSel t h l) ^^^ (nI t).toInt64, jSel t (jEL w c (jSel t h l)) h, jSel t l (jEL w c (jSel t h l)))
def jWr (w : Nat → Int32) (q : Q3) : Nat → Q3
  | 0 => q
  | n + 1 => jWs w (n + 1) (jWr w q n).1 (jWr w q n).2.1 (jWr w q n).2.2
def jUs (w : Nat → Int32) (t : Nat) (c h l : Int64) : Q3 := (jDH w (c ^^^ (nI t).toInt64) (jSel t h l), jSel t (jDL w (c ^^^ (nI t).toInt64) (jSel t h l)) h, jSel t l (jDL w (c ^^^ (nI t).toInt64) (jSel t h l)))
def jUw (w : Nat → Int32) (q : Q3) : Nat → Q3
  | 0 => q
  | n + 1 => jUs w (12 - n) (jUw w q n).1 (jUw w q n).2.1 (jUw w q n).2.2
abbrev jSeal : Int64 := lN 12008468691120727718
set_option maxHeartbeats 4000000 in
set_option maxRecDepth 100000 in
theorem k_Ch_clear (l : Launch) (G : gG) (ok os ov ow : Nat) (f : Nat → Int32) (p0 s0 : Int32) (h l1 : Int64) : Ck l G yCh_clear cCh_clear 2 none { frames := 0, cells := 0, slots := 0, locals := 0 } [.ref ok] [oC ok 0 [.ref os, .ref ov, .ref ow, .int p0, .int s0, .long h, .long l1], aZ G os 256 f] (none) [oC ok 0 [.ref os, .ref ov, .ref ow, .int (nI 0), .int (nI 0), .long h, .long l1], aZ G os 256 (fun _ => nI 0)] := by
  refine Cq.of (by decide) (Nat.le_of_ble_eq_true rfl) ?_
  intro p e s m args below meth c A ls hx hb hr hml hts hown hlk hA hP hD hG hS hl
  have hl : lv_has ls 2 [(0, .ref ok)] := hl
  refine lv_aload_n hx hb dCh_clear_0 rfl (lv_at hl 0 rfl) ?_
  refine lv_iconst (v := nI 0) hx hb dCh_clear_1 (by decide) ?_
  refine pfCh_22 hx hb hts hown hG hP hD hS 0 rfl rfl rfl (Nat.le_of_ble_eq_true rfl) dCh_clear_2 (fun H locs hP hD hS => ?_)
  have hP : va_P G.1 vwCl [oC ok 0 [.ref os, .ref ov, .ref ow, .int (nI 0), .int s0, .long h, .long l1], aZ G os 256 f] H := hP
  have hD : va_D A [oC ok 0 [.ref os, .ref ov, .ref ow, .int (nI 0), .int s0, .long h, .long l1], aZ G os 256 f] := hD
  refine lv_aload_n hx hb dCh_clear_5 rfl (lv_at hl 0 rfl) ?_
  refine lv_iconst (v := nI 0) hx hb dCh_clear_6 (by decide) ?_
  refine pfCh_26 hx hb hts hown hG hP hD hS 0 rfl rfl rfl (Nat.le_of_ble_eq_true rfl) dCh_clear_7 (fun H locs hP hD hS => ?_)
  have hP : va_P G.1 vwCl [oC ok 0 [.ref os, .ref ov, .ref ow, .int (nI 0), .int (nI 0), .long h, .long l1], aZ G os 256 f] H := hP
  have hD : va_D A [oC ok 0 [.ref os, .ref ov, .ref ow, .int (nI 0), .int (nI 0), .long h, .long l1], aZ G os 256 f] := hD
  refine lv_iconst (v := nI 0) hx hb dCh_clear_10 (by decide) ?_
  refine lv_istore_n (lv' := [(1, .int (nI 0)), (0, .ref ok)]) hx hb dCh_clear_11 rfl hl (by decide) rfl (fun ls hl => ?_)
  have loop : ∀ (k : Nat) (n : Nat) (H : Heap) (locs : List Loc) (ls : Array Slot), n + k = 256 → va_P G.1 vwCl [oC ok 0 [.ref os, .ref ov, .ref ow, .int (nI 0), .int (nI 0), .long h, .long l1], aZ G os 256 (jFill f (nI 0) n)] H → va_D A [oC ok 0 [.ref os, .ref ov, .ref ow, .int (nI 0), .int (nI 0), .long h, .long l1], aZ G os 256 (jFill f (nI 0) n)] → va_S A s.heap H locs → lv_has ls 2 [(0, .ref ok), (1, .int (nI n))] → W p l e { frames := 0, cells := 0, slots := 0, locals := 0 } s m args below meth c H locs 0 0 (MQ below (cq_out G (S := Unit) (fun _ => True) (fun _ => (none)) (fun _ => [oC ok 0 [.ref os, .ref ov, .ref ow, .int (nI 0), .int (nI 0), .long h, .long l1], aZ G os 256 (fun _ => nI 0)]) A) args s 0 0 A) (F0 m 12 ls []) := by
    intro k
    induction k with
    | zero =>
      intro n H locs ls hk hP hD hS hl
      refine lv_iload_n hx hb dCh_clear_12 rfl (lv_at hl 1 rfl) ?_
      refine lv_sipush (v := nI 256) hx hb dCh_clear_13 (by decide) ?_
      refine lv_icmp_ge (tgt := 32) hx hb dCh_clear_16 rfl (fun _ => ?_) (fun h => absurd (nI_le (by omega) (by omega)) h)
      have hP := ck_cg hP 1 rfl (g := fun _ => nI 0) (fun j hj => jFill_lt f (nI 0) n j (by omega))
      exact cq_vret () (trivial) hx hb hr hlk hP hS rfl (rfl) dCh_clear_32
    | succ k ih =>
      intro n H locs ls hk hP hD hS hl
      refine lv_iload_n hx hb dCh_clear_12 rfl (lv_at hl 1 rfl) ?_
      refine lv_sipush (v := nI 256) hx hb dCh_clear_13 (by decide) ?_
      refine lv_icmp_ge (tgt := 32) hx hb dCh_clear_16 rfl (fun h => absurd h (nI_ge (by omega) (by omega))) (fun _ => ?_)
      refine lv_aload_n hx hb dCh_clear_19 rfl (lv_at hl 0 rfl) ?_
      refine gfCh_9 hx hb hts hown hG hP 0 rfl rfl dCh_clear_20 ?_
      refine lv_iload_n hx hb dCh_clear_23 rfl (lv_at hl 1 rfl) ?_
      refine lv_iconst (v := nI 0) hx hb dCh_clear_24 (by decide) ?_
      refine ck_zast (x' := nI 0) hx hb hG hP hD hS 1 rfl (by decide) n (rfl) (by omega) (rfl) dCh_clear_25 (fun H locs hP hD hS => ?_)
      have hP : va_P G.1 vwCl [oC ok 0 [.ref os, .ref ov, .ref ow, .int (nI 0), .int (nI 0), .long h, .long l1], aZ G os 256 (upd (jFill f (nI 0) n) n (nI 0))] H := hP
      have hD : va_D A [oC ok 0 [.ref os, .ref ov, .ref ow, .int (nI 0), .int (nI 0), .long h, .long l1], aZ G os 256 (upd (jFill f (nI 0) n) n (nI 0))] := hD
      refine lv_iinc (v := nI (n + 1)) (lv' := [(1, .int (nI (n + 1))), (0, .ref ok)]) hx hb dCh_clear_26 hl (k := 1) rfl (nI_1 n) (by decide) rfl (fun ls hl => ?_)
      refine lv_goto (tgt := 12) hx hb dCh_clear_29 rfl ?_
      exact ih (n + 1) _ _ _ (by omega) hP hD hS (lv_sub hl [1, 0] rfl)
  exact loop 256 0 _ _ _ (by omega) hP hD hS (lv_sub hl [1, 0] rfl)
set_option maxHeartbeats 4000000 in
set_option maxRecDepth 100000 in
theorem k_Ch_beginPeriod (l : Launch) (G : gG) (ok os ov ow : Nat) (q : Nat) (s0 : Int32) (h l1 kh kl : Int64) : Ck l G yCh_beginPeriod cCh_beginPeriod 5 none { frames := 0, cells := 0, slots := 0, locals := 0 } [.ref ok, .long kh, .long kl] [oC ok 0 [.ref os, .ref ov, .ref ow, .int (nI q), .int s0, .long h, .long l1]] (none) [oC ok 0 [.ref os, .ref ov, .ref ow, .int (nI (q + 1)), .int s0, .long kh, .long kl]] := by
  refine Cq.of (by decide) (Nat.le_of_ble_eq_true rfl) ?_
  intro p e s m args below meth c A ls hx hb hr hml hts hown hlk hA hP hD hG hS hl
  have hl : lv_has ls 5 [(0, .ref ok), (1, .long kh), (3, .long kl)] := hl
  refine lv_aload_n hx hb dCh_beginPeriod_0 rfl (lv_at hl 0 rfl) ?_
  refine lv_dup hx hb dCh_beginPeriod_1 rfl ?_
  refine gfCh_22 hx hb hts hown hG hP 0 rfl rfl dCh_beginPeriod_2 ?_
  refine lv_iconst (v := nI 1) hx hb dCh_beginPeriod_5 (by decide) ?_
  refine lv_iadd hx hb dCh_beginPeriod_6 ?_
  refine ck_ri (y := nI (q + 1)) (nI_add q 1) ?_
  refine pfCh_22 hx hb hts hown hG hP hD hS 0 rfl rfl rfl (Nat.le_of_ble_eq_true rfl) dCh_beginPeriod_7 (fun H locs hP hD hS => ?_)
  have hP : va_P G.1 vwCl [oC ok 0 [.ref os, .ref ov, .ref ow, .int (nI (q + 1)), .int s0, .long h, .long l1]] H := hP
  have hD : va_D A [oC ok 0 [.ref os, .ref ov, .ref ow, .int (nI (q + 1)), .int s0, .long h, .long l1]] := hD
  refine lv_aload_n hx hb dCh_beginPeriod_10 rfl (lv_at hl 0 rfl) ?_
  refine lv_lload_n hx hb dCh_beginPeriod_11 rfl (lv_at hl 1 rfl) ?_
  refine pfCh_29 hx hb hts hown hG hP hD hS 0 rfl rfl rfl (Nat.le_of_ble_eq_true rfl) dCh_beginPeriod_12 (fun H locs hP hD hS => ?_)
  have hP : va_P G.1 vwCl [oC ok 0 [.ref os, .ref ov, .ref ow, .int (nI (q + 1)), .int s0, .long kh, .long l1]] H := hP
  have hD : va_D A [oC ok 0 [.ref os, .ref ov, .ref ow, .int (nI (q + 1)), .int s0, .long kh, .long l1]] := hD
  refine lv_aload_n hx hb dCh_beginPeriod_15 rfl (lv_at hl 0 rfl) ?_
  refine lv_lload_n hx hb dCh_beginPeriod_16 rfl (lv_at hl 2 rfl) ?_
  refine pfCh_33 hx hb hts hown hG hP hD hS 0 rfl rfl rfl (Nat.le_of_ble_eq_true rfl) dCh_beginPeriod_17 (fun H locs hP hD hS => ?_)
  have hP : va_P G.1 vwCl [oC ok 0 [.ref os, .ref ov, .ref ow, .int (nI (q + 1)), .int s0, .long kh, .long kl]] H := hP
  have hD : va_D A [oC ok 0 [.ref os, .ref ov, .ref ow, .int (nI (q + 1)), .int s0, .long kh, .long kl]] := hD
  exact cq_vret () (trivial) hx hb hr hlk hP hS rfl (rfl) dCh_beginPeriod_20
set_option maxHeartbeats 4000000 in
set_option maxRecDepth 100000 in
theorem k_Ch_addSubset (l : Launch) (G : gG) (ok os ov ow : Nat) (q : Nat) (hq : q ≤ 128) (p0 v1 w1 : Int32) (h l1 : Int64) (fv fw : Nat → Int32) : Ck l G yCh_addSubset cCh_addSubset 3 none { frames := 0, cells := 0, slots := 0, locals := 0 } [.ref ok, .int v1, .int w1] [oC ok 0 [.ref os, .ref ov, .ref ow, .int p0, .int (nI q), .long h, .long l1], aI G ov 128 fv, aI G ow 128 fw] (none) [oC ok 0 [.ref os, .ref ov, .ref ow, .int p0, .int (nI (jAq q)), .long h, .long l1], aI G ov 128 (jAf q fv v1), aI G ow 128 (jAf q fw w1)] := by
  refine Cq.of (by decide) (Nat.le_of_ble_eq_true rfl) ?_
  intro p e s m args below meth c A ls hx hb hr hml hts hown hlk hA hP hD hG hS hl
  have hl : lv_has ls 3 [(0, .ref ok), (1, .int v1), (2, .int w1)] := hl
  refine lv_aload_n hx hb dCh_addSubset_0 rfl (lv_at hl 0 rfl) ?_
  refine gfCh_26 hx hb hts hown hG hP 0 rfl rfl dCh_addSubset_1 ?_
  refine lv_sipush (v := nI 128) hx hb dCh_addSubset_4 (by decide) ?_
  refine lv_icmp_ge (tgt := 40) hx hb dCh_addSubset_7 rfl (fun h9 => ?_) (fun h9 => ?_)
  · have hm : ¬ q < 128 := by have := (nI_leI (a := 128) (by omega) (by omega)).mp h9; omega
    exact cq_vret () (trivial) hx hb hr hlk hP hS rfl (by first | (simp only [jAq, jAf, if_pos hm]; done) | (simp only [jAq, jAf, if_neg hm]; done)) dCh_addSubset_40
  · have hm : q < 128 := Nat.not_le.mp (fun z => h9 ((nI_leI (a := 128) (by omega) (by omega)).mpr z))
    refine lv_aload_n hx hb dCh_addSubset_10 rfl (lv_at hl 0 rfl) ?_
    refine gfCh_15 hx hb hts hown hG hP 0 rfl rfl dCh_addSubset_11 ?_
    refine lv_aload_n hx hb dCh_addSubset_14 rfl (lv_at hl 0 rfl) ?_
    refine gfCh_26 hx hb hts hown hG hP 0 rfl rfl dCh_addSubset_15 ?_
    refine lv_iload_n hx hb dCh_addSubset_18 rfl (lv_at hl 1 rfl) ?_
    refine ck_iast hx hb hG hP hD hS 1 rfl (by decide) q (rfl) (hm) dCh_addSubset_19 (fun H locs hP hD hS => ?_)
    have hP : va_P G.1 vwCl [oC ok 0 [.ref os, .ref ov, .ref ow, .int p0, .int (nI q), .long h, .long l1], aI G ov 128 (upd fv q v1), aI G ow 128 fw] H := hP
    have hD : va_D A [oC ok 0 [.ref os, .ref ov, .ref ow, .int p0, .int (nI q), .long h, .long l1], aI G ov 128 (upd fv q v1), aI G ow 128 fw] := hD
    refine lv_aload_n hx hb dCh_addSubset_20 rfl (lv_at hl 0 rfl) ?_
    refine gfCh_19 hx hb hts hown hG hP 0 rfl rfl dCh_addSubset_21 ?_
    refine lv_aload_n hx hb dCh_addSubset_24 rfl (lv_at hl 0 rfl) ?_
    refine gfCh_26 hx hb hts hown hG hP 0 rfl rfl dCh_addSubset_25 ?_
    refine lv_iload_n hx hb dCh_addSubset_28 rfl (lv_at hl 2 rfl) ?_
    refine ck_iast hx hb hG hP hD hS 2 rfl (by decide) q (rfl) (hm) dCh_addSubset_29 (fun H locs hP hD hS => ?_)
    have hP : va_P G.1 vwCl [oC ok 0 [.ref os, .ref ov, .ref ow, .int p0, .int (nI q), .long h, .long l1], aI G ov 128 (upd fv q v1), aI G ow 128 (upd fw q w1)] H := hP
    have hD : va_D A [oC ok 0 [.ref os, .ref ov, .ref ow, .int p0, .int (nI q), .long h, .long l1], aI G ov 128 (upd fv q v1), aI G ow 128 (upd fw q w1)] := hD
    refine lv_aload_n hx hb dCh_addSubset_30 rfl (lv_at hl 0 rfl) ?_
    refine lv_dup hx hb dCh_addSubset_31 rfl ?_
    refine gfCh_26 hx hb hts hown hG hP 0 rfl rfl dCh_addSubset_32 ?_
    refine lv_iconst (v := nI 1) hx hb dCh_addSubset_35 (by decide) ?_
    refine lv_iadd hx hb dCh_addSubset_36 ?_
    refine ck_ri (y := nI (q + 1)) (nI_add q 1) ?_
    refine pfCh_26 hx hb hts hown hG hP hD hS 0 rfl rfl rfl (Nat.le_of_ble_eq_true rfl) dCh_addSubset_37 (fun H locs hP hD hS => ?_)
    have hP : va_P G.1 vwCl [oC ok 0 [.ref os, .ref ov, .ref ow, .int p0, .int (nI (q + 1)), .long h, .long l1], aI G ov 128 (upd fv q v1), aI G ow 128 (upd fw q w1)] H := hP
    have hD : va_D A [oC ok 0 [.ref os, .ref ov, .ref ow, .int p0, .int (nI (q + 1)), .long h, .long l1], aI G ov 128 (upd fv q v1), aI G ow 128 (upd fw q w1)] := hD
    exact cq_vret () (trivial) hx hb hr hlk hP hS rfl (by first | (simp only [jAq, jAf, if_pos hm]; done) | (simp only [jAq, jAf, if_neg hm]; done)) dCh_addSubset_40
set_option maxHeartbeats 4000000 in
set_option maxRecDepth 100000 in
theorem k_Ch_packets (l : Launch) (G : gG) (ok os ov ow : Nat) (q : Nat) (hq : q ≤ 128) (p0 : Int32) (h l1 : Int64) : Ck l G yCh_packets cCh_packets 1 (some .int) { frames := 1, cells := 0, slots := 0, locals := 13 } [.ref ok] [oC ok 0 [.ref os, .ref ov, .ref ow, .int p0, .int (nI q), .long h, .long l1]] (some (.int (nI (jPk q)))) [oC ok 0 [.ref os, .ref ov, .ref ow, .int p0, .int (nI q), .long h, .long l1]] := by
  refine Cq.of (by decide) (Nat.le_of_ble_eq_true rfl) ?_
  intro p e s m args below meth c A ls hx hb hr hml hts hown hlk hA hP hD hG hS hl
  have hl : lv_has ls 1 [(0, .ref ok)] := hl
  refine lv_iconst (v := nI 1) hx hb dCh_packets_0 (by decide) ?_
  refine lv_aload_n hx hb dCh_packets_1 rfl (lv_at hl 0 rfl) ?_
  refine gfCh_26 hx hb hts hown hG hP 0 rfl rfl dCh_packets_2 ?_
  refine lv_bipush (v := nI 8) hx hb dCh_packets_5 (by decide) ?_
  refine lv_iadd hx hb dCh_packets_7 ?_
  refine lv_iconst (v := nI 1) hx hb dCh_packets_8 (by decide) ?_
  refine lv_isub hx hb dCh_packets_9 ?_
  refine lv_bipush (v := nI 8) hx hb dCh_packets_10 (by decide) ?_
  refine lv_idiv hx hb dCh_packets_12 (by decide) ?_
  refine ck_ri (y := nI ((q + 7) / 8)) (by rw [nI_add, pk_sub (by omega)]; exact pk_div (by omega) (by omega) (by omega)) ?_
  refine va_mmax hx hb (hml.trans hl.1.symm) hown (hts _ kMmaxL) (hts _ kMmaxS) (hts _ kMI) (hts _ kMmaxC) (by decide) (by decide) (by decide) (by decide) dCh_packets_13 ?_
  refine ck_ri (y := nI (jPk q)) (jPk_ok (by omega)) ?_
  exact cq_iret () (trivial) hx hb hr hlk hP hS (rfl) (rfl) dCh_packets_16
set_option maxHeartbeats 4000000 in
set_option maxRecDepth 100000 in
theorem k_Pa_clear (l : Launch) (G : gG) (op ob : Nat) (n0 : Int32) : Ck l G yPa_clear cPa_clear 1 none { frames := 0, cells := 0, slots := 0, locals := 0 } [.ref op] [oC op 5 [.ref ob, .int n0]] (none) [oC op 5 [.ref ob, .int (nI 0)]] := by
  refine Cq.of (by decide) (Nat.le_of_ble_eq_true rfl) ?_
  intro p e s m args below meth c A ls hx hb hr hml hts hown hlk hA hP hD hG hS hl
  have hl : lv_has ls 1 [(0, .ref op)] := hl
  refine lv_aload_n hx hb dPa_clear_0 rfl (lv_at hl 0 rfl) ?_
  refine lv_iconst (v := nI 0) hx hb dPa_clear_1 (by decide) ?_
  refine pfPa_15 hx hb hts hown hG hP hD hS 0 rfl rfl rfl (Nat.le_of_ble_eq_true rfl) dPa_clear_2 (fun H locs hP hD hS => ?_)
  have hP : va_P G.1 vwCl [oC op 5 [.ref ob, .int (nI 0)]] H := hP
  have hD : va_D A [oC op 5 [.ref ob, .int (nI 0)]] := hD
  exact cq_vret () (trivial) hx hb hr hlk hP hS rfl (rfl) dPa_clear_5
set_option maxHeartbeats 4000000 in
set_option maxRecDepth 100000 in
theorem k_Pa_put (l : Launch) (G : gG) (op ob q z : Nat) (f : Nat → Int32) (v : Int64) (hq : q + z ≤ 229) : Ck l G yPa_put cPa_put 5 none { frames := 0, cells := 0, slots := 0, locals := 0 } [.ref op, .long v, .int (nI z)] [oC op 5 [.ref ob, .int (nI q)], aI G ob 229 f] (none) [oC op 5 [.ref ob, .int (nI (q + z))], aI G ob 229 (jPut v z q f z)] := by
  refine Cq.of (by decide) (Nat.le_of_ble_eq_true rfl) ?_
  intro p e s m args below meth c A ls hx hb hr hml hts hown hlk hA hP hD hG hS hl
  have hl : lv_has ls 5 [(0, .ref op), (1, .long v), (3, .int (nI z))] := hl
  refine lv_iload_n hx hb dPa_put_0 rfl (lv_at hl 2 rfl) ?_
  refine lv_iconst (v := nI 1) hx hb dPa_put_1 (by decide) ?_
  refine lv_isub hx hb dPa_put_2 ?_
  refine ck_ri (y := jm1 z) (jm1_sub z) ?_
  refine lv_istore (lv' := [(4, .int (jm1 z)), (0, .ref op), (1, .long v), (3, .int (nI z))]) hx hb dPa_put_3 hl (by decide) rfl (fun ls hl => ?_)
  have loop : ∀ (k : Nat) (n : Nat) (H : Heap) (locs : List Loc) (ls : Array Slot), n + k = z → va_P G.1 vwCl [oC op 5 [.ref ob, .int (nI (q + n))], aI G ob 229 (jPut v z q f n)] H → va_D A [oC op 5 [.ref ob, .int (nI (q + n))], aI G ob 229 (jPut v z q f n)] → va_S A s.heap H locs → lv_has ls 5 [(0, .ref op), (1, .long v), (4, .int (jm1 k))] → W p l e { frames := 0, cells := 0, slots := 0, locals := 0 } s m args below meth c H locs 0 0 (MQ below (cq_out G (S := Unit) (fun _ => True) (fun _ => (none)) (fun _ => [oC op 5 [.ref ob, .int (nI (q + z))], aI G ob 229 (jPut v z q f z)]) A) args s 0 0 A) (F0 m 5 ls []) := by
    intro k
    induction k with
    | zero =>
      intro n H locs ls hk hP hD hS hl
      have hl : lv_has ls 5 [(0, .ref op), (1, .long v), (4, .int (-1))] := hl
      refine lv_iload hx hb dPa_put_5 (lv_at hl 2 rfl) ?_
      refine lv_if_lt (tgt := 59) hx hb dPa_put_7 rfl (fun _ => ?_) (fun h => absurd (by decide) h)
      exact cq_vret () (trivial) hx hb hr hlk hP hS rfl (by rw [show n = z by omega]) dPa_put_59
    | succ k ih =>
      intro n H locs ls hk hP hD hS hl
      have hl : lv_has ls 5 [(0, .ref op), (1, .long v), (4, .int (nI k))] := hl
      refine lv_iload hx hb dPa_put_5 (lv_at hl 2 rfl) ?_
      refine lv_if_lt (tgt := 59) hx hb dPa_put_7 rfl (fun h => absurd h (nI_pos (by omega))) (fun _ => ?_)
      refine lv_aload_n hx hb dPa_put_10 rfl (lv_at hl 0 rfl) ?_
      refine gfPa_15 hx hb hts hown hG hP 0 rfl rfl dPa_put_11 ?_
      refine lv_aload_n hx hb dPa_put_14 rfl (lv_at hl 0 rfl) ?_
      refine gfPa_9 hx hb hts hown hG hP 0 rfl rfl dPa_put_15 ?_
      refine va_alen (v := nI 229) hx hb hG.1 hP 1 0 rfl rfl rfl dPa_put_18 ?_
      refine lv_icmp_ge (tgt := 59) hx hb dPa_put_19 rfl (fun h => absurd h (nI_ge (by omega) (by omega))) (fun _ => ?_)
      refine lv_aload_n hx hb dPa_put_22 rfl (lv_at hl 0 rfl) ?_
      refine gfPa_9 hx hb hts hown hG hP 0 rfl rfl dPa_put_23 ?_
      refine lv_aload_n hx hb dPa_put_26 rfl (lv_at hl 0 rfl) ?_
      refine gfPa_15 hx hb hts hown hG hP 0 rfl rfl dPa_put_27 ?_
      refine lv_lload_n hx hb dPa_put_30 rfl (lv_at hl 1 rfl) ?_
      refine lv_bipush (v := nI 8) hx hb dPa_put_31 (by decide) ?_
      refine lv_iload hx hb dPa_put_33 (lv_at hl 2 rfl) ?_
      refine lv_imul hx hb dPa_put_35 ?_
      refine lv_lushr (v := lush v ((nI 8) * (nI k))) hx hb dPa_put_36 rfl ?_
      refine lv_l2i (v := (lush v ((nI 8) * (nI k))).toInt32) hx hb dPa_put_37 rfl ?_
      refine lv_sipush (v := nI 255) hx hb dPa_put_38 (by decide) ?_
      refine lv_iand hx hb dPa_put_41 ?_
      refine ck_iast hx hb hG hP hD hS 1 rfl (by decide) (q + n) (rfl) (by omega) dPa_put_42 (fun H locs hP hD hS => ?_)
      have hP : va_P G.1 vwCl [oC op 5 [.ref ob, .int (nI (q + n))], aI G ob 229 (upd (jPut v z q f n) (q + n) (((lush v ((nI 8) * (nI k))).toInt32) &&& (nI 255)))] H := hP
      have hD : va_D A [oC op 5 [.ref ob, .int (nI (q + n))], aI G ob 229 (upd (jPut v z q f n) (q + n) (((lush v ((nI 8) * (nI k))).toInt32) &&& (nI 255)))] := hD
      refine lv_aload_n hx hb dPa_put_43 rfl (lv_at hl 0 rfl) ?_
      refine lv_dup hx hb dPa_put_44 rfl ?_
      refine gfPa_15 hx hb hts hown hG hP 0 rfl rfl dPa_put_45 ?_
      refine lv_iconst (v := nI 1) hx hb dPa_put_48 (by decide) ?_
      refine lv_iadd hx hb dPa_put_49 ?_
      refine ck_ri (y := nI (q + (n + 1))) (nI_add (q + n) 1) ?_
      refine pfPa_15 hx hb hts hown hG hP hD hS 0 rfl rfl rfl (Nat.le_of_ble_eq_true rfl) dPa_put_50 (fun H locs hP hD hS => ?_)
      have hP : va_P G.1 vwCl [oC op 5 [.ref ob, .int (nI (q + (n + 1)))], aI G ob 229 (upd (jPut v z q f n) (q + n) (((lush v ((nI 8) * (nI k))).toInt32) &&& (nI 255)))] H := hP
      have hD : va_D A [oC op 5 [.ref ob, .int (nI (q + (n + 1)))], aI G ob 229 (upd (jPut v z q f n) (q + n) (((lush v ((nI 8) * (nI k))).toInt32) &&& (nI 255)))] := hD
      refine lv_iinc (v := jm1 k) (lv' := [(4, .int (jm1 k)), (0, .ref op), (1, .long v)]) hx hb dPa_put_53 hl (k := 2) rfl (jm1_dec k) (by decide) rfl (fun ls hl => ?_)
      refine lv_goto (tgt := 5) hx hb dPa_put_56 rfl ?_
      have e1 : jPut v z q f (n + 1) = upd (jPut v z q f n) (q + n) (((lush v ((nI 8) * (nI k))).toInt32) &&& (nI 255)) := by rw [jPut, show z - 1 - n = k by omega]
      exact ih (n + 1) _ _ _ (by omega) (by rw [e1]; exact hP) (by rw [e1]; exact hD) hS (lv_sub hl [1, 2, 0] rfl)
  exact loop z 0 _ _ _ (by omega) hP hD hS (lv_sub hl [1, 2, 0] rfl)
set_option maxHeartbeats 4000000 in
set_option maxRecDepth 100000 in
theorem k_Pa_read (l : Launch) (G : gG) (op ob q a z : Nat) (f : Nat → Int32) (hq : a + z ≤ q) (hq2 : q ≤ 229) : Ck l G yPa_read cPa_read 6 (some .long) { frames := 0, cells := 0, slots := 0, locals := 0 } [.ref op, .int (nI a), .int (nI z)] [oC op 5 [.ref ob, .int (nI q)], aI G ob 229 f] (some (.long (jRd f a z))) [oC op 5 [.ref ob, .int (nI q)], aI G ob 229 f] := by
  refine Cq.of (by decide) (Nat.le_of_ble_eq_true rfl) ?_
  intro p e s m args below meth c A ls hx hb hr hml hts hown hlk hA hP hD hG hS hl
  have hl : lv_has ls 6 [(0, .ref op), (1, .int (nI a)), (2, .int (nI z))] := hl
  refine lv_lconst (v := lN 0) hx hb dPa_read_0 (by decide) ?_
  refine lv_lstore_n (lv' := [(3, .long (lN 0)), (0, .ref op), (1, .int (nI a)), (2, .int (nI z))]) hx hb dPa_read_1 rfl hl (by decide) rfl (fun ls hl => ?_)
  refine lv_iload_n hx hb dPa_read_2 rfl (lv_at hl 2 rfl) ?_
  refine lv_istore (lv' := [(5, .int (nI a)), (3, .long (lN 0)), (0, .ref op), (1, .int (nI a)), (2, .int (nI z))]) hx hb dPa_read_3 hl (by decide) rfl (fun ls hl => ?_)
  have loop : ∀ (k : Nat) (n : Nat) (H : Heap) (locs : List Loc) (ls : Array Slot), n + k = z → va_P G.1 vwCl [oC op 5 [.ref ob, .int (nI q)], aI G ob 229 f] H → va_D A [oC op 5 [.ref ob, .int (nI q)], aI G ob 229 f] → va_S A s.heap H locs → lv_has ls 6 [(0, .ref op), (1, .int (nI a)), (2, .int (nI z)), (3, .long (jRd f a n)), (5, .int (nI (a + n)))] → W p l e { frames := 0, cells := 0, slots := 0, locals := 0 } s m args below meth c H locs 0 0 (MQ below (cq_out G (S := Unit) (fun _ => True) (fun _ => (some (.long (jRd f a z)))) (fun _ => [oC op 5 [.ref ob, .int (nI q)], aI G ob 229 f]) A) args s 0 0 A) (F0 m 5 ls []) := by
    intro k
    induction k with
    | zero =>
      intro n H locs ls hk hP hD hS hl
      refine lv_iload hx hb dPa_read_5 (lv_at hl 4 rfl) ?_
      refine lv_iload_n hx hb dPa_read_7 rfl (lv_at hl 1 rfl) ?_
      refine lv_iload_n hx hb dPa_read_8 rfl (lv_at hl 2 rfl) ?_
      refine lv_iadd hx hb dPa_read_9 ?_
      refine ck_ri (y := nI (a + z)) (nI_add a z) ?_
      refine lv_icmp_ge (tgt := 42) hx hb dPa_read_10 rfl (fun _ => ?_) (fun h => absurd (nI_le (by omega) (by omega)) h)
      refine lv_lload_n hx hb dPa_read_42 rfl (lv_at hl 3 rfl) ?_
      exact cq_lret () (trivial) hx hb hr hlk hP hS (by rw [show n = z by omega]) (rfl) dPa_read_43
    | succ k ih =>
      intro n H locs ls hk hP hD hS hl
      refine lv_iload hx hb dPa_read_5 (lv_at hl 4 rfl) ?_
      refine lv_iload_n hx hb dPa_read_7 rfl (lv_at hl 1 rfl) ?_
      refine lv_iload_n hx hb dPa_read_8 rfl (lv_at hl 2 rfl) ?_
      refine lv_iadd hx hb dPa_read_9 ?_
      refine ck_ri (y := nI (a + z)) (nI_add a z) ?_
      refine lv_icmp_ge (tgt := 42) hx hb dPa_read_10 rfl (fun h => absurd h (nI_ge (by omega) (by omega))) (fun _ => ?_)
      refine lv_iload hx hb dPa_read_13 (lv_at hl 4 rfl) ?_
      refine lv_aload_n hx hb dPa_read_15 rfl (lv_at hl 0 rfl) ?_
      refine gfPa_15 hx hb hts hown hG hP 0 rfl rfl dPa_read_16 ?_
      refine lv_icmp_ge (tgt := 42) hx hb dPa_read_19 rfl (fun h => absurd h (nI_ge (by omega) (by omega))) (fun _ => ?_)
      refine lv_lload_n hx hb dPa_read_22 rfl (lv_at hl 3 rfl) ?_
      refine lv_bipush (v := nI 8) hx hb dPa_read_23 (by decide) ?_
      refine lv_lshl (v := lsh (jRd f a n) (nI 8)) hx hb dPa_read_25 rfl ?_
      refine lv_aload_n hx hb dPa_read_26 rfl (lv_at hl 0 rfl) ?_
      refine gfPa_9 hx hb hts hown hG hP 0 rfl rfl dPa_read_27 ?_
      refine lv_iload hx hb dPa_read_30 (lv_at hl 4 rfl) ?_
      refine ck_iald hx hb hG hP 1 rfl (by decide) (a + n) (rfl) (by omega) dPa_read_32 ?_
      refine lv_i2l (v := (f (a + n)).toInt64) hx hb dPa_read_33 rfl ?_
      refine lv_lor hx hb dPa_read_34 ?_
      refine lv_lstore_n (lv' := [(3, .long ((lsh (jRd f a n) (nI 8)) ||| ((f (a + n)).toInt64))), (0, .ref op), (1, .int (nI a)), (2, .int (nI z)), (5, .int (nI (a + n)))]) hx hb dPa_read_35 rfl hl (by decide) rfl (fun ls hl => ?_)
      refine lv_iinc (v := nI (a + (n + 1))) (lv' := [(5, .int (nI (a + (n + 1)))), (3, .long ((lsh (jRd f a n) (nI 8)) ||| ((f (a + n)).toInt64))), (0, .ref op), (1, .int (nI a)), (2, .int (nI z))]) hx hb dPa_read_36 hl (k := 4) rfl (nI_1 (a + n)) (by decide) rfl (fun ls hl => ?_)
      refine lv_goto (tgt := 5) hx hb dPa_read_39 rfl ?_
      exact ih (n + 1) _ _ _ (by omega) hP hD hS (lv_sub hl [2, 3, 4, 1, 0] rfl)
  exact loop z 0 _ _ _ (by omega) hP hD hS (lv_sub hl [2, 3, 4, 1, 0] rfl)
set_option maxHeartbeats 4000000 in
set_option maxRecDepth 100000 in
theorem k_De_keep (l : Launch) (G : gG) (od oq oh ol c4 : Nat) (hc : c4 < 4) (pf : Nat → Int32) (hf lf : Nat → Int64) (pr : Int32) (h1 l1 : Int64) : Ck l G yDe_keep cDe_keep 7 none { frames := 0, cells := 0, slots := 0, locals := 0 } [.ref od, .int (nI c4), .int pr, .long h1, .long l1] [oC od 3 [.ref oq, .ref oh, .ref ol], aI G oq 4 pf, aJ G oh 4 hf, aJ G ol 4 lf] (none) [oC od 3 [.ref oq, .ref oh, .ref ol], aI G oq 4 (upd pf c4 pr), aJ G oh 4 (vp_updL hf c4 h1), aJ G ol 4 (vp_updL lf c4 l1)] := by
  refine Cq.of (by decide) (Nat.le_of_ble_eq_true rfl) ?_
  intro p e s m args below meth c A ls hx hb hr hml hts hown hlk hA hP hD hG hS hl
  have hl : lv_has ls 7 [(0, .ref od), (1, .int (nI c4)), (2, .int pr), (3, .long h1), (5, .long l1)] := hl
  refine lv_aload_n hx hb dDe_keep_0 rfl (lv_at hl 0 rfl) ?_
  refine gfDe_9 hx hb hts hown hG hP 0 rfl rfl dDe_keep_1 ?_
  refine lv_iload_n hx hb dDe_keep_4 rfl (lv_at hl 1 rfl) ?_
  refine lv_iload_n hx hb dDe_keep_5 rfl (lv_at hl 2 rfl) ?_
  refine ck_iast hx hb hG hP hD hS 1 rfl (by decide) c4 (rfl) (hc) dDe_keep_6 (fun H locs hP hD hS => ?_)
  have hP : va_P G.1 vwCl [oC od 3 [.ref oq, .ref oh, .ref ol], aI G oq 4 (upd pf c4 pr), aJ G oh 4 hf, aJ G ol 4 lf] H := hP
  have hD : va_D A [oC od 3 [.ref oq, .ref oh, .ref ol], aI G oq 4 (upd pf c4 pr), aJ G oh 4 hf, aJ G ol 4 lf] := hD
  refine lv_aload_n hx hb dDe_keep_7 rfl (lv_at hl 0 rfl) ?_
  refine gfDe_15 hx hb hts hown hG hP 0 rfl rfl dDe_keep_8 ?_
  refine lv_iload_n hx hb dDe_keep_11 rfl (lv_at hl 1 rfl) ?_
  refine lv_lload_n hx hb dDe_keep_12 rfl (lv_at hl 3 rfl) ?_
  refine ck_last hx hb hG hP hD hS 2 rfl (by decide) c4 (rfl) (hc) dDe_keep_13 (fun H locs hP hD hS => ?_)
  have hP : va_P G.1 vwCl [oC od 3 [.ref oq, .ref oh, .ref ol], aI G oq 4 (upd pf c4 pr), aJ G oh 4 (vp_updL hf c4 h1), aJ G ol 4 lf] H := hP
  have hD : va_D A [oC od 3 [.ref oq, .ref oh, .ref ol], aI G oq 4 (upd pf c4 pr), aJ G oh 4 (vp_updL hf c4 h1), aJ G ol 4 lf] := hD
  refine lv_aload_n hx hb dDe_keep_14 rfl (lv_at hl 0 rfl) ?_
  refine gfDe_19 hx hb hts hown hG hP 0 rfl rfl dDe_keep_15 ?_
  refine lv_iload_n hx hb dDe_keep_18 rfl (lv_at hl 1 rfl) ?_
  refine lv_lload hx hb dDe_keep_19 (lv_at hl 4 rfl) ?_
  refine ck_last hx hb hG hP hD hS 3 rfl (by decide) c4 (rfl) (hc) dDe_keep_21 (fun H locs hP hD hS => ?_)
  have hP : va_P G.1 vwCl [oC od 3 [.ref oq, .ref oh, .ref ol], aI G oq 4 (upd pf c4 pr), aJ G oh 4 (vp_updL hf c4 h1), aJ G ol 4 (vp_updL lf c4 l1)] H := hP
  have hD : va_D A [oC od 3 [.ref oq, .ref oh, .ref ol], aI G oq 4 (upd pf c4 pr), aJ G oh 4 (vp_updL hf c4 h1), aJ G ol 4 (vp_updL lf c4 l1)] := hD
  exact cq_vret () (trivial) hx hb hr hlk hP hS rfl (rfl) dDe_keep_22
set_option maxHeartbeats 4000000 in
set_option maxRecDepth 100000 in
theorem k_En_keepHalf (l : Launch) (G : gG) (oe t : Nat) (ht : t < 2 ^ 30) (c1 h1 l1 x : Int64) : Ck l G yEn_keepHalf cEn_keepHalf 4 none { frames := 0, cells := 0, slots := 0, locals := 0 } [.ref oe, .int (nI t), .long x] [oC oe 4 [.long c1, .long h1, .long l1]] (none) [oC oe 4 [.long c1, .long (jSel t x h1), .long (jSel t l1 x)]] := by
  refine Cq.of (by decide) (Nat.le_of_ble_eq_true rfl) ?_
  intro p e s m args below meth c A ls hx hb hr hml hts hown hlk hA hP hD hG hS hl
  have hl : lv_has ls 4 [(0, .ref oe), (1, .int (nI t)), (2, .long x)] := hl
  refine lv_iload_n hx hb dEn_keepHalf_0 rfl (lv_at hl 1 rfl) ?_
  refine lv_iconst (v := nI 2) hx hb dEn_keepHalf_1 (by decide) ?_
  refine lv_irem hx hb dEn_keepHalf_2 (by decide) ?_
  refine ck_ri (y := nI (t % 2)) (pk_rem (by omega) (by omega) (by omega)) ?_
  refine lv_iconst (v := nI 1) hx hb dEn_keepHalf_3 (by decide) ?_
  refine lv_icmp_ne (tgt := 15) hx hb dEn_keepHalf_4 rfl (fun h9 => ?_) (fun h9 => ?_)
  · have hm : ¬ t % 2 = 1 := fun z => h9 (by rw [z])
    refine lv_aload_n hx hb dEn_keepHalf_15 rfl (lv_at hl 0 rfl) ?_
    refine lv_lload_n hx hb dEn_keepHalf_16 rfl (lv_at hl 2 rfl) ?_
    refine pfEn_18 hx hb hts hown hG hP hD hS 0 rfl rfl rfl (Nat.le_of_ble_eq_true rfl) dEn_keepHalf_17 (fun H locs hP hD hS => ?_)
    have hP : va_P G.1 vwCl [oC oe 4 [.long c1, .long h1, .long x]] H := hP
    have hD : va_D A [oC oe 4 [.long c1, .long h1, .long x]] := hD
    exact cq_vret () (trivial) hx hb hr hlk hP hS rfl (by first | (simp only [jSel, if_pos hm]; done) | (simp only [jSel, if_neg hm]; done)) dEn_keepHalf_20
  · have hm : t % 2 = 1 := (nI_eq (by omega) (by omega)).mp h9
    refine lv_aload_n hx hb dEn_keepHalf_7 rfl (lv_at hl 0 rfl) ?_
    refine lv_lload_n hx hb dEn_keepHalf_8 rfl (lv_at hl 2 rfl) ?_
    refine pfEn_15 hx hb hts hown hG hP hD hS 0 rfl rfl rfl (Nat.le_of_ble_eq_true rfl) dEn_keepHalf_9 (fun H locs hP hD hS => ?_)
    have hP : va_P G.1 vwCl [oC oe 4 [.long c1, .long x, .long l1]] H := hP
    have hD : va_D A [oC oe 4 [.long c1, .long x, .long l1]] := hD
    refine lv_goto (tgt := 20) hx hb dEn_keepHalf_12 rfl ?_
    exact cq_vret () (trivial) hx hb hr hlk hP hS rfl (by first | (simp only [jSel, if_pos hm]; done) | (simp only [jSel, if_neg hm]; done)) dEn_keepHalf_20
set_option maxHeartbeats 4000000 in
set_option maxRecDepth 100000 in
theorem k_En_wrap (l : Launch) (G : gG) (oe oc ow : Nat) (w : Nat → Int32) (c0 h0 l0 e0 f0 : Int64) (ph pl : Int64) : Cq l G yEn_wrap cEn_wrap 7 none { frames := 3, cells := 0, slots := 0, locals := 76 } [.ref oe, .ref oc, .long ph, .long pl] [oC oe 4 [.long c0, .long h0, .long l0], oC oc 1 [.ref ow, .long e0, .long f0], aI G ow 44 w] (S := Int64 × Int64) (fun _ => True) (fun u => none) (fun u => [oC oe 4 [.long ((jWr w (jSeal, ph, pl) 12).1), .long ((jWr w (jSeal, ph, pl) 12).2.1), .long ((jWr w (jSeal, ph, pl) 12).2.2)], oC oc 1 [.ref ow, .long u.1, .long u.2], aI G ow 44 w]) := by
  refine Cq.of (by decide) (Nat.le_of_ble_eq_true rfl) ?_
  intro p e s m args below meth c A ls hx hb hr hml hts hown hlk hA hP hD hG hS hl
  have hl : lv_has ls 7 [(0, .ref oe), (1, .ref oc), (2, .long ph), (4, .long pl)] := hl
  refine lv_aload_n hx hb dEn_wrap_0 rfl (lv_at hl 0 rfl) ?_
  refine lv_ldc2 (v := lN 12008468691120727718) hx hb hown (hts _ kkEn_9) dEn_wrap_1 ?_
  refine pfEn_11 hx hb hts hown hG hP hD hS 0 rfl rfl rfl (Nat.le_of_ble_eq_true rfl) dEn_wrap_4 (fun H locs hP hD hS => ?_)
  have hP : va_P G.1 vwCl [oC oe 4 [.long (lN 12008468691120727718), .long h0, .long l0], oC oc 1 [.ref ow, .long e0, .long f0], aI G ow 44 w] H := hP
  have hD : va_D A [oC oe 4 [.long (lN 12008468691120727718), .long h0, .long l0], oC oc 1 [.ref ow, .long e0, .long f0], aI G ow 44 w] := hD
  refine lv_aload_n hx hb dEn_wrap_7 rfl (lv_at hl 0 rfl) ?_
  refine lv_lload_n hx hb dEn_wrap_8 rfl (lv_at hl 2 rfl) ?_
  refine pfEn_15 hx hb hts hown hG hP hD hS 0 rfl rfl rfl (Nat.le_of_ble_eq_true rfl) dEn_wrap_9 (fun H locs hP hD hS => ?_)
  have hP : va_P G.1 vwCl [oC oe 4 [.long (lN 12008468691120727718), .long ph, .long l0], oC oc 1 [.ref ow, .long e0, .long f0], aI G ow 44 w] H := hP
  have hD : va_D A [oC oe 4 [.long (lN 12008468691120727718), .long ph, .long l0], oC oc 1 [.ref ow, .long e0, .long f0], aI G ow 44 w] := hD
  refine lv_aload_n hx hb dEn_wrap_12 rfl (lv_at hl 0 rfl) ?_
  refine lv_lload hx hb dEn_wrap_13 (lv_at hl 3 rfl) ?_
  refine pfEn_18 hx hb hts hown hG hP hD hS 0 rfl rfl rfl (Nat.le_of_ble_eq_true rfl) dEn_wrap_15 (fun H locs hP hD hS => ?_)
  have hP : va_P G.1 vwCl [oC oe 4 [.long (lN 12008468691120727718), .long ph, .long pl], oC oc 1 [.ref ow, .long e0, .long f0], aI G ow 44 w] H := hP
  have hD : va_D A [oC oe 4 [.long (lN 12008468691120727718), .long ph, .long pl], oC oc 1 [.ref ow, .long e0, .long f0], aI G ow 44 w] := hD
  refine lv_iconst (v := nI 1) hx hb dEn_wrap_18 (by decide) ?_
  refine lv_istore (lv' := [(6, .int (nI 1)), (0, .ref oe), (1, .ref oc), (2, .long ph), (4, .long pl)]) hx hb dEn_wrap_19 hl (by decide) rfl (fun ls hl => ?_)
  have loop : ∀ (k : Nat) (n : Nat) (c1 : Int64) (h1 : Int64) (l1 : Int64) (e1 : Int64) (f1 : Int64) (H : Heap) (locs : List Loc) (ls : Array Slot), n + k = 12 → jWr w (jSeal, ph, pl) n = (c1, h1, l1) → va_P G.1 vwCl [oC oe 4 [.long c1, .long h1, .long l1], oC oc 1 [.ref ow, .long e1, .long f1], aI G ow 44 w] H → va_D A [oC oe 4 [.long c1, .long h1, .long l1], oC oc 1 [.ref ow, .long e1, .long f1], aI G ow 44 w] → va_S A s.heap H locs → lv_has ls 7 [(0, .ref oe), (1, .ref oc), (6, .int (nI (n + 1)))] → W p l e { frames := 3, cells := 0, slots := 0, locals := 76 } s m args below meth c H locs 0 0 (MQ below (cq_out G (S := Int64 × Int64) (fun _ => True) (fun u => none) (fun u => [oC oe 4 [.long ((jWr w (jSeal, ph, pl) 12).1), .long ((jWr w (jSeal, ph, pl) 12).2.1), .long ((jWr w (jSeal, ph, pl) 12).2.2)], oC oc 1 [.ref ow, .long u.1, .long u.2], aI G ow 44 w]) A) args s 0 0 A) (F0 m 21 ls []) := by
    intro k
    induction k with
    | zero =>
      intro n c1 h1 l1 e1 f1 H locs ls hk hq hP hD hS hl
      obtain rfl : n = 12 := by omega
      refine lv_iload hx hb dEn_wrap_21 (lv_at hl 2 rfl) ?_
      refine lv_bipush (v := nI 12) hx hb dEn_wrap_23 (by decide) ?_
      refine lv_icmp_gt (tgt := 83) hx hb dEn_wrap_25 rfl (fun _ => ?_) (fun h => absurd (nI_lt (by omega) (by omega)) h)
      exact cq_vret (e1, f1) (trivial) hx hb hr hlk hP hS rfl (by rw [hq]) dEn_wrap_83
    | succ k ih =>
      intro n c1 h1 l1 e1 f1 H locs ls hk hq hP hD hS hl
      refine lv_iload hx hb dEn_wrap_21 (lv_at hl 2 rfl) ?_
      refine lv_bipush (v := nI 12) hx hb dEn_wrap_23 (by decide) ?_
      refine lv_icmp_gt (tgt := 83) hx hb dEn_wrap_25 rfl (fun h => absurd h (nI_nlt (by omega) (by omega))) (fun _ => ?_)
      refine lv_aload_n hx hb dEn_wrap_28 rfl (lv_at hl 1 rfl) ?_
      refine lv_aload_n hx hb dEn_wrap_29 rfl (lv_at hl 0 rfl) ?_
      refine gfEn_11 hx hb hts hown hG hP 0 rfl rfl dEn_wrap_30 ?_
      refine lv_iload hx hb dEn_wrap_33 (lv_at hl 2 rfl) ?_
      refine lv_iconst (v := nI 2) hx hb dEn_wrap_35 (by decide) ?_
      refine lv_irem hx hb dEn_wrap_36 (by decide) ?_
      refine ck_ri (y := nI ((n + 1) % 2)) (pk_rem (by omega) (by omega) (by omega)) ?_
      refine lv_iconst (v := nI 1) hx hb dEn_wrap_37 (by decide) ?_
      refine lv_icmp_ne (tgt := 48) hx hb dEn_wrap_38 rfl (fun h9 => ?_) (fun h9 => ?_)
      · have hm : ¬ (n + 1) % 2 = 1 := fun z => h9 (by rw [z])
        refine lv_aload_n hx hb dEn_wrap_48 rfl (lv_at hl 0 rfl) ?_
        refine gfEn_18 hx hb hts hown hG hP 0 rfl rfl dEn_wrap_49 ?_
        refine clEn_21 (As := [.long c1, .long l1]) (rest := []) hx hb hml hown hts (k_Ci_encrypt l G oc ow w e1 f1 c1 l1) hG hA hP hD hS 1 rfl [1, 2] rfl rfl (fun _ => rfl) rfl hl.1 rfl (Nat.le_of_ble_eq_true rfl) ⟨by decide, by decide⟩ ⟨by decide, by decide⟩ dEn_wrap_52 (fun _ H locs _ hP hD hS => ?_)
        have hP : va_P G.1 vwCl [oC oe 4 [.long c1, .long h1, .long l1], oC oc 1 [.ref ow, .long (jEH w c1 l1), .long (jEL w c1 l1)], aI G ow 44 w] H := hP
        have hD : va_D A [oC oe 4 [.long c1, .long h1, .long l1], oC oc 1 [.ref ow, .long (jEH w c1 l1), .long (jEL w c1 l1)], aI G ow 44 w] := hD
        refine W.cs (cells' := 0) (slots' := 0) rfl rfl ?_
        refine W.eq (g2 := F0 m 55 ls []) rfl ?_
        refine lv_aload_n hx hb dEn_wrap_55 rfl (lv_at hl 0 rfl) ?_
        refine lv_aload_n hx hb dEn_wrap_56 rfl (lv_at hl 1 rfl) ?_
        refine gfEn_27 hx hb hts hown hG hP 1 rfl rfl dEn_wrap_57 ?_
        refine lv_iload hx hb dEn_wrap_60 (lv_at hl 2 rfl) ?_
        refine lv_i2l (v := (nI (n + 1)).toInt64) hx hb dEn_wrap_62 rfl ?_
        refine lv_lxor hx hb dEn_wrap_63 ?_
        refine pfEn_11 hx hb hts hown hG hP hD hS 0 rfl rfl rfl (Nat.le_of_ble_eq_true rfl) dEn_wrap_64 (fun H locs hP hD hS => ?_)
        have hP : va_P G.1 vwCl [oC oe 4 [.long ((jEH w c1 l1) ^^^ ((nI (n + 1)).toInt64)), .long h1, .long l1], oC oc 1 [.ref ow, .long (jEH w c1 l1), .long (jEL w c1 l1)], aI G ow 44 w] H := hP
        have hD : va_D A [oC oe 4 [.long ((jEH w c1 l1) ^^^ ((nI (n + 1)).toInt64)), .long h1, .long l1], oC oc 1 [.ref ow, .long (jEH w c1 l1), .long (jEL w c1 l1)], aI G ow 44 w] := hD
        refine lv_aload_n hx hb dEn_wrap_67 rfl (lv_at hl 0 rfl) ?_
        refine lv_iload hx hb dEn_wrap_68 (lv_at hl 2 rfl) ?_
        refine lv_aload_n hx hb dEn_wrap_70 rfl (lv_at hl 1 rfl) ?_
        refine gfEn_28 hx hb hts hown hG hP 1 rfl rfl dEn_wrap_71 ?_
        refine clEn_29 (As := [.int (nI (n + 1)), .long (jEL w c1 l1)]) (rest := []) hx hb hml hown hts (k_En_keepHalf l G oe (n + 1) (by omega) ((jEH w c1 l1) ^^^ ((nI (n + 1)).toInt64)) h1 l1 (jEL w c1 l1)) hG hA hP hD hS 0 rfl [0] rfl rfl (fun _ => rfl) rfl hl.1 rfl (Nat.le_of_ble_eq_true rfl) ⟨by decide, by decide⟩ ⟨by decide, by decide⟩ dEn_wrap_74 (fun _ H locs _ hP hD hS => ?_)
        have hP : va_P G.1 vwCl [oC oe 4 [.long ((jEH w c1 l1) ^^^ ((nI (n + 1)).toInt64)), .long (jSel (n + 1) (jEL w c1 l1) h1), .long (jSel (n + 1) l1 (jEL w c1 l1))], oC oc 1 [.ref ow, .long (jEH w c1 l1), .long (jEL w c1 l1)], aI G ow 44 w] H := hP
        have hD : va_D A [oC oe 4 [.long ((jEH w c1 l1) ^^^ ((nI (n + 1)).toInt64)), .long (jSel (n + 1) (jEL w c1 l1) h1), .long (jSel (n + 1) l1 (jEL w c1 l1))], oC oc 1 [.ref ow, .long (jEH w c1 l1), .long (jEL w c1 l1)], aI G ow 44 w] := hD
        refine W.cs (cells' := 0) (slots' := 0) rfl rfl ?_
        refine W.eq (g2 := F0 m 77 ls []) rfl ?_
        refine lv_iinc (v := nI (n + 1 + 1)) (lv' := [(6, .int (nI (n + 1 + 1))), (0, .ref oe), (1, .ref oc)]) hx hb dEn_wrap_77 hl (k := 2) rfl (nI_1 (n + 1)) (by decide) rfl (fun ls hl => ?_)
        refine lv_goto (tgt := 21) hx hb dEn_wrap_80 rfl ?_
        have e9 : jWr w (jSeal, ph, pl) (n + 1) = ((jEH w c1 l1) ^^^ ((nI (n + 1)).toInt64), jSel (n + 1) (jEL w c1 l1) h1, jSel (n + 1) l1 (jEL w c1 l1)) := by
          rw [jWr, hq]
          show jWs w (n + 1) c1 h1 l1 = _
          unfold jWs
          rw [show jSel (n + 1) h1 l1 = l1 from if_neg hm]
        exact ih (n + 1) _ _ _ _ _ _ _ _ (by omega) e9 hP hD hS (lv_sub hl [1, 2, 0] rfl)
      · have hm : (n + 1) % 2 = 1 := (nI_eq (by omega) (by omega)).mp h9
        refine lv_aload_n hx hb dEn_wrap_41 rfl (lv_at hl 0 rfl) ?_
        refine gfEn_15 hx hb hts hown hG hP 0 rfl rfl dEn_wrap_42 ?_
        refine lv_goto (tgt := 52) hx hb dEn_wrap_45 rfl ?_
        refine clEn_21 (As := [.long c1, .long h1]) (rest := []) hx hb hml hown hts (k_Ci_encrypt l G oc ow w e1 f1 c1 h1) hG hA hP hD hS 1 rfl [1, 2] rfl rfl (fun _ => rfl) rfl hl.1 rfl (Nat.le_of_ble_eq_true rfl) ⟨by decide, by decide⟩ ⟨by decide, by decide⟩ dEn_wrap_52 (fun _ H locs _ hP hD hS => ?_)
        have hP : va_P G.1 vwCl [oC oe 4 [.long c1, .long h1, .long l1], oC oc 1 [.ref ow, .long (jEH w c1 h1), .long (jEL w c1 h1)], aI G ow 44 w] H := hP
        have hD : va_D A [oC oe 4 [.long c1, .long h1, .long l1], oC oc 1 [.ref ow, .long (jEH w c1 h1), .long (jEL w c1 h1)], aI G ow 44 w] := hD
        refine W.cs (cells' := 0) (slots' := 0) rfl rfl ?_
        refine W.eq (g2 := F0 m 55 ls []) rfl ?_
        refine lv_aload_n hx hb dEn_wrap_55 rfl (lv_at hl 0 rfl) ?_
        refine lv_aload_n hx hb dEn_wrap_56 rfl (lv_at hl 1 rfl) ?_
        refine gfEn_27 hx hb hts hown hG hP 1 rfl rfl dEn_wrap_57 ?_
        refine lv_iload hx hb dEn_wrap_60 (lv_at hl 2 rfl) ?_
        refine lv_i2l (v := (nI (n + 1)).toInt64) hx hb dEn_wrap_62 rfl ?_
        refine lv_lxor hx hb dEn_wrap_63 ?_
        refine pfEn_11 hx hb hts hown hG hP hD hS 0 rfl rfl rfl (Nat.le_of_ble_eq_true rfl) dEn_wrap_64 (fun H locs hP hD hS => ?_)
        have hP : va_P G.1 vwCl [oC oe 4 [.long ((jEH w c1 h1) ^^^ ((nI (n + 1)).toInt64)), .long h1, .long l1], oC oc 1 [.ref ow, .long (jEH w c1 h1), .long (jEL w c1 h1)], aI G ow 44 w] H := hP
        have hD : va_D A [oC oe 4 [.long ((jEH w c1 h1) ^^^ ((nI (n + 1)).toInt64)), .long h1, .long l1], oC oc 1 [.ref ow, .long (jEH w c1 h1), .long (jEL w c1 h1)], aI G ow 44 w] := hD
        refine lv_aload_n hx hb dEn_wrap_67 rfl (lv_at hl 0 rfl) ?_
        refine lv_iload hx hb dEn_wrap_68 (lv_at hl 2 rfl) ?_
        refine lv_aload_n hx hb dEn_wrap_70 rfl (lv_at hl 1 rfl) ?_
        refine gfEn_28 hx hb hts hown hG hP 1 rfl rfl dEn_wrap_71 ?_
        refine clEn_29 (As := [.int (nI (n + 1)), .long (jEL w c1 h1)]) (rest := []) hx hb hml hown hts (k_En_keepHalf l G oe (n + 1) (by omega) ((jEH w c1 h1) ^^^ ((nI (n + 1)).toInt64)) h1 l1 (jEL w c1 h1)) hG hA hP hD hS 0 rfl [0] rfl rfl (fun _ => rfl) rfl hl.1 rfl (Nat.le_of_ble_eq_true rfl) ⟨by decide, by decide⟩ ⟨by decide, by decide⟩ dEn_wrap_74 (fun _ H locs _ hP hD hS => ?_)
        have hP : va_P G.1 vwCl [oC oe 4 [.long ((jEH w c1 h1) ^^^ ((nI (n + 1)).toInt64)), .long (jSel (n + 1) (jEL w c1 h1) h1), .long (jSel (n + 1) l1 (jEL w c1 h1))], oC oc 1 [.ref ow, .long (jEH w c1 h1), .long (jEL w c1 h1)], aI G ow 44 w] H := hP
        have hD : va_D A [oC oe 4 [.long ((jEH w c1 h1) ^^^ ((nI (n + 1)).toInt64)), .long (jSel (n + 1) (jEL w c1 h1) h1), .long (jSel (n + 1) l1 (jEL w c1 h1))], oC oc 1 [.ref ow, .long (jEH w c1 h1), .long (jEL w c1 h1)], aI G ow 44 w] := hD
        refine W.cs (cells' := 0) (slots' := 0) rfl rfl ?_
        refine W.eq (g2 := F0 m 77 ls []) rfl ?_
        refine lv_iinc (v := nI (n + 1 + 1)) (lv' := [(6, .int (nI (n + 1 + 1))), (0, .ref oe), (1, .ref oc)]) hx hb dEn_wrap_77 hl (k := 2) rfl (nI_1 (n + 1)) (by decide) rfl (fun ls hl => ?_)
        refine lv_goto (tgt := 21) hx hb dEn_wrap_80 rfl ?_
        have e9 : jWr w (jSeal, ph, pl) (n + 1) = ((jEH w c1 h1) ^^^ ((nI (n + 1)).toInt64), jSel (n + 1) (jEL w c1 h1) h1, jSel (n + 1) l1 (jEL w c1 h1)) := by
          rw [jWr, hq]
          show jWs w (n + 1) c1 h1 l1 = _
          unfold jWs
          rw [show jSel (n + 1) h1 l1 = h1 from if_pos hm]
        exact ih (n + 1) _ _ _ _ _ _ _ _ (by omega) e9 hP hD hS (lv_sub hl [1, 2, 0] rfl)
  exact loop 12 0 _ _ _ _ _ _ _ _ (by omega) rfl hP hD hS (lv_sub hl [1, 2, 0] rfl)
set_option maxHeartbeats 4000000 in
set_option maxRecDepth 100000 in
theorem k_En_unwrap (l : Launch) (G : gG) (oe oc ow : Nat) (w : Nat → Int32) (c0 h0 l0 e0 f0 : Int64) : Cq l G yEn_unwrap cEn_unwrap 3 (some .boolean) { frames := 4, cells := 0, slots := 0, locals := 96 } [.ref oe, .ref oc] [oC oe 4 [.long c0, .long h0, .long l0], oC oc 1 [.ref ow, .long e0, .long f0], aI G ow 44 w] (S := Int64 × Int64) (fun _ => True) (fun u => some (.int (jB (decide ((jUw w (c0, h0, l0) 12).1 = jSeal))))) (fun u => [oC oe 4 [.long ((jUw w (c0, h0, l0) 12).1), .long ((jUw w (c0, h0, l0) 12).2.1), .long ((jUw w (c0, h0, l0) 12).2.2)], oC oc 1 [.ref ow, .long u.1, .long u.2], aI G ow 44 w]) := by
  refine Cq.of (by decide) (Nat.le_of_ble_eq_true rfl) ?_
  intro p e s m args below meth c A ls hx hb hr hml hts hown hlk hA hP hD hG hS hl
  have hl : lv_has ls 3 [(0, .ref oe), (1, .ref oc)] := hl
  refine lv_bipush (v := nI 12) hx hb dEn_unwrap_0 (by decide) ?_
  refine lv_istore_n (lv' := [(2, .int (nI 12)), (0, .ref oe), (1, .ref oc)]) hx hb dEn_unwrap_2 rfl hl (by decide) rfl (fun ls hl => ?_)
  have loop : ∀ (k : Nat) (n : Nat) (c1 : Int64) (h1 : Int64) (l1 : Int64) (e1 : Int64) (f1 : Int64) (H : Heap) (locs : List Loc) (ls : Array Slot), n + k = 12 → jUw w (c0, h0, l0) n = (c1, h1, l1) → va_P G.1 vwCl [oC oe 4 [.long c1, .long h1, .long l1], oC oc 1 [.ref ow, .long e1, .long f1], aI G ow 44 w] H → va_D A [oC oe 4 [.long c1, .long h1, .long l1], oC oc 1 [.ref ow, .long e1, .long f1], aI G ow 44 w] → va_S A s.heap H locs → lv_has ls 3 [(0, .ref oe), (1, .ref oc), (2, .int (nI (12 - n)))] → W p l e { frames := 4, cells := 0, slots := 0, locals := 96 } s m args below meth c H locs 0 0 (MQ below (cq_out G (S := Int64 × Int64) (fun _ => True) (fun u => some (.int (jB (decide ((jUw w (c0, h0, l0) 12).1 = jSeal))))) (fun u => [oC oe 4 [.long ((jUw w (c0, h0, l0) 12).1), .long ((jUw w (c0, h0, l0) 12).2.1), .long ((jUw w (c0, h0, l0) 12).2.2)], oC oc 1 [.ref ow, .long u.1, .long u.2], aI G ow 44 w]) A) args s 0 0 A) (F0 m 3 ls []) := by
    intro k
    induction k with
    | zero =>
      intro n c1 h1 l1 e1 f1 H locs ls hk hq hP hD hS hl
      obtain rfl : n = 12 := by omega
      refine lv_iload_n hx hb dEn_unwrap_3 rfl (lv_at hl 2 rfl) ?_
      refine lv_iconst (v := nI 1) hx hb dEn_unwrap_4 (by decide) ?_
      refine lv_icmp_lt (tgt := 60) hx hb dEn_unwrap_5 rfl (fun _ => ?_) (fun h => absurd (nI_lt (a := 12 - 12) (b := 1) (by omega) (by omega)) h)
      refine lv_aload_n hx hb dEn_unwrap_60 rfl (lv_at hl 0 rfl) ?_
      refine gfEn_11 hx hb hts hown hG hP 0 rfl rfl dEn_unwrap_61 ?_
      refine lv_ldc2 (v := lN 12008468691120727718) hx hb hown (hts _ kkEn_9) dEn_unwrap_64 ?_
      refine W.lcmp hx hb dEn_unwrap_67 ?_
      refine lv_if_ne (tgt := 75) hx hb dEn_unwrap_68 rfl (fun h9 => ?_) (fun h9 => ?_)
      · have hm : ¬ c1 = jSeal := fun z => h9 ((lg_cmp_0 _ _).mpr z)
        refine lv_iconst (v := nI 0) hx hb dEn_unwrap_75 (by decide) ?_
        exact cq_zret (e1, f1) (trivial) hx hb hr hlk hP hS (rfl) (by rw [hq]; show some (Value.int _) = some (Value.int (jB (decide (c1 = jSeal)))); first | (rw [decide_eq_true hm]; rfl) | (rw [decide_eq_false hm]; rfl)) (by rw [hq]) dEn_unwrap_76
      · have hm : c1 = jSeal := (lg_cmp_0 _ _).mp h9
        refine lv_iconst (v := nI 1) hx hb dEn_unwrap_71 (by decide) ?_
        refine lv_goto (tgt := 76) hx hb dEn_unwrap_72 rfl ?_
        exact cq_zret (e1, f1) (trivial) hx hb hr hlk hP hS (rfl) (by rw [hq]; show some (Value.int _) = some (Value.int (jB (decide (c1 = jSeal)))); first | (rw [decide_eq_true hm]; rfl) | (rw [decide_eq_false hm]; rfl)) (by rw [hq]) dEn_unwrap_76
    | succ k ih =>
      intro n c1 h1 l1 e1 f1 H locs ls hk hq hP hD hS hl
      refine lv_iload_n hx hb dEn_unwrap_3 rfl (lv_at hl 2 rfl) ?_
      refine lv_iconst (v := nI 1) hx hb dEn_unwrap_4 (by decide) ?_
      refine lv_icmp_lt (tgt := 60) hx hb dEn_unwrap_5 rfl (fun h => absurd h (nI_nlt (a := 12 - n) (b := 1) (by omega) (by omega))) (fun _ => ?_)
      refine lv_aload_n hx hb dEn_unwrap_8 rfl (lv_at hl 1 rfl) ?_
      refine lv_aload_n hx hb dEn_unwrap_9 rfl (lv_at hl 0 rfl) ?_
      refine gfEn_11 hx hb hts hown hG hP 0 rfl rfl dEn_unwrap_10 ?_
      refine lv_iload_n hx hb dEn_unwrap_13 rfl (lv_at hl 2 rfl) ?_
      refine lv_i2l (v := (nI (12 - n)).toInt64) hx hb dEn_unwrap_14 rfl ?_
      refine lv_lxor hx hb dEn_unwrap_15 ?_
      refine lv_iload_n hx hb dEn_unwrap_16 rfl (lv_at hl 2 rfl) ?_
      refine lv_iconst (v := nI 2) hx hb dEn_unwrap_17 (by decide) ?_
      refine lv_irem hx hb dEn_unwrap_18 (by decide) ?_
      refine ck_ri (y := nI ((12 - n) % 2)) (pk_rem (by omega) (by omega) (by omega)) ?_
      refine lv_iconst (v := nI 1) hx hb dEn_unwrap_19 (by decide) ?_
      refine lv_icmp_ne (tgt := 30) hx hb dEn_unwrap_20 rfl (fun h9 => ?_) (fun h9 => ?_)
      · have hm : ¬ (12 - n) % 2 = 1 := fun z => h9 (by rw [z])
        refine lv_aload_n hx hb dEn_unwrap_30 rfl (lv_at hl 0 rfl) ?_
        refine gfEn_18 hx hb hts hown hG hP 0 rfl rfl dEn_unwrap_31 ?_
        refine clEn_33 (As := [.long (c1 ^^^ ((nI (12 - n)).toInt64)), .long l1]) (rest := []) hx hb hml hown hts (k_Ci_decrypt l G oc ow w e1 f1 (c1 ^^^ ((nI (12 - n)).toInt64)) l1) hG hA hP hD hS 1 rfl [1, 2] rfl rfl (fun _ => rfl) rfl hl.1 rfl (Nat.le_of_ble_eq_true rfl) ⟨by decide, by decide⟩ ⟨by decide, by decide⟩ dEn_unwrap_34 (fun _ H locs _ hP hD hS => ?_)
        have hP : va_P G.1 vwCl [oC oe 4 [.long c1, .long h1, .long l1], oC oc 1 [.ref ow, .long (jDH w (c1 ^^^ ((nI (12 - n)).toInt64)) l1), .long (jDL w (c1 ^^^ ((nI (12 - n)).toInt64)) l1)], aI G ow 44 w] H := hP
        have hD : va_D A [oC oe 4 [.long c1, .long h1, .long l1], oC oc 1 [.ref ow, .long (jDH w (c1 ^^^ ((nI (12 - n)).toInt64)) l1), .long (jDL w (c1 ^^^ ((nI (12 - n)).toInt64)) l1)], aI G ow 44 w] := hD
        refine W.cs (cells' := 0) (slots' := 0) rfl rfl ?_
        refine W.eq (g2 := F0 m 37 ls []) rfl ?_
        refine lv_aload_n hx hb dEn_unwrap_37 rfl (lv_at hl 0 rfl) ?_
        refine lv_aload_n hx hb dEn_unwrap_38 rfl (lv_at hl 1 rfl) ?_
        refine gfEn_27 hx hb hts hown hG hP 1 rfl rfl dEn_unwrap_39 ?_
        refine pfEn_11 hx hb hts hown hG hP hD hS 0 rfl rfl rfl (Nat.le_of_ble_eq_true rfl) dEn_unwrap_42 (fun H locs hP hD hS => ?_)
        have hP : va_P G.1 vwCl [oC oe 4 [.long (jDH w (c1 ^^^ ((nI (12 - n)).toInt64)) l1), .long h1, .long l1], oC oc 1 [.ref ow, .long (jDH w (c1 ^^^ ((nI (12 - n)).toInt64)) l1), .long (jDL w (c1 ^^^ ((nI (12 - n)).toInt64)) l1)], aI G ow 44 w] H := hP
        have hD : va_D A [oC oe 4 [.long (jDH w (c1 ^^^ ((nI (12 - n)).toInt64)) l1), .long h1, .long l1], oC oc 1 [.ref ow, .long (jDH w (c1 ^^^ ((nI (12 - n)).toInt64)) l1), .long (jDL w (c1 ^^^ ((nI (12 - n)).toInt64)) l1)], aI G ow 44 w] := hD
        refine lv_aload_n hx hb dEn_unwrap_45 rfl (lv_at hl 0 rfl) ?_
        refine lv_iload_n hx hb dEn_unwrap_46 rfl (lv_at hl 2 rfl) ?_
        refine lv_aload_n hx hb dEn_unwrap_47 rfl (lv_at hl 1 rfl) ?_
        refine gfEn_28 hx hb hts hown hG hP 1 rfl rfl dEn_unwrap_48 ?_
        refine clEn_29 (As := [.int (nI (12 - n)), .long (jDL w (c1 ^^^ ((nI (12 - n)).toInt64)) l1)]) (rest := []) hx hb hml hown hts (k_En_keepHalf l G oe (12 - n) (by omega) (jDH w (c1 ^^^ ((nI (12 - n)).toInt64)) l1) h1 l1 (jDL w (c1 ^^^ ((nI (12 - n)).toInt64)) l1)) hG hA hP hD hS 0 rfl [0] rfl rfl (fun _ => rfl) rfl hl.1 rfl (Nat.le_of_ble_eq_true rfl) ⟨by decide, by decide⟩ ⟨by decide, by decide⟩ dEn_unwrap_51 (fun _ H locs _ hP hD hS => ?_)
        have hP : va_P G.1 vwCl [oC oe 4 [.long (jDH w (c1 ^^^ ((nI (12 - n)).toInt64)) l1), .long (jSel (12 - n) (jDL w (c1 ^^^ ((nI (12 - n)).toInt64)) l1) h1), .long (jSel (12 - n) l1 (jDL w (c1 ^^^ ((nI (12 - n)).toInt64)) l1))], oC oc 1 [.ref ow, .long (jDH w (c1 ^^^ ((nI (12 - n)).toInt64)) l1), .long (jDL w (c1 ^^^ ((nI (12 - n)).toInt64)) l1)], aI G ow 44 w] H := hP
        have hD : va_D A [oC oe 4 [.long (jDH w (c1 ^^^ ((nI (12 - n)).toInt64)) l1), .long (jSel (12 - n) (jDL w (c1 ^^^ ((nI (12 - n)).toInt64)) l1) h1), .long (jSel (12 - n) l1 (jDL w (c1 ^^^ ((nI (12 - n)).toInt64)) l1))], oC oc 1 [.ref ow, .long (jDH w (c1 ^^^ ((nI (12 - n)).toInt64)) l1), .long (jDL w (c1 ^^^ ((nI (12 - n)).toInt64)) l1)], aI G ow 44 w] := hD
        refine W.cs (cells' := 0) (slots' := 0) rfl rfl ?_
        refine W.eq (g2 := F0 m 54 ls []) rfl ?_
        refine lv_iinc (v := nI (12 - (n + 1))) (lv' := [(2, .int (nI (12 - (n + 1)))), (0, .ref oe), (1, .ref oc)]) hx hb dEn_unwrap_54 hl (k := 2) rfl (by rw [show 12 - n = (12 - (n + 1)) + 1 by omega]; exact pk_m1 _) (by decide) rfl (fun ls hl => ?_)
        refine lv_goto (tgt := 3) hx hb dEn_unwrap_57 rfl ?_
        have e9 : jUw w (c0, h0, l0) (n + 1) = (jDH w (c1 ^^^ ((nI (12 - n)).toInt64)) l1, jSel (12 - n) (jDL w (c1 ^^^ ((nI (12 - n)).toInt64)) l1) h1, jSel (12 - n) l1 (jDL w (c1 ^^^ ((nI (12 - n)).toInt64)) l1)) := by
          rw [jUw, hq]
          show jUs w (12 - n) c1 h1 l1 = _
          unfold jUs
          rw [show jSel (12 - n) h1 l1 = l1 from if_neg hm]
        exact ih (n + 1) _ _ _ _ _ _ _ _ (by omega) e9 hP hD hS (lv_sub hl [1, 2, 0] rfl)
      · have hm : (12 - n) % 2 = 1 := (nI_eq (by omega) (by omega)).mp h9
        refine lv_aload_n hx hb dEn_unwrap_23 rfl (lv_at hl 0 rfl) ?_
        refine gfEn_15 hx hb hts hown hG hP 0 rfl rfl dEn_unwrap_24 ?_
        refine lv_goto (tgt := 34) hx hb dEn_unwrap_27 rfl ?_
        refine clEn_33 (As := [.long (c1 ^^^ ((nI (12 - n)).toInt64)), .long h1]) (rest := []) hx hb hml hown hts (k_Ci_decrypt l G oc ow w e1 f1 (c1 ^^^ ((nI (12 - n)).toInt64)) h1) hG hA hP hD hS 1 rfl [1, 2] rfl rfl (fun _ => rfl) rfl hl.1 rfl (Nat.le_of_ble_eq_true rfl) ⟨by decide, by decide⟩ ⟨by decide, by decide⟩ dEn_unwrap_34 (fun _ H locs _ hP hD hS => ?_)
        have hP : va_P G.1 vwCl [oC oe 4 [.long c1, .long h1, .long l1], oC oc 1 [.ref ow, .long (jDH w (c1 ^^^ ((nI (12 - n)).toInt64)) h1), .long (jDL w (c1 ^^^ ((nI (12 - n)).toInt64)) h1)], aI G ow 44 w] H := hP
        have hD : va_D A [oC oe 4 [.long c1, .long h1, .long l1], oC oc 1 [.ref ow, .long (jDH w (c1 ^^^ ((nI (12 - n)).toInt64)) h1), .long (jDL w (c1 ^^^ ((nI (12 - n)).toInt64)) h1)], aI G ow 44 w] := hD
        refine W.cs (cells' := 0) (slots' := 0) rfl rfl ?_
        refine W.eq (g2 := F0 m 37 ls []) rfl ?_
        refine lv_aload_n hx hb dEn_unwrap_37 rfl (lv_at hl 0 rfl) ?_
        refine lv_aload_n hx hb dEn_unwrap_38 rfl (lv_at hl 1 rfl) ?_
        refine gfEn_27 hx hb hts hown hG hP 1 rfl rfl dEn_unwrap_39 ?_
        refine pfEn_11 hx hb hts hown hG hP hD hS 0 rfl rfl rfl (Nat.le_of_ble_eq_true rfl) dEn_unwrap_42 (fun H locs hP hD hS => ?_)
        have hP : va_P G.1 vwCl [oC oe 4 [.long (jDH w (c1 ^^^ ((nI (12 - n)).toInt64)) h1), .long h1, .long l1], oC oc 1 [.ref ow, .long (jDH w (c1 ^^^ ((nI (12 - n)).toInt64)) h1), .long (jDL w (c1 ^^^ ((nI (12 - n)).toInt64)) h1)], aI G ow 44 w] H := hP
        have hD : va_D A [oC oe 4 [.long (jDH w (c1 ^^^ ((nI (12 - n)).toInt64)) h1), .long h1, .long l1], oC oc 1 [.ref ow, .long (jDH w (c1 ^^^ ((nI (12 - n)).toInt64)) h1), .long (jDL w (c1 ^^^ ((nI (12 - n)).toInt64)) h1)], aI G ow 44 w] := hD
        refine lv_aload_n hx hb dEn_unwrap_45 rfl (lv_at hl 0 rfl) ?_
        refine lv_iload_n hx hb dEn_unwrap_46 rfl (lv_at hl 2 rfl) ?_
        refine lv_aload_n hx hb dEn_unwrap_47 rfl (lv_at hl 1 rfl) ?_
        refine gfEn_28 hx hb hts hown hG hP 1 rfl rfl dEn_unwrap_48 ?_
        refine clEn_29 (As := [.int (nI (12 - n)), .long (jDL w (c1 ^^^ ((nI (12 - n)).toInt64)) h1)]) (rest := []) hx hb hml hown hts (k_En_keepHalf l G oe (12 - n) (by omega) (jDH w (c1 ^^^ ((nI (12 - n)).toInt64)) h1) h1 l1 (jDL w (c1 ^^^ ((nI (12 - n)).toInt64)) h1)) hG hA hP hD hS 0 rfl [0] rfl rfl (fun _ => rfl) rfl hl.1 rfl (Nat.le_of_ble_eq_true rfl) ⟨by decide, by decide⟩ ⟨by decide, by decide⟩ dEn_unwrap_51 (fun _ H locs _ hP hD hS => ?_)
        have hP : va_P G.1 vwCl [oC oe 4 [.long (jDH w (c1 ^^^ ((nI (12 - n)).toInt64)) h1), .long (jSel (12 - n) (jDL w (c1 ^^^ ((nI (12 - n)).toInt64)) h1) h1), .long (jSel (12 - n) l1 (jDL w (c1 ^^^ ((nI (12 - n)).toInt64)) h1))], oC oc 1 [.ref ow, .long (jDH w (c1 ^^^ ((nI (12 - n)).toInt64)) h1), .long (jDL w (c1 ^^^ ((nI (12 - n)).toInt64)) h1)], aI G ow 44 w] H := hP
        have hD : va_D A [oC oe 4 [.long (jDH w (c1 ^^^ ((nI (12 - n)).toInt64)) h1), .long (jSel (12 - n) (jDL w (c1 ^^^ ((nI (12 - n)).toInt64)) h1) h1), .long (jSel (12 - n) l1 (jDL w (c1 ^^^ ((nI (12 - n)).toInt64)) h1))], oC oc 1 [.ref ow, .long (jDH w (c1 ^^^ ((nI (12 - n)).toInt64)) h1), .long (jDL w (c1 ^^^ ((nI (12 - n)).toInt64)) h1)], aI G ow 44 w] := hD
        refine W.cs (cells' := 0) (slots' := 0) rfl rfl ?_
        refine W.eq (g2 := F0 m 54 ls []) rfl ?_
        refine lv_iinc (v := nI (12 - (n + 1))) (lv' := [(2, .int (nI (12 - (n + 1)))), (0, .ref oe), (1, .ref oc)]) hx hb dEn_unwrap_54 hl (k := 2) rfl (by rw [show 12 - n = (12 - (n + 1)) + 1 by omega]; exact pk_m1 _) (by decide) rfl (fun ls hl => ?_)
        refine lv_goto (tgt := 3) hx hb dEn_unwrap_57 rfl ?_
        have e9 : jUw w (c0, h0, l0) (n + 1) = (jDH w (c1 ^^^ ((nI (12 - n)).toInt64)) h1, jSel (12 - n) (jDL w (c1 ^^^ ((nI (12 - n)).toInt64)) h1) h1, jSel (12 - n) l1 (jDL w (c1 ^^^ ((nI (12 - n)).toInt64)) h1)) := by
          rw [jUw, hq]
          show jUs w (12 - n) c1 h1 l1 = _
          unfold jUs
          rw [show jSel (12 - n) h1 l1 = h1 from if_pos hm]
        exact ih (n + 1) _ _ _ _ _ _ _ _ (by omega) e9 hP hD hS (lv_sub hl [1, 2, 0] rfl)
  exact loop 12 0 _ _ _ _ _ _ _ _ (by omega) rfl hP hD hS (lv_sub hl [1, 2, 0] rfl)
