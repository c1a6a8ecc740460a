/-! the cipher's methods -/
theorem ck_by (x : Int32) {n : Nat} (hn : n < 32) : ush x (nI n) &&& nI 255 = nI (un x / 2 ^ n % 256) := by
  rw [and_nI (ush x (nI n)) 8 rfl (by decide), un_ush x hn]
def jKw (kh kl : Int64) (w : Nat → Int32) : Nat → Int32 := upd (upd (upd (upd w 0 (lush kh (nI 32)).toInt32) 1 kh.toInt32) 2 (lush kl (nI 32)).toInt32) 3 kl.toInt32
/-- one step of the key's words: word n + 4 -/
def jKst (n : Nat) (q : (Nat → Int32) × Int32) : (Nat → Int32) × Int32 := if n % 4 = 0 then (upd q.1 (n + 4) (q.1 n ^^^ (jGat ckS (jTurn (q.1 (n + 3)) (nI 8)) (jTurn (q.1 (n + 3)) (nI 8)) (jTurn (q.1 (n + 3)) (nI 8)) (jTurn (q.1 (n + 3)) (nI 8)) ^^^ ish q.2 (nI 24))), jTwice q.2) else (upd q.1 (n + 4) (q.1 n ^^^ q.1 (n + 3)), q.2)
def jKs (w0 : Nat → Int32) : Nat → (Nat → Int32) × Int32
  | 0 => (w0, nI 1)
  | n + 1 => jKst n (jKs w0 n)
def jLg (a b : Int32) : Int64 := lsh a.toInt64 (nI 32) ||| (b.toInt64 &&& lN 4294967295)
abbrev Q4 : Type := Int32 × Int32 × Int32 × Int32
def jEr (w : Nat → Int32) (r : Nat) (q : Q4) : Q4 := if r < 10 then (jMix (jGat ckS q.1 q.2.1 q.2.2.1 q.2.2.2) ^^^ w (4 * r), jMix (jGat ckS q.2.1 q.2.2.1 q.2.2.2 q.1) ^^^ w (4 * r + 1), jMix (jGat ckS q.2.2.1 q.2.2.2 q.1 q.2.1) ^^^ w (4 * r + 2), jMix (jGat ckS q.2.2.2 q.1 q.2.1 q.2.2.1) ^^^ w (4 * r + 3))
  else (jGat ckS q.1 q.2.1 q.2.2.1 q.2.2.2 ^^^ w (4 * r), jGat ckS q.2.1 q.2.2.1 q.2.2.2 q.1 ^^^ w (4 * r + 1), jGat ckS q.2.2.1 q.2.2.2 q.1 q.2.1 ^^^ w (4 * r + 2), jGat ckS q.2.2.2 q.1 q.2.1 q.2.2.1 ^^^ w (4 * r + 3))
def jE0 (w : Nat → Int32) (ph pl : Int64) : Q4 := ((lush ph (nI 32)).toInt32 ^^^ w 0, ph.toInt32 ^^^ w 1, (lush pl (nI 32)).toInt32 ^^^ w 2, pl.toInt32 ^^^ w 3)
def jEn (w : Nat → Int32) (q : Q4) : Nat → Q4
  | 0 => q
  | n + 1 => jEr w (n + 1) (jEn w q n)
def jEH (w : Nat → Int32) (ph pl : Int64) : Int64 := jLg (jEn w (jE0 w ph pl) 10).1 (jEn w (jE0 w ph pl) 10).2.1
def jEL (w : Nat → Int32) (ph pl : Int64) : Int64 := jLg (jEn w (jE0 w ph pl) 10).2.2.1 (jEn w (jE0 w ph pl) 10).2.2.2
def jDg (e f g h : Int32) : Q4 := (jGat ckU e h g f, jGat ckU f e h g, jGat ckU g f e h, jGat ckU h g f e)
def jDr (w : Nat → Int32) (r : Nat) (q : Q4) : Q4 := if r < 10 then jDg (jUnmix (q.1 ^^^ w (4 * r))) (jUnmix (q.2.1 ^^^ w (4 * r + 1))) (jUnmix (q.2.2.1 ^^^ w (4 * r + 2))) (jUnmix (q.2.2.2 ^^^ w (4 * r + 3)))
  else jDg (q.1 ^^^ w (4 * r)) (q.2.1 ^^^ w (4 * r + 1)) (q.2.2.1 ^^^ w (4 * r + 2)) (q.2.2.2 ^^^ w (4 * r + 3))
def jD0 (ph pl : Int64) : Q4 := ((lush ph (nI 32)).toInt32, ph.toInt32, (lush pl (nI 32)).toInt32, pl.toInt32)
def jDn (w : Nat → Int32) (q : Q4) : Nat → Q4
  | 0 => q
  | n + 1 => jDr w (10 - n) (jDn w q n)
def jDH (w : Nat → Int32) (ph pl : Int64) : Int64 := jLg ((jDn w (jD0 ph pl) 10).1 ^^^ w 0) ((jDn w (jD0 ph pl) 10).2.1 ^^^ w 1)
def jDL (w : Nat → Int32) (ph pl : Int64) : Int64 := jLg ((jDn w (jD0 ph pl) 10).2.2.1 ^^^ w 2) ((jDn w (jD0 ph pl) 10).2.2.2 ^^^ w 3)
set_option maxHeartbeats 4000000 in
set_option maxRecDepth 100000 in
theorem k_Ci_turn (l : Launch) (G : gG) (x b : Int32) : Ck l G yCi_turn cCi_turn 2 (some .int) { frames := 0, cells := 0, slots := 0, locals := 0 } [.int x, .int b] [] (some (.int (jTurn x b))) [] := by
  refine Cq.of (by decide) (Nat.le_of_ble_eq_true rfl) ?_
  intro p e s m args below meth c A ls hx hb hr hml hts hown hlk hA hP hD hG hS hl
  have hl : lv_has ls 2 [(0, .int x), (1, .int b)] := hl
  refine lv_iload_n hx hb dCi_turn_0 rfl (lv_at hl 0 rfl) ?_
  refine lv_iload_n hx hb dCi_turn_1 rfl (lv_at hl 1 rfl) ?_
  refine lv_ishl hx hb dCi_turn_2 ?_
  refine lv_iload_n hx hb dCi_turn_3 rfl (lv_at hl 0 rfl) ?_
  refine lv_bipush (v := nI 32) hx hb dCi_turn_4 (by decide) ?_
  refine lv_iload_n hx hb dCi_turn_6 rfl (lv_at hl 1 rfl) ?_
  refine lv_isub hx hb dCi_turn_7 ?_
  refine lv_iushr (v := ush x ((nI 32) - b)) hx hb dCi_turn_8 rfl ?_
  refine lv_ior hx hb dCi_turn_9 ?_
  exact cq_iret () (trivial) hx hb hr hlk hP hS (rfl) (rfl) dCi_turn_10
set_option maxHeartbeats 4000000 in
set_option maxRecDepth 100000 in
theorem k_Ci_twice (l : Launch) (G : gG) (x : Int32) : Ck l G yCi_twice cCi_twice 1 (some .int) { frames := 0, cells := 0, slots := 0, locals := 0 } [.int x] [] (some (.int (jTwice x))) [] := by
  refine Cq.of (by decide) (Nat.le_of_ble_eq_true rfl) ?_
  intro p e s m args below meth c A ls hx hb hr hml hts hown hlk hA hP hD hG hS hl
  have hl : lv_has ls 1 [(0, .int x)] := hl
  refine lv_iload_n hx hb dCi_twice_0 rfl (lv_at hl 0 rfl) ?_
  refine lv_ldc (v := nI 2139062143) hx hb hown (hts _ kkCi_52) dCi_twice_1 ?_
  refine lv_iand hx hb dCi_twice_3 ?_
  refine lv_iconst (v := nI 1) hx hb dCi_twice_4 (by decide) ?_
  refine lv_ishl hx hb dCi_twice_5 ?_
  refine lv_iload_n hx hb dCi_twice_6 rfl (lv_at hl 0 rfl) ?_
  refine lv_bipush (v := nI 7) hx hb dCi_twice_7 (by decide) ?_
  refine lv_iushr (v := ush x (nI 7)) hx hb dCi_twice_9 rfl ?_
  refine lv_ldc (v := nI 16843009) hx hb hown (hts _ kkCi_53) dCi_twice_10 ?_
  refine lv_iand hx hb dCi_twice_12 ?_
  refine lv_bipush (v := nI 27) hx hb dCi_twice_13 (by decide) ?_
  refine lv_imul hx hb dCi_twice_15 ?_
  refine lv_ixor hx hb dCi_twice_16 ?_
  exact cq_iret () (trivial) hx hb hr hlk hP hS (rfl) (rfl) dCi_twice_17
set_option maxHeartbeats 4000000 in
set_option maxRecDepth 100000 in
theorem k_Ci_gather (l : Launch) (G : gG) (t : Nat) (f : Nat → Int32) (ht : (t = G.2.2.1 ∧ f = ckS) ∨ (t = G.2.2.2 ∧ f = ckU)) (a1 a2 a3 a4 : Int32) : Ck l G yCi_gather cCi_gather 5 (some .int) { frames := 0, cells := 0, slots := 0, locals := 0 } [.ref t, .int a1, .int a2, .int a3, .int a4] [] (some (.int (jGat f a1 a2 a3 a4))) [] := by
  refine Cq.of (by decide) (Nat.le_of_ble_eq_true rfl) ?_
  intro p e s m args below meth c A ls hx hb hr hml hts hown hlk hA hP hD hG hS hl
  have hT : va_T .int t 256 (fun j => .int (f j)) A s s.heap := by
    rcases ht with ⟨h1, h2⟩ | ⟨h1, h2⟩
    · rw [h1, h2]; exact hG.2.1.2
    · rw [h1, h2]; exact hG.2.2.1.2
  have hl : lv_has ls 5 [(0, .ref t), (1, .int a1), (2, .int a2), (3, .int a3), (4, .int a4)] := hl
  refine lv_aload_n hx hb dCi_gather_0 rfl (lv_at hl 0 rfl) ?_
  refine lv_iload_n hx hb dCi_gather_1 rfl (lv_at hl 1 rfl) ?_
  refine lv_bipush (v := nI 24) hx hb dCi_gather_2 (by decide) ?_
  refine lv_iushr (v := ush a1 (nI 24)) hx hb dCi_gather_4 rfl ?_
  refine ck_tald hx hb hT hS (un a1 / 16777216) (ush_nI a1 (by decide)) (by have := un_lt a1; omega) (by decide) dCi_gather_5 ?_
  refine lv_bipush (v := nI 24) hx hb dCi_gather_6 (by decide) ?_
  refine lv_ishl hx hb dCi_gather_8 ?_
  refine lv_aload_n hx hb dCi_gather_9 rfl (lv_at hl 0 rfl) ?_
  refine lv_iload_n hx hb dCi_gather_10 rfl (lv_at hl 2 rfl) ?_
  refine lv_bipush (v := nI 16) hx hb dCi_gather_11 (by decide) ?_
  refine lv_iushr (v := ush a2 (nI 16)) hx hb dCi_gather_13 rfl ?_
  refine lv_sipush (v := nI 255) hx hb dCi_gather_14 (by decide) ?_
  refine lv_iand hx hb dCi_gather_17 ?_
  refine ck_tald hx hb hT hS (un a2 / 65536 % 256) (ck_by a2 (by decide)) (Nat.mod_lt _ (by decide)) (by decide) dCi_gather_18 ?_
  refine lv_bipush (v := nI 16) hx hb dCi_gather_19 (by decide) ?_
  refine lv_ishl hx hb dCi_gather_21 ?_
  refine lv_ior hx hb dCi_gather_22 ?_
  refine lv_aload_n hx hb dCi_gather_23 rfl (lv_at hl 0 rfl) ?_
  refine lv_iload_n hx hb dCi_gather_24 rfl (lv_at hl 3 rfl) ?_
  refine lv_bipush (v := nI 8) hx hb dCi_gather_25 (by decide) ?_
  refine lv_iushr (v := ush a3 (nI 8)) hx hb dCi_gather_27 rfl ?_
  refine lv_sipush (v := nI 255) hx hb dCi_gather_28 (by decide) ?_
  refine lv_iand hx hb dCi_gather_31 ?_
  refine ck_tald hx hb hT hS (un a3 / 256 % 256) (ck_by a3 (by decide)) (Nat.mod_lt _ (by decide)) (by decide) dCi_gather_32 ?_
  refine lv_bipush (v := nI 8) hx hb dCi_gather_33 (by decide) ?_
  refine lv_ishl hx hb dCi_gather_35 ?_
  refine lv_ior hx hb dCi_gather_36 ?_
  refine lv_aload_n hx hb dCi_gather_37 rfl (lv_at hl 0 rfl) ?_
  refine lv_iload hx hb dCi_gather_38 (lv_at hl 4 rfl) ?_
  refine lv_sipush (v := nI 255) hx hb dCi_gather_40 (by decide) ?_
  refine lv_iand hx hb dCi_gather_43 ?_
  refine ck_tald hx hb hT hS (un a4 % 256) (and_nI a4 8 rfl (by decide)) (Nat.mod_lt _ (by decide)) (by decide) dCi_gather_44 ?_
  refine lv_ior hx hb dCi_gather_45 ?_
  exact cq_iret () (trivial) hx hb hr hlk hP hS (rfl) (rfl) dCi_gather_46
set_option maxHeartbeats 4000000 in
set_option maxRecDepth 100000 in
theorem k_Ci_mix (l : Launch) (G : gG) (x : Int32) : Ck l G yCi_mix cCi_mix 2 (some .int) { frames := 1, cells := 0, slots := 0, locals := 21 } [.int x] [] (some (.int (jMix x))) [] := by
  refine Cq.of (by decide) (Nat.le_of_ble_eq_true rfl) ?_
  intro p e s m args below meth c A ls hx hb hr hml hts hown hlk hA hP hD hG hS hl
  have hl : lv_has ls 2 [(0, .int x)] := hl
  refine lv_iload_n hx hb dCi_mix_0 rfl (lv_at hl 0 rfl) ?_
  refine clCi_26 (As := [.int x]) (rest := []) hx hb hml hown hts (k_Ci_twice l G x) hG hA hP hD hS [] rfl rfl (fun _ => rfl) rfl hl.1 rfl (Nat.le_of_ble_eq_true rfl) ⟨by decide, by decide⟩ ⟨by decide, by decide⟩ dCi_mix_1 (fun _ H locs _ hP hD hS => ?_)
  have hP : va_P G.1 vwCl [] H := hP
  have hD : va_D A [] := hD
  refine W.cs (cells' := 0) (slots' := 0) rfl rfl ?_
  refine W.eq (g2 := F0 m 4 ls [.int (jTwice x)]) rfl ?_
  refine lv_istore_n (lv' := [(1, .int (jTwice x)), (0, .int x)]) hx hb dCi_mix_4 rfl hl (by decide) rfl (fun ls hl => ?_)
  refine lv_iload_n hx hb dCi_mix_5 rfl (lv_at hl 0 rfl) ?_
  refine lv_iload_n hx hb dCi_mix_6 rfl (lv_at hl 0 rfl) ?_
  refine lv_iload_n hx hb dCi_mix_7 rfl (lv_at hl 1 rfl) ?_
  refine lv_ixor hx hb dCi_mix_8 ?_
  refine lv_bipush (v := nI 8) hx hb dCi_mix_9 (by decide) ?_
  refine clCi_13 (As := [.int ((jTwice x) ^^^ x), .int (nI 8)]) (rest := [.int (jTwice x)]) hx hb hml hown hts (k_Ci_turn l G ((jTwice x) ^^^ x) (nI 8)) hG hA hP hD hS [] rfl rfl (fun _ => rfl) rfl hl.1 rfl (Nat.le_of_ble_eq_true rfl) ⟨by decide, by decide⟩ ⟨by decide, by decide⟩ dCi_mix_11 (fun _ H locs _ hP hD hS => ?_)
  have hP : va_P G.1 vwCl [] H := hP
  have hD : va_D A [] := hD
  refine W.cs (cells' := 0) (slots' := 0) rfl rfl ?_
  refine W.eq (g2 := F0 m 14 ls [.int (jTurn ((jTwice x) ^^^ x) (nI 8)), .int (jTwice x)]) rfl ?_
  refine lv_ixor hx hb dCi_mix_14 ?_
  refine lv_iload_n hx hb dCi_mix_15 rfl (lv_at hl 1 rfl) ?_
  refine lv_bipush (v := nI 16) hx hb dCi_mix_16 (by decide) ?_
  refine clCi_13 (As := [.int x, .int (nI 16)]) (rest := [.int ((jTwice x) ^^^ (jTurn ((jTwice x) ^^^ x) (nI 8)))]) hx hb hml hown hts (k_Ci_turn l G x (nI 16)) hG hA hP hD hS [] rfl rfl (fun _ => rfl) rfl hl.1 rfl (Nat.le_of_ble_eq_true rfl) ⟨by decide, by decide⟩ ⟨by decide, by decide⟩ dCi_mix_18 (fun _ H locs _ hP hD hS => ?_)
  have hP : va_P G.1 vwCl [] H := hP
  have hD : va_D A [] := hD
  refine W.cs (cells' := 0) (slots' := 0) rfl rfl ?_
  refine W.eq (g2 := F0 m 21 ls [.int (jTurn x (nI 16)), .int ((jTwice x) ^^^ (jTurn ((jTwice x) ^^^ x) (nI 8)))]) rfl ?_
  refine lv_ixor hx hb dCi_mix_21 ?_
  refine lv_iload_n hx hb dCi_mix_22 rfl (lv_at hl 1 rfl) ?_
  refine lv_bipush (v := nI 24) hx hb dCi_mix_23 (by decide) ?_
  refine clCi_13 (As := [.int x, .int (nI 24)]) (rest := [.int (((jTwice x) ^^^ (jTurn ((jTwice x) ^^^ x) (nI 8))) ^^^ (jTurn x (nI 16)))]) hx hb hml hown hts (k_Ci_turn l G x (nI 24)) hG hA hP hD hS [] rfl rfl (fun _ => rfl) rfl hl.1 rfl (Nat.le_of_ble_eq_true rfl) ⟨by decide, by decide⟩ ⟨by decide, by decide⟩ dCi_mix_25 (fun _ H locs _ hP hD hS => ?_)
  have hP : va_P G.1 vwCl [] H := hP
  have hD : va_D A [] := hD
  refine W.cs (cells' := 0) (slots' := 0) rfl rfl ?_
  refine W.eq (g2 := F0 m 28 ls [.int (jTurn x (nI 24)), .int (((jTwice x) ^^^ (jTurn ((jTwice x) ^^^ x) (nI 8))) ^^^ (jTurn x (nI 16)))]) rfl ?_
  refine lv_ixor hx hb dCi_mix_28 ?_
  exact cq_iret () (trivial) hx hb hr hlk hP hS (rfl) (rfl) dCi_mix_29
set_option maxHeartbeats 4000000 in
set_option maxRecDepth 100000 in
theorem k_Ci_unmix (l : Launch) (G : gG) (x : Int32) : Ck l G yCi_unmix cCi_unmix 1 (some .int) { frames := 2, cells := 0, slots := 0, locals := 42 } [.int x] [] (some (.int (jUnmix x))) [] := by
  refine Cq.of (by decide) (Nat.le_of_ble_eq_true rfl) ?_
  intro p e s m args below meth c A ls hx hb hr hml hts hown hlk hA hP hD hG hS hl
  have hl : lv_has ls 1 [(0, .int x)] := hl
  refine lv_iload_n hx hb dCi_unmix_0 rfl (lv_at hl 0 rfl) ?_
  refine lv_iload_n hx hb dCi_unmix_1 rfl (lv_at hl 0 rfl) ?_
  refine lv_iload_n hx hb dCi_unmix_2 rfl (lv_at hl 0 rfl) ?_
  refine lv_bipush (v := nI 16) hx hb dCi_unmix_3 (by decide) ?_
  refine clCi_13 (As := [.int x, .int (nI 16)]) (rest := [.int x, .int x]) hx hb hml hown hts (k_Ci_turn l G x (nI 16)) hG hA hP hD hS [] rfl rfl (fun _ => rfl) rfl hl.1 rfl (Nat.le_of_ble_eq_true rfl) ⟨by decide, by decide⟩ ⟨by decide, by decide⟩ dCi_unmix_5 (fun _ H locs _ hP hD hS => ?_)
  have hP : va_P G.1 vwCl [] H := hP
  have hD : va_D A [] := hD
  refine W.cs (cells' := 0) (slots' := 0) rfl rfl ?_
  refine W.eq (g2 := F0 m 8 ls [.int (jTurn x (nI 16)), .int x, .int x]) rfl ?_
  refine lv_ixor hx hb dCi_unmix_8 ?_
  refine clCi_26 (As := [.int (x ^^^ (jTurn x (nI 16)))]) (rest := [.int x]) hx hb hml hown hts (k_Ci_twice l G (x ^^^ (jTurn x (nI 16)))) hG hA hP hD hS [] rfl rfl (fun _ => rfl) rfl hl.1 rfl (Nat.le_of_ble_eq_true rfl) ⟨by decide, by decide⟩ ⟨by decide, by decide⟩ dCi_unmix_9 (fun _ H locs _ hP hD hS => ?_)
  have hP : va_P G.1 vwCl [] H := hP
  have hD : va_D A [] := hD
  refine W.cs (cells' := 0) (slots' := 0) rfl rfl ?_
  refine W.eq (g2 := F0 m 12 ls [.int (jTwice (x ^^^ (jTurn x (nI 16)))), .int x]) rfl ?_
  refine clCi_26 (As := [.int (jTwice (x ^^^ (jTurn x (nI 16))))]) (rest := [.int x]) hx hb hml hown hts (k_Ci_twice l G (jTwice (x ^^^ (jTurn x (nI 16))))) hG hA hP hD hS [] rfl rfl (fun _ => rfl) rfl hl.1 rfl (Nat.le_of_ble_eq_true rfl) ⟨by decide, by decide⟩ ⟨by decide, by decide⟩ dCi_unmix_12 (fun _ H locs _ hP hD hS => ?_)
  have hP : va_P G.1 vwCl [] H := hP
  have hD : va_D A [] := hD
  refine W.cs (cells' := 0) (slots' := 0) rfl rfl ?_
  refine W.eq (g2 := F0 m 15 ls [.int (jTwice (jTwice (x ^^^ (jTurn x (nI 16))))), .int x]) rfl ?_
  refine lv_ixor hx hb dCi_unmix_15 ?_
  refine clCi_30 (As := [.int (x ^^^ (jTwice (jTwice (x ^^^ (jTurn x (nI 16))))))]) (rest := []) hx hb hml hown hts (k_Ci_mix l G (x ^^^ (jTwice (jTwice (x ^^^ (jTurn x (nI 16))))))) hG hA hP hD hS [] rfl rfl (fun _ => rfl) rfl hl.1 rfl (Nat.le_of_ble_eq_true rfl) ⟨by decide, by decide⟩ ⟨by decide, by decide⟩ dCi_unmix_16 (fun _ H locs _ hP hD hS => ?_)
  have hP : va_P G.1 vwCl [] H := hP
  have hD : va_D A [] := hD
  refine W.cs (cells' := 0) (slots' := 0) rfl rfl ?_
  refine W.eq (g2 := F0 m 19 ls [.int (jMix (x ^^^ (jTwice (jTwice (x ^^^ (jTurn x (nI 16)))))))]) rfl ?_
  exact cq_iret () (trivial) hx hb hr hlk hP hS (rfl) (rfl) dCi_unmix_19
set_option maxHeartbeats 4000000 in
set_option maxRecDepth 100000 in
theorem k_Ci_keepBlock (l : Launch) (G : gG) (oc ow : Nat) (h0 l0 : Int64) (a1 a2 a3 a4 : Int32) : Ck l G yCi_keepBlock cCi_keepBlock 5 none { frames := 0, cells := 0, slots := 0, locals := 0 } [.ref oc, .int a1, .int a2, .int a3, .int a4] [oC oc 1 [.ref ow, .long h0, .long l0]] (none) [oC oc 1 [.ref ow, .long (jLg a1 a2), .long (jLg a3 a4)]] := by
  refine Cq.of (by decide) (Nat.le_of_ble_eq_true rfl) ?_
  intro p e s m args below meth c A ls hx hb hr hml hts hown hlk hA hP hD hG hS hl
  have hl : lv_has ls 5 [(0, .ref oc), (1, .int a1), (2, .int a2), (3, .int a3), (4, .int a4)] := hl
  refine lv_aload_n hx hb dCi_keepBlock_0 rfl (lv_at hl 0 rfl) ?_
  refine lv_iload_n hx hb dCi_keepBlock_1 rfl (lv_at hl 1 rfl) ?_
  refine lv_i2l (v := a1.toInt64) hx hb dCi_keepBlock_2 rfl ?_
  refine lv_bipush (v := nI 32) hx hb dCi_keepBlock_3 (by decide) ?_
  refine lv_lshl (v := lsh a1.toInt64 (nI 32)) hx hb dCi_keepBlock_5 rfl ?_
  refine lv_iload_n hx hb dCi_keepBlock_6 rfl (lv_at hl 2 rfl) ?_
  refine lv_i2l (v := a2.toInt64) hx hb dCi_keepBlock_7 rfl ?_
  refine lv_ldc2 (v := lN 4294967295) hx hb hown (hts _ kkCi_43) dCi_keepBlock_8 ?_
  refine lv_land hx hb dCi_keepBlock_11 ?_
  refine lv_lor hx hb dCi_keepBlock_12 ?_
  refine pfCi_45 hx hb hts hown hG hP hD hS 0 rfl rfl rfl (Nat.le_of_ble_eq_true rfl) dCi_keepBlock_13 (fun H locs hP hD hS => ?_)
  have hP : va_P G.1 vwCl [oC oc 1 [.ref ow, .long ((lsh a1.toInt64 (nI 32)) ||| (a2.toInt64 &&& (lN 4294967295))), .long l0]] H := hP
  have hD : va_D A [oC oc 1 [.ref ow, .long ((lsh a1.toInt64 (nI 32)) ||| (a2.toInt64 &&& (lN 4294967295))), .long l0]] := hD
  refine lv_aload_n hx hb dCi_keepBlock_16 rfl (lv_at hl 0 rfl) ?_
  refine lv_iload_n hx hb dCi_keepBlock_17 rfl (lv_at hl 3 rfl) ?_
  refine lv_i2l (v := a3.toInt64) hx hb dCi_keepBlock_18 rfl ?_
  refine lv_bipush (v := nI 32) hx hb dCi_keepBlock_19 (by decide) ?_
  refine lv_lshl (v := lsh a3.toInt64 (nI 32)) hx hb dCi_keepBlock_21 rfl ?_
  refine lv_iload hx hb dCi_keepBlock_22 (lv_at hl 4 rfl) ?_
  refine lv_i2l (v := a4.toInt64) hx hb dCi_keepBlock_24 rfl ?_
  refine lv_ldc2 (v := lN 4294967295) hx hb hown (hts _ kkCi_43) dCi_keepBlock_25 ?_
  refine lv_land hx hb dCi_keepBlock_28 ?_
  refine lv_lor hx hb dCi_keepBlock_29 ?_
  refine pfCi_49 hx hb hts hown hG hP hD hS 0 rfl rfl rfl (Nat.le_of_ble_eq_true rfl) dCi_keepBlock_30 (fun H locs hP hD hS => ?_)
  have hP : va_P G.1 vwCl [oC oc 1 [.ref ow, .long ((lsh a1.toInt64 (nI 32)) ||| (a2.toInt64 &&& (lN 4294967295))), .long ((lsh a3.toInt64 (nI 32)) ||| (a4.toInt64 &&& (lN 4294967295)))]] H := hP
  have hD : va_D A [oC oc 1 [.ref ow, .long ((lsh a1.toInt64 (nI 32)) ||| (a2.toInt64 &&& (lN 4294967295))), .long ((lsh a3.toInt64 (nI 32)) ||| (a4.toInt64 &&& (lN 4294967295)))]] := hD
  exact cq_vret () (trivial) hx hb hr hlk hP hS rfl (rfl) dCi_keepBlock_33
set_option maxHeartbeats 4000000 in
set_option maxRecDepth 100000 in
theorem k_Ci_setKey (l : Launch) (G : gG) (oc ow : Nat) (w : Nat → Int32) (h0 l0 kh kl : Int64) : Ck l G yCi_setKey cCi_setKey 9 none { frames := 1, cells := 0, slots := 0, locals := 24 } [.ref oc, .long kh, .long kl] [oC oc 1 [.ref ow, .long h0, .long l0], aI G ow 44 w] (none) [oC oc 1 [.ref ow, .long h0, .long l0], aI G ow 44 ((jKs (jKw kh kl w) 40).1)] := by
  refine Cq.of (by decide) (Nat.le_of_ble_eq_true rfl) ?_
  intro p e s m args below meth c A ls hx hb hr hml hts hown hlk hA hP hD hG hS hl
  have hl : lv_has ls 9 [(0, .ref oc), (1, .long kh), (3, .long kl)] := hl
  refine lv_aload_n hx hb dCi_setKey_0 rfl (lv_at hl 0 rfl) ?_
  refine gfCi_9 hx hb hts hown hG hP 0 rfl rfl dCi_setKey_1 ?_
  refine lv_iconst (v := nI 0) hx hb dCi_setKey_4 (by decide) ?_
  refine lv_lload_n hx hb dCi_setKey_5 rfl (lv_at hl 1 rfl) ?_
  refine lv_bipush (v := nI 32) hx hb dCi_setKey_6 (by decide) ?_
  refine lv_lushr (v := lush kh (nI 32)) hx hb dCi_setKey_8 rfl ?_
  refine lv_l2i (v := (lush kh (nI 32)).toInt32) hx hb dCi_setKey_9 rfl ?_
  refine ck_iast hx hb hG hP hD hS 1 rfl (by decide) 0 (rfl) (by decide) dCi_setKey_10 (fun H locs hP hD hS => ?_)
  have hP : va_P G.1 vwCl [oC oc 1 [.ref ow, .long h0, .long l0], aI G ow 44 (upd w 0 ((lush kh (nI 32)).toInt32))] H := hP
  have hD : va_D A [oC oc 1 [.ref ow, .long h0, .long l0], aI G ow 44 (upd w 0 ((lush kh (nI 32)).toInt32))] := hD
  refine lv_aload_n hx hb dCi_setKey_11 rfl (lv_at hl 0 rfl) ?_
  refine gfCi_9 hx hb hts hown hG hP 0 rfl rfl dCi_setKey_12 ?_
  refine lv_iconst (v := nI 1) hx hb dCi_setKey_15 (by decide) ?_
  refine lv_lload_n hx hb dCi_setKey_16 rfl (lv_at hl 1 rfl) ?_
  refine lv_l2i (v := kh.toInt32) hx hb dCi_setKey_17 rfl ?_
  refine ck_iast hx hb hG hP hD hS 1 rfl (by decide) 1 (rfl) (by decide) dCi_setKey_18 (fun H locs hP hD hS => ?_)
  have hP : va_P G.1 vwCl [oC oc 1 [.ref ow, .long h0, .long l0], aI G ow 44 (upd (upd w 0 ((lush kh (nI 32)).toInt32)) 1 kh.toInt32)] H := hP
  have hD : va_D A [oC oc 1 [.ref ow, .long h0, .long l0], aI G ow 44 (upd (upd w 0 ((lush kh (nI 32)).toInt32)) 1 kh.toInt32)] := hD
  refine lv_aload_n hx hb dCi_setKey_19 rfl (lv_at hl 0 rfl) ?_
  refine gfCi_9 hx hb hts hown hG hP 0 rfl rfl dCi_setKey_20 ?_
  refine lv_iconst (v := nI 2) hx hb dCi_setKey_23 (by decide) ?_
  refine lv_lload_n hx hb dCi_setKey_24 rfl (lv_at hl 2 rfl) ?_
  refine lv_bipush (v := nI 32) hx hb dCi_setKey_25 (by decide) ?_
  refine lv_lushr (v := lush kl (nI 32)) hx hb dCi_setKey_27 rfl ?_
  refine lv_l2i (v := (lush kl (nI 32)).toInt32) hx hb dCi_setKey_28 rfl ?_
  refine ck_iast hx hb hG hP hD hS 1 rfl (by decide) 2 (rfl) (by decide) dCi_setKey_29 (fun H locs hP hD hS => ?_)
  have hP : va_P G.1 vwCl [oC oc 1 [.ref ow, .long h0, .long l0], aI G ow 44 (upd (upd (upd w 0 ((lush kh (nI 32)).toInt32)) 1 kh.toInt32) 2 ((lush kl (nI 32)).toInt32))] H := hP
  have hD : va_D A [oC oc 1 [.ref ow, .long h0, .long l0], aI G ow 44 (upd (upd (upd w 0 ((lush kh (nI 32)).toInt32)) 1 kh.toInt32) 2 ((lush kl (nI 32)).toInt32))] := hD
  refine lv_aload_n hx hb dCi_setKey_30 rfl (lv_at hl 0 rfl) ?_
  refine gfCi_9 hx hb hts hown hG hP 0 rfl rfl dCi_setKey_31 ?_
  refine lv_iconst (v := nI 3) hx hb dCi_setKey_34 (by decide) ?_
  refine lv_lload_n hx hb dCi_setKey_35 rfl (lv_at hl 2 rfl) ?_
  refine lv_l2i (v := kl.toInt32) hx hb dCi_setKey_36 rfl ?_
  refine ck_iast hx hb hG hP hD hS 1 rfl (by decide) 3 (rfl) (by decide) dCi_setKey_37 (fun H locs hP hD hS => ?_)
  have hP : va_P G.1 vwCl [oC oc 1 [.ref ow, .long h0, .long l0], aI G ow 44 (upd (upd (upd (upd w 0 ((lush kh (nI 32)).toInt32)) 1 kh.toInt32) 2 ((lush kl (nI 32)).toInt32)) 3 kl.toInt32)] H := hP
  have hD : va_D A [oC oc 1 [.ref ow, .long h0, .long l0], aI G ow 44 (upd (upd (upd (upd w 0 ((lush kh (nI 32)).toInt32)) 1 kh.toInt32) 2 ((lush kl (nI 32)).toInt32)) 3 kl.toInt32)] := hD
  refine lv_iconst (v := nI 1) hx hb dCi_setKey_38 (by decide) ?_
  refine lv_istore (lv' := [(5, .int (nI 1)), (0, .ref oc), (1, .long kh), (3, .long kl)]) hx hb dCi_setKey_39 hl (by decide) rfl (fun ls hl => ?_)
  refine lv_iconst (v := nI 4) hx hb dCi_setKey_41 (by decide) ?_
  refine lv_istore (lv' := [(6, .int (nI 4)), (5, .int (nI 1)), (0, .ref oc), (1, .long kh), (3, .long kl)]) hx hb dCi_setKey_42 hl (by decide) rfl (fun ls hl => ?_)
  have loop : ∀ (k : Nat) (n : Nat) (H : Heap) (locs : List Loc) (ls : Array Slot), n + k = 40 → va_P G.1 vwCl [oC oc 1 [.ref ow, .long h0, .long l0], aI G ow 44 ((jKs (jKw kh kl w) n).1)] H → va_D A [oC oc 1 [.ref ow, .long h0, .long l0], aI G ow 44 ((jKs (jKw kh kl w) n).1)] → va_S A s.heap H locs → lv_has ls 9 [(0, .ref oc), (5, .int ((jKs (jKw kh kl w) n).2)), (6, .int (nI (n + 4)))] → W p l e { frames := 1, cells := 0, slots := 0, locals := 24 } s m args below meth c H locs 0 0 (MQ below (cq_out G (S := Unit) (fun _ => True) (fun _ => (none)) (fun _ => [oC oc 1 [.ref ow, .long h0, .long l0], aI G ow 44 ((jKs (jKw kh kl w) 40).1)]) A) args s 0 0 A) (F0 m 44 ls []) := by
    intro k
    induction k with
    | zero =>
      intro n H locs ls hk hP hD hS hl
      refine lv_iload hx hb dCi_setKey_44 (lv_at hl 2 rfl) ?_
      refine lv_bipush (v := nI 44) hx hb dCi_setKey_46 (by decide) ?_
      refine lv_icmp_ge (tgt := 132) hx hb dCi_setKey_48 rfl (fun _ => ?_) (fun h => absurd (nI_le (by omega) (by omega)) h)
      exact cq_vret () (trivial) hx hb hr hlk hP hS rfl (by rw [show n = 40 by omega]) dCi_setKey_132
    | succ k ih =>
      intro n H locs ls hk hP hD hS hl
      refine lv_iload hx hb dCi_setKey_44 (lv_at hl 2 rfl) ?_
      refine lv_bipush (v := nI 44) hx hb dCi_setKey_46 (by decide) ?_
      refine lv_icmp_ge (tgt := 132) hx hb dCi_setKey_48 rfl (fun h => absurd h (nI_ge (by omega) (by omega))) (fun _ => ?_)
      refine lv_aload_n hx hb dCi_setKey_51 rfl (lv_at hl 0 rfl) ?_
      refine gfCi_9 hx hb hts hown hG hP 0 rfl rfl dCi_setKey_52 ?_
      refine lv_iload hx hb dCi_setKey_55 (lv_at hl 2 rfl) ?_
      refine lv_iconst (v := nI 1) hx hb dCi_setKey_57 (by decide) ?_
      refine lv_isub hx hb dCi_setKey_58 ?_
      refine ck_iald hx hb hG hP 1 rfl (by decide) (n + 3) (pk_sub (by omega)) (by omega) dCi_setKey_59 ?_
      refine lv_istore (lv' := [(7, .int (((jKs (jKw kh kl w) n).1) (n + 3))), (0, .ref oc), (5, .int ((jKs (jKw kh kl w) n).2)), (6, .int (nI (n + 4)))]) hx hb dCi_setKey_60 hl (by decide) rfl (fun ls hl => ?_)
      refine lv_iload hx hb dCi_setKey_62 (lv_at hl 3 rfl) ?_
      refine lv_iconst (v := nI 4) hx hb dCi_setKey_64 (by decide) ?_
      refine lv_irem hx hb dCi_setKey_65 (by decide) ?_
      refine ck_ri (y := nI (n % 4)) (by rw [show nI (n % 4) = nI ((n + 4) % 4) by rw [Nat.add_mod_right]]; exact pk_rem (by omega) (by omega) (by omega)) ?_
      refine lv_if_ne (tgt := 107) hx hb dCi_setKey_66 rfl (fun h => ?_) (fun h => ?_)
      · have hm : ¬ n % 4 = 0 := fun z => h (by rw [z]; rfl)
        refine lv_aload_n hx hb dCi_setKey_107 rfl (lv_at hl 1 rfl) ?_
        refine gfCi_9 hx hb hts hown hG hP 0 rfl rfl dCi_setKey_108 ?_
        refine lv_iload hx hb dCi_setKey_111 (lv_at hl 3 rfl) ?_
        refine lv_aload_n hx hb dCi_setKey_113 rfl (lv_at hl 1 rfl) ?_
        refine gfCi_9 hx hb hts hown hG hP 0 rfl rfl dCi_setKey_114 ?_
        refine lv_iload hx hb dCi_setKey_117 (lv_at hl 3 rfl) ?_
        refine lv_iconst (v := nI 4) hx hb dCi_setKey_119 (by decide) ?_
        refine lv_isub hx hb dCi_setKey_120 ?_
        refine ck_iald hx hb hG hP 1 rfl (by decide) n (pk_sub (by omega)) (by omega) dCi_setKey_121 ?_
        refine lv_iload hx hb dCi_setKey_122 (lv_at hl 0 rfl) ?_
        refine lv_ixor hx hb dCi_setKey_124 ?_
        refine ck_iast hx hb hG hP hD hS 1 rfl (by decide) (n + 4) (rfl) (by omega) dCi_setKey_125 (fun H locs hP hD hS => ?_)
        have hP : va_P G.1 vwCl [oC oc 1 [.ref ow, .long h0, .long l0], aI G ow 44 (upd ((jKs (jKw kh kl w) n).1) (n + 4) ((((jKs (jKw kh kl w) n).1) n) ^^^ (((jKs (jKw kh kl w) n).1) (n + 3))))] H := hP
        have hD : va_D A [oC oc 1 [.ref ow, .long h0, .long l0], aI G ow 44 (upd ((jKs (jKw kh kl w) n).1) (n + 4) ((((jKs (jKw kh kl w) n).1) n) ^^^ (((jKs (jKw kh kl w) n).1) (n + 3))))] := hD
        refine lv_iinc (v := nI (n + 1 + 4)) (lv' := [(6, .int (nI (n + 1 + 4))), (7, .int (((jKs (jKw kh kl w) n).1) (n + 3))), (0, .ref oc), (5, .int ((jKs (jKw kh kl w) n).2))]) hx hb dCi_setKey_126 hl (k := 3) rfl (by rw [show n + 1 + 4 = (n + 4) + 1 by omega]; exact nI_1 (n + 4)) (by decide) rfl (fun ls hl => ?_)
        refine lv_goto (tgt := 44) hx hb dCi_setKey_129 rfl ?_
        have e1 : (jKs (jKw kh kl w) (n + 1)).1 = upd ((jKs (jKw kh kl w) n).1) (n + 4) ((((jKs (jKw kh kl w) n).1) n) ^^^ (((jKs (jKw kh kl w) n).1) (n + 3))) := by rw [jKs, jKst, if_neg hm]
        have e2 : (jKs (jKw kh kl w) (n + 1)).2 = (jKs (jKw kh kl w) n).2 := by rw [jKs, jKst, if_neg hm]
        exact ih (n + 1) _ _ _ (by omega) (by rw [e1]; exact hP) (by rw [e1]; exact hD) hS (by rw [e2]; exact lv_sub hl [2, 3, 0] rfl)
      · have hm : n % 4 = 0 := (nI_eq (b := 0) (by omega) (by omega)).mp h
        refine lv_iload hx hb dCi_setKey_69 (lv_at hl 0 rfl) ?_
        refine lv_bipush (v := nI 8) hx hb dCi_setKey_71 (by decide) ?_
        refine clCi_13 (As := [.int (((jKs (jKw kh kl w) n).1) (n + 3)), .int (nI 8)]) (rest := []) hx hb hml hown hts (k_Ci_turn l G (((jKs (jKw kh kl w) n).1) (n + 3)) (nI 8)) hG hA hP hD hS [] rfl rfl (fun _ => rfl) rfl hl.1 rfl (Nat.le_of_ble_eq_true rfl) ⟨by decide, by decide⟩ ⟨by decide, by decide⟩ dCi_setKey_73 (fun _ H locs _ hP hD hS => ?_)
        have hP : va_P G.1 vwCl [oC oc 1 [.ref ow, .long h0, .long l0], aI G ow 44 ((jKs (jKw kh kl w) n).1)] H := hP
        have hD : va_D A [oC oc 1 [.ref ow, .long h0, .long l0], aI G ow 44 ((jKs (jKw kh kl w) n).1)] := hD
        refine W.cs (cells' := 0) (slots' := 0) rfl rfl ?_
        refine W.eq (g2 := F0 m 76 ls [.int (jTurn (((jKs (jKw kh kl w) n).1) (n + 3)) (nI 8))]) rfl ?_
        refine lv_istore (lv' := [(8, .int (jTurn (((jKs (jKw kh kl w) n).1) (n + 3)) (nI 8))), (7, .int (((jKs (jKw kh kl w) n).1) (n + 3))), (0, .ref oc), (5, .int ((jKs (jKw kh kl w) n).2)), (6, .int (nI (n + 4)))]) hx hb dCi_setKey_76 hl (by decide) rfl (fun ls hl => ?_)
        refine va_getsN hx hb hG.2.1.1 hS hown (va_Nw.use rfl (hG.2.2.2.1 _ kx445)) (fun _ h => h) dCi_setKey_78 ?_
        refine lv_iload hx hb dCi_setKey_81 (lv_at hl 0 rfl) ?_
        refine lv_iload hx hb dCi_setKey_83 (lv_at hl 0 rfl) ?_
        refine lv_iload hx hb dCi_setKey_85 (lv_at hl 0 rfl) ?_
        refine lv_iload hx hb dCi_setKey_87 (lv_at hl 0 rfl) ?_
        refine clCi_22 (As := [.ref G.2.2.1, .int (jTurn (((jKs (jKw kh kl w) n).1) (n + 3)) (nI 8)), .int (jTurn (((jKs (jKw kh kl w) n).1) (n + 3)) (nI 8)), .int (jTurn (((jKs (jKw kh kl w) n).1) (n + 3)) (nI 8)), .int (jTurn (((jKs (jKw kh kl w) n).1) (n + 3)) (nI 8))]) (rest := []) hx hb hml hown hts (k_Ci_gather l G G.2.2.1 ckS (Or.inl ⟨rfl, rfl⟩) (jTurn (((jKs (jKw kh kl w) n).1) (n + 3)) (nI 8)) (jTurn (((jKs (jKw kh kl w) n).1) (n + 3)) (nI 8)) (jTurn (((jKs (jKw kh kl w) n).1) (n + 3)) (nI 8)) (jTurn (((jKs (jKw kh kl w) n).1) (n + 3)) (nI 8))) hG hA hP hD hS [] rfl rfl (fun _ => rfl) rfl hl.1 rfl (Nat.le_of_ble_eq_true rfl) ⟨by decide, by decide⟩ ⟨by decide, by decide⟩ dCi_setKey_89 (fun _ H locs _ hP hD hS => ?_)
        have hP : va_P G.1 vwCl [oC oc 1 [.ref ow, .long h0, .long l0], aI G ow 44 ((jKs (jKw kh kl w) n).1)] H := hP
        have hD : va_D A [oC oc 1 [.ref ow, .long h0, .long l0], aI G ow 44 ((jKs (jKw kh kl w) n).1)] := hD
        refine W.cs (cells' := 0) (slots' := 0) rfl rfl ?_
        refine W.eq (g2 := F0 m 92 ls [.int (jGat ckS (jTurn (((jKs (jKw kh kl w) n).1) (n + 3)) (nI 8)) (jTurn (((jKs (jKw kh kl w) n).1) (n + 3)) (nI 8)) (jTurn (((jKs (jKw kh kl w) n).1) (n + 3)) (nI 8)) (jTurn (((jKs (jKw kh kl w) n).1) (n + 3)) (nI 8)))]) rfl ?_
        refine lv_iload hx hb dCi_setKey_92 (lv_at hl 3 rfl) ?_
        refine lv_bipush (v := nI 24) hx hb dCi_setKey_94 (by decide) ?_
        refine lv_ishl hx hb dCi_setKey_96 ?_
        refine lv_ixor hx hb dCi_setKey_97 ?_
        refine lv_istore (lv' := [(7, .int ((jGat ckS (jTurn (((jKs (jKw kh kl w) n).1) (n + 3)) (nI 8)) (jTurn (((jKs (jKw kh kl w) n).1) (n + 3)) (nI 8)) (jTurn (((jKs (jKw kh kl w) n).1) (n + 3)) (nI 8)) (jTurn (((jKs (jKw kh kl w) n).1) (n + 3)) (nI 8))) ^^^ (ish ((jKs (jKw kh kl w) n).2) (nI 24)))), (8, .int (jTurn (((jKs (jKw kh kl w) n).1) (n + 3)) (nI 8))), (0, .ref oc), (5, .int ((jKs (jKw kh kl w) n).2)), (6, .int (nI (n + 4)))]) hx hb dCi_setKey_98 hl (by decide) rfl (fun ls hl => ?_)
        refine lv_iload hx hb dCi_setKey_100 (lv_at hl 3 rfl) ?_
        refine clCi_26 (As := [.int ((jKs (jKw kh kl w) n).2)]) (rest := []) hx hb hml hown hts (k_Ci_twice l G ((jKs (jKw kh kl w) n).2)) hG hA hP hD hS [] rfl rfl (fun _ => rfl) rfl hl.1 rfl (Nat.le_of_ble_eq_true rfl) ⟨by decide, by decide⟩ ⟨by decide, by decide⟩ dCi_setKey_102 (fun _ H locs _ hP hD hS => ?_)
        have hP : va_P G.1 vwCl [oC oc 1 [.ref ow, .long h0, .long l0], aI G ow 44 ((jKs (jKw kh kl w) n).1)] H := hP
        have hD : va_D A [oC oc 1 [.ref ow, .long h0, .long l0], aI G ow 44 ((jKs (jKw kh kl w) n).1)] := hD
        refine W.cs (cells' := 0) (slots' := 0) rfl rfl ?_
        refine W.eq (g2 := F0 m 105 ls [.int (jTwice ((jKs (jKw kh kl w) n).2))]) rfl ?_
        refine lv_istore (lv' := [(5, .int (jTwice ((jKs (jKw kh kl w) n).2))), (7, .int ((jGat ckS (jTurn (((jKs (jKw kh kl w) n).1) (n + 3)) (nI 8)) (jTurn (((jKs (jKw kh kl w) n).1) (n + 3)) (nI 8)) (jTurn (((jKs (jKw kh kl w) n).1) (n + 3)) (nI 8)) (jTurn (((jKs (jKw kh kl w) n).1) (n + 3)) (nI 8))) ^^^ (ish ((jKs (jKw kh kl w) n).2) (nI 24)))), (8, .int (jTurn (((jKs (jKw kh kl w) n).1) (n + 3)) (nI 8))), (0, .ref oc), (6, .int (nI (n + 4)))]) hx hb dCi_setKey_105 hl (by decide) rfl (fun ls hl => ?_)
        refine lv_aload_n hx hb dCi_setKey_107 rfl (lv_at hl 3 rfl) ?_
        refine gfCi_9 hx hb hts hown hG hP 0 rfl rfl dCi_setKey_108 ?_
        refine lv_iload hx hb dCi_setKey_111 (lv_at hl 4 rfl) ?_
        refine lv_aload_n hx hb dCi_setKey_113 rfl (lv_at hl 3 rfl) ?_
        refine gfCi_9 hx hb hts hown hG hP 0 rfl rfl dCi_setKey_114 ?_
        refine lv_iload hx hb dCi_setKey_117 (lv_at hl 4 rfl) ?_
        refine lv_iconst (v := nI 4) hx hb dCi_setKey_119 (by decide) ?_
        refine lv_isub hx hb dCi_setKey_120 ?_
        refine ck_iald hx hb hG hP 1 rfl (by decide) n (pk_sub (by omega)) (by omega) dCi_setKey_121 ?_
        refine lv_iload hx hb dCi_setKey_122 (lv_at hl 1 rfl) ?_
        refine lv_ixor hx hb dCi_setKey_124 ?_
        refine ck_iast hx hb hG hP hD hS 1 rfl (by decide) (n + 4) (rfl) (by omega) dCi_setKey_125 (fun H locs hP hD hS => ?_)
        have hP : va_P G.1 vwCl [oC oc 1 [.ref ow, .long h0, .long l0], aI G ow 44 (upd ((jKs (jKw kh kl w) n).1) (n + 4) ((((jKs (jKw kh kl w) n).1) n) ^^^ ((jGat ckS (jTurn (((jKs (jKw kh kl w) n).1) (n + 3)) (nI 8)) (jTurn (((jKs (jKw kh kl w) n).1) (n + 3)) (nI 8)) (jTurn (((jKs (jKw kh kl w) n).1) (n + 3)) (nI 8)) (jTurn (((jKs (jKw kh kl w) n).1) (n + 3)) (nI 8))) ^^^ (ish ((jKs (jKw kh kl w) n).2) (nI 24)))))] H := hP
        have hD : va_D A [oC oc 1 [.ref ow, .long h0, .long l0], aI G ow 44 (upd ((jKs (jKw kh kl w) n).1) (n + 4) ((((jKs (jKw kh kl w) n).1) n) ^^^ ((jGat ckS (jTurn (((jKs (jKw kh kl w) n).1) (n + 3)) (nI 8)) (jTurn (((jKs (jKw kh kl w) n).1) (n + 3)) (nI 8)) (jTurn (((jKs (jKw kh kl w) n).1) (n + 3)) (nI 8)) (jTurn (((jKs (jKw kh kl w) n).1) (n + 3)) (nI 8))) ^^^ (ish ((jKs (jKw kh kl w) n).2) (nI 24)))))] := hD
        refine lv_iinc (v := nI (n + 1 + 4)) (lv' := [(6, .int (nI (n + 1 + 4))), (5, .int (jTwice ((jKs (jKw kh kl w) n).2))), (7, .int ((jGat ckS (jTurn (((jKs (jKw kh kl w) n).1) (n + 3)) (nI 8)) (jTurn (((jKs (jKw kh kl w) n).1) (n + 3)) (nI 8)) (jTurn (((jKs (jKw kh kl w) n).1) (n + 3)) (nI 8)) (jTurn (((jKs (jKw kh kl w) n).1) (n + 3)) (nI 8))) ^^^ (ish ((jKs (jKw kh kl w) n).2) (nI 24)))), (8, .int (jTurn (((jKs (jKw kh kl w) n).1) (n + 3)) (nI 8))), (0, .ref oc)]) hx hb dCi_setKey_126 hl (k := 4) rfl (by rw [show n + 1 + 4 = (n + 4) + 1 by omega]; exact nI_1 (n + 4)) (by decide) rfl (fun ls hl => ?_)
        refine lv_goto (tgt := 44) hx hb dCi_setKey_129 rfl ?_
        have e1 : (jKs (jKw kh kl w) (n + 1)).1 = upd ((jKs (jKw kh kl w) n).1) (n + 4) ((((jKs (jKw kh kl w) n).1) n) ^^^ ((jGat ckS (jTurn (((jKs (jKw kh kl w) n).1) (n + 3)) (nI 8)) (jTurn (((jKs (jKw kh kl w) n).1) (n + 3)) (nI 8)) (jTurn (((jKs (jKw kh kl w) n).1) (n + 3)) (nI 8)) (jTurn (((jKs (jKw kh kl w) n).1) (n + 3)) (nI 8))) ^^^ (ish ((jKs (jKw kh kl w) n).2) (nI 24)))) := by rw [jKs, jKst, if_pos hm]
        have e2 : (jKs (jKw kh kl w) (n + 1)).2 = jTwice ((jKs (jKw kh kl w) n).2) := by rw [jKs, jKst, if_pos hm]
        exact ih (n + 1) _ _ _ (by omega) (by rw [e1]; exact hP) (by rw [e1]; exact hD) hS (by rw [e2]; exact lv_sub hl [4, 1, 0] rfl)
  exact loop 40 0 _ _ _ (by omega) hP hD hS (lv_sub hl [2, 1, 0] rfl)
set_option maxHeartbeats 4000000 in
set_option maxRecDepth 100000 in
theorem k_Ci_encrypt (l : Launch) (G : gG) (oc ow : Nat) (w : Nat → Int32) (h0 l0 ph pl : Int64) : Ck l G yCi_encrypt cCi_encrypt 15 none { frames := 2, cells := 0, slots := 0, locals := 42 } [.ref oc, .long ph, .long pl] [oC oc 1 [.ref ow, .long h0, .long l0], aI G ow 44 w] (none) [oC oc 1 [.ref ow, .long (jEH w ph pl), .long (jEL w ph pl)], aI G ow 44 w] := by
  refine Cq.of (by decide) (Nat.le_of_ble_eq_true rfl) ?_
  intro p e s m args below meth c A ls hx hb hr hml hts hown hlk hA hP hD hG hS hl
  have hl : lv_has ls 15 [(0, .ref oc), (1, .long ph), (3, .long pl)] := hl
  refine lv_lload_n hx hb dCi_encrypt_0 rfl (lv_at hl 1 rfl) ?_
  refine lv_bipush (v := nI 32) hx hb dCi_encrypt_1 (by decide) ?_
  refine lv_lushr (v := lush ph (nI 32)) hx hb dCi_encrypt_3 rfl ?_
  refine lv_l2i (v := (lush ph (nI 32)).toInt32) hx hb dCi_encrypt_4 rfl ?_
  refine lv_aload_n hx hb dCi_encrypt_5 rfl (lv_at hl 0 rfl) ?_
  refine gfCi_9 hx hb hts hown hG hP 0 rfl rfl dCi_encrypt_6 ?_
  refine lv_iconst (v := nI 0) hx hb dCi_encrypt_9 (by decide) ?_
  refine ck_iald hx hb hG hP 1 rfl (by decide) 0 (rfl) (by decide) dCi_encrypt_10 ?_
  refine lv_ixor hx hb dCi_encrypt_11 ?_
  refine lv_istore (lv' := [(5, .int (((lush ph (nI 32)).toInt32) ^^^ (w 0))), (0, .ref oc), (1, .long ph), (3, .long pl)]) hx hb dCi_encrypt_12 hl (by decide) rfl (fun ls hl => ?_)
  refine lv_lload_n hx hb dCi_encrypt_14 rfl (lv_at hl 2 rfl) ?_
  refine lv_l2i (v := ph.toInt32) hx hb dCi_encrypt_15 rfl ?_
  refine lv_aload_n hx hb dCi_encrypt_16 rfl (lv_at hl 1 rfl) ?_
  refine gfCi_9 hx hb hts hown hG hP 0 rfl rfl dCi_encrypt_17 ?_
  refine lv_iconst (v := nI 1) hx hb dCi_encrypt_20 (by decide) ?_
  refine ck_iald hx hb hG hP 1 rfl (by decide) 1 (rfl) (by decide) dCi_encrypt_21 ?_
  refine lv_ixor hx hb dCi_encrypt_22 ?_
  refine lv_istore (lv' := [(6, .int (ph.toInt32 ^^^ (w 1))), (5, .int (((lush ph (nI 32)).toInt32) ^^^ (w 0))), (0, .ref oc), (1, .long ph), (3, .long pl)]) hx hb dCi_encrypt_23 hl (by decide) rfl (fun ls hl => ?_)
  refine lv_lload_n hx hb dCi_encrypt_25 rfl (lv_at hl 4 rfl) ?_
  refine lv_bipush (v := nI 32) hx hb dCi_encrypt_26 (by decide) ?_
  refine lv_lushr (v := lush pl (nI 32)) hx hb dCi_encrypt_28 rfl ?_
  refine lv_l2i (v := (lush pl (nI 32)).toInt32) hx hb dCi_encrypt_29 rfl ?_
  refine lv_aload_n hx hb dCi_encrypt_30 rfl (lv_at hl 2 rfl) ?_
  refine gfCi_9 hx hb hts hown hG hP 0 rfl rfl dCi_encrypt_31 ?_
  refine lv_iconst (v := nI 2) hx hb dCi_encrypt_34 (by decide) ?_
  refine ck_iald hx hb hG hP 1 rfl (by decide) 2 (rfl) (by decide) dCi_encrypt_35 ?_
  refine lv_ixor hx hb dCi_encrypt_36 ?_
  refine lv_istore (lv' := [(7, .int (((lush pl (nI 32)).toInt32) ^^^ (w 2))), (6, .int (ph.toInt32 ^^^ (w 1))), (5, .int (((lush ph (nI 32)).toInt32) ^^^ (w 0))), (0, .ref oc), (1, .long ph), (3, .long pl)]) hx hb dCi_encrypt_37 hl (by decide) rfl (fun ls hl => ?_)
  refine lv_lload_n hx hb dCi_encrypt_39 rfl (lv_at hl 5 rfl) ?_
  refine lv_l2i (v := pl.toInt32) hx hb dCi_encrypt_40 rfl ?_
  refine lv_aload_n hx hb dCi_encrypt_41 rfl (lv_at hl 3 rfl) ?_
  refine gfCi_9 hx hb hts hown hG hP 0 rfl rfl dCi_encrypt_42 ?_
  refine lv_iconst (v := nI 3) hx hb dCi_encrypt_45 (by decide) ?_
  refine ck_iald hx hb hG hP 1 rfl (by decide) 3 (rfl) (by decide) dCi_encrypt_46 ?_
  refine lv_ixor hx hb dCi_encrypt_47 ?_
  refine lv_istore (lv' := [(8, .int (pl.toInt32 ^^^ (w 3))), (7, .int (((lush pl (nI 32)).toInt32) ^^^ (w 2))), (6, .int (ph.toInt32 ^^^ (w 1))), (5, .int (((lush ph (nI 32)).toInt32) ^^^ (w 0))), (0, .ref oc), (1, .long ph), (3, .long pl)]) hx hb dCi_encrypt_48 hl (by decide) rfl (fun ls hl => ?_)
  refine lv_iconst (v := nI 1) hx hb dCi_encrypt_50 (by decide) ?_
  refine lv_istore (lv' := [(9, .int (nI 1)), (8, .int (pl.toInt32 ^^^ (w 3))), (7, .int (((lush pl (nI 32)).toInt32) ^^^ (w 2))), (6, .int (ph.toInt32 ^^^ (w 1))), (5, .int (((lush ph (nI 32)).toInt32) ^^^ (w 0))), (0, .ref oc), (1, .long ph), (3, .long pl)]) hx hb dCi_encrypt_51 hl (by decide) rfl (fun ls hl => ?_)
  have loop : ∀ (k : Nat) (n : Nat) (a1 : Int32) (a2 : Int32) (a3 : Int32) (a4 : Int32) (H : Heap) (locs : List Loc) (ls : Array Slot), n + k = 10 → jEn w (jE0 w ph pl) n = (a1, a2, a3, a4) → va_P G.1 vwCl [oC oc 1 [.ref ow, .long h0, .long l0], aI G ow 44 w] H → va_D A [oC oc 1 [.ref ow, .long h0, .long l0], aI G ow 44 w] → va_S A s.heap H locs → lv_has ls 15 [(0, .ref oc), (5, .int a1), (6, .int a2), (7, .int a3), (8, .int a4), (9, .int (nI (n + 1)))] → W p l e { frames := 2, cells := 0, slots := 0, locals := 42 } s m args below meth c H locs 0 0 (MQ below (cq_out G (S := Unit) (fun _ => True) (fun _ => (none)) (fun _ => [oC oc 1 [.ref ow, .long (jEH w ph pl), .long (jEL w ph pl)], aI G ow 44 w]) A) args s 0 0 A) (F0 m 53 ls []) := by
    intro k
    induction k with
    | zero =>
      intro n a1 a2 a3 a4 H locs ls hk hq hP hD hS hl
      obtain rfl : n = 10 := by omega
      refine lv_iload hx hb dCi_encrypt_53 (lv_at hl 5 rfl) ?_
      refine lv_bipush (v := nI 10) hx hb dCi_encrypt_55 (by decide) ?_
      refine lv_icmp_gt (tgt := 258) hx hb dCi_encrypt_57 rfl (fun _ => ?_) (fun h => absurd (nI_lt (by omega) (by omega)) h)
      refine lv_aload_n hx hb dCi_encrypt_258 rfl (lv_at hl 0 rfl) ?_
      refine lv_iload hx hb dCi_encrypt_259 (lv_at hl 1 rfl) ?_
      refine lv_iload hx hb dCi_encrypt_261 (lv_at hl 2 rfl) ?_
      refine lv_iload hx hb dCi_encrypt_263 (lv_at hl 3 rfl) ?_
      refine lv_iload hx hb dCi_encrypt_265 (lv_at hl 4 rfl) ?_
      refine clCi_33 (As := [.int a1, .int a2, .int a3, .int a4]) (rest := []) hx hb hml hown hts (k_Ci_keepBlock l G oc ow h0 l0 a1 a2 a3 a4) hG hA hP hD hS 0 rfl [0] rfl rfl (fun _ => rfl) rfl hl.1 rfl (Nat.le_of_ble_eq_true rfl) ⟨by decide, by decide⟩ ⟨by decide, by decide⟩ dCi_encrypt_267 (fun _ H locs _ hP hD hS => ?_)
      have hP : va_P G.1 vwCl [oC oc 1 [.ref ow, .long (jLg a1 a2), .long (jLg a3 a4)], aI G ow 44 w] H := hP
      have hD : va_D A [oC oc 1 [.ref ow, .long (jLg a1 a2), .long (jLg a3 a4)], aI G ow 44 w] := hD
      refine W.cs (cells' := 0) (slots' := 0) rfl rfl ?_
      refine W.eq (g2 := F0 m 270 ls []) rfl ?_
      exact cq_vret () (trivial) hx hb hr hlk hP hS rfl (by unfold jEH jEL; rw [hq]) dCi_encrypt_270
    | succ k ih =>
      intro n a1 a2 a3 a4 H locs ls hk hq hP hD hS hl
      refine lv_iload hx hb dCi_encrypt_53 (lv_at hl 5 rfl) ?_
      refine lv_bipush (v := nI 10) hx hb dCi_encrypt_55 (by decide) ?_
      refine lv_icmp_gt (tgt := 258) hx hb dCi_encrypt_57 rfl (fun h => absurd h (nI_nlt (by omega) (by omega))) (fun _ => ?_)
      refine va_getsN hx hb hG.2.1.1 hS hown (va_Nw.use rfl (hG.2.2.2.1 _ kx445)) (fun _ h => h) dCi_encrypt_60 ?_
      refine lv_iload hx hb dCi_encrypt_63 (lv_at hl 1 rfl) ?_
      refine lv_iload hx hb dCi_encrypt_65 (lv_at hl 2 rfl) ?_
      refine lv_iload hx hb dCi_encrypt_67 (lv_at hl 3 rfl) ?_
      refine lv_iload hx hb dCi_encrypt_69 (lv_at hl 4 rfl) ?_
      refine clCi_22 (As := [.ref G.2.2.1, .int a1, .int a2, .int a3, .int a4]) (rest := []) hx hb hml hown hts (k_Ci_gather l G G.2.2.1 ckS (Or.inl ⟨rfl, rfl⟩) a1 a2 a3 a4) hG hA hP hD hS [] rfl rfl (fun _ => rfl) rfl hl.1 rfl (Nat.le_of_ble_eq_true rfl) ⟨by decide, by decide⟩ ⟨by decide, by decide⟩ dCi_encrypt_71 (fun _ H locs _ hP hD hS => ?_)
      have hP : va_P G.1 vwCl [oC oc 1 [.ref ow, .long h0, .long l0], aI G ow 44 w] H := hP
      have hD : va_D A [oC oc 1 [.ref ow, .long h0, .long l0], aI G ow 44 w] := hD
      refine W.cs (cells' := 0) (slots' := 0) rfl rfl ?_
      refine W.eq (g2 := F0 m 74 ls [.int (jGat ckS a1 a2 a3 a4)]) rfl ?_
      refine lv_istore (lv' := [(10, .int (jGat ckS a1 a2 a3 a4)), (0, .ref oc), (5, .int a1), (6, .int a2), (7, .int a3), (8, .int a4), (9, .int (nI (n + 1)))]) hx hb dCi_encrypt_74 hl (by decide) rfl (fun ls hl => ?_)
      refine va_getsN hx hb hG.2.1.1 hS hown (va_Nw.use rfl (hG.2.2.2.1 _ kx445)) (fun _ h => h) dCi_encrypt_76 ?_
      refine lv_iload hx hb dCi_encrypt_79 (lv_at hl 3 rfl) ?_
      refine lv_iload hx hb dCi_encrypt_81 (lv_at hl 4 rfl) ?_
      refine lv_iload hx hb dCi_encrypt_83 (lv_at hl 5 rfl) ?_
      refine lv_iload hx hb dCi_encrypt_85 (lv_at hl 2 rfl) ?_
      refine clCi_22 (As := [.ref G.2.2.1, .int a2, .int a3, .int a4, .int a1]) (rest := []) hx hb hml hown hts (k_Ci_gather l G G.2.2.1 ckS (Or.inl ⟨rfl, rfl⟩) a2 a3 a4 a1) hG hA hP hD hS [] rfl rfl (fun _ => rfl) rfl hl.1 rfl (Nat.le_of_ble_eq_true rfl) ⟨by decide, by decide⟩ ⟨by decide, by decide⟩ dCi_encrypt_87 (fun _ H locs _ hP hD hS => ?_)
      have hP : va_P G.1 vwCl [oC oc 1 [.ref ow, .long h0, .long l0], aI G ow 44 w] H := hP
      have hD : va_D A [oC oc 1 [.ref ow, .long h0, .long l0], aI G ow 44 w] := hD
      refine W.cs (cells' := 0) (slots' := 0) rfl rfl ?_
      refine W.eq (g2 := F0 m 90 ls [.int (jGat ckS a2 a3 a4 a1)]) rfl ?_
      refine lv_istore (lv' := [(11, .int (jGat ckS a2 a3 a4 a1)), (10, .int (jGat ckS a1 a2 a3 a4)), (0, .ref oc), (5, .int a1), (6, .int a2), (7, .int a3), (8, .int a4), (9, .int (nI (n + 1)))]) hx hb dCi_encrypt_90 hl (by decide) rfl (fun ls hl => ?_)
      refine va_getsN hx hb hG.2.1.1 hS hown (va_Nw.use rfl (hG.2.2.2.1 _ kx445)) (fun _ h => h) dCi_encrypt_92 ?_
      refine lv_iload hx hb dCi_encrypt_95 (lv_at hl 5 rfl) ?_
      refine lv_iload hx hb dCi_encrypt_97 (lv_at hl 6 rfl) ?_
      refine lv_iload hx hb dCi_encrypt_99 (lv_at hl 3 rfl) ?_
      refine lv_iload hx hb dCi_encrypt_101 (lv_at hl 4 rfl) ?_
      refine clCi_22 (As := [.ref G.2.2.1, .int a3, .int a4, .int a1, .int a2]) (rest := []) hx hb hml hown hts (k_Ci_gather l G G.2.2.1 ckS (Or.inl ⟨rfl, rfl⟩) a3 a4 a1 a2) hG hA hP hD hS [] rfl rfl (fun _ => rfl) rfl hl.1 rfl (Nat.le_of_ble_eq_true rfl) ⟨by decide, by decide⟩ ⟨by decide, by decide⟩ dCi_encrypt_103 (fun _ H locs _ hP hD hS => ?_)
      have hP : va_P G.1 vwCl [oC oc 1 [.ref ow, .long h0, .long l0], aI G ow 44 w] H := hP
      have hD : va_D A [oC oc 1 [.ref ow, .long h0, .long l0], aI G ow 44 w] := hD
      refine W.cs (cells' := 0) (slots' := 0) rfl rfl ?_
      refine W.eq (g2 := F0 m 106 ls [.int (jGat ckS a3 a4 a1 a2)]) rfl ?_
      refine lv_istore (lv' := [(12, .int (jGat ckS a3 a4 a1 a2)), (11, .int (jGat ckS a2 a3 a4 a1)), (10, .int (jGat ckS a1 a2 a3 a4)), (0, .ref oc), (5, .int a1), (6, .int a2), (7, .int a3), (8, .int a4), (9, .int (nI (n + 1)))]) hx hb dCi_encrypt_106 hl (by decide) rfl (fun ls hl => ?_)
      refine va_getsN hx hb hG.2.1.1 hS hown (va_Nw.use rfl (hG.2.2.2.1 _ kx445)) (fun _ h => h) dCi_encrypt_108 ?_
      refine lv_iload hx hb dCi_encrypt_111 (lv_at hl 7 rfl) ?_
      refine lv_iload hx hb dCi_encrypt_113 (lv_at hl 4 rfl) ?_
      refine lv_iload hx hb dCi_encrypt_115 (lv_at hl 5 rfl) ?_
      refine lv_iload hx hb dCi_encrypt_117 (lv_at hl 6 rfl) ?_
      refine clCi_22 (As := [.ref G.2.2.1, .int a4, .int a1, .int a2, .int a3]) (rest := []) hx hb hml hown hts (k_Ci_gather l G G.2.2.1 ckS (Or.inl ⟨rfl, rfl⟩) a4 a1 a2 a3) hG hA hP hD hS [] rfl rfl (fun _ => rfl) rfl hl.1 rfl (Nat.le_of_ble_eq_true rfl) ⟨by decide, by decide⟩ ⟨by decide, by decide⟩ dCi_encrypt_119 (fun _ H locs _ hP hD hS => ?_)
      have hP : va_P G.1 vwCl [oC oc 1 [.ref ow, .long h0, .long l0], aI G ow 44 w] H := hP
      have hD : va_D A [oC oc 1 [.ref ow, .long h0, .long l0], aI G ow 44 w] := hD
      refine W.cs (cells' := 0) (slots' := 0) rfl rfl ?_
      refine W.eq (g2 := F0 m 122 ls [.int (jGat ckS a4 a1 a2 a3)]) rfl ?_
      refine lv_istore (lv' := [(13, .int (jGat ckS a4 a1 a2 a3)), (12, .int (jGat ckS a3 a4 a1 a2)), (11, .int (jGat ckS a2 a3 a4 a1)), (10, .int (jGat ckS a1 a2 a3 a4)), (0, .ref oc), (5, .int a1), (6, .int a2), (7, .int a3), (8, .int a4), (9, .int (nI (n + 1)))]) hx hb dCi_encrypt_122 hl (by decide) rfl (fun ls hl => ?_)
      refine lv_iload hx hb dCi_encrypt_124 (lv_at hl 9 rfl) ?_
      refine lv_bipush (v := nI 10) hx hb dCi_encrypt_126 (by decide) ?_
      refine lv_icmp_ge (tgt := 135) hx hb dCi_encrypt_128 rfl (fun h => ?_) (fun h => ?_)
      · have hm : ¬ n + 1 < 10 := by have := (nI_leI (a := 10) (by omega) (by omega)).mp h; omega
        refine lv_iconst (v := nI 0) hx hb dCi_encrypt_135 (by decide) ?_
        refine lv_istore (lv' := [(14, .int (nI 0)), (13, .int (jGat ckS a4 a1 a2 a3)), (12, .int (jGat ckS a3 a4 a1 a2)), (11, .int (jGat ckS a2 a3 a4 a1)), (10, .int (jGat ckS a1 a2 a3 a4)), (0, .ref oc), (5, .int a1), (6, .int a2), (7, .int a3), (8, .int a4), (9, .int (nI (n + 1)))]) hx hb dCi_encrypt_136 hl (by decide) rfl (fun ls hl => ?_)
        refine lv_iload hx hb dCi_encrypt_138 (lv_at hl 0 rfl) ?_
        refine lv_if_eq (tgt := 151) hx hb dCi_encrypt_140 rfl (fun _ => ?_) (fun h => absurd (rfl) h)
        refine lv_iload hx hb dCi_encrypt_151 (lv_at hl 4 rfl) ?_
        refine lv_aload_n hx hb dCi_encrypt_153 rfl (lv_at hl 5 rfl) ?_
        refine gfCi_9 hx hb hts hown hG hP 0 rfl rfl dCi_encrypt_154 ?_
        refine lv_iconst (v := nI 4) hx hb dCi_encrypt_157 (by decide) ?_
        refine lv_iload hx hb dCi_encrypt_158 (lv_at hl 10 rfl) ?_
        refine lv_imul hx hb dCi_encrypt_160 ?_
        refine ck_iald hx hb hG hP 1 rfl (by decide) (4 * (n + 1)) (pk_mul 4 (n + 1)) (by omega) dCi_encrypt_161 ?_
        refine lv_ixor hx hb dCi_encrypt_162 ?_
        refine lv_istore (lv' := [(5, .int ((jGat ckS a1 a2 a3 a4) ^^^ (w (4 * (n + 1))))), (14, .int (nI 0)), (13, .int (jGat ckS a4 a1 a2 a3)), (12, .int (jGat ckS a3 a4 a1 a2)), (11, .int (jGat ckS a2 a3 a4 a1)), (10, .int (jGat ckS a1 a2 a3 a4)), (0, .ref oc), (6, .int a2), (7, .int a3), (8, .int a4), (9, .int (nI (n + 1)))]) hx hb dCi_encrypt_163 hl (by decide) rfl (fun ls hl => ?_)
        refine lv_iload hx hb dCi_encrypt_165 (lv_at hl 1 rfl) ?_
        refine lv_if_eq (tgt := 178) hx hb dCi_encrypt_167 rfl (fun _ => ?_) (fun h => absurd (rfl) h)
        refine lv_iload hx hb dCi_encrypt_178 (lv_at hl 4 rfl) ?_
        refine lv_aload_n hx hb dCi_encrypt_180 rfl (lv_at hl 6 rfl) ?_
        refine gfCi_9 hx hb hts hown hG hP 0 rfl rfl dCi_encrypt_181 ?_
        refine lv_iconst (v := nI 4) hx hb dCi_encrypt_184 (by decide) ?_
        refine lv_iload hx hb dCi_encrypt_185 (lv_at hl 10 rfl) ?_
        refine lv_imul hx hb dCi_encrypt_187 ?_
        refine lv_iconst (v := nI 1) hx hb dCi_encrypt_188 (by decide) ?_
        refine lv_iadd hx hb dCi_encrypt_189 ?_
        refine ck_iald hx hb hG hP 1 rfl (by decide) (4 * (n + 1) + 1) (by rw [pk_mul, nI_add]) (by omega) dCi_encrypt_190 ?_
        refine lv_ixor hx hb dCi_encrypt_191 ?_
        refine lv_istore (lv' := [(6, .int ((jGat ckS a2 a3 a4 a1) ^^^ (w (4 * (n + 1) + 1)))), (5, .int ((jGat ckS a1 a2 a3 a4) ^^^ (w (4 * (n + 1))))), (14, .int (nI 0)), (13, .int (jGat ckS a4 a1 a2 a3)), (12, .int (jGat ckS a3 a4 a1 a2)), (11, .int (jGat ckS a2 a3 a4 a1)), (10, .int (jGat ckS a1 a2 a3 a4)), (0, .ref oc), (7, .int a3), (8, .int a4), (9, .int (nI (n + 1)))]) hx hb dCi_encrypt_192 hl (by decide) rfl (fun ls hl => ?_)
        refine lv_iload hx hb dCi_encrypt_194 (lv_at hl 2 rfl) ?_
        refine lv_if_eq (tgt := 207) hx hb dCi_encrypt_196 rfl (fun _ => ?_) (fun h => absurd (rfl) h)
        refine lv_iload hx hb dCi_encrypt_207 (lv_at hl 4 rfl) ?_
        refine lv_aload_n hx hb dCi_encrypt_209 rfl (lv_at hl 7 rfl) ?_
        refine gfCi_9 hx hb hts hown hG hP 0 rfl rfl dCi_encrypt_210 ?_
        refine lv_iconst (v := nI 4) hx hb dCi_encrypt_213 (by decide) ?_
        refine lv_iload hx hb dCi_encrypt_214 (lv_at hl 10 rfl) ?_
        refine lv_imul hx hb dCi_encrypt_216 ?_
        refine lv_iconst (v := nI 2) hx hb dCi_encrypt_217 (by decide) ?_
        refine lv_iadd hx hb dCi_encrypt_218 ?_
        refine ck_iald hx hb hG hP 1 rfl (by decide) (4 * (n + 1) + 2) (by rw [pk_mul, nI_add]) (by omega) dCi_encrypt_219 ?_
        refine lv_ixor hx hb dCi_encrypt_220 ?_
        refine lv_istore (lv' := [(7, .int ((jGat ckS a3 a4 a1 a2) ^^^ (w (4 * (n + 1) + 2)))), (6, .int ((jGat ckS a2 a3 a4 a1) ^^^ (w (4 * (n + 1) + 1)))), (5, .int ((jGat ckS a1 a2 a3 a4) ^^^ (w (4 * (n + 1))))), (14, .int (nI 0)), (13, .int (jGat ckS a4 a1 a2 a3)), (12, .int (jGat ckS a3 a4 a1 a2)), (11, .int (jGat ckS a2 a3 a4 a1)), (10, .int (jGat ckS a1 a2 a3 a4)), (0, .ref oc), (8, .int a4), (9, .int (nI (n + 1)))]) hx hb dCi_encrypt_221 hl (by decide) rfl (fun ls hl => ?_)
        refine lv_iload hx hb dCi_encrypt_223 (lv_at hl 3 rfl) ?_
        refine lv_if_eq (tgt := 236) hx hb dCi_encrypt_225 rfl (fun _ => ?_) (fun h => absurd (rfl) h)
        refine lv_iload hx hb dCi_encrypt_236 (lv_at hl 4 rfl) ?_
        refine lv_aload_n hx hb dCi_encrypt_238 rfl (lv_at hl 8 rfl) ?_
        refine gfCi_9 hx hb hts hown hG hP 0 rfl rfl dCi_encrypt_239 ?_
        refine lv_iconst (v := nI 4) hx hb dCi_encrypt_242 (by decide) ?_
        refine lv_iload hx hb dCi_encrypt_243 (lv_at hl 10 rfl) ?_
        refine lv_imul hx hb dCi_encrypt_245 ?_
        refine lv_iconst (v := nI 3) hx hb dCi_encrypt_246 (by decide) ?_
        refine lv_iadd hx hb dCi_encrypt_247 ?_
        refine ck_iald hx hb hG hP 1 rfl (by decide) (4 * (n + 1) + 3) (by rw [pk_mul, nI_add]) (by omega) dCi_encrypt_248 ?_
        refine lv_ixor hx hb dCi_encrypt_249 ?_
        refine lv_istore (lv' := [(8, .int ((jGat ckS a4 a1 a2 a3) ^^^ (w (4 * (n + 1) + 3)))), (7, .int ((jGat ckS a3 a4 a1 a2) ^^^ (w (4 * (n + 1) + 2)))), (6, .int ((jGat ckS a2 a3 a4 a1) ^^^ (w (4 * (n + 1) + 1)))), (5, .int ((jGat ckS a1 a2 a3 a4) ^^^ (w (4 * (n + 1))))), (14, .int (nI 0)), (13, .int (jGat ckS a4 a1 a2 a3)), (12, .int (jGat ckS a3 a4 a1 a2)), (11, .int (jGat ckS a2 a3 a4 a1)), (10, .int (jGat ckS a1 a2 a3 a4)), (0, .ref oc), (9, .int (nI (n + 1)))]) hx hb dCi_encrypt_250 hl (by decide) rfl (fun ls hl => ?_)
        refine lv_iinc (v := nI (n + 1 + 1)) (lv' := [(9, .int (nI (n + 1 + 1))), (8, .int ((jGat ckS a4 a1 a2 a3) ^^^ (w (4 * (n + 1) + 3)))), (7, .int ((jGat ckS a3 a4 a1 a2) ^^^ (w (4 * (n + 1) + 2)))), (6, .int ((jGat ckS a2 a3 a4 a1) ^^^ (w (4 * (n + 1) + 1)))), (5, .int ((jGat ckS a1 a2 a3 a4) ^^^ (w (4 * (n + 1))))), (14, .int (nI 0)), (13, .int (jGat ckS a4 a1 a2 a3)), (12, .int (jGat ckS a3 a4 a1 a2)), (11, .int (jGat ckS a2 a3 a4 a1)), (10, .int (jGat ckS a1 a2 a3 a4)), (0, .ref oc)]) hx hb dCi_encrypt_252 hl (k := 10) rfl (nI_1 (n + 1)) (by decide) rfl (fun ls hl => ?_)
        refine lv_goto (tgt := 53) hx hb dCi_encrypt_255 rfl ?_
        have e1 : jEn w (jE0 w ph pl) (n + 1) = ((jGat ckS a1 a2 a3 a4) ^^^ (w (4 * (n + 1))), (jGat ckS a2 a3 a4 a1) ^^^ (w (4 * (n + 1) + 1)), (jGat ckS a3 a4 a1 a2) ^^^ (w (4 * (n + 1) + 2)), (jGat ckS a4 a1 a2 a3) ^^^ (w (4 * (n + 1) + 3))) := (congrArg (jEr w (n + 1)) hq).trans (if_neg hm)
        exact ih (n + 1) _ _ _ _ _ _ _ (by omega) e1 hP hD hS (lv_sub hl [10, 4, 3, 2, 1, 0] rfl)
      · have hm : n + 1 < 10 := Nat.not_le.mp (fun z => h ((nI_leI (a := 10) (by omega) (by omega)).mpr z))
        refine lv_iconst (v := nI 1) hx hb dCi_encrypt_131 (by decide) ?_
        refine lv_goto (tgt := 136) hx hb dCi_encrypt_132 rfl ?_
        refine lv_istore (lv' := [(14, .int (nI 1)), (13, .int (jGat ckS a4 a1 a2 a3)), (12, .int (jGat ckS a3 a4 a1 a2)), (11, .int (jGat ckS a2 a3 a4 a1)), (10, .int (jGat ckS a1 a2 a3 a4)), (0, .ref oc), (5, .int a1), (6, .int a2), (7, .int a3), (8, .int a4), (9, .int (nI (n + 1)))]) hx hb dCi_encrypt_136 hl (by decide) rfl (fun ls hl => ?_)
        refine lv_iload hx hb dCi_encrypt_138 (lv_at hl 0 rfl) ?_
        refine lv_if_eq (tgt := 151) hx hb dCi_encrypt_140 rfl (fun h => absurd h (by decide)) (fun _ => ?_)
        refine lv_iload hx hb dCi_encrypt_143 (lv_at hl 4 rfl) ?_
        refine clCi_30 (As := [.int (jGat ckS a1 a2 a3 a4)]) (rest := []) hx hb hml hown hts (k_Ci_mix l G (jGat ckS a1 a2 a3 a4)) hG hA hP hD hS [] rfl rfl (fun _ => rfl) rfl hl.1 rfl (Nat.le_of_ble_eq_true rfl) ⟨by decide, by decide⟩ ⟨by decide, by decide⟩ dCi_encrypt_145 (fun _ H locs _ hP hD hS => ?_)
        have hP : va_P G.1 vwCl [oC oc 1 [.ref ow, .long h0, .long l0], aI G ow 44 w] H := hP
        have hD : va_D A [oC oc 1 [.ref ow, .long h0, .long l0], aI G ow 44 w] := hD
        refine W.cs (cells' := 0) (slots' := 0) rfl rfl ?_
        refine W.eq (g2 := F0 m 148 ls [.int (jMix (jGat ckS a1 a2 a3 a4))]) rfl ?_
        refine lv_goto (tgt := 153) hx hb dCi_encrypt_148 rfl ?_
        refine lv_aload_n hx hb dCi_encrypt_153 rfl (lv_at hl 5 rfl) ?_
        refine gfCi_9 hx hb hts hown hG hP 0 rfl rfl dCi_encrypt_154 ?_
        refine lv_iconst (v := nI 4) hx hb dCi_encrypt_157 (by decide) ?_
        refine lv_iload hx hb dCi_encrypt_158 (lv_at hl 10 rfl) ?_
        refine lv_imul hx hb dCi_encrypt_160 ?_
        refine ck_iald hx hb hG hP 1 rfl (by decide) (4 * (n + 1)) (pk_mul 4 (n + 1)) (by omega) dCi_encrypt_161 ?_
        refine lv_ixor hx hb dCi_encrypt_162 ?_
        refine lv_istore (lv' := [(5, .int ((jMix (jGat ckS a1 a2 a3 a4)) ^^^ (w (4 * (n + 1))))), (14, .int (nI 1)), (13, .int (jGat ckS a4 a1 a2 a3)), (12, .int (jGat ckS a3 a4 a1 a2)), (11, .int (jGat ckS a2 a3 a4 a1)), (10, .int (jGat ckS a1 a2 a3 a4)), (0, .ref oc), (6, .int a2), (7, .int a3), (8, .int a4), (9, .int (nI (n + 1)))]) hx hb dCi_encrypt_163 hl (by decide) rfl (fun ls hl => ?_)
        refine lv_iload hx hb dCi_encrypt_165 (lv_at hl 1 rfl) ?_
        refine lv_if_eq (tgt := 178) hx hb dCi_encrypt_167 rfl (fun h => absurd h (by decide)) (fun _ => ?_)
        refine lv_iload hx hb dCi_encrypt_170 (lv_at hl 4 rfl) ?_
        refine clCi_30 (As := [.int (jGat ckS a2 a3 a4 a1)]) (rest := []) hx hb hml hown hts (k_Ci_mix l G (jGat ckS a2 a3 a4 a1)) hG hA hP hD hS [] rfl rfl (fun _ => rfl) rfl hl.1 rfl (Nat.le_of_ble_eq_true rfl) ⟨by decide, by decide⟩ ⟨by decide, by decide⟩ dCi_encrypt_172 (fun _ H locs _ hP hD hS => ?_)
        have hP : va_P G.1 vwCl [oC oc 1 [.ref ow, .long h0, .long l0], aI G ow 44 w] H := hP
        have hD : va_D A [oC oc 1 [.ref ow, .long h0, .long l0], aI G ow 44 w] := hD
        refine W.cs (cells' := 0) (slots' := 0) rfl rfl ?_
        refine W.eq (g2 := F0 m 175 ls [.int (jMix (jGat ckS a2 a3 a4 a1))]) rfl ?_
        refine lv_goto (tgt := 180) hx hb dCi_encrypt_175 rfl ?_
        refine lv_aload_n hx hb dCi_encrypt_180 rfl (lv_at hl 6 rfl) ?_
        refine gfCi_9 hx hb hts hown hG hP 0 rfl rfl dCi_encrypt_181 ?_
        refine lv_iconst (v := nI 4) hx hb dCi_encrypt_184 (by decide) ?_
        refine lv_iload hx hb dCi_encrypt_185 (lv_at hl 10 rfl) ?_
        refine lv_imul hx hb dCi_encrypt_187 ?_
        refine lv_iconst (v := nI 1) hx hb dCi_encrypt_188 (by decide) ?_
        refine lv_iadd hx hb dCi_encrypt_189 ?_
        refine ck_iald hx hb hG hP 1 rfl (by decide) (4 * (n + 1) + 1) (by rw [pk_mul, nI_add]) (by omega) dCi_encrypt_190 ?_
        refine lv_ixor hx hb dCi_encrypt_191 ?_
        refine lv_istore (lv' := [(6, .int ((jMix (jGat ckS a2 a3 a4 a1)) ^^^ (w (4 * (n + 1) + 1)))), (5, .int ((jMix (jGat ckS a1 a2 a3 a4)) ^^^ (w (4 * (n + 1))))), (14, .int (nI 1)), (13, .int (jGat ckS a4 a1 a2 a3)), (12, .int (jGat ckS a3 a4 a1 a2)), (11, .int (jGat ckS a2 a3 a4 a1)), (10, .int (jGat ckS a1 a2 a3 a4)), (0, .ref oc), (7, .int a3), (8, .int a4), (9, .int (nI (n + 1)))]) hx hb dCi_encrypt_192 hl (by decide) rfl (fun ls hl => ?_)
        refine lv_iload hx hb dCi_encrypt_194 (lv_at hl 2 rfl) ?_
        refine lv_if_eq (tgt := 207) hx hb dCi_encrypt_196 rfl (fun h => absurd h (by decide)) (fun _ => ?_)
        refine lv_iload hx hb dCi_encrypt_199 (lv_at hl 4 rfl) ?_
        refine clCi_30 (As := [.int (jGat ckS a3 a4 a1 a2)]) (rest := []) hx hb hml hown hts (k_Ci_mix l G (jGat ckS a3 a4 a1 a2)) hG hA hP hD hS [] rfl rfl (fun _ => rfl) rfl hl.1 rfl (Nat.le_of_ble_eq_true rfl) ⟨by decide, by decide⟩ ⟨by decide, by decide⟩ dCi_encrypt_201 (fun _ H locs _ hP hD hS => ?_)
        have hP : va_P G.1 vwCl [oC oc 1 [.ref ow, .long h0, .long l0], aI G ow 44 w] H := hP
        have hD : va_D A [oC oc 1 [.ref ow, .long h0, .long l0], aI G ow 44 w] := hD
        refine W.cs (cells' := 0) (slots' := 0) rfl rfl ?_
        refine W.eq (g2 := F0 m 204 ls [.int (jMix (jGat ckS a3 a4 a1 a2))]) rfl ?_
        refine lv_goto (tgt := 209) hx hb dCi_encrypt_204 rfl ?_
        refine lv_aload_n hx hb dCi_encrypt_209 rfl (lv_at hl 7 rfl) ?_
        refine gfCi_9 hx hb hts hown hG hP 0 rfl rfl dCi_encrypt_210 ?_
        refine lv_iconst (v := nI 4) hx hb dCi_encrypt_213 (by decide) ?_
        refine lv_iload hx hb dCi_encrypt_214 (lv_at hl 10 rfl) ?_
        refine lv_imul hx hb dCi_encrypt_216 ?_
        refine lv_iconst (v := nI 2) hx hb dCi_encrypt_217 (by decide) ?_
        refine lv_iadd hx hb dCi_encrypt_218 ?_
        refine ck_iald hx hb hG hP 1 rfl (by decide) (4 * (n + 1) + 2) (by rw [pk_mul, nI_add]) (by omega) dCi_encrypt_219 ?_
        refine lv_ixor hx hb dCi_encrypt_220 ?_
        refine lv_istore (lv' := [(7, .int ((jMix (jGat ckS a3 a4 a1 a2)) ^^^ (w (4 * (n + 1) + 2)))), (6, .int ((jMix (jGat ckS a2 a3 a4 a1)) ^^^ (w (4 * (n + 1) + 1)))), (5, .int ((jMix (jGat ckS a1 a2 a3 a4)) ^^^ (w (4 * (n + 1))))), (14, .int (nI 1)), (13, .int (jGat ckS a4 a1 a2 a3)), (12, .int (jGat ckS a3 a4 a1 a2)), (11, .int (jGat ckS a2 a3 a4 a1)), (10, .int (jGat ckS a1 a2 a3 a4)), (0, .ref oc), (8, .int a4), (9, .int (nI (n + 1)))]) hx hb dCi_encrypt_221 hl (by decide) rfl (fun ls hl => ?_)
        refine lv_iload hx hb dCi_encrypt_223 (lv_at hl 3 rfl) ?_
        refine lv_if_eq (tgt := 236) hx hb dCi_encrypt_225 rfl (fun h => absurd h (by decide)) (fun _ => ?_)
        refine lv_iload hx hb dCi_encrypt_228 (lv_at hl 4 rfl) ?_
        refine clCi_30 (As := [.int (jGat ckS a4 a1 a2 a3)]) (rest := []) hx hb hml hown hts (k_Ci_mix l G (jGat ckS a4 a1 a2 a3)) hG hA hP hD hS [] rfl rfl (fun _ => rfl) rfl hl.1 rfl (Nat.le_of_ble_eq_true rfl) ⟨by decide, by decide⟩ ⟨by decide, by decide⟩ dCi_encrypt_230 (fun _ H locs _ hP hD hS => ?_)
        have hP : va_P G.1 vwCl [oC oc 1 [.ref ow, .long h0, .long l0], aI G ow 44 w] H := hP
        have hD : va_D A [oC oc 1 [.ref ow, .long h0, .long l0], aI G ow 44 w] := hD
        refine W.cs (cells' := 0) (slots' := 0) rfl rfl ?_
        refine W.eq (g2 := F0 m 233 ls [.int (jMix (jGat ckS a4 a1 a2 a3))]) rfl ?_
        refine lv_goto (tgt := 238) hx hb dCi_encrypt_233 rfl ?_
        refine lv_aload_n hx hb dCi_encrypt_238 rfl (lv_at hl 8 rfl) ?_
        refine gfCi_9 hx hb hts hown hG hP 0 rfl rfl dCi_encrypt_239 ?_
        refine lv_iconst (v := nI 4) hx hb dCi_encrypt_242 (by decide) ?_
        refine lv_iload hx hb dCi_encrypt_243 (lv_at hl 10 rfl) ?_
        refine lv_imul hx hb dCi_encrypt_245 ?_
        refine lv_iconst (v := nI 3) hx hb dCi_encrypt_246 (by decide) ?_
        refine lv_iadd hx hb dCi_encrypt_247 ?_
        refine ck_iald hx hb hG hP 1 rfl (by decide) (4 * (n + 1) + 3) (by rw [pk_mul, nI_add]) (by omega) dCi_encrypt_248 ?_
        refine lv_ixor hx hb dCi_encrypt_249 ?_
        refine lv_istore (lv' := [(8, .int ((jMix (jGat ckS a4 a1 a2 a3)) ^^^ (w (4 * (n + 1) + 3)))), (7, .int ((jMix (jGat ckS a3 a4 a1 a2)) ^^^ (w (4 * (n + 1) + 2)))), (6, .int ((jMix (jGat ckS a2 a3 a4 a1)) ^^^ (w (4 * (n + 1) + 1)))), (5, .int ((jMix (jGat ckS a1 a2 a3 a4)) ^^^ (w (4 * (n + 1))))), (14, .int (nI 1)), (13, .int (jGat ckS a4 a1 a2 a3)), (12, .int (jGat ckS a3 a4 a1 a2)), (11, .int (jGat ckS a2 a3 a4 a1)), (10, .int (jGat ckS a1 a2 a3 a4)), (0, .ref oc), (9, .int (nI (n + 1)))]) hx hb dCi_encrypt_250 hl (by decide) rfl (fun ls hl => ?_)
        refine lv_iinc (v := nI (n + 1 + 1)) (lv' := [(9, .int (nI (n + 1 + 1))), (8, .int ((jMix (jGat ckS a4 a1 a2 a3)) ^^^ (w (4 * (n + 1) + 3)))), (7, .int ((jMix (jGat ckS a3 a4 a1 a2)) ^^^ (w (4 * (n + 1) + 2)))), (6, .int ((jMix (jGat ckS a2 a3 a4 a1)) ^^^ (w (4 * (n + 1) + 1)))), (5, .int ((jMix (jGat ckS a1 a2 a3 a4)) ^^^ (w (4 * (n + 1))))), (14, .int (nI 1)), (13, .int (jGat ckS a4 a1 a2 a3)), (12, .int (jGat ckS a3 a4 a1 a2)), (11, .int (jGat ckS a2 a3 a4 a1)), (10, .int (jGat ckS a1 a2 a3 a4)), (0, .ref oc)]) hx hb dCi_encrypt_252 hl (k := 10) rfl (nI_1 (n + 1)) (by decide) rfl (fun ls hl => ?_)
        refine lv_goto (tgt := 53) hx hb dCi_encrypt_255 rfl ?_
        have e1 : jEn w (jE0 w ph pl) (n + 1) = ((jMix (jGat ckS a1 a2 a3 a4)) ^^^ (w (4 * (n + 1))), (jMix (jGat ckS a2 a3 a4 a1)) ^^^ (w (4 * (n + 1) + 1)), (jMix (jGat ckS a3 a4 a1 a2)) ^^^ (w (4 * (n + 1) + 2)), (jMix (jGat ckS a4 a1 a2 a3)) ^^^ (w (4 * (n + 1) + 3))) := (congrArg (jEr w (n + 1)) hq).trans (if_pos hm)
        exact ih (n + 1) _ _ _ _ _ _ _ (by omega) e1 hP hD hS (lv_sub hl [10, 4, 3, 2, 1, 0] rfl)
  exact loop 10 0 _ _ _ _ _ _ _ (by omega) rfl hP hD hS (lv_sub hl [5, 4, 3, 2, 1, 0] rfl)
set_option maxHeartbeats 4000000 in
set_option maxRecDepth 100000 in
theorem k_Ci_decrypt (l : Launch) (G : gG) (oc ow : Nat) (w : Nat → Int32) (h0 l0 ph pl : Int64) : Ck l G yCi_decrypt cCi_decrypt 15 none { frames := 3, cells := 0, slots := 0, locals := 62 } [.ref oc, .long ph, .long pl] [oC oc 1 [.ref ow, .long h0, .long l0], aI G ow 44 w] (none) [oC oc 1 [.ref ow, .long (jDH w ph pl), .long (jDL w ph pl)], aI G ow 44 w] := by
  refine Cq.of (by decide) (Nat.le_of_ble_eq_true rfl) ?_
  intro p e s m args below meth c A ls hx hb hr hml hts hown hlk hA hP hD hG hS hl
  have hl : lv_has ls 15 [(0, .ref oc), (1, .long ph), (3, .long pl)] := hl
  refine lv_lload_n hx hb dCi_decrypt_0 rfl (lv_at hl 1 rfl) ?_
  refine lv_bipush (v := nI 32) hx hb dCi_decrypt_1 (by decide) ?_
  refine lv_lushr (v := lush ph (nI 32)) hx hb dCi_decrypt_3 rfl ?_
  refine lv_l2i (v := (lush ph (nI 32)).toInt32) hx hb dCi_decrypt_4 rfl ?_
  refine lv_istore (lv' := [(5, .int ((lush ph (nI 32)).toInt32)), (0, .ref oc), (1, .long ph), (3, .long pl)]) hx hb dCi_decrypt_5 hl (by decide) rfl (fun ls hl => ?_)
  refine lv_lload_n hx hb dCi_decrypt_7 rfl (lv_at hl 2 rfl) ?_
  refine lv_l2i (v := ph.toInt32) hx hb dCi_decrypt_8 rfl ?_
  refine lv_istore (lv' := [(6, .int ph.toInt32), (5, .int ((lush ph (nI 32)).toInt32)), (0, .ref oc), (1, .long ph), (3, .long pl)]) hx hb dCi_decrypt_9 hl (by decide) rfl (fun ls hl => ?_)
  refine lv_lload_n hx hb dCi_decrypt_11 rfl (lv_at hl 4 rfl) ?_
  refine lv_bipush (v := nI 32) hx hb dCi_decrypt_12 (by decide) ?_
  refine lv_lushr (v := lush pl (nI 32)) hx hb dCi_decrypt_14 rfl ?_
  refine lv_l2i (v := (lush pl (nI 32)).toInt32) hx hb dCi_decrypt_15 rfl ?_
  refine lv_istore (lv' := [(7, .int ((lush pl (nI 32)).toInt32)), (6, .int ph.toInt32), (5, .int ((lush ph (nI 32)).toInt32)), (0, .ref oc), (1, .long ph), (3, .long pl)]) hx hb dCi_decrypt_16 hl (by decide) rfl (fun ls hl => ?_)
  refine lv_lload_n hx hb dCi_decrypt_18 rfl (lv_at hl 5 rfl) ?_
  refine lv_l2i (v := pl.toInt32) hx hb dCi_decrypt_19 rfl ?_
  refine lv_istore (lv' := [(8, .int pl.toInt32), (7, .int ((lush pl (nI 32)).toInt32)), (6, .int ph.toInt32), (5, .int ((lush ph (nI 32)).toInt32)), (0, .ref oc), (1, .long ph), (3, .long pl)]) hx hb dCi_decrypt_20 hl (by decide) rfl (fun ls hl => ?_)
  refine lv_bipush (v := nI 10) hx hb dCi_decrypt_22 (by decide) ?_
  refine lv_istore (lv' := [(9, .int (nI 10)), (8, .int pl.toInt32), (7, .int ((lush pl (nI 32)).toInt32)), (6, .int ph.toInt32), (5, .int ((lush ph (nI 32)).toInt32)), (0, .ref oc), (1, .long ph), (3, .long pl)]) hx hb dCi_decrypt_24 hl (by decide) rfl (fun ls hl => ?_)
  have loop : ∀ (k : Nat) (n : Nat) (a1 : Int32) (a2 : Int32) (a3 : Int32) (a4 : Int32) (H : Heap) (locs : List Loc) (ls : Array Slot), n + k = 10 → jDn w (jD0 ph pl) n = (a1, a2, a3, a4) → va_P G.1 vwCl [oC oc 1 [.ref ow, .long h0, .long l0], aI G ow 44 w] H → va_D A [oC oc 1 [.ref ow, .long h0, .long l0], aI G ow 44 w] → va_S A s.heap H locs → lv_has ls 15 [(0, .ref oc), (5, .int a1), (6, .int a2), (7, .int a3), (8, .int a4), (9, .int (nI (10 - n)))] → W p l e { frames := 3, cells := 0, slots := 0, locals := 62 } s m args below meth c H locs 0 0 (MQ below (cq_out G (S := Unit) (fun _ => True) (fun _ => (none)) (fun _ => [oC oc 1 [.ref ow, .long (jDH w ph pl), .long (jDL w ph pl)], aI G ow 44 w]) A) args s 0 0 A) (F0 m 26 ls []) := by
    intro k
    induction k with
    | zero =>
      intro n a1 a2 a3 a4 H locs ls hk hq hP hD hS hl
      obtain rfl : n = 10 := by omega
      refine lv_iload hx hb dCi_decrypt_26 (lv_at hl 5 rfl) ?_
      refine lv_iconst (v := nI 1) hx hb dCi_decrypt_28 (by decide) ?_
      refine lv_icmp_lt (tgt := 246) hx hb dCi_decrypt_29 rfl (fun _ => ?_) (fun h => absurd (nI_lt (a := 10 - 10) (b := 1) (by omega) (by omega)) h)
      refine lv_aload_n hx hb dCi_decrypt_246 rfl (lv_at hl 0 rfl) ?_
      refine lv_iload hx hb dCi_decrypt_247 (lv_at hl 1 rfl) ?_
      refine lv_aload_n hx hb dCi_decrypt_249 rfl (lv_at hl 0 rfl) ?_
      refine gfCi_9 hx hb hts hown hG hP 0 rfl rfl dCi_decrypt_250 ?_
      refine lv_iconst (v := nI 0) hx hb dCi_decrypt_253 (by decide) ?_
      refine ck_iald hx hb hG hP 1 rfl (by decide) 0 (rfl) (by decide) dCi_decrypt_254 ?_
      refine lv_ixor hx hb dCi_decrypt_255 ?_
      refine lv_iload hx hb dCi_decrypt_256 (lv_at hl 2 rfl) ?_
      refine lv_aload_n hx hb dCi_decrypt_258 rfl (lv_at hl 0 rfl) ?_
      refine gfCi_9 hx hb hts hown hG hP 0 rfl rfl dCi_decrypt_259 ?_
      refine lv_iconst (v := nI 1) hx hb dCi_decrypt_262 (by decide) ?_
      refine ck_iald hx hb hG hP 1 rfl (by decide) 1 (rfl) (by decide) dCi_decrypt_263 ?_
      refine lv_ixor hx hb dCi_decrypt_264 ?_
      refine lv_iload hx hb dCi_decrypt_265 (lv_at hl 3 rfl) ?_
      refine lv_aload_n hx hb dCi_decrypt_267 rfl (lv_at hl 0 rfl) ?_
      refine gfCi_9 hx hb hts hown hG hP 0 rfl rfl dCi_decrypt_268 ?_
      refine lv_iconst (v := nI 2) hx hb dCi_decrypt_271 (by decide) ?_
      refine ck_iald hx hb hG hP 1 rfl (by decide) 2 (rfl) (by decide) dCi_decrypt_272 ?_
      refine lv_ixor hx hb dCi_decrypt_273 ?_
      refine lv_iload hx hb dCi_decrypt_274 (lv_at hl 4 rfl) ?_
      refine lv_aload_n hx hb dCi_decrypt_276 rfl (lv_at hl 0 rfl) ?_
      refine gfCi_9 hx hb hts hown hG hP 0 rfl rfl dCi_decrypt_277 ?_
      refine lv_iconst (v := nI 3) hx hb dCi_decrypt_280 (by decide) ?_
      refine ck_iald hx hb hG hP 1 rfl (by decide) 3 (rfl) (by decide) dCi_decrypt_281 ?_
      refine lv_ixor hx hb dCi_decrypt_282 ?_
      refine clCi_33 (As := [.int (a1 ^^^ (w 0)), .int (a2 ^^^ (w 1)), .int (a3 ^^^ (w 2)), .int (a4 ^^^ (w 3))]) (rest := []) hx hb hml hown hts (k_Ci_keepBlock l G oc ow h0 l0 (a1 ^^^ (w 0)) (a2 ^^^ (w 1)) (a3 ^^^ (w 2)) (a4 ^^^ (w 3))) hG hA hP hD hS 0 rfl [0] rfl rfl (fun _ => rfl) rfl hl.1 rfl (Nat.le_of_ble_eq_true rfl) ⟨by decide, by decide⟩ ⟨by decide, by decide⟩ dCi_decrypt_283 (fun _ H locs _ hP hD hS => ?_)
      have hP : va_P G.1 vwCl [oC oc 1 [.ref ow, .long (jLg (a1 ^^^ (w 0)) (a2 ^^^ (w 1))), .long (jLg (a3 ^^^ (w 2)) (a4 ^^^ (w 3)))], aI G ow 44 w] H := hP
      have hD : va_D A [oC oc 1 [.ref ow, .long (jLg (a1 ^^^ (w 0)) (a2 ^^^ (w 1))), .long (jLg (a3 ^^^ (w 2)) (a4 ^^^ (w 3)))], aI G ow 44 w] := hD
      refine W.cs (cells' := 0) (slots' := 0) rfl rfl ?_
      refine W.eq (g2 := F0 m 286 ls []) rfl ?_
      exact cq_vret () (trivial) hx hb hr hlk hP hS rfl (by unfold jDH jDL; rw [hq]) dCi_decrypt_286
    | succ k ih =>
      intro n a1 a2 a3 a4 H locs ls hk hq hP hD hS hl
      refine lv_iload hx hb dCi_decrypt_26 (lv_at hl 5 rfl) ?_
      refine lv_iconst (v := nI 1) hx hb dCi_decrypt_28 (by decide) ?_
      refine lv_icmp_lt (tgt := 246) hx hb dCi_decrypt_29 rfl (fun h => absurd h (nI_nlt (a := 10 - n) (b := 1) (by omega) (by omega))) (fun _ => ?_)
      refine lv_iload hx hb dCi_decrypt_32 (lv_at hl 5 rfl) ?_
      refine lv_bipush (v := nI 10) hx hb dCi_decrypt_34 (by decide) ?_
      refine lv_icmp_ge (tgt := 43) hx hb dCi_decrypt_36 rfl (fun h => ?_) (fun h => ?_)
      · have hm : ¬ 10 - n < 10 := by have := (nI_leI (a := 10) (by omega) (by omega)).mp h; omega
        refine lv_iconst (v := nI 0) hx hb dCi_decrypt_43 (by decide) ?_
        refine lv_istore (lv' := [(10, .int (nI 0)), (0, .ref oc), (5, .int a1), (6, .int a2), (7, .int a3), (8, .int a4), (9, .int (nI (10 - n)))]) hx hb dCi_decrypt_44 hl (by decide) rfl (fun ls hl => ?_)
        refine lv_iload hx hb dCi_decrypt_46 (lv_at hl 2 rfl) ?_
        refine lv_aload_n hx hb dCi_decrypt_48 rfl (lv_at hl 1 rfl) ?_
        refine gfCi_9 hx hb hts hown hG hP 0 rfl rfl dCi_decrypt_49 ?_
        refine lv_iconst (v := nI 4) hx hb dCi_decrypt_52 (by decide) ?_
        refine lv_iload hx hb dCi_decrypt_53 (lv_at hl 6 rfl) ?_
        refine lv_imul hx hb dCi_decrypt_55 ?_
        refine ck_iald hx hb hG hP 1 rfl (by decide) (4 * (10 - n)) (pk_mul 4 (10 - n)) (by omega) dCi_decrypt_56 ?_
        refine lv_ixor hx hb dCi_decrypt_57 ?_
        refine lv_istore (lv' := [(11, .int (a1 ^^^ (w (4 * (10 - n))))), (10, .int (nI 0)), (0, .ref oc), (5, .int a1), (6, .int a2), (7, .int a3), (8, .int a4), (9, .int (nI (10 - n)))]) hx hb dCi_decrypt_58 hl (by decide) rfl (fun ls hl => ?_)
        refine lv_iload hx hb dCi_decrypt_60 (lv_at hl 4 rfl) ?_
        refine lv_aload_n hx hb dCi_decrypt_62 rfl (lv_at hl 2 rfl) ?_
        refine gfCi_9 hx hb hts hown hG hP 0 rfl rfl dCi_decrypt_63 ?_
        refine lv_iconst (v := nI 4) hx hb dCi_decrypt_66 (by decide) ?_
        refine lv_iload hx hb dCi_decrypt_67 (lv_at hl 7 rfl) ?_
        refine lv_imul hx hb dCi_decrypt_69 ?_
        refine lv_iconst (v := nI 1) hx hb dCi_decrypt_70 (by decide) ?_
        refine lv_iadd hx hb dCi_decrypt_71 ?_
        refine ck_iald hx hb hG hP 1 rfl (by decide) (4 * (10 - n) + 1) (by rw [pk_mul, nI_add]) (by omega) dCi_decrypt_72 ?_
        refine lv_ixor hx hb dCi_decrypt_73 ?_
        refine lv_istore (lv' := [(12, .int (a2 ^^^ (w (4 * (10 - n) + 1)))), (11, .int (a1 ^^^ (w (4 * (10 - n))))), (10, .int (nI 0)), (0, .ref oc), (5, .int a1), (6, .int a2), (7, .int a3), (8, .int a4), (9, .int (nI (10 - n)))]) hx hb dCi_decrypt_74 hl (by decide) rfl (fun ls hl => ?_)
        refine lv_iload hx hb dCi_decrypt_76 (lv_at hl 6 rfl) ?_
        refine lv_aload_n hx hb dCi_decrypt_78 rfl (lv_at hl 3 rfl) ?_
        refine gfCi_9 hx hb hts hown hG hP 0 rfl rfl dCi_decrypt_79 ?_
        refine lv_iconst (v := nI 4) hx hb dCi_decrypt_82 (by decide) ?_
        refine lv_iload hx hb dCi_decrypt_83 (lv_at hl 8 rfl) ?_
        refine lv_imul hx hb dCi_decrypt_85 ?_
        refine lv_iconst (v := nI 2) hx hb dCi_decrypt_86 (by decide) ?_
        refine lv_iadd hx hb dCi_decrypt_87 ?_
        refine ck_iald hx hb hG hP 1 rfl (by decide) (4 * (10 - n) + 2) (by rw [pk_mul, nI_add]) (by omega) dCi_decrypt_88 ?_
        refine lv_ixor hx hb dCi_decrypt_89 ?_
        refine lv_istore (lv' := [(13, .int (a3 ^^^ (w (4 * (10 - n) + 2)))), (12, .int (a2 ^^^ (w (4 * (10 - n) + 1)))), (11, .int (a1 ^^^ (w (4 * (10 - n))))), (10, .int (nI 0)), (0, .ref oc), (5, .int a1), (6, .int a2), (7, .int a3), (8, .int a4), (9, .int (nI (10 - n)))]) hx hb dCi_decrypt_90 hl (by decide) rfl (fun ls hl => ?_)
        refine lv_iload hx hb dCi_decrypt_92 (lv_at hl 8 rfl) ?_
        refine lv_aload_n hx hb dCi_decrypt_94 rfl (lv_at hl 4 rfl) ?_
        refine gfCi_9 hx hb hts hown hG hP 0 rfl rfl dCi_decrypt_95 ?_
        refine lv_iconst (v := nI 4) hx hb dCi_decrypt_98 (by decide) ?_
        refine lv_iload hx hb dCi_decrypt_99 (lv_at hl 9 rfl) ?_
        refine lv_imul hx hb dCi_decrypt_101 ?_
        refine lv_iconst (v := nI 3) hx hb dCi_decrypt_102 (by decide) ?_
        refine lv_iadd hx hb dCi_decrypt_103 ?_
        refine ck_iald hx hb hG hP 1 rfl (by decide) (4 * (10 - n) + 3) (by rw [pk_mul, nI_add]) (by omega) dCi_decrypt_104 ?_
        refine lv_ixor hx hb dCi_decrypt_105 ?_
        refine lv_istore (lv' := [(14, .int (a4 ^^^ (w (4 * (10 - n) + 3)))), (13, .int (a3 ^^^ (w (4 * (10 - n) + 2)))), (12, .int (a2 ^^^ (w (4 * (10 - n) + 1)))), (11, .int (a1 ^^^ (w (4 * (10 - n))))), (10, .int (nI 0)), (0, .ref oc), (5, .int a1), (6, .int a2), (7, .int a3), (8, .int a4), (9, .int (nI (10 - n)))]) hx hb dCi_decrypt_106 hl (by decide) rfl (fun ls hl => ?_)
        refine lv_iload hx hb dCi_decrypt_108 (lv_at hl 4 rfl) ?_
        refine lv_if_eq (tgt := 121) hx hb dCi_decrypt_110 rfl (fun _ => ?_) (fun h => absurd (rfl) h)
        refine lv_iload hx hb dCi_decrypt_121 (lv_at hl 3 rfl) ?_
        refine lv_istore (lv' := [(11, .int (a1 ^^^ (w (4 * (10 - n))))), (14, .int (a4 ^^^ (w (4 * (10 - n) + 3)))), (13, .int (a3 ^^^ (w (4 * (10 - n) + 2)))), (12, .int (a2 ^^^ (w (4 * (10 - n) + 1)))), (10, .int (nI 0)), (0, .ref oc), (5, .int a1), (6, .int a2), (7, .int a3), (8, .int a4), (9, .int (nI (10 - n)))]) hx hb dCi_decrypt_123 hl (by decide) rfl (fun ls hl => ?_)
        refine lv_iload hx hb dCi_decrypt_125 (lv_at hl 4 rfl) ?_
        refine lv_if_eq (tgt := 138) hx hb dCi_decrypt_127 rfl (fun _ => ?_) (fun h => absurd (rfl) h)
        refine lv_iload hx hb dCi_decrypt_138 (lv_at hl 3 rfl) ?_
        refine lv_istore (lv' := [(12, .int (a2 ^^^ (w (4 * (10 - n) + 1)))), (11, .int (a1 ^^^ (w (4 * (10 - n))))), (14, .int (a4 ^^^ (w (4 * (10 - n) + 3)))), (13, .int (a3 ^^^ (w (4 * (10 - n) + 2)))), (10, .int (nI 0)), (0, .ref oc), (5, .int a1), (6, .int a2), (7, .int a3), (8, .int a4), (9, .int (nI (10 - n)))]) hx hb dCi_decrypt_140 hl (by decide) rfl (fun ls hl => ?_)
        refine lv_iload hx hb dCi_decrypt_142 (lv_at hl 4 rfl) ?_
        refine lv_if_eq (tgt := 155) hx hb dCi_decrypt_144 rfl (fun _ => ?_) (fun h => absurd (rfl) h)
        refine lv_iload hx hb dCi_decrypt_155 (lv_at hl 3 rfl) ?_
        refine lv_istore (lv' := [(13, .int (a3 ^^^ (w (4 * (10 - n) + 2)))), (12, .int (a2 ^^^ (w (4 * (10 - n) + 1)))), (11, .int (a1 ^^^ (w (4 * (10 - n))))), (14, .int (a4 ^^^ (w (4 * (10 - n) + 3)))), (10, .int (nI 0)), (0, .ref oc), (5, .int a1), (6, .int a2), (7, .int a3), (8, .int a4), (9, .int (nI (10 - n)))]) hx hb dCi_decrypt_157 hl (by decide) rfl (fun ls hl => ?_)
        refine lv_iload hx hb dCi_decrypt_159 (lv_at hl 4 rfl) ?_
        refine lv_if_eq (tgt := 172) hx hb dCi_decrypt_161 rfl (fun _ => ?_) (fun h => absurd (rfl) h)
        refine lv_iload hx hb dCi_decrypt_172 (lv_at hl 3 rfl) ?_
        refine lv_istore (lv' := [(14, .int (a4 ^^^ (w (4 * (10 - n) + 3)))), (13, .int (a3 ^^^ (w (4 * (10 - n) + 2)))), (12, .int (a2 ^^^ (w (4 * (10 - n) + 1)))), (11, .int (a1 ^^^ (w (4 * (10 - n))))), (10, .int (nI 0)), (0, .ref oc), (5, .int a1), (6, .int a2), (7, .int a3), (8, .int a4), (9, .int (nI (10 - n)))]) hx hb dCi_decrypt_174 hl (by decide) rfl (fun ls hl => ?_)
        refine va_getsN hx hb hG.2.2.1.1 hS hown (va_Nw.use rfl (hG.2.2.2.1 _ kx541)) (fun _ h => h) dCi_decrypt_176 ?_
        refine lv_iload hx hb dCi_decrypt_179 (lv_at hl 3 rfl) ?_
        refine lv_iload hx hb dCi_decrypt_181 (lv_at hl 0 rfl) ?_
        refine lv_iload hx hb dCi_decrypt_183 (lv_at hl 1 rfl) ?_
        refine lv_iload hx hb dCi_decrypt_185 (lv_at hl 2 rfl) ?_
        refine clCi_22 (As := [.ref G.2.2.2, .int (a1 ^^^ (w (4 * (10 - n)))), .int (a4 ^^^ (w (4 * (10 - n) + 3))), .int (a3 ^^^ (w (4 * (10 - n) + 2))), .int (a2 ^^^ (w (4 * (10 - n) + 1)))]) (rest := []) hx hb hml hown hts (k_Ci_gather l G G.2.2.2 ckU (Or.inr ⟨rfl, rfl⟩) (a1 ^^^ (w (4 * (10 - n)))) (a4 ^^^ (w (4 * (10 - n) + 3))) (a3 ^^^ (w (4 * (10 - n) + 2))) (a2 ^^^ (w (4 * (10 - n) + 1)))) hG hA hP hD hS [] rfl rfl (fun _ => rfl) rfl hl.1 rfl (Nat.le_of_ble_eq_true rfl) ⟨by decide, by decide⟩ ⟨by decide, by decide⟩ dCi_decrypt_187 (fun _ H locs _ hP hD hS => ?_)
        have hP : va_P G.1 vwCl [oC oc 1 [.ref ow, .long h0, .long l0], aI G ow 44 w] H := hP
        have hD : va_D A [oC oc 1 [.ref ow, .long h0, .long l0], aI G ow 44 w] := hD
        refine W.cs (cells' := 0) (slots' := 0) rfl rfl ?_
        refine W.eq (g2 := F0 m 190 ls [.int (jGat ckU (a1 ^^^ (w (4 * (10 - n)))) (a4 ^^^ (w (4 * (10 - n) + 3))) (a3 ^^^ (w (4 * (10 - n) + 2))) (a2 ^^^ (w (4 * (10 - n) + 1))))]) rfl ?_
        refine lv_istore (lv' := [(5, .int (jGat ckU (a1 ^^^ (w (4 * (10 - n)))) (a4 ^^^ (w (4 * (10 - n) + 3))) (a3 ^^^ (w (4 * (10 - n) + 2))) (a2 ^^^ (w (4 * (10 - n) + 1))))), (14, .int (a4 ^^^ (w (4 * (10 - n) + 3)))), (13, .int (a3 ^^^ (w (4 * (10 - n) + 2)))), (12, .int (a2 ^^^ (w (4 * (10 - n) + 1)))), (11, .int (a1 ^^^ (w (4 * (10 - n))))), (10, .int (nI 0)), (0, .ref oc), (6, .int a2), (7, .int a3), (8, .int a4), (9, .int (nI (10 - n)))]) hx hb dCi_decrypt_190 hl (by decide) rfl (fun ls hl => ?_)
        refine va_getsN hx hb hG.2.2.1.1 hS hown (va_Nw.use rfl (hG.2.2.2.1 _ kx541)) (fun _ h => h) dCi_decrypt_192 ?_
        refine lv_iload hx hb dCi_decrypt_195 (lv_at hl 3 rfl) ?_
        refine lv_iload hx hb dCi_decrypt_197 (lv_at hl 4 rfl) ?_
        refine lv_iload hx hb dCi_decrypt_199 (lv_at hl 1 rfl) ?_
        refine lv_iload hx hb dCi_decrypt_201 (lv_at hl 2 rfl) ?_
        refine clCi_22 (As := [.ref G.2.2.2, .int (a2 ^^^ (w (4 * (10 - n) + 1))), .int (a1 ^^^ (w (4 * (10 - n)))), .int (a4 ^^^ (w (4 * (10 - n) + 3))), .int (a3 ^^^ (w (4 * (10 - n) + 2)))]) (rest := []) hx hb hml hown hts (k_Ci_gather l G G.2.2.2 ckU (Or.inr ⟨rfl, rfl⟩) (a2 ^^^ (w (4 * (10 - n) + 1))) (a1 ^^^ (w (4 * (10 - n)))) (a4 ^^^ (w (4 * (10 - n) + 3))) (a3 ^^^ (w (4 * (10 - n) + 2)))) hG hA hP hD hS [] rfl rfl (fun _ => rfl) rfl hl.1 rfl (Nat.le_of_ble_eq_true rfl) ⟨by decide, by decide⟩ ⟨by decide, by decide⟩ dCi_decrypt_203 (fun _ H locs _ hP hD hS => ?_)
        have hP : va_P G.1 vwCl [oC oc 1 [.ref ow, .long h0, .long l0], aI G ow 44 w] H := hP
        have hD : va_D A [oC oc 1 [.ref ow, .long h0, .long l0], aI G ow 44 w] := hD
        refine W.cs (cells' := 0) (slots' := 0) rfl rfl ?_
        refine W.eq (g2 := F0 m 206 ls [.int (jGat ckU (a2 ^^^ (w (4 * (10 - n) + 1))) (a1 ^^^ (w (4 * (10 - n)))) (a4 ^^^ (w (4 * (10 - n) + 3))) (a3 ^^^ (w (4 * (10 - n) + 2))))]) rfl ?_
        refine lv_istore (lv' := [(6, .int (jGat ckU (a2 ^^^ (w (4 * (10 - n) + 1))) (a1 ^^^ (w (4 * (10 - n)))) (a4 ^^^ (w (4 * (10 - n) + 3))) (a3 ^^^ (w (4 * (10 - n) + 2))))), (5, .int (jGat ckU (a1 ^^^ (w (4 * (10 - n)))) (a4 ^^^ (w (4 * (10 - n) + 3))) (a3 ^^^ (w (4 * (10 - n) + 2))) (a2 ^^^ (w (4 * (10 - n) + 1))))), (14, .int (a4 ^^^ (w (4 * (10 - n) + 3)))), (13, .int (a3 ^^^ (w (4 * (10 - n) + 2)))), (12, .int (a2 ^^^ (w (4 * (10 - n) + 1)))), (11, .int (a1 ^^^ (w (4 * (10 - n))))), (10, .int (nI 0)), (0, .ref oc), (7, .int a3), (8, .int a4), (9, .int (nI (10 - n)))]) hx hb dCi_decrypt_206 hl (by decide) rfl (fun ls hl => ?_)
        refine va_getsN hx hb hG.2.2.1.1 hS hown (va_Nw.use rfl (hG.2.2.2.1 _ kx541)) (fun _ h => h) dCi_decrypt_208 ?_
        refine lv_iload hx hb dCi_decrypt_211 (lv_at hl 3 rfl) ?_
        refine lv_iload hx hb dCi_decrypt_213 (lv_at hl 4 rfl) ?_
        refine lv_iload hx hb dCi_decrypt_215 (lv_at hl 5 rfl) ?_
        refine lv_iload hx hb dCi_decrypt_217 (lv_at hl 2 rfl) ?_
        refine clCi_22 (As := [.ref G.2.2.2, .int (a3 ^^^ (w (4 * (10 - n) + 2))), .int (a2 ^^^ (w (4 * (10 - n) + 1))), .int (a1 ^^^ (w (4 * (10 - n)))), .int (a4 ^^^ (w (4 * (10 - n) + 3)))]) (rest := []) hx hb hml hown hts (k_Ci_gather l G G.2.2.2 ckU (Or.inr ⟨rfl, rfl⟩) (a3 ^^^ (w (4 * (10 - n) + 2))) (a2 ^^^ (w (4 * (10 - n) + 1))) (a1 ^^^ (w (4 * (10 - n)))) (a4 ^^^ (w (4 * (10 - n) + 3)))) hG hA hP hD hS [] rfl rfl (fun _ => rfl) rfl hl.1 rfl (Nat.le_of_ble_eq_true rfl) ⟨by decide, by decide⟩ ⟨by decide, by decide⟩ dCi_decrypt_219 (fun _ H locs _ hP hD hS => ?_)
        have hP : va_P G.1 vwCl [oC oc 1 [.ref ow, .long h0, .long l0], aI G ow 44 w] H := hP
        have hD : va_D A [oC oc 1 [.ref ow, .long h0, .long l0], aI G ow 44 w] := hD
        refine W.cs (cells' := 0) (slots' := 0) rfl rfl ?_
        refine W.eq (g2 := F0 m 222 ls [.int (jGat ckU (a3 ^^^ (w (4 * (10 - n) + 2))) (a2 ^^^ (w (4 * (10 - n) + 1))) (a1 ^^^ (w (4 * (10 - n)))) (a4 ^^^ (w (4 * (10 - n) + 3))))]) rfl ?_
        refine lv_istore (lv' := [(7, .int (jGat ckU (a3 ^^^ (w (4 * (10 - n) + 2))) (a2 ^^^ (w (4 * (10 - n) + 1))) (a1 ^^^ (w (4 * (10 - n)))) (a4 ^^^ (w (4 * (10 - n) + 3))))), (6, .int (jGat ckU (a2 ^^^ (w (4 * (10 - n) + 1))) (a1 ^^^ (w (4 * (10 - n)))) (a4 ^^^ (w (4 * (10 - n) + 3))) (a3 ^^^ (w (4 * (10 - n) + 2))))), (5, .int (jGat ckU (a1 ^^^ (w (4 * (10 - n)))) (a4 ^^^ (w (4 * (10 - n) + 3))) (a3 ^^^ (w (4 * (10 - n) + 2))) (a2 ^^^ (w (4 * (10 - n) + 1))))), (14, .int (a4 ^^^ (w (4 * (10 - n) + 3)))), (13, .int (a3 ^^^ (w (4 * (10 - n) + 2)))), (12, .int (a2 ^^^ (w (4 * (10 - n) + 1)))), (11, .int (a1 ^^^ (w (4 * (10 - n))))), (10, .int (nI 0)), (0, .ref oc), (8, .int a4), (9, .int (nI (10 - n)))]) hx hb dCi_decrypt_222 hl (by decide) rfl (fun ls hl => ?_)
        refine va_getsN hx hb hG.2.2.1.1 hS hown (va_Nw.use rfl (hG.2.2.2.1 _ kx541)) (fun _ h => h) dCi_decrypt_224 ?_
        refine lv_iload hx hb dCi_decrypt_227 (lv_at hl 3 rfl) ?_
        refine lv_iload hx hb dCi_decrypt_229 (lv_at hl 4 rfl) ?_
        refine lv_iload hx hb dCi_decrypt_231 (lv_at hl 5 rfl) ?_
        refine lv_iload hx hb dCi_decrypt_233 (lv_at hl 6 rfl) ?_
        refine clCi_22 (As := [.ref G.2.2.2, .int (a4 ^^^ (w (4 * (10 - n) + 3))), .int (a3 ^^^ (w (4 * (10 - n) + 2))), .int (a2 ^^^ (w (4 * (10 - n) + 1))), .int (a1 ^^^ (w (4 * (10 - n))))]) (rest := []) hx hb hml hown hts (k_Ci_gather l G G.2.2.2 ckU (Or.inr ⟨rfl, rfl⟩) (a4 ^^^ (w (4 * (10 - n) + 3))) (a3 ^^^ (w (4 * (10 - n) + 2))) (a2 ^^^ (w (4 * (10 - n) + 1))) (a1 ^^^ (w (4 * (10 - n))))) hG hA hP hD hS [] rfl rfl (fun _ => rfl) rfl hl.1 rfl (Nat.le_of_ble_eq_true rfl) ⟨by decide, by decide⟩ ⟨by decide, by decide⟩ dCi_decrypt_235 (fun _ H locs _ hP hD hS => ?_)
        have hP : va_P G.1 vwCl [oC oc 1 [.ref ow, .long h0, .long l0], aI G ow 44 w] H := hP
        have hD : va_D A [oC oc 1 [.ref ow, .long h0, .long l0], aI G ow 44 w] := hD
        refine W.cs (cells' := 0) (slots' := 0) rfl rfl ?_
        refine W.eq (g2 := F0 m 238 ls [.int (jGat ckU (a4 ^^^ (w (4 * (10 - n) + 3))) (a3 ^^^ (w (4 * (10 - n) + 2))) (a2 ^^^ (w (4 * (10 - n) + 1))) (a1 ^^^ (w (4 * (10 - n)))))]) rfl ?_
        refine lv_istore (lv' := [(8, .int (jGat ckU (a4 ^^^ (w (4 * (10 - n) + 3))) (a3 ^^^ (w (4 * (10 - n) + 2))) (a2 ^^^ (w (4 * (10 - n) + 1))) (a1 ^^^ (w (4 * (10 - n)))))), (7, .int (jGat ckU (a3 ^^^ (w (4 * (10 - n) + 2))) (a2 ^^^ (w (4 * (10 - n) + 1))) (a1 ^^^ (w (4 * (10 - n)))) (a4 ^^^ (w (4 * (10 - n) + 3))))), (6, .int (jGat ckU (a2 ^^^ (w (4 * (10 - n) + 1))) (a1 ^^^ (w (4 * (10 - n)))) (a4 ^^^ (w (4 * (10 - n) + 3))) (a3 ^^^ (w (4 * (10 - n) + 2))))), (5, .int (jGat ckU (a1 ^^^ (w (4 * (10 - n)))) (a4 ^^^ (w (4 * (10 - n) + 3))) (a3 ^^^ (w (4 * (10 - n) + 2))) (a2 ^^^ (w (4 * (10 - n) + 1))))), (14, .int (a4 ^^^ (w (4 * (10 - n) + 3)))), (13, .int (a3 ^^^ (w (4 * (10 - n) + 2)))), (12, .int (a2 ^^^ (w (4 * (10 - n) + 1)))), (11, .int (a1 ^^^ (w (4 * (10 - n))))), (10, .int (nI 0)), (0, .ref oc), (9, .int (nI (10 - n)))]) hx hb dCi_decrypt_238 hl (by decide) rfl (fun ls hl => ?_)
        refine lv_iinc (v := nI (10 - (n + 1))) (lv' := [(9, .int (nI (10 - (n + 1)))), (8, .int (jGat ckU (a4 ^^^ (w (4 * (10 - n) + 3))) (a3 ^^^ (w (4 * (10 - n) + 2))) (a2 ^^^ (w (4 * (10 - n) + 1))) (a1 ^^^ (w (4 * (10 - n)))))), (7, .int (jGat ckU (a3 ^^^ (w (4 * (10 - n) + 2))) (a2 ^^^ (w (4 * (10 - n) + 1))) (a1 ^^^ (w (4 * (10 - n)))) (a4 ^^^ (w (4 * (10 - n) + 3))))), (6, .int (jGat ckU (a2 ^^^ (w (4 * (10 - n) + 1))) (a1 ^^^ (w (4 * (10 - n)))) (a4 ^^^ (w (4 * (10 - n) + 3))) (a3 ^^^ (w (4 * (10 - n) + 2))))), (5, .int (jGat ckU (a1 ^^^ (w (4 * (10 - n)))) (a4 ^^^ (w (4 * (10 - n) + 3))) (a3 ^^^ (w (4 * (10 - n) + 2))) (a2 ^^^ (w (4 * (10 - n) + 1))))), (14, .int (a4 ^^^ (w (4 * (10 - n) + 3)))), (13, .int (a3 ^^^ (w (4 * (10 - n) + 2)))), (12, .int (a2 ^^^ (w (4 * (10 - n) + 1)))), (11, .int (a1 ^^^ (w (4 * (10 - n))))), (10, .int (nI 0)), (0, .ref oc)]) hx hb dCi_decrypt_240 hl (k := 10) rfl (by rw [show 10 - n = (10 - (n + 1)) + 1 by omega]; exact pk_m1 _) (by decide) rfl (fun ls hl => ?_)
        refine lv_goto (tgt := 26) hx hb dCi_decrypt_243 rfl ?_
        have e1 : jDn w (jD0 ph pl) (n + 1) = (jGat ckU (a1 ^^^ (w (4 * (10 - n)))) (a4 ^^^ (w (4 * (10 - n) + 3))) (a3 ^^^ (w (4 * (10 - n) + 2))) (a2 ^^^ (w (4 * (10 - n) + 1))), jGat ckU (a2 ^^^ (w (4 * (10 - n) + 1))) (a1 ^^^ (w (4 * (10 - n)))) (a4 ^^^ (w (4 * (10 - n) + 3))) (a3 ^^^ (w (4 * (10 - n) + 2))), jGat ckU (a3 ^^^ (w (4 * (10 - n) + 2))) (a2 ^^^ (w (4 * (10 - n) + 1))) (a1 ^^^ (w (4 * (10 - n)))) (a4 ^^^ (w (4 * (10 - n) + 3))), jGat ckU (a4 ^^^ (w (4 * (10 - n) + 3))) (a3 ^^^ (w (4 * (10 - n) + 2))) (a2 ^^^ (w (4 * (10 - n) + 1))) (a1 ^^^ (w (4 * (10 - n))))) := (congrArg (jDr w (10 - n)) hq).trans (if_neg hm)
        exact ih (n + 1) _ _ _ _ _ _ _ (by omega) e1 hP hD hS (lv_sub hl [10, 4, 3, 2, 1, 0] rfl)
      · have hm : 10 - n < 10 := Nat.not_le.mp (fun z => h ((nI_leI (a := 10) (by omega) (by omega)).mpr z))
        refine lv_iconst (v := nI 1) hx hb dCi_decrypt_39 (by decide) ?_
        refine lv_goto (tgt := 44) hx hb dCi_decrypt_40 rfl ?_
        refine lv_istore (lv' := [(10, .int (nI 1)), (0, .ref oc), (5, .int a1), (6, .int a2), (7, .int a3), (8, .int a4), (9, .int (nI (10 - n)))]) hx hb dCi_decrypt_44 hl (by decide) rfl (fun ls hl => ?_)
        refine lv_iload hx hb dCi_decrypt_46 (lv_at hl 2 rfl) ?_
        refine lv_aload_n hx hb dCi_decrypt_48 rfl (lv_at hl 1 rfl) ?_
        refine gfCi_9 hx hb hts hown hG hP 0 rfl rfl dCi_decrypt_49 ?_
        refine lv_iconst (v := nI 4) hx hb dCi_decrypt_52 (by decide) ?_
        refine lv_iload hx hb dCi_decrypt_53 (lv_at hl 6 rfl) ?_
        refine lv_imul hx hb dCi_decrypt_55 ?_
        refine ck_iald hx hb hG hP 1 rfl (by decide) (4 * (10 - n)) (pk_mul 4 (10 - n)) (by omega) dCi_decrypt_56 ?_
        refine lv_ixor hx hb dCi_decrypt_57 ?_
        refine lv_istore (lv' := [(11, .int (a1 ^^^ (w (4 * (10 - n))))), (10, .int (nI 1)), (0, .ref oc), (5, .int a1), (6, .int a2), (7, .int a3), (8, .int a4), (9, .int (nI (10 - n)))]) hx hb dCi_decrypt_58 hl (by decide) rfl (fun ls hl => ?_)
        refine lv_iload hx hb dCi_decrypt_60 (lv_at hl 4 rfl) ?_
        refine lv_aload_n hx hb dCi_decrypt_62 rfl (lv_at hl 2 rfl) ?_
        refine gfCi_9 hx hb hts hown hG hP 0 rfl rfl dCi_decrypt_63 ?_
        refine lv_iconst (v := nI 4) hx hb dCi_decrypt_66 (by decide) ?_
        refine lv_iload hx hb dCi_decrypt_67 (lv_at hl 7 rfl) ?_
        refine lv_imul hx hb dCi_decrypt_69 ?_
        refine lv_iconst (v := nI 1) hx hb dCi_decrypt_70 (by decide) ?_
        refine lv_iadd hx hb dCi_decrypt_71 ?_
        refine ck_iald hx hb hG hP 1 rfl (by decide) (4 * (10 - n) + 1) (by rw [pk_mul, nI_add]) (by omega) dCi_decrypt_72 ?_
        refine lv_ixor hx hb dCi_decrypt_73 ?_
        refine lv_istore (lv' := [(12, .int (a2 ^^^ (w (4 * (10 - n) + 1)))), (11, .int (a1 ^^^ (w (4 * (10 - n))))), (10, .int (nI 1)), (0, .ref oc), (5, .int a1), (6, .int a2), (7, .int a3), (8, .int a4), (9, .int (nI (10 - n)))]) hx hb dCi_decrypt_74 hl (by decide) rfl (fun ls hl => ?_)
        refine lv_iload hx hb dCi_decrypt_76 (lv_at hl 6 rfl) ?_
        refine lv_aload_n hx hb dCi_decrypt_78 rfl (lv_at hl 3 rfl) ?_
        refine gfCi_9 hx hb hts hown hG hP 0 rfl rfl dCi_decrypt_79 ?_
        refine lv_iconst (v := nI 4) hx hb dCi_decrypt_82 (by decide) ?_
        refine lv_iload hx hb dCi_decrypt_83 (lv_at hl 8 rfl) ?_
        refine lv_imul hx hb dCi_decrypt_85 ?_
        refine lv_iconst (v := nI 2) hx hb dCi_decrypt_86 (by decide) ?_
        refine lv_iadd hx hb dCi_decrypt_87 ?_
        refine ck_iald hx hb hG hP 1 rfl (by decide) (4 * (10 - n) + 2) (by rw [pk_mul, nI_add]) (by omega) dCi_decrypt_88 ?_
        refine lv_ixor hx hb dCi_decrypt_89 ?_
        refine lv_istore (lv' := [(13, .int (a3 ^^^ (w (4 * (10 - n) + 2)))), (12, .int (a2 ^^^ (w (4 * (10 - n) + 1)))), (11, .int (a1 ^^^ (w (4 * (10 - n))))), (10, .int (nI 1)), (0, .ref oc), (5, .int a1), (6, .int a2), (7, .int a3), (8, .int a4), (9, .int (nI (10 - n)))]) hx hb dCi_decrypt_90 hl (by decide) rfl (fun ls hl => ?_)
        refine lv_iload hx hb dCi_decrypt_92 (lv_at hl 8 rfl) ?_
        refine lv_aload_n hx hb dCi_decrypt_94 rfl (lv_at hl 4 rfl) ?_
        refine gfCi_9 hx hb hts hown hG hP 0 rfl rfl dCi_decrypt_95 ?_
        refine lv_iconst (v := nI 4) hx hb dCi_decrypt_98 (by decide) ?_
        refine lv_iload hx hb dCi_decrypt_99 (lv_at hl 9 rfl) ?_
        refine lv_imul hx hb dCi_decrypt_101 ?_
        refine lv_iconst (v := nI 3) hx hb dCi_decrypt_102 (by decide) ?_
        refine lv_iadd hx hb dCi_decrypt_103 ?_
        refine ck_iald hx hb hG hP 1 rfl (by decide) (4 * (10 - n) + 3) (by rw [pk_mul, nI_add]) (by omega) dCi_decrypt_104 ?_
        refine lv_ixor hx hb dCi_decrypt_105 ?_
        refine lv_istore (lv' := [(14, .int (a4 ^^^ (w (4 * (10 - n) + 3)))), (13, .int (a3 ^^^ (w (4 * (10 - n) + 2)))), (12, .int (a2 ^^^ (w (4 * (10 - n) + 1)))), (11, .int (a1 ^^^ (w (4 * (10 - n))))), (10, .int (nI 1)), (0, .ref oc), (5, .int a1), (6, .int a2), (7, .int a3), (8, .int a4), (9, .int (nI (10 - n)))]) hx hb dCi_decrypt_106 hl (by decide) rfl (fun ls hl => ?_)
        refine lv_iload hx hb dCi_decrypt_108 (lv_at hl 4 rfl) ?_
        refine lv_if_eq (tgt := 121) hx hb dCi_decrypt_110 rfl (fun h => absurd h (by decide)) (fun _ => ?_)
        refine lv_iload hx hb dCi_decrypt_113 (lv_at hl 3 rfl) ?_
        refine clCi_37 (As := [.int (a1 ^^^ (w (4 * (10 - n))))]) (rest := []) hx hb hml hown hts (k_Ci_unmix l G (a1 ^^^ (w (4 * (10 - n))))) hG hA hP hD hS [] rfl rfl (fun _ => rfl) rfl hl.1 rfl (Nat.le_of_ble_eq_true rfl) ⟨by decide, by decide⟩ ⟨by decide, by decide⟩ dCi_decrypt_115 (fun _ H locs _ hP hD hS => ?_)
        have hP : va_P G.1 vwCl [oC oc 1 [.ref ow, .long h0, .long l0], aI G ow 44 w] H := hP
        have hD : va_D A [oC oc 1 [.ref ow, .long h0, .long l0], aI G ow 44 w] := hD
        refine W.cs (cells' := 0) (slots' := 0) rfl rfl ?_
        refine W.eq (g2 := F0 m 118 ls [.int (jUnmix (a1 ^^^ (w (4 * (10 - n)))))]) rfl ?_
        refine lv_goto (tgt := 123) hx hb dCi_decrypt_118 rfl ?_
        refine lv_istore (lv' := [(11, .int (jUnmix (a1 ^^^ (w (4 * (10 - n)))))), (14, .int (a4 ^^^ (w (4 * (10 - n) + 3)))), (13, .int (a3 ^^^ (w (4 * (10 - n) + 2)))), (12, .int (a2 ^^^ (w (4 * (10 - n) + 1)))), (10, .int (nI 1)), (0, .ref oc), (5, .int a1), (6, .int a2), (7, .int a3), (8, .int a4), (9, .int (nI (10 - n)))]) hx hb dCi_decrypt_123 hl (by decide) rfl (fun ls hl => ?_)
        refine lv_iload hx hb dCi_decrypt_125 (lv_at hl 4 rfl) ?_
        refine lv_if_eq (tgt := 138) hx hb dCi_decrypt_127 rfl (fun h => absurd h (by decide)) (fun _ => ?_)
        refine lv_iload hx hb dCi_decrypt_130 (lv_at hl 3 rfl) ?_
        refine clCi_37 (As := [.int (a2 ^^^ (w (4 * (10 - n) + 1)))]) (rest := []) hx hb hml hown hts (k_Ci_unmix l G (a2 ^^^ (w (4 * (10 - n) + 1)))) hG hA hP hD hS [] rfl rfl (fun _ => rfl) rfl hl.1 rfl (Nat.le_of_ble_eq_true rfl) ⟨by decide, by decide⟩ ⟨by decide, by decide⟩ dCi_decrypt_132 (fun _ H locs _ hP hD hS => ?_)
        have hP : va_P G.1 vwCl [oC oc 1 [.ref ow, .long h0, .long l0], aI G ow 44 w] H := hP
        have hD : va_D A [oC oc 1 [.ref ow, .long h0, .long l0], aI G ow 44 w] := hD
        refine W.cs (cells' := 0) (slots' := 0) rfl rfl ?_
        refine W.eq (g2 := F0 m 135 ls [.int (jUnmix (a2 ^^^ (w (4 * (10 - n) + 1))))]) rfl ?_
        refine lv_goto (tgt := 140) hx hb dCi_decrypt_135 rfl ?_
        refine lv_istore (lv' := [(12, .int (jUnmix (a2 ^^^ (w (4 * (10 - n) + 1))))), (11, .int (jUnmix (a1 ^^^ (w (4 * (10 - n)))))), (14, .int (a4 ^^^ (w (4 * (10 - n) + 3)))), (13, .int (a3 ^^^ (w (4 * (10 - n) + 2)))), (10, .int (nI 1)), (0, .ref oc), (5, .int a1), (6, .int a2), (7, .int a3), (8, .int a4), (9, .int (nI (10 - n)))]) hx hb dCi_decrypt_140 hl (by decide) rfl (fun ls hl => ?_)
        refine lv_iload hx hb dCi_decrypt_142 (lv_at hl 4 rfl) ?_
        refine lv_if_eq (tgt := 155) hx hb dCi_decrypt_144 rfl (fun h => absurd h (by decide)) (fun _ => ?_)
        refine lv_iload hx hb dCi_decrypt_147 (lv_at hl 3 rfl) ?_
        refine clCi_37 (As := [.int (a3 ^^^ (w (4 * (10 - n) + 2)))]) (rest := []) hx hb hml hown hts (k_Ci_unmix l G (a3 ^^^ (w (4 * (10 - n) + 2)))) hG hA hP hD hS [] rfl rfl (fun _ => rfl) rfl hl.1 rfl (Nat.le_of_ble_eq_true rfl) ⟨by decide, by decide⟩ ⟨by decide, by decide⟩ dCi_decrypt_149 (fun _ H locs _ hP hD hS => ?_)
        have hP : va_P G.1 vwCl [oC oc 1 [.ref ow, .long h0, .long l0], aI G ow 44 w] H := hP
        have hD : va_D A [oC oc 1 [.ref ow, .long h0, .long l0], aI G ow 44 w] := hD
        refine W.cs (cells' := 0) (slots' := 0) rfl rfl ?_
        refine W.eq (g2 := F0 m 152 ls [.int (jUnmix (a3 ^^^ (w (4 * (10 - n) + 2))))]) rfl ?_
        refine lv_goto (tgt := 157) hx hb dCi_decrypt_152 rfl ?_
        refine lv_istore (lv' := [(13, .int (jUnmix (a3 ^^^ (w (4 * (10 - n) + 2))))), (12, .int (jUnmix (a2 ^^^ (w (4 * (10 - n) + 1))))), (11, .int (jUnmix (a1 ^^^ (w (4 * (10 - n)))))), (14, .int (a4 ^^^ (w (4 * (10 - n) + 3)))), (10, .int (nI 1)), (0, .ref oc), (5, .int a1), (6, .int a2), (7, .int a3), (8, .int a4), (9, .int (nI (10 - n)))]) hx hb dCi_decrypt_157 hl (by decide) rfl (fun ls hl => ?_)
        refine lv_iload hx hb dCi_decrypt_159 (lv_at hl 4 rfl) ?_
        refine lv_if_eq (tgt := 172) hx hb dCi_decrypt_161 rfl (fun h => absurd h (by decide)) (fun _ => ?_)
        refine lv_iload hx hb dCi_decrypt_164 (lv_at hl 3 rfl) ?_
        refine clCi_37 (As := [.int (a4 ^^^ (w (4 * (10 - n) + 3)))]) (rest := []) hx hb hml hown hts (k_Ci_unmix l G (a4 ^^^ (w (4 * (10 - n) + 3)))) hG hA hP hD hS [] rfl rfl (fun _ => rfl) rfl hl.1 rfl (Nat.le_of_ble_eq_true rfl) ⟨by decide, by decide⟩ ⟨by decide, by decide⟩ dCi_decrypt_166 (fun _ H locs _ hP hD hS => ?_)
        have hP : va_P G.1 vwCl [oC oc 1 [.ref ow, .long h0, .long l0], aI G ow 44 w] H := hP
        have hD : va_D A [oC oc 1 [.ref ow, .long h0, .long l0], aI G ow 44 w] := hD
        refine W.cs (cells' := 0) (slots' := 0) rfl rfl ?_
        refine W.eq (g2 := F0 m 169 ls [.int (jUnmix (a4 ^^^ (w (4 * (10 - n) + 3))))]) rfl ?_
        refine lv_goto (tgt := 174) hx hb dCi_decrypt_169 rfl ?_
        refine lv_istore (lv' := [(14, .int (jUnmix (a4 ^^^ (w (4 * (10 - n) + 3))))), (13, .int (jUnmix (a3 ^^^ (w (4 * (10 - n) + 2))))), (12, .int (jUnmix (a2 ^^^ (w (4 * (10 - n) + 1))))), (11, .int (jUnmix (a1 ^^^ (w (4 * (10 - n)))))), (10, .int (nI 1)), (0, .ref oc), (5, .int a1), (6, .int a2), (7, .int a3), (8, .int a4), (9, .int (nI (10 - n)))]) hx hb dCi_decrypt_174 hl (by decide) rfl (fun ls hl => ?_)
        refine va_getsN hx hb hG.2.2.1.1 hS hown (va_Nw.use rfl (hG.2.2.2.1 _ kx541)) (fun _ h => h) dCi_decrypt_176 ?_
        refine lv_iload hx hb dCi_decrypt_179 (lv_at hl 3 rfl) ?_
        refine lv_iload hx hb dCi_decrypt_181 (lv_at hl 0 rfl) ?_
        refine lv_iload hx hb dCi_decrypt_183 (lv_at hl 1 rfl) ?_
        refine lv_iload hx hb dCi_decrypt_185 (lv_at hl 2 rfl) ?_
        refine clCi_22 (As := [.ref G.2.2.2, .int (jUnmix (a1 ^^^ (w (4 * (10 - n))))), .int (jUnmix (a4 ^^^ (w (4 * (10 - n) + 3)))), .int (jUnmix (a3 ^^^ (w (4 * (10 - n) + 2)))), .int (jUnmix (a2 ^^^ (w (4 * (10 - n) + 1))))]) (rest := []) hx hb hml hown hts (k_Ci_gather l G G.2.2.2 ckU (Or.inr ⟨rfl, rfl⟩) (jUnmix (a1 ^^^ (w (4 * (10 - n))))) (jUnmix (a4 ^^^ (w (4 * (10 - n) + 3)))) (jUnmix (a3 ^^^ (w (4 * (10 - n) + 2)))) (jUnmix (a2 ^^^ (w (4 * (10 - n) + 1))))) hG hA hP hD hS [] rfl rfl (fun _ => rfl) rfl hl.1 rfl (Nat.le_of_ble_eq_true rfl) ⟨by decide, by decide⟩ ⟨by decide, by decide⟩ dCi_decrypt_187 (fun _ H locs _ hP hD hS => ?_)
        have hP : va_P G.1 vwCl [oC oc 1 [.ref ow, .long h0, .long l0], aI G ow 44 w] H := hP
        have hD : va_D A [oC oc 1 [.ref ow, .long h0, .long l0], aI G ow 44 w] := hD
        refine W.cs (cells' := 0) (slots' := 0) rfl rfl ?_
        refine W.eq (g2 := F0 m 190 ls [.int (jGat ckU (jUnmix (a1 ^^^ (w (4 * (10 - n))))) (jUnmix (a4 ^^^ (w (4 * (10 - n) + 3)))) (jUnmix (a3 ^^^ (w (4 * (10 - n) + 2)))) (jUnmix (a2 ^^^ (w (4 * (10 - n) + 1)))))]) rfl ?_
        refine lv_istore (lv' := [(5, .int (jGat ckU (jUnmix (a1 ^^^ (w (4 * (10 - n))))) (jUnmix (a4 ^^^ (w (4 * (10 - n) + 3)))) (jUnmix (a3 ^^^ (w (4 * (10 - n) + 2)))) (jUnmix (a2 ^^^ (w (4 * (10 - n) + 1)))))), (14, .int (jUnmix (a4 ^^^ (w (4 * (10 - n) + 3))))), (13, .int (jUnmix (a3 ^^^ (w (4 * (10 - n) + 2))))), (12, .int (jUnmix (a2 ^^^ (w (4 * (10 - n) + 1))))), (11, .int (jUnmix (a1 ^^^ (w (4 * (10 - n)))))), (10, .int (nI 1)), (0, .ref oc), (6, .int a2), (7, .int a3), (8, .int a4), (9, .int (nI (10 - n)))]) hx hb dCi_decrypt_190 hl (by decide) rfl (fun ls hl => ?_)
        refine va_getsN hx hb hG.2.2.1.1 hS hown (va_Nw.use rfl (hG.2.2.2.1 _ kx541)) (fun _ h => h) dCi_decrypt_192 ?_
        refine lv_iload hx hb dCi_decrypt_195 (lv_at hl 3 rfl) ?_
        refine lv_iload hx hb dCi_decrypt_197 (lv_at hl 4 rfl) ?_
        refine lv_iload hx hb dCi_decrypt_199 (lv_at hl 1 rfl) ?_
        refine lv_iload hx hb dCi_decrypt_201 (lv_at hl 2 rfl) ?_
        refine clCi_22 (As := [.ref G.2.2.2, .int (jUnmix (a2 ^^^ (w (4 * (10 - n) + 1)))), .int (jUnmix (a1 ^^^ (w (4 * (10 - n))))), .int (jUnmix (a4 ^^^ (w (4 * (10 - n) + 3)))), .int (jUnmix (a3 ^^^ (w (4 * (10 - n) + 2))))]) (rest := []) hx hb hml hown hts (k_Ci_gather l G G.2.2.2 ckU (Or.inr ⟨rfl, rfl⟩) (jUnmix (a2 ^^^ (w (4 * (10 - n) + 1)))) (jUnmix (a1 ^^^ (w (4 * (10 - n))))) (jUnmix (a4 ^^^ (w (4 * (10 - n) + 3)))) (jUnmix (a3 ^^^ (w (4 * (10 - n) + 2))))) hG hA hP hD hS [] rfl rfl (fun _ => rfl) rfl hl.1 rfl (Nat.le_of_ble_eq_true rfl) ⟨by decide, by decide⟩ ⟨by decide, by decide⟩ dCi_decrypt_203 (fun _ H locs _ hP hD hS => ?_)
        have hP : va_P G.1 vwCl [oC oc 1 [.ref ow, .long h0, .long l0], aI G ow 44 w] H := hP
        have hD : va_D A [oC oc 1 [.ref ow, .long h0, .long l0], aI G ow 44 w] := hD
        refine W.cs (cells' := 0) (slots' := 0) rfl rfl ?_
        refine W.eq (g2 := F0 m 206 ls [.int (jGat ckU (jUnmix (a2 ^^^ (w (4 * (10 - n) + 1)))) (jUnmix (a1 ^^^ (w (4 * (10 - n))))) (jUnmix (a4 ^^^ (w (4 * (10 - n) + 3)))) (jUnmix (a3 ^^^ (w (4 * (10 - n) + 2)))))]) rfl ?_
        refine lv_istore (lv' := [(6, .int (jGat ckU (jUnmix (a2 ^^^ (w (4 * (10 - n) + 1)))) (jUnmix (a1 ^^^ (w (4 * (10 - n))))) (jUnmix (a4 ^^^ (w (4 * (10 - n) + 3)))) (jUnmix (a3 ^^^ (w (4 * (10 - n) + 2)))))), (5, .int (jGat ckU (jUnmix (a1 ^^^ (w (4 * (10 - n))))) (jUnmix (a4 ^^^ (w (4 * (10 - n) + 3)))) (jUnmix (a3 ^^^ (w (4 * (10 - n) + 2)))) (jUnmix (a2 ^^^ (w (4 * (10 - n) + 1)))))), (14, .int (jUnmix (a4 ^^^ (w (4 * (10 - n) + 3))))), (13, .int (jUnmix (a3 ^^^ (w (4 * (10 - n) + 2))))), (12, .int (jUnmix (a2 ^^^ (w (4 * (10 - n) + 1))))), (11, .int (jUnmix (a1 ^^^ (w (4 * (10 - n)))))), (10, .int (nI 1)), (0, .ref oc), (7, .int a3), (8, .int a4), (9, .int (nI (10 - n)))]) hx hb dCi_decrypt_206 hl (by decide) rfl (fun ls hl => ?_)
        refine va_getsN hx hb hG.2.2.1.1 hS hown (va_Nw.use rfl (hG.2.2.2.1 _ kx541)) (fun _ h => h) dCi_decrypt_208 ?_
        refine lv_iload hx hb dCi_decrypt_211 (lv_at hl 3 rfl) ?_
        refine lv_iload hx hb dCi_decrypt_213 (lv_at hl 4 rfl) ?_
        refine lv_iload hx hb dCi_decrypt_215 (lv_at hl 5 rfl) ?_
        refine lv_iload hx hb dCi_decrypt_217 (lv_at hl 2 rfl) ?_
        refine clCi_22 (As := [.ref G.2.2.2, .int (jUnmix (a3 ^^^ (w (4 * (10 - n) + 2)))), .int (jUnmix (a2 ^^^ (w (4 * (10 - n) + 1)))), .int (jUnmix (a1 ^^^ (w (4 * (10 - n))))), .int (jUnmix (a4 ^^^ (w (4 * (10 - n) + 3))))]) (rest := []) hx hb hml hown hts (k_Ci_gather l G G.2.2.2 ckU (Or.inr ⟨rfl, rfl⟩) (jUnmix (a3 ^^^ (w (4 * (10 - n) + 2)))) (jUnmix (a2 ^^^ (w (4 * (10 - n) + 1)))) (jUnmix (a1 ^^^ (w (4 * (10 - n))))) (jUnmix (a4 ^^^ (w (4 * (10 - n) + 3))))) hG hA hP hD hS [] rfl rfl (fun _ => rfl) rfl hl.1 rfl (Nat.le_of_ble_eq_true rfl) ⟨by decide, by decide⟩ ⟨by decide, by decide⟩ dCi_decrypt_219 (fun _ H locs _ hP hD hS => ?_)
        have hP : va_P G.1 vwCl [oC oc 1 [.ref ow, .long h0, .long l0], aI G ow 44 w] H := hP
        have hD : va_D A [oC oc 1 [.ref ow, .long h0, .long l0], aI G ow 44 w] := hD
        refine W.cs (cells' := 0) (slots' := 0) rfl rfl ?_
        refine W.eq (g2 := F0 m 222 ls [.int (jGat ckU (jUnmix (a3 ^^^ (w (4 * (10 - n) + 2)))) (jUnmix (a2 ^^^ (w (4 * (10 - n) + 1)))) (jUnmix (a1 ^^^ (w (4 * (10 - n))))) (jUnmix (a4 ^^^ (w (4 * (10 - n) + 3)))))]) rfl ?_
        refine lv_istore (lv' := [(7, .int (jGat ckU (jUnmix (a3 ^^^ (w (4 * (10 - n) + 2)))) (jUnmix (a2 ^^^ (w (4 * (10 - n) + 1)))) (jUnmix (a1 ^^^ (w (4 * (10 - n))))) (jUnmix (a4 ^^^ (w (4 * (10 - n) + 3)))))), (6, .int (jGat ckU (jUnmix (a2 ^^^ (w (4 * (10 - n) + 1)))) (jUnmix (a1 ^^^ (w (4 * (10 - n))))) (jUnmix (a4 ^^^ (w (4 * (10 - n) + 3)))) (jUnmix (a3 ^^^ (w (4 * (10 - n) + 2)))))), (5, .int (jGat ckU (jUnmix (a1 ^^^ (w (4 * (10 - n))))) (jUnmix (a4 ^^^ (w (4 * (10 - n) + 3)))) (jUnmix (a3 ^^^ (w (4 * (10 - n) + 2)))) (jUnmix (a2 ^^^ (w (4 * (10 - n) + 1)))))), (14, .int (jUnmix (a4 ^^^ (w (4 * (10 - n) + 3))))), (13, .int (jUnmix (a3 ^^^ (w (4 * (10 - n) + 2))))), (12, .int (jUnmix (a2 ^^^ (w (4 * (10 - n) + 1))))), (11, .int (jUnmix (a1 ^^^ (w (4 * (10 - n)))))), (10, .int (nI 1)), (0, .ref oc), (8, .int a4), (9, .int (nI (10 - n)))]) hx hb dCi_decrypt_222 hl (by decide) rfl (fun ls hl => ?_)
        refine va_getsN hx hb hG.2.2.1.1 hS hown (va_Nw.use rfl (hG.2.2.2.1 _ kx541)) (fun _ h => h) dCi_decrypt_224 ?_
        refine lv_iload hx hb dCi_decrypt_227 (lv_at hl 3 rfl) ?_
        refine lv_iload hx hb dCi_decrypt_229 (lv_at hl 4 rfl) ?_
        refine lv_iload hx hb dCi_decrypt_231 (lv_at hl 5 rfl) ?_
        refine lv_iload hx hb dCi_decrypt_233 (lv_at hl 6 rfl) ?_
        refine clCi_22 (As := [.ref G.2.2.2, .int (jUnmix (a4 ^^^ (w (4 * (10 - n) + 3)))), .int (jUnmix (a3 ^^^ (w (4 * (10 - n) + 2)))), .int (jUnmix (a2 ^^^ (w (4 * (10 - n) + 1)))), .int (jUnmix (a1 ^^^ (w (4 * (10 - n)))))]) (rest := []) hx hb hml hown hts (k_Ci_gather l G G.2.2.2 ckU (Or.inr ⟨rfl, rfl⟩) (jUnmix (a4 ^^^ (w (4 * (10 - n) + 3)))) (jUnmix (a3 ^^^ (w (4 * (10 - n) + 2)))) (jUnmix (a2 ^^^ (w (4 * (10 - n) + 1)))) (jUnmix (a1 ^^^ (w (4 * (10 - n)))))) hG hA hP hD hS [] rfl rfl (fun _ => rfl) rfl hl.1 rfl (Nat.le_of_ble_eq_true rfl) ⟨by decide, by decide⟩ ⟨by decide, by decide⟩ dCi_decrypt_235 (fun _ H locs _ hP hD hS => ?_)
        have hP : va_P G.1 vwCl [oC oc 1 [.ref ow, .long h0, .long l0], aI G ow 44 w] H := hP
        have hD : va_D A [oC oc 1 [.ref ow, .long h0, .long l0], aI G ow 44 w] := hD
        refine W.cs (cells' := 0) (slots' := 0) rfl rfl ?_
        refine W.eq (g2 := F0 m 238 ls [.int (jGat ckU (jUnmix (a4 ^^^ (w (4 * (10 - n) + 3)))) (jUnmix (a3 ^^^ (w (4 * (10 - n) + 2)))) (jUnmix (a2 ^^^ (w (4 * (10 - n) + 1)))) (jUnmix (a1 ^^^ (w (4 * (10 - n))))))]) rfl ?_
        refine lv_istore (lv' := [(8, .int (jGat ckU (jUnmix (a4 ^^^ (w (4 * (10 - n) + 3)))) (jUnmix (a3 ^^^ (w (4 * (10 - n) + 2)))) (jUnmix (a2 ^^^ (w (4 * (10 - n) + 1)))) (jUnmix (a1 ^^^ (w (4 * (10 - n))))))), (7, .int (jGat ckU (jUnmix (a3 ^^^ (w (4 * (10 - n) + 2)))) (jUnmix (a2 ^^^ (w (4 * (10 - n) + 1)))) (jUnmix (a1 ^^^ (w (4 * (10 - n))))) (jUnmix (a4 ^^^ (w (4 * (10 - n) + 3)))))), (6, .int (jGat ckU (jUnmix (a2 ^^^ (w (4 * (10 - n) + 1)))) (jUnmix (a1 ^^^ (w (4 * (10 - n))))) (jUnmix (a4 ^^^ (w (4 * (10 - n) + 3)))) (jUnmix (a3 ^^^ (w (4 * (10 - n) + 2)))))), (5, .int (jGat ckU (jUnmix (a1 ^^^ (w (4 * (10 - n))))) (jUnmix (a4 ^^^ (w (4 * (10 - n) + 3)))) (jUnmix (a3 ^^^ (w (4 * (10 - n) + 2)))) (jUnmix (a2 ^^^ (w (4 * (10 - n) + 1)))))), (14, .int (jUnmix (a4 ^^^ (w (4 * (10 - n) + 3))))), (13, .int (jUnmix (a3 ^^^ (w (4 * (10 - n) + 2))))), (12, .int (jUnmix (a2 ^^^ (w (4 * (10 - n) + 1))))), (11, .int (jUnmix (a1 ^^^ (w (4 * (10 - n)))))), (10, .int (nI 1)), (0, .ref oc), (9, .int (nI (10 - n)))]) hx hb dCi_decrypt_238 hl (by decide) rfl (fun ls hl => ?_)
        refine lv_iinc (v := nI (10 - (n + 1))) (lv' := [(9, .int (nI (10 - (n + 1)))), (8, .int (jGat ckU (jUnmix (a4 ^^^ (w (4 * (10 - n) + 3)))) (jUnmix (a3 ^^^ (w (4 * (10 - n) + 2)))) (jUnmix (a2 ^^^ (w (4 * (10 - n) + 1)))) (jUnmix (a1 ^^^ (w (4 * (10 - n))))))), (7, .int (jGat ckU (jUnmix (a3 ^^^ (w (4 * (10 - n) + 2)))) (jUnmix (a2 ^^^ (w (4 * (10 - n) + 1)))) (jUnmix (a1 ^^^ (w (4 * (10 - n))))) (jUnmix (a4 ^^^ (w (4 * (10 - n) + 3)))))), (6, .int (jGat ckU (jUnmix (a2 ^^^ (w (4 * (10 - n) + 1)))) (jUnmix (a1 ^^^ (w (4 * (10 - n))))) (jUnmix (a4 ^^^ (w (4 * (10 - n) + 3)))) (jUnmix (a3 ^^^ (w (4 * (10 - n) + 2)))))), (5, .int (jGat ckU (jUnmix (a1 ^^^ (w (4 * (10 - n))))) (jUnmix (a4 ^^^ (w (4 * (10 - n) + 3)))) (jUnmix (a3 ^^^ (w (4 * (10 - n) + 2)))) (jUnmix (a2 ^^^ (w (4 * (10 - n) + 1)))))), (14, .int (jUnmix (a4 ^^^ (w (4 * (10 - n) + 3))))), (13, .int (jUnmix (a3 ^^^ (w (4 * (10 - n) + 2))))), (12, .int (jUnmix (a2 ^^^ (w (4 * (10 - n) + 1))))), (11, .int (jUnmix (a1 ^^^ (w (4 * (10 - n)))))), (10, .int (nI 1)), (0, .ref oc)]) hx hb dCi_decrypt_240 hl (k := 10) rfl (by rw [show 10 - n = (10 - (n + 1)) + 1 by omega]; exact pk_m1 _) (by decide) rfl (fun ls hl => ?_)
        refine lv_goto (tgt := 26) hx hb dCi_decrypt_243 rfl ?_
        have e1 : jDn w (jD0 ph pl) (n + 1) = (jGat ckU (jUnmix (a1 ^^^ (w (4 * (10 - n))))) (jUnmix (a4 ^^^ (w (4 * (10 - n) + 3)))) (jUnmix (a3 ^^^ (w (4 * (10 - n) + 2)))) (jUnmix (a2 ^^^ (w (4 * (10 - n) + 1)))), jGat ckU (jUnmix (a2 ^^^ (w (4 * (10 - n) + 1)))) (jUnmix (a1 ^^^ (w (4 * (10 - n))))) (jUnmix (a4 ^^^ (w (4 * (10 - n) + 3)))) (jUnmix (a3 ^^^ (w (4 * (10 - n) + 2)))), jGat ckU (jUnmix (a3 ^^^ (w (4 * (10 - n) + 2)))) (jUnmix (a2 ^^^ (w (4 * (10 - n) + 1)))) (jUnmix (a1 ^^^ (w (4 * (10 - n))))) (jUnmix (a4 ^^^ (w (4 * (10 - n) + 3)))), jGat ckU (jUnmix (a4 ^^^ (w (4 * (10 - n) + 3)))) (jUnmix (a3 ^^^ (w (4 * (10 - n) + 2)))) (jUnmix (a2 ^^^ (w (4 * (10 - n) + 1)))) (jUnmix (a1 ^^^ (w (4 * (10 - n)))))) := (congrArg (jDr w (10 - n)) hq).trans (if_pos hm)
        exact ih (n + 1) _ _ _ _ _ _ _ (by omega) e1 hP hD hS (lv_sub hl [10, 4, 3, 2, 1, 0] rfl)
  exact loop 10 0 _ _ _ _ _ _ _ (by omega) rfl hP hD hS (lv_sub hl [5, 4, 3, 2, 1, 0] rfl)
