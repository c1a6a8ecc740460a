/-! the cipher's methods -/
theorem ck_by (x : Int32) {n : Nat} (hn : n < 32) : ush x (nI n) &&& nI 255 = nI (un x / 2 ^ n % 256) := by
  rw [and_nI (ush x (nI n)) 8 rfl (by decide), un_ush x hn]
def jKw (kh kl : Int64) (w : Nat → Int32) : Nat → Int32 := upd (upd (upd (upd w 0 (lush kh (nI 32)).toInt32) 1 kh.toInt32) 2 (lush kl (nI 32)).toInt32) 3 kl.toInt32
/-- one step of the key's words: word n + 4 -/
def jKst (n : Nat) (q : (Nat → Int32) × Int32) : (Nat → Int32) × Int32 := if n % 4 = 0 then (upd q.1 (n + 4) (q.1 n ^^^ (jGat ckS (jTurn (q.1 (n + 3)) (nI 8)) (jTurn (q.1 (n + 3)) (nI 8)) (jTurn (q.1 (n + 3)) (nI 8)) (jTurn (q.1 (n + 3)) (nI 8)) ^^^ ish q.2 (nI 24))), jTwice q.2) else (upd q.1 (n + 4) (q.1 n ^^^ q.1 (n + 3)), q.2)
def jKs (w0 : Nat → Int32) : Nat → (Nat → Int32) × Int32
  | 0 => (w0, nI 1)
  | n + 1 => jKst n (jKs w0 n)
def jLg (a b : Int32) : Int64 := lsh a.toInt64 (nI 32) ||| (b.toInt64 &&& lN 4294967295)
set_option maxHeartbeats 4000000 in
set_option maxRecDepth 100000 in
theorem k_Ci_turn (l : Launch) (G : gG) (x b : Int32) : Ck l G yCi_turn cCi_turn 2 (some .int) { frames := 0, cells := 0, slots := 0, locals := 0 } [.int x, .int b] [] (some (.int (jTurn x b))) [] := by
  refine Cq.of (by decide) (Nat.le_of_ble_eq_true rfl) ?_
  intro p e s m args below meth c A ls hx hb hr hml hts hown hlk hA hP hD hG hS hl
  have hl : lv_has ls 2 [(0, .int x), (1, .int b)] := hl
  refine lv_iload_n hx hb dCi_turn_0 rfl (lv_at hl 0 rfl) ?_
  refine lv_iload_n hx hb dCi_turn_1 rfl (lv_at hl 1 rfl) ?_
  refine lv_ishl hx hb dCi_turn_2 ?_
  refine lv_iload_n hx hb dCi_turn_3 rfl (lv_at hl 0 rfl) ?_
  refine lv_bipush (v := nI 32) hx hb dCi_turn_4 (by decide) ?_
  refine lv_iload_n hx hb dCi_turn_6 rfl (lv_at hl 1 rfl) ?_
  refine lv_isub hx hb dCi_turn_7 ?_
  refine lv_iushr (v := ush x ((nI 32) - b)) hx hb dCi_turn_8 rfl ?_
  refine lv_ior hx hb dCi_turn_9 ?_
  exact cq_iret () (trivial) hx hb hr hlk hP hS (rfl) (rfl) dCi_turn_10
set_option maxHeartbeats 4000000 in
set_option maxRecDepth 100000 in
theorem k_Ci_twice (l : Launch) (G : gG) (x : Int32) : Ck l G yCi_twice cCi_twice 1 (some .int) { frames := 0, cells := 0, slots := 0, locals := 0 } [.int x] [] (some (.int (jTwice x))) [] := by
  refine Cq.of (by decide) (Nat.le_of_ble_eq_true rfl) ?_
  intro p e s m args below meth c A ls hx hb hr hml hts hown hlk hA hP hD hG hS hl
  have hl : lv_has ls 1 [(0, .int x)] := hl
  refine lv_iload_n hx hb dCi_twice_0 rfl (lv_at hl 0 rfl) ?_
  refine lv_ldc (v := nI 2139062143) hx hb hown (hts _ kkCi_52) dCi_twice_1 ?_
  refine lv_iand hx hb dCi_twice_3 ?_
  refine lv_iconst (v := nI 1) hx hb dCi_twice_4 (by decide) ?_
  refine lv_ishl hx hb dCi_twice_5 ?_
  refine lv_iload_n hx hb dCi_twice_6 rfl (lv_at hl 0 rfl) ?_
  refine lv_bipush (v := nI 7) hx hb dCi_twice_7 (by decide) ?_
  refine lv_iushr (v := ush x (nI 7)) hx hb dCi_twice_9 rfl ?_
  refine lv_ldc (v := nI 16843009) hx hb hown (hts _ kkCi_53) dCi_twice_10 ?_
  refine lv_iand hx hb dCi_twice_12 ?_
  refine lv_bipush (v := nI 27) hx hb dCi_twice_13 (by decide) ?_
  refine lv_imul hx hb dCi_twice_15 ?_
  refine lv_ixor hx hb dCi_twice_16 ?_
  exact cq_iret () (trivial) hx hb hr hlk hP hS (rfl) (rfl) dCi_twice_17
set_option maxHeartbeats 4000000 in
set_option maxRecDepth 100000 in
theorem k_Ci_gather (l : Launch) (G : gG) (t : Nat) (f : Nat → Int32) (ht : (t = G.2.2.1 ∧ f = ckS) ∨ (t = G.2.2.2 ∧ f = ckU)) (a1 a2 a3 a4 : Int32) : Ck l G yCi_gather cCi_gather 5 (some .int) { frames := 0, cells := 0, slots := 0, locals := 0 } [.ref t, .int a1, .int a2, .int a3, .int a4] [] (some (.int (jGat f a1 a2 a3 a4))) [] := by
  refine Cq.of (by decide) (Nat.le_of_ble_eq_true rfl) ?_
  intro p e s m args below meth c A ls hx hb hr hml hts hown hlk hA hP hD hG hS hl
  have hT : va_T .int t 256 (fun j => .int (f j)) A s s.heap := by
    rcases ht with ⟨h1, h2⟩ | ⟨h1, h2⟩
    · rw [h1, h2]; exact hG.2.1.2
    · rw [h1, h2]; exact hG.2.2.1.2
  have hl : lv_has ls 5 [(0, .ref t), (1, .int a1), (2, .int a2), (3, .int a3), (4, .int a4)] := hl
  refine lv_aload_n hx hb dCi_gather_0 rfl (lv_at hl 0 rfl) ?_
  refine lv_iload_n hx hb dCi_gather_1 rfl (lv_at hl 1 rfl) ?_
  refine lv_bipush (v := nI 24) hx hb dCi_gather_2 (by decide) ?_
  refine lv_iushr (v := ush a1 (nI 24)) hx hb dCi_gather_4 rfl ?_
  refine ck_tald hx hb hT hS (un a1 / 16777216) (ush_nI a1 (by decide)) (by have := un_lt a1; omega) (by decide) dCi_gather_5 ?_
  refine lv_bipush (v := nI 24) hx hb dCi_gather_6 (by decide) ?_
  refine lv_ishl hx hb dCi_gather_8 ?_
  refine lv_aload_n hx hb dCi_gather_9 rfl (lv_at hl 0 rfl) ?_
  refine lv_iload_n hx hb dCi_gather_10 rfl (lv_at hl 2 rfl) ?_
  refine lv_bipush (v := nI 16) hx hb dCi_gather_11 (by decide) ?_
  refine lv_iushr (v := ush a2 (nI 16)) hx hb dCi_gather_13 rfl ?_
  refine lv_sipush (v := nI 255) hx hb dCi_gather_14 (by decide) ?_
  refine lv_iand hx hb dCi_gather_17 ?_
  refine ck_tald hx hb hT hS (un a2 / 65536 % 256) (ck_by a2 (by decide)) (Nat.mod_lt _ (by decide)) (by decide) dCi_gather_18 ?_
  refine lv_bipush (v := nI 16) hx hb dCi_gather_19 (by decide) ?_
  refine lv_ishl hx hb dCi_gather_21 ?_
  refine lv_ior hx hb dCi_gather_22 ?_
  refine lv_aload_n hx hb dCi_gather_23 rfl (lv_at hl 0 rfl) ?_
  refine lv_iload_n hx hb dCi_gather_24 rfl (lv_at hl 3 rfl) ?_
  refine lv_bipush (v := nI 8) hx hb dCi_gather_25 (by decide) ?_
  refine lv_iushr (v := ush a3 (nI 8)) hx hb dCi_gather_27 rfl ?_
  refine lv_sipush (v := nI 255) hx hb dCi_gather_28 (by decide) ?_
  refine lv_iand hx hb dCi_gather_31 ?_
  refine ck_tald hx hb hT hS (un a3 / 256 % 256) (ck_by a3 (by decide)) (Nat.mod_lt _ (by decide)) (by decide) dCi_gather_32 ?_
  refine lv_bipush (v := nI 8) hx hb dCi_gather_33 (by decide) ?_
  refine lv_ishl hx hb dCi_gather_35 ?_
  refine lv_ior hx hb dCi_gather_36 ?_
  refine lv_aload_n hx hb dCi_gather_37 rfl (lv_at hl 0 rfl) ?_
  refine lv_iload hx hb dCi_gather_38 (lv_at hl 4 rfl) ?_
  refine lv_sipush (v := nI 255) hx hb dCi_gather_40 (by decide) ?_
  refine lv_iand hx hb dCi_gather_43 ?_
  refine ck_tald hx hb hT hS (un a4 % 256) (and_nI a4 8 rfl (by decide)) (Nat.mod_lt _ (by decide)) (by decide) dCi_gather_44 ?_
  refine lv_ior hx hb dCi_gather_45 ?_
  exact cq_iret () (trivial) hx hb hr hlk hP hS (rfl) (rfl) dCi_gather_46
set_option maxHeartbeats 4000000 in
set_option maxRecDepth 100000 in
theorem k_Ci_mix (l : Launch) (G : gG) (x : Int32) : Ck l G yCi_mix cCi_mix 2 (some .int) { frames := 1, cells := 0, slots := 0, locals := 21 } [.int x] [] (some (.int (jMix x))) [] := by
  refine Cq.of (by decide) (Nat.le_of_ble_eq_true rfl) ?_
  intro p e s m args below meth c A ls hx hb hr hml hts hown hlk hA hP hD hG hS hl
  have hl : lv_has ls 2 [(0, .int x)] := hl
  refine lv_iload_n hx hb dCi_mix_0 rfl (lv_at hl 0 rfl) ?_
  refine clCi_26 (As := [.int x]) (rest := []) hx hb hml hown hts (k_Ci_twice l G x) hG hA hP hD hS [] rfl rfl (fun _ => rfl) rfl hl.1 rfl (Nat.le_of_ble_eq_true rfl) ⟨by decide, by decide⟩ ⟨by decide, by decide⟩ dCi_mix_1 (fun _ H locs _ hP hD hS => ?_)
  have hP : va_P G.1 vwCl [] H := hP
  have hD : va_D A [] := hD
  refine W.cs (cells' := 0) (slots' := 0) rfl rfl ?_
  refine W.eq (g2 := F0 m 4 ls [.int (jTwice x)]) rfl ?_
  refine lv_istore_n (lv' := [(1, .int (jTwice x)), (0, .int x)]) hx hb dCi_mix_4 rfl hl (by decide) rfl (fun ls hl => ?_)
  refine lv_iload_n hx hb dCi_mix_5 rfl (lv_at hl 0 rfl) ?_
  refine lv_iload_n hx hb dCi_mix_6 rfl (lv_at hl 0 rfl) ?_
  refine lv_iload_n hx hb dCi_mix_7 rfl (lv_at hl 1 rfl) ?_
  refine lv_ixor hx hb dCi_mix_8 ?_
  refine lv_bipush (v := nI 8) hx hb dCi_mix_9 (by decide) ?_
  refine clCi_13 (As := [.int ((jTwice x) ^^^ x), .int (nI 8)]) (rest := [.int (jTwice x)]) hx hb hml hown hts (k_Ci_turn l G ((jTwice x) ^^^ x) (nI 8)) hG hA hP hD hS [] rfl rfl (fun _ => rfl) rfl hl.1 rfl (Nat.le_of_ble_eq_true rfl) ⟨by decide, by decide⟩ ⟨by decide, by decide⟩ dCi_mix_11 (fun _ H locs _ hP hD hS => ?_)
  have hP : va_P G.1 vwCl [] H := hP
  have hD : va_D A [] := hD
  refine W.cs (cells' := 0) (slots' := 0) rfl rfl ?_
  refine W.eq (g2 := F0 m 14 ls [.int (jTurn ((jTwice x) ^^^ x) (nI 8)), .int (jTwice x)]) rfl ?_
  refine lv_ixor hx hb dCi_mix_14 ?_
  refine lv_iload_n hx hb dCi_mix_15 rfl (lv_at hl 1 rfl) ?_
  refine lv_bipush (v := nI 16) hx hb dCi_mix_16 (by decide) ?_
  refine clCi_13 (As := [.int x, .int (nI 16)]) (rest := [.int ((jTwice x) ^^^ (jTurn ((jTwice x) ^^^ x) (nI 8)))]) hx hb hml hown hts (k_Ci_turn l G x (nI 16)) hG hA hP hD hS [] rfl rfl (fun _ => rfl) rfl hl.1 rfl (Nat.le_of_ble_eq_true rfl) ⟨by decide, by decide⟩ ⟨by decide, by decide⟩ dCi_mix_18 (fun _ H locs _ hP hD hS => ?_)
  have hP : va_P G.1 vwCl [] H := hP
  have hD : va_D A [] := hD
  refine W.cs (cells' := 0) (slots' := 0) rfl rfl ?_
  refine W.eq (g2 := F0 m 21 ls [.int (jTurn x (nI 16)), .int ((jTwice x) ^^^ (jTurn ((jTwice x) ^^^ x) (nI 8)))]) rfl ?_
  refine lv_ixor hx hb dCi_mix_21 ?_
  refine lv_iload_n hx hb dCi_mix_22 rfl (lv_at hl 1 rfl) ?_
  refine lv_bipush (v := nI 24) hx hb dCi_mix_23 (by decide) ?_
  refine clCi_13 (As := [.int x, .int (nI 24)]) (rest := [.int (((jTwice x) ^^^ (jTurn ((jTwice x) ^^^ x) (nI 8))) ^^^ (jTurn x (nI 16)))]) hx hb hml hown hts (k_Ci_turn l G x (nI 24)) hG hA hP hD hS [] rfl rfl (fun _ => rfl) rfl hl.1 rfl (Nat.le_of_ble_eq_true rfl) ⟨by decide, by decide⟩ ⟨by decide, by decide⟩ dCi_mix_25 (fun _ H locs _ hP hD hS => ?_)
  have hP : va_P G.1 vwCl [] H := hP
  have hD : va_D A [] := hD
  refine W.cs (cells' := 0) (slots' := 0) rfl rfl ?_
  refine W.eq (g2 := F0 m 28 ls [.int (jTurn x (nI 24)), .int (((jTwice x) ^^^ (jTurn ((jTwice x) ^^^ x) (nI 8))) ^^^ (jTurn x (nI 16)))]) rfl ?_
  refine lv_ixor hx hb dCi_mix_28 ?_
  exact cq_iret () (trivial) hx hb hr hlk hP hS (rfl) (rfl) dCi_mix_29
set_option maxHeartbeats 4000000 in
set_option maxRecDepth 100000 in
theorem k_Ci_unmix (l : Launch) (G : gG) (x : Int32) : Ck l G yCi_unmix cCi_unmix 1 (some .int) { frames := 2, cells := 0, slots := 0, locals := 42 } [.int x] [] (some (.int (jUnmix x))) [] := by
  refine Cq.of (by decide) (Nat.le_of_ble_eq_true rfl) ?_
  intro p e s m args below meth c A ls hx hb hr hml hts hown hlk hA hP hD hG hS hl
  have hl : lv_has ls 1 [(0, .int x)] := hl
  refine lv_iload_n hx hb dCi_unmix_0 rfl (lv_at hl 0 rfl) ?_
  refine lv_iload_n hx hb dCi_unmix_1 rfl (lv_at hl 0 rfl) ?_
  refine lv_iload_n hx hb dCi_unmix_2 rfl (lv_at hl 0 rfl) ?_
  refine lv_bipush (v := nI 16) hx hb dCi_unmix_3 (by decide) ?_
  refine clCi_13 (As := [.int x, .int (nI 16)]) (rest := [.int x, .int x]) hx hb hml hown hts (k_Ci_turn l G x (nI 16)) hG hA hP hD hS [] rfl rfl (fun _ => rfl) rfl hl.1 rfl (Nat.le_of_ble_eq_true rfl) ⟨by decide, by decide⟩ ⟨by decide, by decide⟩ dCi_unmix_5 (fun _ H locs _ hP hD hS => ?_)
  have hP : va_P G.1 vwCl [] H := hP
  have hD : va_D A [] := hD
  refine W.cs (cells' := 0) (slots' := 0) rfl rfl ?_
  refine W.eq (g2 := F0 m 8 ls [.int (jTurn x (nI 16)), .int x, .int x]) rfl ?_
  refine lv_ixor hx hb dCi_unmix_8 ?_
  refine clCi_26 (As := [.int (x ^^^ (jTurn x (nI 16)))]) (rest := [.int x]) hx hb hml hown hts (k_Ci_twice l G (x ^^^ (jTurn x (nI 16)))) hG hA hP hD hS [] rfl rfl (fun _ => rfl) rfl hl.1 rfl (Nat.le_of_ble_eq_true rfl) ⟨by decide, by decide⟩ ⟨by decide, by decide⟩ dCi_unmix_9 (fun _ H locs _ hP hD hS => ?_)
  have hP : va_P G.1 vwCl [] H := hP
  have hD : va_D A [] := hD
  refine W.cs (cells' := 0) (slots' := 0) rfl rfl ?_
  refine W.eq (g2 := F0 m 12 ls [.int (jTwice (x ^^^ (jTurn x (nI 16)))), .int x]) rfl ?_
  refine clCi_26 (As := [.int (jTwice (x ^^^ (jTurn x (nI 16))))]) (rest := [.int x]) hx hb hml hown hts (k_Ci_twice l G (jTwice (x ^^^ (jTurn x (nI 16))))) hG hA hP hD hS [] rfl rfl (fun _ => rfl) rfl hl.1 rfl (Nat.le_of_ble_eq_true rfl) ⟨by decide, by decide⟩ ⟨by decide, by decide⟩ dCi_unmix_12 (fun _ H locs _ hP hD hS => ?_)
  have hP : va_P G.1 vwCl [] H := hP
  have hD : va_D A [] := hD
  refine W.cs (cells' := 0) (slots' := 0) rfl rfl ?_
  refine W.eq (g2 := F0 m 15 ls [.int (jTwice (jTwice (x ^^^ (jTurn x (nI 16))))), .int x]) rfl ?_
  refine lv_ixor hx hb dCi_unmix_15 ?_
  refine clCi_30 (As := [.int (x ^^^ (jTwice (jTwice (x ^^^ (jTurn x (nI 16))))))]) (rest := []) hx hb hml hown hts (k_Ci_mix l G (x ^^^ (jTwice (jTwice (x ^^^ (jTurn x (nI 16))))))) hG hA hP hD hS [] rfl rfl (fun _ => rfl) rfl hl.1 rfl (Nat.le_of_ble_eq_true rfl) ⟨by decide, by decide⟩ ⟨by decide, by decide⟩ dCi_unmix_16 (fun _ H locs _ hP hD hS => ?_)
  have hP : va_P G.1 vwCl [] H := hP
  have hD : va_D A [] := hD
  refine W.cs (cells' := 0) (slots' := 0) rfl rfl ?_
  refine W.eq (g2 := F0 m 19 ls [.int (jMix (x ^^^ (jTwice (jTwice (x ^^^ (jTurn x (nI 16)))))))]) rfl ?_
  exact cq_iret () (trivial) hx hb hr hlk hP hS (rfl) (rfl) dCi_unmix_19
set_option maxHeartbeats 4000000 in
set_option maxRecDepth 100000 in
theorem k_Ci_keepBlock (l : Launch) (G : gG) (oc ow : Nat) (h0 l0 : Int64) (a1 a2 a3 a4 : Int32) : Ck l G yCi_keepBlock cCi_keepBlock 5 none { frames := 0, cells := 0, slots := 0, locals := 0 } [.ref oc, .int a1, .int a2, .int a3, .int a4] [oC oc 1 [.ref ow, .long h0, .long l0]] (none) [oC oc 1 [.ref ow, .long (jLg a1 a2), .long (jLg a3 a4)]] := by
  refine Cq.of (by decide) (Nat.le_of_ble_eq_true rfl) ?_
  intro p e s m args below meth c A ls hx hb hr hml hts hown hlk hA hP hD hG hS hl
  have hl : lv_has ls 5 [(0, .ref oc), (1, .int a1), (2, .int a2), (3, .int a3), (4, .int a4)] := hl
  refine lv_aload_n hx hb dCi_keepBlock_0 rfl (lv_at hl 0 rfl) ?_
  refine lv_iload_n hx hb dCi_keepBlock_1 rfl (lv_at hl 1 rfl) ?_
  refine lv_i2l (v := a1.toInt64) hx hb dCi_keepBlock_2 rfl ?_
  refine lv_bipush (v := nI 32) hx hb dCi_keepBlock_3 (by decide) ?_
  refine lv_lshl (v := lsh a1.toInt64 (nI 32)) hx hb dCi_keepBlock_5 rfl ?_
  refine lv_iload_n hx hb dCi_keepBlock_6 rfl (lv_at hl 2 rfl) ?_
  refine lv_i2l (v := a2.toInt64) hx hb dCi_keepBlock_7 rfl ?_
  refine lv_ldc2 (v := lN 4294967295) hx hb hown (hts _ kkCi_43) dCi_keepBlock_8 ?_
  refine lv_land hx hb dCi_keepBlock_11 ?_
  refine lv_lor hx hb dCi_keepBlock_12 ?_
  refine pfCi_45 hx hb hts hown hG hP hD hS 0 rfl rfl rfl (Nat.le_of_ble_eq_true rfl) dCi_keepBlock_13 (fun H locs hP hD hS => ?_)
  have hP : va_P G.1 vwCl [oC oc 1 [.ref ow, .long ((lsh a1.toInt64 (nI 32)) ||| (a2.toInt64 &&& (lN 4294967295))), .long l0]] H := hP
  have hD : va_D A [oC oc 1 [.ref ow, .long ((lsh a1.toInt64 (nI 32)) ||| (a2.toInt64 &&& (lN 4294967295))), .long l0]] := hD
  refine lv_aload_n hx hb dCi_keepBlock_16 rfl (lv_at hl 0 rfl) ?_
  refine lv_iload_n hx hb dCi_keepBlock_17 rfl (lv_at hl 3 rfl) ?_
  refine lv_i2l (v := a3.toInt64) hx hb dCi_keepBlock_18 rfl ?_
  refine lv_bipush (v := nI 32) hx hb dCi_keepBlock_19 (by decide) ?_
  refine lv_lshl (v := lsh a3.toInt64 (nI 32)) hx hb dCi_keepBlock_21 rfl ?_
  refine lv_iload hx hb dCi_keepBlock_22 (lv_at hl 4 rfl) ?_
  refine lv_i2l (v := a4.toInt64) hx hb dCi_keepBlock_24 rfl ?_
  refine lv_ldc2 (v := lN 4294967295) hx hb hown (hts _ kkCi_43) dCi_keepBlock_25 ?_
  refine lv_land hx hb dCi_keepBlock_28 ?_
  refine lv_lor hx hb dCi_keepBlock_29 ?_
  refine pfCi_49 hx hb hts hown hG hP hD hS 0 rfl rfl rfl (Nat.le_of_ble_eq_true rfl) dCi_keepBlock_30 (fun H locs hP hD hS => ?_)
  have hP : va_P G.1 vwCl [oC oc 1 [.ref ow, .long ((lsh a1.toInt64 (nI 32)) ||| (a2.toInt64 &&& (lN 4294967295))), .long ((lsh a3.toInt64 (nI 32)) ||| (a4.toInt64 &&& (lN 4294967295)))]] H := hP
  have hD : va_D A [oC oc 1 [.ref ow, .long ((lsh a1.toInt64 (nI 32)) ||| (a2.toInt64 &&& (lN 4294967295))), .long ((lsh a3.toInt64 (nI 32)) ||| (a4.toInt64 &&& (lN 4294967295)))]] := hD
  exact cq_vret () (trivial) hx hb hr hlk hP hS rfl (rfl) dCi_keepBlock_33
set_option maxHeartbeats 4000000 in
set_option maxRecDepth 100000 in
theorem k_Ci_setKey (l : Launch) (G : gG) (oc ow : Nat) (w : Nat → Int32) (h0 l0 kh kl : Int64) : Ck l G yCi_setKey cCi_setKey 9 none { frames := 1, cells := 0, slots := 0, locals := 24 } [.ref oc, .long kh, .long kl] [oC oc 1 [.ref ow, .long h0, .long l0], aI G ow 44 w] (none) [oC oc 1 [.ref ow, .long h0, .long l0], aI G ow 44 ((jKs (jKw kh kl w) 40).1)] := by
  refine Cq.of (by decide) (Nat.le_of_ble_eq_true rfl) ?_
  intro p e s m args below meth c A ls hx hb hr hml hts hown hlk hA hP hD hG hS hl
  have hl : lv_has ls 9 [(0, .ref oc), (1, .long kh), (3, .long kl)] := hl
  refine lv_aload_n hx hb dCi_setKey_0 rfl (lv_at hl 0 rfl) ?_
  refine gfCi_9 hx hb hts hown hG hP 0 rfl rfl dCi_setKey_1 ?_
  refine lv_iconst (v := nI 0) hx hb dCi_setKey_4 (by decide) ?_
  refine lv_lload_n hx hb dCi_setKey_5 rfl (lv_at hl 1 rfl) ?_
  refine lv_bipush (v := nI 32) hx hb dCi_setKey_6 (by decide) ?_
  refine lv_lushr (v := lush kh (nI 32)) hx hb dCi_setKey_8 rfl ?_
  refine lv_l2i (v := (lush kh (nI 32)).toInt32) hx hb dCi_setKey_9 rfl ?_
  refine ck_iast hx hb hG hP hD hS 1 rfl (by decide) 0 (rfl) (by decide) dCi_setKey_10 (fun H locs hP hD hS => ?_)
  have hP : va_P G.1 vwCl [oC oc 1 [.ref ow, .long h0, .long l0], aI G ow 44 (upd w 0 ((lush kh (nI 32)).toInt32))] H := hP
  have hD : va_D A [oC oc 1 [.ref ow, .long h0, .long l0], aI G ow 44 (upd w 0 ((lush kh (nI 32)).toInt32))] := hD
  refine lv_aload_n hx hb dCi_setKey_11 rfl (lv_at hl 0 rfl) ?_
  refine gfCi_9 hx hb hts hown hG hP 0 rfl rfl dCi_setKey_12 ?_
  refine lv_iconst (v := nI 1) hx hb dCi_setKey_15 (by decide) ?_
  refine lv_lload_n hx hb dCi_setKey_16 rfl (lv_at hl 1 rfl) ?_
  refine lv_l2i (v := kh.toInt32) hx hb dCi_setKey_17 rfl ?_
  refine ck_iast hx hb hG hP hD hS 1 rfl (by decide) 1 (rfl) (by decide) dCi_setKey_18 (fun H locs hP hD hS => ?_)
  have hP : va_P G.1 vwCl [oC oc 1 [.ref ow, .long h0, .long l0], aI G ow 44 (upd (upd w 0 ((lush kh (nI 32)).toInt32)) 1 kh.toInt32)] H := hP
  have hD : va_D A [oC oc 1 [.ref ow, .long h0, .long l0], aI G ow 44 (upd (upd w 0 ((lush kh (nI 32)).toInt32)) 1 kh.toInt32)] := hD
  refine lv_aload_n hx hb dCi_setKey_19 rfl (lv_at hl 0 rfl) ?_
  refine gfCi_9 hx hb hts hown hG hP 0 rfl rfl dCi_setKey_20 ?_
  refine lv_iconst (v := nI 2) hx hb dCi_setKey_23 (by decide) ?_
  refine lv_lload_n hx hb dCi_setKey_24 rfl (lv_at hl 2 rfl) ?_
  refine lv_bipush (v := nI 32) hx hb dCi_setKey_25 (by decide) ?_
  refine lv_lushr (v := lush kl (nI 32)) hx hb dCi_setKey_27 rfl ?_
  refine lv_l2i (v := (lush kl (nI 32)).toInt32) hx hb dCi_setKey_28 rfl ?_
  refine ck_iast hx hb hG hP hD hS 1 rfl (by decide) 2 (rfl) (by decide) dCi_setKey_29 (fun H locs hP hD hS => ?_)
  have hP : va_P G.1 vwCl [oC oc 1 [.ref ow, .long h0, .long l0], aI G ow 44 (upd (upd (upd w 0 ((lush kh (nI 32)).toInt32)) 1 kh.toInt32) 2 ((lush kl (nI 32)).toInt32))] H := hP
  have hD : va_D A [oC oc 1 [.ref ow, .long h0, .long l0], aI G ow 44 (upd (upd (upd w 0 ((lush kh (nI 32)).toInt32)) 1 kh.toInt32) 2 ((lush kl (nI 32)).toInt32))] := hD
  refine lv_aload_n hx hb dCi_setKey_30 rfl (lv_at hl 0 rfl) ?_
  refine gfCi_9 hx hb hts hown hG hP 0 rfl rfl dCi_setKey_31 ?_
  refine lv_iconst (v := nI 3) hx hb dCi_setKey_34 (by decide) ?_
  refine lv_lload_n hx hb dCi_setKey_35 rfl (lv_at hl 2 rfl) ?_
  refine lv_l2i (v := kl.toInt32) hx hb dCi_setKey_36 rfl ?_
  refine ck_iast hx hb hG hP hD hS 1 rfl (by decide) 3 (rfl) (by decide) dCi_setKey_37 (fun H locs hP hD hS => ?_)
  have hP : va_P G.1 vwCl [oC oc 1 [.ref ow, .long h0, .long l0], aI G ow 44 (upd (upd (upd (upd w 0 ((lush kh (nI 32)).toInt32)) 1 kh.toInt32) 2 ((lush kl (nI 32)).toInt32)) 3 kl.toInt32)] H := hP
  have hD : va_D A [oC oc 1 [.ref ow, .long h0, .long l0], aI G ow 44 (upd (upd (upd (upd w 0 ((lush kh (nI 32)).toInt32)) 1 kh.toInt32) 2 ((lush kl (nI 32)).toInt32)) 3 kl.toInt32)] := hD
  refine lv_iconst (v := nI 1) hx hb dCi_setKey_38 (by decide) ?_
  refine lv_istore (lv' := [(5, .int (nI 1)), (0, .ref oc), (1, .long kh), (3, .long kl)]) hx hb dCi_setKey_39 hl (by decide) rfl (fun ls hl => ?_)
  refine lv_iconst (v := nI 4) hx hb dCi_setKey_41 (by decide) ?_
  refine lv_istore (lv' := [(6, .int (nI 4)), (5, .int (nI 1)), (0, .ref oc), (1, .long kh), (3, .long kl)]) hx hb dCi_setKey_42 hl (by decide) rfl (fun ls hl => ?_)
  have loop : ∀ (k : Nat) (n : Nat) (H : Heap) (locs : List Loc) (ls : Array Slot), n + k = 40 → va_P G.1 vwCl [oC oc 1 [.ref ow, .long h0, .long l0], aI G ow 44 ((jKs (jKw kh kl w) n).1)] H → va_D A [oC oc 1 [.ref ow, .long h0, .long l0], aI G ow 44 ((jKs (jKw kh kl w) n).1)] → va_S A s.heap H locs → lv_has ls 9 [(0, .ref oc), (5, .int ((jKs (jKw kh kl w) n).2)), (6, .int (nI (n + 4)))] → W p l e { frames := 1, cells := 0, slots := 0, locals := 24 } s m args below meth c H locs 0 0 (MQ below (cq_out G (S := Unit) (fun _ => True) (fun _ => (none)) (fun _ => [oC oc 1 [.ref ow, .long h0, .long l0], aI G ow 44 ((jKs (jKw kh kl w) 40).1)]) A) args s 0 0 A) (F0 m 44 ls []) := by
    intro k
    induction k with
    | zero =>
      intro n H locs ls hk hP hD hS hl
      refine lv_iload hx hb dCi_setKey_44 (lv_at hl 2 rfl) ?_
      refine lv_bipush (v := nI 44) hx hb dCi_setKey_46 (by decide) ?_
      refine lv_icmp_ge (tgt := 132) hx hb dCi_setKey_48 rfl (fun _ => ?_) (fun h => absurd (nI_le (by omega) (by omega)) h)
      exact cq_vret () (trivial) hx hb hr hlk hP hS rfl (by rw [show n = 40 by omega]) dCi_setKey_132
    | succ k ih =>
      intro n H locs ls hk hP hD hS hl
      refine lv_iload hx hb dCi_setKey_44 (lv_at hl 2 rfl) ?_
      refine lv_bipush (v := nI 44) hx hb dCi_setKey_46 (by decide) ?_
      refine lv_icmp_ge (tgt := 132) hx hb dCi_setKey_48 rfl (fun h => absurd h (nI_ge (by omega) (by omega))) (fun _ => ?_)
      refine lv_aload_n hx hb dCi_setKey_51 rfl (lv_at hl 0 rfl) ?_
      refine gfCi_9 hx hb hts hown hG hP 0 rfl rfl dCi_setKey_52 ?_
      refine lv_iload hx hb dCi_setKey_55 (lv_at hl 2 rfl) ?_
      refine lv_iconst (v := nI 1) hx hb dCi_setKey_57 (by decide) ?_
      refine lv_isub hx hb dCi_setKey_58 ?_
      refine ck_iald hx hb hG hP 1 rfl (by decide) (n + 3) (pk_sub (by omega)) (by omega) dCi_setKey_59 ?_
      refine lv_istore (lv' := [(7, .int (((jKs (jKw kh kl w) n).1) (n + 3))), (0, .ref oc), (5, .int ((jKs (jKw kh kl w) n).2)), (6, .int (nI (n + 4)))]) hx hb dCi_setKey_60 hl (by decide) rfl (fun ls hl => ?_)
      refine lv_iload hx hb dCi_setKey_62 (lv_at hl 3 rfl) ?_
      refine lv_iconst (v := nI 4) hx hb dCi_setKey_64 (by decide) ?_
      refine lv_irem hx hb dCi_setKey_65 (by decide) ?_
      refine ck_ri (y := nI (n % 4)) (by rw [show nI (n % 4) = nI ((n + 4) % 4) by rw [Nat.add_mod_right]]; exact pk_rem (by omega) (by omega) (by omega)) ?_
      refine lv_if_ne (tgt := 107) hx hb dCi_setKey_66 rfl (fun h => ?_) (fun h => ?_)
      · have hm : ¬ n % 4 = 0 := fun z => h (by rw [z]; rfl)
        refine lv_aload_n hx hb dCi_setKey_107 rfl (lv_at hl 1 rfl) ?_
        refine gfCi_9 hx hb hts hown hG hP 0 rfl rfl dCi_setKey_108 ?_
        refine lv_iload hx hb dCi_setKey_111 (lv_at hl 3 rfl) ?_
        refine lv_aload_n hx hb dCi_setKey_113 rfl (lv_at hl 1 rfl) ?_
        refine gfCi_9 hx hb hts hown hG hP 0 rfl rfl dCi_setKey_114 ?_
        refine lv_iload hx hb dCi_setKey_117 (lv_at hl 3 rfl) ?_
        refine lv_iconst (v := nI 4) hx hb dCi_setKey_119 (by decide) ?_
        refine lv_isub hx hb dCi_setKey_120 ?_
        refine ck_iald hx hb hG hP 1 rfl (by decide) n (pk_sub (by omega)) (by omega) dCi_setKey_121 ?_
        refine lv_iload hx hb dCi_setKey_122 (lv_at hl 0 rfl) ?_
        refine lv_ixor hx hb dCi_setKey_124 ?_
        refine ck_iast hx hb hG hP hD hS 1 rfl (by decide) (n + 4) (rfl) (by omega) dCi_setKey_125 (fun H locs hP hD hS => ?_)
        have hP : va_P G.1 vwCl [oC oc 1 [.ref ow, .long h0, .long l0], aI G ow 44 (upd ((jKs (jKw kh kl w) n).1) (n + 4) ((((jKs (jKw kh kl w) n).1) n) ^^^ (((jKs (jKw kh kl w) n).1) (n + 3))))] H := hP
        have hD : va_D A [oC oc 1 [.ref ow, .long h0, .long l0], aI G ow 44 (upd ((jKs (jKw kh kl w) n).1) (n + 4) ((((jKs (jKw kh kl w) n).1) n) ^^^ (((jKs (jKw kh kl w) n).1) (n + 3))))] := hD
        refine lv_iinc (v := nI (n + 1 + 4)) (lv' := [(6, .int (nI (n + 1 + 4))), (7, .int (((jKs (jKw kh kl w) n).1) (n + 3))), (0, .ref oc), (5, .int ((jKs (jKw kh kl w) n).2))]) hx hb dCi_setKey_126 hl (k := 3) rfl (by rw [show n + 1 + 4 = (n + 4) + 1 by omega]; exact nI_1 (n + 4)) (by decide) rfl (fun ls hl => ?_)
        refine lv_goto (tgt := 44) hx hb dCi_setKey_129 rfl ?_
        have e1 : (jKs (jKw kh kl w) (n + 1)).1 = upd ((jKs (jKw kh kl w) n).1) (n + 4) ((((jKs (jKw kh kl w) n).1) n) ^^^ (((jKs (jKw kh kl w) n).1) (n + 3))) := by rw [jKs, jKst, if_neg hm]
        have e2 : (jKs (jKw kh kl w) (n + 1)).2 = (jKs (jKw kh kl w) n).2 := by rw [jKs, jKst, if_neg hm]
        exact ih (n + 1) _ _ _ (by omega) (by rw [e1]; exact hP) (by rw [e1]; exact hD) hS (by rw [e2]; exact lv_sub hl [2, 3, 0] rfl)
      · have hm : n % 4 = 0 := (nI_eq (b := 0) (by omega) (by omega)).mp h
        refine lv_iload hx hb dCi_setKey_69 (lv_at hl 0 rfl) ?_
        refine lv_bipush (v := nI 8) hx hb dCi_setKey_71 (by decide) ?_
        refine clCi_13 (As := [.int (((jKs (jKw kh kl w) n).1) (n + 3)), .int (nI 8)]) (rest := []) hx hb hml hown hts (k_Ci_turn l G (((jKs (jKw kh kl w) n).1) (n + 3)) (nI 8)) hG hA hP hD hS [] rfl rfl (fun _ => rfl) rfl hl.1 rfl (Nat.le_of_ble_eq_true rfl) ⟨by decide, by decide⟩ ⟨by decide, by decide⟩ dCi_setKey_73 (fun _ H locs _ hP hD hS => ?_)
        have hP : va_P G.1 vwCl [oC oc 1 [.ref ow, .long h0, .long l0], aI G ow 44 ((jKs (jKw kh kl w) n).1)] H := hP
        have hD : va_D A [oC oc 1 [.ref ow, .long h0, .long l0], aI G ow 44 ((jKs (jKw kh kl w) n).1)] := hD
        refine W.cs (cells' := 0) (slots' := 0) rfl rfl ?_
        refine W.eq (g2 := F0 m 76 ls [.int (jTurn (((jKs (jKw kh kl w) n).1) (n + 3)) (nI 8))]) rfl ?_
        refine lv_istore (lv' := [(8, .int (jTurn (((jKs (jKw kh kl w) n).1) (n + 3)) (nI 8))), (7, .int (((jKs (jKw kh kl w) n).1) (n + 3))), (0, .ref oc), (5, .int ((jKs (jKw kh kl w) n).2)), (6, .int (nI (n + 4)))]) hx hb dCi_setKey_76 hl (by decide) rfl (fun ls hl => ?_)
        refine va_getsN hx hb hG.2.1.1 hS hown (va_Nw.use rfl (hG.2.2.2 _ kx445)) (fun _ h => h) dCi_setKey_78 ?_
        refine lv_iload hx hb dCi_setKey_81 (lv_at hl 0 rfl) ?_
        refine lv_iload hx hb dCi_setKey_83 (lv_at hl 0 rfl) ?_
        refine lv_iload hx hb dCi_setKey_85 (lv_at hl 0 rfl) ?_
        refine lv_iload hx hb dCi_setKey_87 (lv_at hl 0 rfl) ?_
        refine clCi_22 (As := [.ref G.2.2.1, .int (jTurn (((jKs (jKw kh kl w) n).1) (n + 3)) (nI 8)), .int (jTurn (((jKs (jKw kh kl w) n).1) (n + 3)) (nI 8)), .int (jTurn (((jKs (jKw kh kl w) n).1) (n + 3)) (nI 8)), .int (jTurn (((jKs (jKw kh kl w) n).1) (n + 3)) (nI 8))]) (rest := []) hx hb hml hown hts (k_Ci_gather l G G.2.2.1 ckS (Or.inl ⟨rfl, rfl⟩) (jTurn (((jKs (jKw kh kl w) n).1) (n + 3)) (nI 8)) (jTurn (((jKs (jKw kh kl w) n).1) (n + 3)) (nI 8)) (jTurn (((jKs (jKw kh kl w) n).1) (n + 3)) (nI 8)) (jTurn (((jKs (jKw kh kl w) n).1) (n + 3)) (nI 8))) hG hA hP hD hS [] rfl rfl (fun _ => rfl) rfl hl.1 rfl (Nat.le_of_ble_eq_true rfl) ⟨by decide, by decide⟩ ⟨by decide, by decide⟩ dCi_setKey_89 (fun _ H locs _ hP hD hS => ?_)
        have hP : va_P G.1 vwCl [oC oc 1 [.ref ow, .long h0, .long l0], aI G ow 44 ((jKs (jKw kh kl w) n).1)] H := hP
        have hD : va_D A [oC oc 1 [.ref ow, .long h0, .long l0], aI G ow 44 ((jKs (jKw kh kl w) n).1)] := hD
        refine W.cs (cells' := 0) (slots' := 0) rfl rfl ?_
        refine W.eq (g2 := F0 m 92 ls [.int (jGat ckS (jTurn (((jKs (jKw kh kl w) n).1) (n + 3)) (nI 8)) (jTurn (((jKs (jKw kh kl w) n).1) (n + 3)) (nI 8)) (jTurn (((jKs (jKw kh kl w) n).1) (n + 3)) (nI 8)) (jTurn (((jKs (jKw kh kl w) n).1) (n + 3)) (nI 8)))]) rfl ?_
        refine lv_iload hx hb dCi_setKey_92 (lv_at hl 3 rfl) ?_
        refine lv_bipush (v := nI 24) hx hb dCi_setKey_94 (by decide) ?_
        refine lv_ishl hx hb dCi_setKey_96 ?_
        refine lv_ixor hx hb dCi_setKey_97 ?_
        refine lv_istore (lv' := [(7, .int ((jGat ckS (jTurn (((jKs (jKw kh kl w) n).1) (n + 3)) (nI 8)) (jTurn (((jKs (jKw kh kl w) n).1) (n + 3)) (nI 8)) (jTurn (((jKs (jKw kh kl w) n).1) (n + 3)) (nI 8)) (jTurn (((jKs (jKw kh kl w) n).1) (n + 3)) (nI 8))) ^^^ (ish ((jKs (jKw kh kl w) n).2) (nI 24)))), (8, .int (jTurn (((jKs (jKw kh kl w) n).1) (n + 3)) (nI 8))), (0, .ref oc), (5, .int ((jKs (jKw kh kl w) n).2)), (6, .int (nI (n + 4)))]) hx hb dCi_setKey_98 hl (by decide) rfl (fun ls hl => ?_)
        refine lv_iload hx hb dCi_setKey_100 (lv_at hl 3 rfl) ?_
        refine clCi_26 (As := [.int ((jKs (jKw kh kl w) n).2)]) (rest := []) hx hb hml hown hts (k_Ci_twice l G ((jKs (jKw kh kl w) n).2)) hG hA hP hD hS [] rfl rfl (fun _ => rfl) rfl hl.1 rfl (Nat.le_of_ble_eq_true rfl) ⟨by decide, by decide⟩ ⟨by decide, by decide⟩ dCi_setKey_102 (fun _ H locs _ hP hD hS => ?_)
        have hP : va_P G.1 vwCl [oC oc 1 [.ref ow, .long h0, .long l0], aI G ow 44 ((jKs (jKw kh kl w) n).1)] H := hP
        have hD : va_D A [oC oc 1 [.ref ow, .long h0, .long l0], aI G ow 44 ((jKs (jKw kh kl w) n).1)] := hD
        refine W.cs (cells' := 0) (slots' := 0) rfl rfl ?_
        refine W.eq (g2 := F0 m 105 ls [.int (jTwice ((jKs (jKw kh kl w) n).2))]) rfl ?_
        refine lv_istore (lv' := [(5, .int (jTwice ((jKs (jKw kh kl w) n).2))), (7, .int ((jGat ckS (jTurn (((jKs (jKw kh kl w) n).1) (n + 3)) (nI 8)) (jTurn (((jKs (jKw kh kl w) n).1) (n + 3)) (nI 8)) (jTurn (((jKs (jKw kh kl w) n).1) (n + 3)) (nI 8)) (jTurn (((jKs (jKw kh kl w) n).1) (n + 3)) (nI 8))) ^^^ (ish ((jKs (jKw kh kl w) n).2) (nI 24)))), (8, .int (jTurn (((jKs (jKw kh kl w) n).1) (n + 3)) (nI 8))), (0, .ref oc), (6, .int (nI (n + 4)))]) hx hb dCi_setKey_105 hl (by decide) rfl (fun ls hl => ?_)
        refine lv_aload_n hx hb dCi_setKey_107 rfl (lv_at hl 3 rfl) ?_
        refine gfCi_9 hx hb hts hown hG hP 0 rfl rfl dCi_setKey_108 ?_
        refine lv_iload hx hb dCi_setKey_111 (lv_at hl 4 rfl) ?_
        refine lv_aload_n hx hb dCi_setKey_113 rfl (lv_at hl 3 rfl) ?_
        refine gfCi_9 hx hb hts hown hG hP 0 rfl rfl dCi_setKey_114 ?_
        refine lv_iload hx hb dCi_setKey_117 (lv_at hl 4 rfl) ?_
        refine lv_iconst (v := nI 4) hx hb dCi_setKey_119 (by decide) ?_
        refine lv_isub hx hb dCi_setKey_120 ?_
        refine ck_iald hx hb hG hP 1 rfl (by decide) n (pk_sub (by omega)) (by omega) dCi_setKey_121 ?_
        refine lv_iload hx hb dCi_setKey_122 (lv_at hl 1 rfl) ?_
        refine lv_ixor hx hb dCi_setKey_124 ?_
        refine ck_iast hx hb hG hP hD hS 1 rfl (by decide) (n + 4) (rfl) (by omega) dCi_setKey_125 (fun H locs hP hD hS => ?_)
        have hP : va_P G.1 vwCl [oC oc 1 [.ref ow, .long h0, .long l0], aI G ow 44 (upd ((jKs (jKw kh kl w) n).1) (n + 4) ((((jKs (jKw kh kl w) n).1) n) ^^^ ((jGat ckS (jTurn (((jKs (jKw kh kl w) n).1) (n + 3)) (nI 8)) (jTurn (((jKs (jKw kh kl w) n).1) (n + 3)) (nI 8)) (jTurn (((jKs (jKw kh kl w) n).1) (n + 3)) (nI 8)) (jTurn (((jKs (jKw kh kl w) n).1) (n + 3)) (nI 8))) ^^^ (ish ((jKs (jKw kh kl w) n).2) (nI 24)))))] H := hP
        have hD : va_D A [oC oc 1 [.ref ow, .long h0, .long l0], aI G ow 44 (upd ((jKs (jKw kh kl w) n).1) (n + 4) ((((jKs (jKw kh kl w) n).1) n) ^^^ ((jGat ckS (jTurn (((jKs (jKw kh kl w) n).1) (n + 3)) (nI 8)) (jTurn (((jKs (jKw kh kl w) n).1) (n + 3)) (nI 8)) (jTurn (((jKs (jKw kh kl w) n).1) (n + 3)) (nI 8)) (jTurn (((jKs (jKw kh kl w) n).1) (n + 3)) (nI 8))) ^^^ (ish ((jKs (jKw kh kl w) n).2) (nI 24)))))] := hD
        refine lv_iinc (v := nI (n + 1 + 4)) (lv' := [(6, .int (nI (n + 1 + 4))), (5, .int (jTwice ((jKs (jKw kh kl w) n).2))), (7, .int ((jGat ckS (jTurn (((jKs (jKw kh kl w) n).1) (n + 3)) (nI 8)) (jTurn (((jKs (jKw kh kl w) n).1) (n + 3)) (nI 8)) (jTurn (((jKs (jKw kh kl w) n).1) (n + 3)) (nI 8)) (jTurn (((jKs (jKw kh kl w) n).1) (n + 3)) (nI 8))) ^^^ (ish ((jKs (jKw kh kl w) n).2) (nI 24)))), (8, .int (jTurn (((jKs (jKw kh kl w) n).1) (n + 3)) (nI 8))), (0, .ref oc)]) hx hb dCi_setKey_126 hl (k := 4) rfl (by rw [show n + 1 + 4 = (n + 4) + 1 by omega]; exact nI_1 (n + 4)) (by decide) rfl (fun ls hl => ?_)
        refine lv_goto (tgt := 44) hx hb dCi_setKey_129 rfl ?_
        have e1 : (jKs (jKw kh kl w) (n + 1)).1 = upd ((jKs (jKw kh kl w) n).1) (n + 4) ((((jKs (jKw kh kl w) n).1) n) ^^^ ((jGat ckS (jTurn (((jKs (jKw kh kl w) n).1) (n + 3)) (nI 8)) (jTurn (((jKs (jKw kh kl w) n).1) (n + 3)) (nI 8)) (jTurn (((jKs (jKw kh kl w) n).1) (n + 3)) (nI 8)) (jTurn (((jKs (jKw kh kl w) n).1) (n + 3)) (nI 8))) ^^^ (ish ((jKs (jKw kh kl w) n).2) (nI 24)))) := by rw [jKs, jKst, if_pos hm]
        have e2 : (jKs (jKw kh kl w) (n + 1)).2 = jTwice ((jKs (jKw kh kl w) n).2) := by rw [jKs, jKst, if_pos hm]
        exact ih (n + 1) _ _ _ (by omega) (by rw [e1]; exact hP) (by rw [e1]; exact hD) hS (by rw [e2]; exact lv_sub hl [4, 1, 0] rfl)
  exact loop 40 0 _ _ _ (by omega) hP hD hS (lv_sub hl [2, 1, 0] rfl)
