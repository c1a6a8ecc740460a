/-! the cipher's methods -/
theorem ck_by (x : Int32) {n : Nat} (hn : n < 32) : ush x (nI n) &&& nI 255 = nI (un x / 2 ^ n % 256) := by
  rw [and_nI (ush x (nI n)) 8 rfl (by decide), un_ush x hn]
def jLg (a b : Int32) : Int64 := lsh a.toInt64 (nI 32) ||| (b.toInt64 &&& lN 4294967295)
set_option maxHeartbeats 4000000 in
set_option maxRecDepth 100000 in
theorem k_Ci_turn (l : Launch) (G : gG) (x b : Int32) : Ck l G yCi_turn cCi_turn 2 (some .int) { frames := 0, cells := 0, slots := 0, locals := 0 } [.int x, .int b] [] (some (.int (jTurn x b))) [] := by
  refine Cq.of (by decide) (Nat.le_of_ble_eq_true rfl) ?_
  intro p e s m args below meth c A ls hx hb hr hml hts hown hlk hA hP hD hG hS hl
  have hl : lv_has ls 2 [(0, .int x), (1, .int b)] := hl
  refine lv_iload_n hx hb dCi_turn_0 rfl (lv_at hl 0 rfl) ?_
  refine lv_iload_n hx hb dCi_turn_1 rfl (lv_at hl 1 rfl) ?_
  refine lv_ishl hx hb dCi_turn_2 ?_
  refine lv_iload_n hx hb dCi_turn_3 rfl (lv_at hl 0 rfl) ?_
  refine lv_bipush (v := nI 32) hx hb dCi_turn_4 (by decide) ?_
  refine lv_iload_n hx hb dCi_turn_6 rfl (lv_at hl 1 rfl) ?_
  refine lv_isub hx hb dCi_turn_7 ?_
  refine lv_iushr (v := ush x ((nI 32) - b)) hx hb dCi_turn_8 rfl ?_
  refine lv_ior hx hb dCi_turn_9 ?_
  exact cq_iret () (trivial) hx hb hr hlk hP hS (rfl) (rfl) dCi_turn_10
set_option maxHeartbeats 4000000 in
set_option maxRecDepth 100000 in
theorem k_Ci_twice (l : Launch) (G : gG) (x : Int32) : Ck l G yCi_twice cCi_twice 1 (some .int) { frames := 0, cells := 0, slots := 0, locals := 0 } [.int x] [] (some (.int (jTwice x))) [] := by
  refine Cq.of (by decide) (Nat.le_of_ble_eq_true rfl) ?_
  intro p e s m args below meth c A ls hx hb hr hml hts hown hlk hA hP hD hG hS hl
  have hl : lv_has ls 1 [(0, .int x)] := hl
  refine lv_iload_n hx hb dCi_twice_0 rfl (lv_at hl 0 rfl) ?_
  refine lv_ldc (v := nI 2139062143) hx hb hown (hts _ kkCi_52) dCi_twice_1 ?_
  refine lv_iand hx hb dCi_twice_3 ?_
  refine lv_iconst (v := nI 1) hx hb dCi_twice_4 (by decide) ?_
  refine lv_ishl hx hb dCi_twice_5 ?_
  refine lv_iload_n hx hb dCi_twice_6 rfl (lv_at hl 0 rfl) ?_
  refine lv_bipush (v := nI 7) hx hb dCi_twice_7 (by decide) ?_
  refine lv_iushr (v := ush x (nI 7)) hx hb dCi_twice_9 rfl ?_
  refine lv_ldc (v := nI 16843009) hx hb hown (hts _ kkCi_53) dCi_twice_10 ?_
  refine lv_iand hx hb dCi_twice_12 ?_
  refine lv_bipush (v := nI 27) hx hb dCi_twice_13 (by decide) ?_
  refine lv_imul hx hb dCi_twice_15 ?_
  refine lv_ixor hx hb dCi_twice_16 ?_
  exact cq_iret () (trivial) hx hb hr hlk hP hS (rfl) (rfl) dCi_twice_17
set_option maxHeartbeats 4000000 in
set_option maxRecDepth 100000 in
theorem k_Ci_gather (l : Launch) (G : gG) (t : Nat) (f : Nat → Int32) (ht : (t = G.2.2.1 ∧ f = ckS) ∨ (t = G.2.2.2 ∧ f = ckU)) (a1 a2 a3 a4 : Int32) : Ck l G yCi_gather cCi_gather 5 (some .int) { frames := 0, cells := 0, slots := 0, locals := 0 } [.ref t, .int a1, .int a2, .int a3, .int a4] [] (some (.int (jGat f a1 a2 a3 a4))) [] := by
  refine Cq.of (by decide) (Nat.le_of_ble_eq_true rfl) ?_
  intro p e s m args below meth c A ls hx hb hr hml hts hown hlk hA hP hD hG hS hl
  have hT : va_T .int t 256 (fun j => .int (f j)) A s s.heap := by
    rcases ht with ⟨h1, h2⟩ | ⟨h1, h2⟩
    · rw [h1, h2]; exact hG.2.1.2
    · rw [h1, h2]; exact hG.2.2.1.2
  have hl : lv_has ls 5 [(0, .ref t), (1, .int a1), (2, .int a2), (3, .int a3), (4, .int a4)] := hl
  refine lv_aload_n hx hb dCi_gather_0 rfl (lv_at hl 0 rfl) ?_
  refine lv_iload_n hx hb dCi_gather_1 rfl (lv_at hl 1 rfl) ?_
  refine lv_bipush (v := nI 24) hx hb dCi_gather_2 (by decide) ?_
  refine lv_iushr (v := ush a1 (nI 24)) hx hb dCi_gather_4 rfl ?_
  refine ck_tald hx hb hT hS (un a1 / 16777216) (ush_nI a1 (by decide)) (by have := un_lt a1; omega) (by decide) dCi_gather_5 ?_
  refine lv_bipush (v := nI 24) hx hb dCi_gather_6 (by decide) ?_
  refine lv_ishl hx hb dCi_gather_8 ?_
  refine lv_aload_n hx hb dCi_gather_9 rfl (lv_at hl 0 rfl) ?_
  refine lv_iload_n hx hb dCi_gather_10 rfl (lv_at hl 2 rfl) ?_
  refine lv_bipush (v := nI 16) hx hb dCi_gather_11 (by decide) ?_
  refine lv_iushr (v := ush a2 (nI 16)) hx hb dCi_gather_13 rfl ?_
  refine lv_sipush (v := nI 255) hx hb dCi_gather_14 (by decide) ?_
  refine lv_iand hx hb dCi_gather_17 ?_
  refine ck_tald hx hb hT hS (un a2 / 65536 % 256) (ck_by a2 (by decide)) (Nat.mod_lt _ (by decide)) (by decide) dCi_gather_18 ?_
  refine lv_bipush (v := nI 16) hx hb dCi_gather_19 (by decide) ?_
  refine lv_ishl hx hb dCi_gather_21 ?_
  refine lv_ior hx hb dCi_gather_22 ?_
  refine lv_aload_n hx hb dCi_gather_23 rfl (lv_at hl 0 rfl) ?_
  refine lv_iload_n hx hb dCi_gather_24 rfl (lv_at hl 3 rfl) ?_
  refine lv_bipush (v := nI 8) hx hb dCi_gather_25 (by decide) ?_
  refine lv_iushr (v := ush a3 (nI 8)) hx hb dCi_gather_27 rfl ?_
  refine lv_sipush (v := nI 255) hx hb dCi_gather_28 (by decide) ?_
  refine lv_iand hx hb dCi_gather_31 ?_
  refine ck_tald hx hb hT hS (un a3 / 256 % 256) (ck_by a3 (by decide)) (Nat.mod_lt _ (by decide)) (by decide) dCi_gather_32 ?_
  refine lv_bipush (v := nI 8) hx hb dCi_gather_33 (by decide) ?_
  refine lv_ishl hx hb dCi_gather_35 ?_
  refine lv_ior hx hb dCi_gather_36 ?_
  refine lv_aload_n hx hb dCi_gather_37 rfl (lv_at hl 0 rfl) ?_
  refine lv_iload hx hb dCi_gather_38 (lv_at hl 4 rfl) ?_
  refine lv_sipush (v := nI 255) hx hb dCi_gather_40 (by decide) ?_
  refine lv_iand hx hb dCi_gather_43 ?_
  refine ck_tald hx hb hT hS (un a4 % 256) (and_nI a4 8 rfl (by decide)) (Nat.mod_lt _ (by decide)) (by decide) dCi_gather_44 ?_
  refine lv_ior hx hb dCi_gather_45 ?_
  exact cq_iret () (trivial) hx hb hr hlk hP hS (rfl) (rfl) dCi_gather_46
set_option maxHeartbeats 4000000 in
set_option maxRecDepth 100000 in
theorem k_Ci_mix (l : Launch) (G : gG) (x : Int32) : Ck l G yCi_mix cCi_mix 2 (some .int) { frames := 1, cells := 0, slots := 0, locals := 21 } [.int x] [] (some (.int (jMix x))) [] := by
  refine Cq.of (by decide) (Nat.le_of_ble_eq_true rfl) ?_
  intro p e s m args below meth c A ls hx hb hr hml hts hown hlk hA hP hD hG hS hl
  have hl : lv_has ls 2 [(0, .int x)] := hl
  refine lv_iload_n hx hb dCi_mix_0 rfl (lv_at hl 0 rfl) ?_
  refine clCi_26 (As := [.int x]) (rest := []) hx hb hml hown hts (k_Ci_twice l G x) hG hA hP hD hS [] rfl rfl (fun _ => rfl) rfl hl.1 rfl (Nat.le_of_ble_eq_true rfl) ⟨by decide, by decide⟩ ⟨by decide, by decide⟩ dCi_mix_1 (fun _ H locs _ hP hD hS => ?_)
  have hP : va_P G.1 vwCl [] H := hP
  have hD : va_D A [] := hD
  refine W.cs (cells' := 0) (slots' := 0) rfl rfl ?_
  refine W.eq (g2 := F0 m 4 ls [.int (jTwice x)]) rfl ?_
  refine lv_istore_n (lv' := [(1, .int (jTwice x)), (0, .int x)]) hx hb dCi_mix_4 rfl hl (by decide) rfl (fun ls hl => ?_)
  refine lv_iload_n hx hb dCi_mix_5 rfl (lv_at hl 0 rfl) ?_
  refine lv_iload_n hx hb dCi_mix_6 rfl (lv_at hl 0 rfl) ?_
  refine lv_iload_n hx hb dCi_mix_7 rfl (lv_at hl 1 rfl) ?_
  refine lv_ixor hx hb dCi_mix_8 ?_
  refine lv_bipush (v := nI 8) hx hb dCi_mix_9 (by decide) ?_
  refine clCi_13 (As := [.int ((jTwice x) ^^^ x), .int (nI 8)]) (rest := [.int (jTwice x)]) hx hb hml hown hts (k_Ci_turn l G ((jTwice x) ^^^ x) (nI 8)) hG hA hP hD hS [] rfl rfl (fun _ => rfl) rfl hl.1 rfl (Nat.le_of_ble_eq_true rfl) ⟨by decide, by decide⟩ ⟨by decide, by decide⟩ dCi_mix_11 (fun _ H locs _ hP hD hS => ?_)
  have hP : va_P G.1 vwCl [] H := hP
  have hD : va_D A [] := hD
  refine W.cs (cells' := 0) (slots' := 0) rfl rfl ?_
  refine W.eq (g2 := F0 m 14 ls [.int (jTurn ((jTwice x) ^^^ x) (nI 8)), .int (jTwice x)]) rfl ?_
  refine lv_ixor hx hb dCi_mix_14 ?_
  refine lv_iload_n hx hb dCi_mix_15 rfl (lv_at hl 1 rfl) ?_
  refine lv_bipush (v := nI 16) hx hb dCi_mix_16 (by decide) ?_
  refine clCi_13 (As := [.int x, .int (nI 16)]) (rest := [.int ((jTwice x) ^^^ (jTurn ((jTwice x) ^^^ x) (nI 8)))]) hx hb hml hown hts (k_Ci_turn l G x (nI 16)) hG hA hP hD hS [] rfl rfl (fun _ => rfl) rfl hl.1 rfl (Nat.le_of_ble_eq_true rfl) ⟨by decide, by decide⟩ ⟨by decide, by decide⟩ dCi_mix_18 (fun _ H locs _ hP hD hS => ?_)
  have hP : va_P G.1 vwCl [] H := hP
  have hD : va_D A [] := hD
  refine W.cs (cells' := 0) (slots' := 0) rfl rfl ?_
  refine W.eq (g2 := F0 m 21 ls [.int (jTurn x (nI 16)), .int ((jTwice x) ^^^ (jTurn ((jTwice x) ^^^ x) (nI 8)))]) rfl ?_
  refine lv_ixor hx hb dCi_mix_21 ?_
  refine lv_iload_n hx hb dCi_mix_22 rfl (lv_at hl 1 rfl) ?_
  refine lv_bipush (v := nI 24) hx hb dCi_mix_23 (by decide) ?_
  refine clCi_13 (As := [.int x, .int (nI 24)]) (rest := [.int (((jTwice x) ^^^ (jTurn ((jTwice x) ^^^ x) (nI 8))) ^^^ (jTurn x (nI 16)))]) hx hb hml hown hts (k_Ci_turn l G x (nI 24)) hG hA hP hD hS [] rfl rfl (fun _ => rfl) rfl hl.1 rfl (Nat.le_of_ble_eq_true rfl) ⟨by decide, by decide⟩ ⟨by decide, by decide⟩ dCi_mix_25 (fun _ H locs _ hP hD hS => ?_)
  have hP : va_P G.1 vwCl [] H := hP
  have hD : va_D A [] := hD
  refine W.cs (cells' := 0) (slots' := 0) rfl rfl ?_
  refine W.eq (g2 := F0 m 28 ls [.int (jTurn x (nI 24)), .int (((jTwice x) ^^^ (jTurn ((jTwice x) ^^^ x) (nI 8))) ^^^ (jTurn x (nI 16)))]) rfl ?_
  refine lv_ixor hx hb dCi_mix_28 ?_
  exact cq_iret () (trivial) hx hb hr hlk hP hS (rfl) (rfl) dCi_mix_29
set_option maxHeartbeats 4000000 in
set_option maxRecDepth 100000 in
theorem k_Ci_unmix (l : Launch) (G : gG) (x : Int32) : Ck l G yCi_unmix cCi_unmix 1 (some .int) { frames := 2, cells := 0, slots := 0, locals := 42 } [.int x] [] (some (.int (jUnmix x))) [] := by
  refine Cq.of (by decide) (Nat.le_of_ble_eq_true rfl) ?_
  intro p e s m args below meth c A ls hx hb hr hml hts hown hlk hA hP hD hG hS hl
  have hl : lv_has ls 1 [(0, .int x)] := hl
  refine lv_iload_n hx hb dCi_unmix_0 rfl (lv_at hl 0 rfl) ?_
  refine lv_iload_n hx hb dCi_unmix_1 rfl (lv_at hl 0 rfl) ?_
  refine lv_iload_n hx hb dCi_unmix_2 rfl (lv_at hl 0 rfl) ?_
  refine lv_bipush (v := nI 16) hx hb dCi_unmix_3 (by decide) ?_
  refine clCi_13 (As := [.int x, .int (nI 16)]) (rest := [.int x, .int x]) hx hb hml hown hts (k_Ci_turn l G x (nI 16)) hG hA hP hD hS [] rfl rfl (fun _ => rfl) rfl hl.1 rfl (Nat.le_of_ble_eq_true rfl) ⟨by decide, by decide⟩ ⟨by decide, by decide⟩ dCi_unmix_5 (fun _ H locs _ hP hD hS => ?_)
  have hP : va_P G.1 vwCl [] H := hP
  have hD : va_D A [] := hD
  refine W.cs (cells' := 0) (slots' := 0) rfl rfl ?_
  refine W.eq (g2 := F0 m 8 ls [.int (jTurn x (nI 16)), .int x, .int x]) rfl ?_
  refine lv_ixor hx hb dCi_unmix_8 ?_
  refine clCi_26 (As := [.int (x ^^^ (jTurn x (nI 16)))]) (rest := [.int x]) hx hb hml hown hts (k_Ci_twice l G (x ^^^ (jTurn x (nI 16)))) hG hA hP hD hS [] rfl rfl (fun _ => rfl) rfl hl.1 rfl (Nat.le_of_ble_eq_true rfl) ⟨by decide, by decide⟩ ⟨by decide, by decide⟩ dCi_unmix_9 (fun _ H locs _ hP hD hS => ?_)
  have hP : va_P G.1 vwCl [] H := hP
  have hD : va_D A [] := hD
  refine W.cs (cells' := 0) (slots' := 0) rfl rfl ?_
  refine W.eq (g2 := F0 m 12 ls [.int (jTwice (x ^^^ (jTurn x (nI 16)))), .int x]) rfl ?_
  refine clCi_26 (As := [.int (jTwice (x ^^^ (jTurn x (nI 16))))]) (rest := [.int x]) hx hb hml hown hts (k_Ci_twice l G (jTwice (x ^^^ (jTurn x (nI 16))))) hG hA hP hD hS [] rfl rfl (fun _ => rfl) rfl hl.1 rfl (Nat.le_of_ble_eq_true rfl) ⟨by decide, by decide⟩ ⟨by decide, by decide⟩ dCi_unmix_12 (fun _ H locs _ hP hD hS => ?_)
  have hP : va_P G.1 vwCl [] H := hP
  have hD : va_D A [] := hD
  refine W.cs (cells' := 0) (slots' := 0) rfl rfl ?_
  refine W.eq (g2 := F0 m 15 ls [.int (jTwice (jTwice (x ^^^ (jTurn x (nI 16))))), .int x]) rfl ?_
  refine lv_ixor hx hb dCi_unmix_15 ?_
  refine clCi_30 (As := [.int (x ^^^ (jTwice (jTwice (x ^^^ (jTurn x (nI 16))))))]) (rest := []) hx hb hml hown hts (k_Ci_mix l G (x ^^^ (jTwice (jTwice (x ^^^ (jTurn x (nI 16))))))) hG hA hP hD hS [] rfl rfl (fun _ => rfl) rfl hl.1 rfl (Nat.le_of_ble_eq_true rfl) ⟨by decide, by decide⟩ ⟨by decide, by decide⟩ dCi_unmix_16 (fun _ H locs _ hP hD hS => ?_)
  have hP : va_P G.1 vwCl [] H := hP
  have hD : va_D A [] := hD
  refine W.cs (cells' := 0) (slots' := 0) rfl rfl ?_
  refine W.eq (g2 := F0 m 19 ls [.int (jMix (x ^^^ (jTwice (jTwice (x ^^^ (jTurn x (nI 16)))))))]) rfl ?_
  exact cq_iret () (trivial) hx hb hr hlk hP hS (rfl) (rfl) dCi_unmix_19
set_option maxHeartbeats 4000000 in
set_option maxRecDepth 100000 in
theorem k_Ci_keepBlock (l : Launch) (G : gG) (oc ow : Nat) (h0 l0 : Int64) (a1 a2 a3 a4 : Int32) : Ck l G yCi_keepBlock cCi_keepBlock 5 none { frames := 0, cells := 0, slots := 0, locals := 0 } [.ref oc, .int a1, .int a2, .int a3, .int a4] [oC oc 1 [.ref ow, .long h0, .long l0]] (none) [oC oc 1 [.ref ow, .long (jLg a1 a2), .long (jLg a3 a4)]] := by
  refine Cq.of (by decide) (Nat.le_of_ble_eq_true rfl) ?_
  intro p e s m args below meth c A ls hx hb hr hml hts hown hlk hA hP hD hG hS hl
  have hl : lv_has ls 5 [(0, .ref oc), (1, .int a1), (2, .int a2), (3, .int a3), (4, .int a4)] := hl
  refine lv_aload_n hx hb dCi_keepBlock_0 rfl (lv_at hl 0 rfl) ?_
  refine lv_iload_n hx hb dCi_keepBlock_1 rfl (lv_at hl 1 rfl) ?_
  refine lv_i2l (v := a1.toInt64) hx hb dCi_keepBlock_2 rfl ?_
  refine lv_bipush (v := nI 32) hx hb dCi_keepBlock_3 (by decide) ?_
  refine lv_lshl (v := lsh a1.toInt64 (nI 32)) hx hb dCi_keepBlock_5 rfl ?_
  refine lv_iload_n hx hb dCi_keepBlock_6 rfl (lv_at hl 2 rfl) ?_
  refine lv_i2l (v := a2.toInt64) hx hb dCi_keepBlock_7 rfl ?_
  refine lv_ldc2 (v := lN 4294967295) hx hb hown (hts _ kkCi_43) dCi_keepBlock_8 ?_
  refine lv_land hx hb dCi_keepBlock_11 ?_
  refine lv_lor hx hb dCi_keepBlock_12 ?_
  refine pfCi_45 hx hb hts hown hG hP hD hS 0 rfl rfl rfl (Nat.le_of_ble_eq_true rfl) dCi_keepBlock_13 (fun H locs hP hD hS => ?_)
  have hP : va_P G.1 vwCl [oC oc 1 [.ref ow, .long ((lsh a1.toInt64 (nI 32)) ||| (a2.toInt64 &&& (lN 4294967295))), .long l0]] H := hP
  have hD : va_D A [oC oc 1 [.ref ow, .long ((lsh a1.toInt64 (nI 32)) ||| (a2.toInt64 &&& (lN 4294967295))), .long l0]] := hD
  refine lv_aload_n hx hb dCi_keepBlock_16 rfl (lv_at hl 0 rfl) ?_
  refine lv_iload_n hx hb dCi_keepBlock_17 rfl (lv_at hl 3 rfl) ?_
  refine lv_i2l (v := a3.toInt64) hx hb dCi_keepBlock_18 rfl ?_
  refine lv_bipush (v := nI 32) hx hb dCi_keepBlock_19 (by decide) ?_
  refine lv_lshl (v := lsh a3.toInt64 (nI 32)) hx hb dCi_keepBlock_21 rfl ?_
  refine lv_iload hx hb dCi_keepBlock_22 (lv_at hl 4 rfl) ?_
  refine lv_i2l (v := a4.toInt64) hx hb dCi_keepBlock_24 rfl ?_
  refine lv_ldc2 (v := lN 4294967295) hx hb hown (hts _ kkCi_43) dCi_keepBlock_25 ?_
  refine lv_land hx hb dCi_keepBlock_28 ?_
  refine lv_lor hx hb dCi_keepBlock_29 ?_
  refine pfCi_49 hx hb hts hown hG hP hD hS 0 rfl rfl rfl (Nat.le_of_ble_eq_true rfl) dCi_keepBlock_30 (fun H locs hP hD hS => ?_)
  have hP : va_P G.1 vwCl [oC oc 1 [.ref ow, .long ((lsh a1.toInt64 (nI 32)) ||| (a2.toInt64 &&& (lN 4294967295))), .long ((lsh a3.toInt64 (nI 32)) ||| (a4.toInt64 &&& (lN 4294967295)))]] H := hP
  have hD : va_D A [oC oc 1 [.ref ow, .long ((lsh a1.toInt64 (nI 32)) ||| (a2.toInt64 &&& (lN 4294967295))), .long ((lsh a3.toInt64 (nI 32)) ||| (a4.toInt64 &&& (lN 4294967295)))]] := hD
  exact cq_vret () (trivial) hx hb hr hlk hP hS rfl (rfl) dCi_keepBlock_33
