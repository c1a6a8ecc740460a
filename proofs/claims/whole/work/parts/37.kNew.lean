/-! the class's constructors, install -/
theorem de4 (j : Nat) (hj : j < 4) : upd (upd (upd (upd (fun _ => nI 0) 0 (-1)) 1 (-1)) 2 (-1)) 3 (-1) j = -1 := by
  by_cases h0 : j = 0
  · subst h0; rfl
  by_cases h1 : j = 1
  · subst h1; rfl
  by_cases h2 : j = 2
  · subst h2; rfl
  by_cases h3 : j = 3
  · subst h3; rfl
  omega
set_option maxHeartbeats 4000000 in
set_option maxRecDepth 100000 in
theorem k_Ci_init (l : Launch) (G : gG) (oc : Nat) : Cr l G yCi_init cCi_init 1 none { frames := 1, cells := 1, slots := 44, locals := 20 } [.ref oc] [oC oc 1 [.null, .long (lN 0), .long (lN 0)]] (fun _ => True) (S := Nat) (fun _ => True) (fun u => none) (fun u => [oC oc 1 [.ref u, .long (lN 0), .long (lN 0)], aI G u 44 (fun _ => nI 0)]) := by
  refine Cr.of (by decide) (Nat.le_of_ble_eq_true rfl) ?_
  intro p e s m args below meth c A ls hx hb hr hml hts hown hlk hin9 hJ hA hP hD hG hS hl
  have hl : lv_has ls 1 [(0, .ref oc)] := hl
  refine lv_aload_n hx hb dCi_init_0 rfl (lv_at hl 0 rfl) ?_
  refine W.objInit hx hb hown (hts _ kobCi_3) (hts _ kobI) (hts _ kobC) rfl (by rw [hml]; exact hl.1) rfl dCi_init_1 (Nat.le_of_ble_eq_true rfl) (Nat.le_of_ble_eq_true rfl) ?_
  refine W.eq (g2 := F0 m 4 ls []) rfl ?_
  refine lv_aload_n hx hb dCi_init_4 rfl (lv_at hl 0 rfl) ?_
  refine lv_bipush (v := nI 44) hx hb dCi_init_5 (by decide) ?_
  refine ck_newI hx hb hts hG hA hP hD hS 44 rfl (by decide) ⟨by decide, by decide⟩ dCi_init_7 (fun q1 H hP hD hS => ?_)
  have hP : va_P G.1 vwCl [oC oc 1 [.null, .long (lN 0), .long (lN 0)], aI G q1 44 (fun _ => nI 0)] H := hP
  have hD : va_D A [oC oc 1 [.null, .long (lN 0), .long (lN 0)], aI G q1 44 (fun _ => nI 0)] := hD
  refine W.cs (cells' := 1) (slots' := 44) rfl rfl ?_
  refine fFCi_9 hx hb hts hown hin9 hG hP hD hS 0 rfl rfl rfl (Nat.le_of_ble_eq_true rfl) dCi_init_9 (fun H locs hP hD hS => ?_)
  have hP : va_P G.1 vwCl [oC oc 1 [.ref q1, .long (lN 0), .long (lN 0)], aI G q1 44 (fun _ => nI 0)] H := hP
  have hD : va_D A [oC oc 1 [.ref q1, .long (lN 0), .long (lN 0)], aI G q1 44 (fun _ => nI 0)] := hD
  exact cr_vret q1 (trivial) hx hb hr hlk hP hD hS rfl (rfl) dCi_init_12
set_option maxHeartbeats 4000000 in
set_option maxRecDepth 100000 in
theorem k_Co_init (l : Launch) (G : gG) (oo : Nat) : Cr l G yCo_init cCo_init 1 none { frames := 1, cells := 1, slots := 512, locals := 20 } [.ref oo] [oC oo 2 [.null]] (fun _ => True) (S := Nat) (fun _ => True) (fun u => none) (fun u => [oC oo 2 [.ref u], aZ G u 512 (fun _ => nI 0)]) := by
  refine Cr.of (by decide) (Nat.le_of_ble_eq_true rfl) ?_
  intro p e s m args below meth c A ls hx hb hr hml hts hown hlk hin9 hJ hA hP hD hG hS hl
  have hl : lv_has ls 1 [(0, .ref oo)] := hl
  refine lv_aload_n hx hb dCo_init_0 rfl (lv_at hl 0 rfl) ?_
  refine W.objInit hx hb hown (hts _ kobCo_3) (hts _ kobI) (hts _ kobC) rfl (by rw [hml]; exact hl.1) rfl dCo_init_1 (Nat.le_of_ble_eq_true rfl) (Nat.le_of_ble_eq_true rfl) ?_
  refine W.eq (g2 := F0 m 4 ls []) rfl ?_
  refine lv_aload_n hx hb dCo_init_4 rfl (lv_at hl 0 rfl) ?_
  refine lv_sipush (v := nI 512) hx hb dCo_init_5 (by decide) ?_
  refine ck_newZ hx hb hts hG hA hP hD hS 512 rfl (by decide) ⟨by decide, by decide⟩ dCo_init_8 (fun q1 H hP hD hS => ?_)
  have hP : va_P G.1 vwCl [oC oo 2 [.null], aZ G q1 512 (fun _ => nI 0)] H := hP
  have hD : va_D A [oC oo 2 [.null], aZ G q1 512 (fun _ => nI 0)] := hD
  refine W.cs (cells' := 1) (slots' := 512) rfl rfl ?_
  refine fFCo_9 hx hb hts hown hin9 hG hP hD hS 0 rfl rfl rfl (Nat.le_of_ble_eq_true rfl) dCo_init_10 (fun H locs hP hD hS => ?_)
  have hP : va_P G.1 vwCl [oC oo 2 [.ref q1], aZ G q1 512 (fun _ => nI 0)] H := hP
  have hD : va_D A [oC oo 2 [.ref q1], aZ G q1 512 (fun _ => nI 0)] := hD
  exact cr_vret q1 (trivial) hx hb hr hlk hP hD hS rfl (rfl) dCo_init_13
set_option maxHeartbeats 4000000 in
set_option maxRecDepth 100000 in
theorem k_Pa_init (l : Launch) (G : gG) (op : Nat) : Cr l G yPa_init cPa_init 1 none { frames := 1, cells := 1, slots := 229, locals := 20 } [.ref op] [oC op 5 [.null, .int (nI 0)]] (fun _ => True) (S := Nat) (fun _ => True) (fun u => none) (fun u => [oC op 5 [.ref u, .int (nI 0)], aI G u 229 (fun _ => nI 0)]) := by
  refine Cr.of (by decide) (Nat.le_of_ble_eq_true rfl) ?_
  intro p e s m args below meth c A ls hx hb hr hml hts hown hlk hin9 hJ hA hP hD hG hS hl
  have hl : lv_has ls 1 [(0, .ref op)] := hl
  refine lv_aload_n hx hb dPa_init_0 rfl (lv_at hl 0 rfl) ?_
  refine W.objInit hx hb hown (hts _ kobPa_3) (hts _ kobI) (hts _ kobC) rfl (by rw [hml]; exact hl.1) rfl dPa_init_1 (Nat.le_of_ble_eq_true rfl) (Nat.le_of_ble_eq_true rfl) ?_
  refine W.eq (g2 := F0 m 4 ls []) rfl ?_
  refine lv_aload_n hx hb dPa_init_4 rfl (lv_at hl 0 rfl) ?_
  refine lv_sipush (v := nI 229) hx hb dPa_init_5 (by decide) ?_
  refine ck_newI hx hb hts hG hA hP hD hS 229 rfl (by decide) ⟨by decide, by decide⟩ dPa_init_8 (fun q1 H hP hD hS => ?_)
  have hP : va_P G.1 vwCl [oC op 5 [.null, .int (nI 0)], aI G q1 229 (fun _ => nI 0)] H := hP
  have hD : va_D A [oC op 5 [.null, .int (nI 0)], aI G q1 229 (fun _ => nI 0)] := hD
  refine W.cs (cells' := 1) (slots' := 229) rfl rfl ?_
  refine fFPa_9 hx hb hts hown hin9 hG hP hD hS 0 rfl rfl rfl (Nat.le_of_ble_eq_true rfl) dPa_init_10 (fun H locs hP hD hS => ?_)
  have hP : va_P G.1 vwCl [oC op 5 [.ref q1, .int (nI 0)], aI G q1 229 (fun _ => nI 0)] H := hP
  have hD : va_D A [oC op 5 [.ref q1, .int (nI 0)], aI G q1 229 (fun _ => nI 0)] := hD
  exact cr_vret q1 (trivial) hx hb hr hlk hP hD hS rfl (rfl) dPa_init_13
set_option maxHeartbeats 4000000 in
set_option maxRecDepth 100000 in
theorem k_Tr_init (l : Launch) (G : gG) (ot : Nat) : Cr l G yTr_init cTr_init 1 none { frames := 1, cells := 0, slots := 0, locals := 20 } [.ref ot] [oC ot 6 [.int (nI 0), .long (lN 0), .long (lN 0)]] (fun _ => True) (S := Unit) (fun _ => True) (fun u => none) (fun u => [oC ot 6 [.int (nI 0), .long (lN 0), .long (lN 0)]]) := by
  refine Cr.of (by decide) (Nat.le_of_ble_eq_true rfl) ?_
  intro p e s m args below meth c A ls hx hb hr hml hts hown hlk hin9 hJ hA hP hD hG hS hl
  have hl : lv_has ls 1 [(0, .ref ot)] := hl
  refine lv_aload_n hx hb dTr_init_0 rfl (lv_at hl 0 rfl) ?_
  refine W.objInit hx hb hown (hts _ kobTr_3) (hts _ kobI) (hts _ kobC) rfl (by rw [hml]; exact hl.1) rfl dTr_init_1 (Nat.le_of_ble_eq_true rfl) (Nat.le_of_ble_eq_true rfl) ?_
  refine W.eq (g2 := F0 m 4 ls []) rfl ?_
  exact cr_vret () (trivial) hx hb hr hlk hP hD hS rfl (rfl) dTr_init_4
set_option maxHeartbeats 4000000 in
set_option maxRecDepth 100000 in
theorem k_En_init (l : Launch) (G : gG) (oe : Nat) : Cr l G yEn_init cEn_init 1 none { frames := 1, cells := 0, slots := 0, locals := 20 } [.ref oe] [oC oe 4 [.long (lN 0), .long (lN 0), .long (lN 0)]] (fun _ => True) (S := Unit) (fun _ => True) (fun u => none) (fun u => [oC oe 4 [.long (lN 0), .long (lN 0), .long (lN 0)]]) := by
  refine Cr.of (by decide) (Nat.le_of_ble_eq_true rfl) ?_
  intro p e s m args below meth c A ls hx hb hr hml hts hown hlk hin9 hJ hA hP hD hG hS hl
  have hl : lv_has ls 1 [(0, .ref oe)] := hl
  refine lv_aload_n hx hb dEn_init_0 rfl (lv_at hl 0 rfl) ?_
  refine W.objInit hx hb hown (hts _ kobEn_1) (hts _ kobI) (hts _ kobC) rfl (by rw [hml]; exact hl.1) rfl dEn_init_1 (Nat.le_of_ble_eq_true rfl) (Nat.le_of_ble_eq_true rfl) ?_
  refine W.eq (g2 := F0 m 4 ls []) rfl ?_
  exact cr_vret () (trivial) hx hb hr hlk hP hD hS rfl (rfl) dEn_init_4
set_option maxHeartbeats 4000000 in
set_option maxRecDepth 100000 in
theorem k_Ch_init (l : Launch) (G : gG) (ok : Nat) : Cr l G yCh_init cCh_init 1 none { frames := 1, cells := 3, slots := 512, locals := 20 } [.ref ok] [oC ok 0 [.null, .null, .null, .int (nI 0), .int (nI 0), .long (lN 0), .long (lN 0)]] (fun _ => True) (S := Nat × Nat × Nat) (fun _ => True) (fun u => none) (fun u => [oC ok 0 [.ref u.1, .ref u.2.1, .ref u.2.2, .int (nI 0), .int (nI 0), .long (lN 0), .long (lN 0)], aZ G u.1 256 (fun _ => nI 0), aI G u.2.1 128 (fun _ => nI 0), aI G u.2.2 128 (fun _ => nI 0)]) := by
  refine Cr.of (by decide) (Nat.le_of_ble_eq_true rfl) ?_
  intro p e s m args below meth c A ls hx hb hr hml hts hown hlk hin9 hJ hA hP hD hG hS hl
  have hl : lv_has ls 1 [(0, .ref ok)] := hl
  refine lv_aload_n hx hb dCh_init_0 rfl (lv_at hl 0 rfl) ?_
  refine W.objInit hx hb hown (hts _ kobCh_3) (hts _ kobI) (hts _ kobC) rfl (by rw [hml]; exact hl.1) rfl dCh_init_1 (Nat.le_of_ble_eq_true rfl) (Nat.le_of_ble_eq_true rfl) ?_
  refine W.eq (g2 := F0 m 4 ls []) rfl ?_
  refine lv_aload_n hx hb dCh_init_4 rfl (lv_at hl 0 rfl) ?_
  refine lv_sipush (v := nI 256) hx hb dCh_init_5 (by decide) ?_
  refine ck_newZ hx hb hts hG hA hP hD hS 256 rfl (by decide) ⟨by decide, by decide⟩ dCh_init_8 (fun q1 H hP hD hS => ?_)
  have hP : va_P G.1 vwCl [oC ok 0 [.null, .null, .null, .int (nI 0), .int (nI 0), .long (lN 0), .long (lN 0)], aZ G q1 256 (fun _ => nI 0)] H := hP
  have hD : va_D A [oC ok 0 [.null, .null, .null, .int (nI 0), .int (nI 0), .long (lN 0), .long (lN 0)], aZ G q1 256 (fun _ => nI 0)] := hD
  refine W.cs (cells' := 1) (slots' := 256) rfl rfl ?_
  refine fFCh_9 hx hb hts hown hin9 hG hP hD hS 0 rfl rfl rfl (Nat.le_of_ble_eq_true rfl) dCh_init_10 (fun H locs hP hD hS => ?_)
  have hP : va_P G.1 vwCl [oC ok 0 [.ref q1, .null, .null, .int (nI 0), .int (nI 0), .long (lN 0), .long (lN 0)], aZ G q1 256 (fun _ => nI 0)] H := hP
  have hD : va_D A [oC ok 0 [.ref q1, .null, .null, .int (nI 0), .int (nI 0), .long (lN 0), .long (lN 0)], aZ G q1 256 (fun _ => nI 0)] := hD
  refine lv_aload_n hx hb dCh_init_13 rfl (lv_at hl 0 rfl) ?_
  refine lv_sipush (v := nI 128) hx hb dCh_init_14 (by decide) ?_
  refine ck_newI hx hb hts hG hA hP hD hS 128 rfl (by decide) ⟨by decide, by decide⟩ dCh_init_17 (fun q2 H hP hD hS => ?_)
  have hP : va_P G.1 vwCl [oC ok 0 [.ref q1, .null, .null, .int (nI 0), .int (nI 0), .long (lN 0), .long (lN 0)], aZ G q1 256 (fun _ => nI 0), aI G q2 128 (fun _ => nI 0)] H := hP
  have hD : va_D A [oC ok 0 [.ref q1, .null, .null, .int (nI 0), .int (nI 0), .long (lN 0), .long (lN 0)], aZ G q1 256 (fun _ => nI 0), aI G q2 128 (fun _ => nI 0)] := hD
  refine W.cs (cells' := 2) (slots' := 384) rfl rfl ?_
  refine fFCh_15 hx hb hts hown hin9 hG hP hD hS 0 rfl rfl rfl (Nat.le_of_ble_eq_true rfl) dCh_init_19 (fun H locs hP hD hS => ?_)
  have hP : va_P G.1 vwCl [oC ok 0 [.ref q1, .ref q2, .null, .int (nI 0), .int (nI 0), .long (lN 0), .long (lN 0)], aZ G q1 256 (fun _ => nI 0), aI G q2 128 (fun _ => nI 0)] H := hP
  have hD : va_D A [oC ok 0 [.ref q1, .ref q2, .null, .int (nI 0), .int (nI 0), .long (lN 0), .long (lN 0)], aZ G q1 256 (fun _ => nI 0), aI G q2 128 (fun _ => nI 0)] := hD
  refine lv_aload_n hx hb dCh_init_22 rfl (lv_at hl 0 rfl) ?_
  refine lv_sipush (v := nI 128) hx hb dCh_init_23 (by decide) ?_
  refine ck_newI hx hb hts hG hA hP hD hS 128 rfl (by decide) ⟨by decide, by decide⟩ dCh_init_26 (fun q3 H hP hD hS => ?_)
  have hP : va_P G.1 vwCl [oC ok 0 [.ref q1, .ref q2, .null, .int (nI 0), .int (nI 0), .long (lN 0), .long (lN 0)], aZ G q1 256 (fun _ => nI 0), aI G q2 128 (fun _ => nI 0), aI G q3 128 (fun _ => nI 0)] H := hP
  have hD : va_D A [oC ok 0 [.ref q1, .ref q2, .null, .int (nI 0), .int (nI 0), .long (lN 0), .long (lN 0)], aZ G q1 256 (fun _ => nI 0), aI G q2 128 (fun _ => nI 0), aI G q3 128 (fun _ => nI 0)] := hD
  refine W.cs (cells' := 3) (slots' := 512) rfl rfl ?_
  refine fFCh_19 hx hb hts hown hin9 hG hP hD hS 0 rfl rfl rfl (Nat.le_of_ble_eq_true rfl) dCh_init_28 (fun H locs hP hD hS => ?_)
  have hP : va_P G.1 vwCl [oC ok 0 [.ref q1, .ref q2, .ref q3, .int (nI 0), .int (nI 0), .long (lN 0), .long (lN 0)], aZ G q1 256 (fun _ => nI 0), aI G q2 128 (fun _ => nI 0), aI G q3 128 (fun _ => nI 0)] H := hP
  have hD : va_D A [oC ok 0 [.ref q1, .ref q2, .ref q3, .int (nI 0), .int (nI 0), .long (lN 0), .long (lN 0)], aZ G q1 256 (fun _ => nI 0), aI G q2 128 (fun _ => nI 0), aI G q3 128 (fun _ => nI 0)] := hD
  exact cr_vret (q1, q2, q3) (trivial) hx hb hr hlk hP hD hS rfl (rfl) dCh_init_31
set_option maxHeartbeats 4000000 in
set_option maxRecDepth 100000 in
theorem k_De_init (l : Launch) (G : gG) (od : Nat) : Cr l G yDe_init cDe_init 1 none { frames := 1, cells := 3, slots := 12, locals := 20 } [.ref od] [oC od 3 [.null, .null, .null]] (fun _ => True) (S := Nat × Nat × Nat) (fun _ => True) (fun u => none) (fun u => [oC od 3 [.ref u.1, .ref u.2.1, .ref u.2.2], aI G u.1 4 (fun _ => (-1)), aJ G u.2.1 4 (fun _ => lN 0), aJ G u.2.2 4 (fun _ => lN 0)]) := by
  refine Cr.of (by decide) (Nat.le_of_ble_eq_true rfl) ?_
  intro p e s m args below meth c A ls hx hb hr hml hts hown hlk hin9 hJ hA hP hD hG hS hl
  have hl : lv_has ls 1 [(0, .ref od)] := hl
  refine lv_aload_n hx hb dDe_init_0 rfl (lv_at hl 0 rfl) ?_
  refine W.objInit hx hb hown (hts _ kobDe_3) (hts _ kobI) (hts _ kobC) rfl (by rw [hml]; exact hl.1) rfl dDe_init_1 (Nat.le_of_ble_eq_true rfl) (Nat.le_of_ble_eq_true rfl) ?_
  refine W.eq (g2 := F0 m 4 ls []) rfl ?_
  refine lv_aload_n hx hb dDe_init_4 rfl (lv_at hl 0 rfl) ?_
  refine lv_iconst (v := nI 4) hx hb dDe_init_5 (by decide) ?_
  refine ck_newI hx hb hts hG hA hP hD hS 4 rfl (by decide) ⟨by decide, by decide⟩ dDe_init_6 (fun q1 H hP hD hS => ?_)
  have hP : va_P G.1 vwCl [oC od 3 [.null, .null, .null], aI G q1 4 (fun _ => nI 0)] H := hP
  have hD : va_D A [oC od 3 [.null, .null, .null], aI G q1 4 (fun _ => nI 0)] := hD
  refine W.cs (cells' := 1) (slots' := 4) rfl rfl ?_
  refine lv_dup hx hb dDe_init_8 rfl ?_
  refine lv_iconst (v := nI 0) hx hb dDe_init_9 (by decide) ?_
  refine lv_iconst (v := (-1)) hx hb dDe_init_10 (by decide) ?_
  refine ck_iast hx hb hG hP hD hS 1 rfl (by decide) 0 (rfl) (by decide) dDe_init_11 (fun H locs hP hD hS => ?_)
  have hP : va_P G.1 vwCl [oC od 3 [.null, .null, .null], aI G q1 4 (upd (fun _ => nI 0) 0 (-1))] H := hP
  have hD : va_D A [oC od 3 [.null, .null, .null], aI G q1 4 (upd (fun _ => nI 0) 0 (-1))] := hD
  refine lv_dup hx hb dDe_init_12 rfl ?_
  refine lv_iconst (v := nI 1) hx hb dDe_init_13 (by decide) ?_
  refine lv_iconst (v := (-1)) hx hb dDe_init_14 (by decide) ?_
  refine ck_iast hx hb hG hP hD hS 1 rfl (by decide) 1 (rfl) (by decide) dDe_init_15 (fun H locs hP hD hS => ?_)
  have hP : va_P G.1 vwCl [oC od 3 [.null, .null, .null], aI G q1 4 (upd (upd (fun _ => nI 0) 0 (-1)) 1 (-1))] H := hP
  have hD : va_D A [oC od 3 [.null, .null, .null], aI G q1 4 (upd (upd (fun _ => nI 0) 0 (-1)) 1 (-1))] := hD
  refine lv_dup hx hb dDe_init_16 rfl ?_
  refine lv_iconst (v := nI 2) hx hb dDe_init_17 (by decide) ?_
  refine lv_iconst (v := (-1)) hx hb dDe_init_18 (by decide) ?_
  refine ck_iast hx hb hG hP hD hS 1 rfl (by decide) 2 (rfl) (by decide) dDe_init_19 (fun H locs hP hD hS => ?_)
  have hP : va_P G.1 vwCl [oC od 3 [.null, .null, .null], aI G q1 4 (upd (upd (upd (fun _ => nI 0) 0 (-1)) 1 (-1)) 2 (-1))] H := hP
  have hD : va_D A [oC od 3 [.null, .null, .null], aI G q1 4 (upd (upd (upd (fun _ => nI 0) 0 (-1)) 1 (-1)) 2 (-1))] := hD
  refine lv_dup hx hb dDe_init_20 rfl ?_
  refine lv_iconst (v := nI 3) hx hb dDe_init_21 (by decide) ?_
  refine lv_iconst (v := (-1)) hx hb dDe_init_22 (by decide) ?_
  refine ck_iast hx hb hG hP hD hS 1 rfl (by decide) 3 (rfl) (by decide) dDe_init_23 (fun H locs hP hD hS => ?_)
  have hP : va_P G.1 vwCl [oC od 3 [.null, .null, .null], aI G q1 4 (upd (upd (upd (upd (fun _ => nI 0) 0 (-1)) 1 (-1)) 2 (-1)) 3 (-1))] H := hP
  have hD : va_D A [oC od 3 [.null, .null, .null], aI G q1 4 (upd (upd (upd (upd (fun _ => nI 0) 0 (-1)) 1 (-1)) 2 (-1)) 3 (-1))] := hD
  have hP := ck_cg hP 1 rfl (g := fun _ => (-1)) de4
  have hP : va_P G.1 vwCl [oC od 3 [.null, .null, .null], aI G q1 4 (fun _ => (-1))] H := hP
  have hD : va_D A [oC od 3 [.null, .null, .null], aI G q1 4 (fun _ => (-1))] := ck_Dsame (by rfl) hD
  refine fFDe_9 hx hb hts hown hin9 hG hP hD hS 0 rfl rfl rfl (Nat.le_of_ble_eq_true rfl) dDe_init_24 (fun H locs hP hD hS => ?_)
  have hP : va_P G.1 vwCl [oC od 3 [.ref q1, .null, .null], aI G q1 4 (fun _ => (-1))] H := hP
  have hD : va_D A [oC od 3 [.ref q1, .null, .null], aI G q1 4 (fun _ => (-1))] := hD
  refine lv_aload_n hx hb dDe_init_27 rfl (lv_at hl 0 rfl) ?_
  refine lv_iconst (v := nI 4) hx hb dDe_init_28 (by decide) ?_
  refine ck_newJ hx hb hts hG hA hP hD hS 4 rfl (by decide) ⟨by decide, by decide⟩ dDe_init_29 (fun q2 H hP hD hS => ?_)
  have hP : va_P G.1 vwCl [oC od 3 [.ref q1, .null, .null], aI G q1 4 (fun _ => (-1)), aJ G q2 4 (fun _ => lN 0)] H := hP
  have hD : va_D A [oC od 3 [.ref q1, .null, .null], aI G q1 4 (fun _ => (-1)), aJ G q2 4 (fun _ => lN 0)] := hD
  refine W.cs (cells' := 2) (slots' := 8) rfl rfl ?_
  refine fFDe_15 hx hb hts hown hin9 hG hP hD hS 0 rfl rfl rfl (Nat.le_of_ble_eq_true rfl) dDe_init_31 (fun H locs hP hD hS => ?_)
  have hP : va_P G.1 vwCl [oC od 3 [.ref q1, .ref q2, .null], aI G q1 4 (fun _ => (-1)), aJ G q2 4 (fun _ => lN 0)] H := hP
  have hD : va_D A [oC od 3 [.ref q1, .ref q2, .null], aI G q1 4 (fun _ => (-1)), aJ G q2 4 (fun _ => lN 0)] := hD
  refine lv_aload_n hx hb dDe_init_34 rfl (lv_at hl 0 rfl) ?_
  refine lv_iconst (v := nI 4) hx hb dDe_init_35 (by decide) ?_
  refine ck_newJ hx hb hts hG hA hP hD hS 4 rfl (by decide) ⟨by decide, by decide⟩ dDe_init_36 (fun q3 H hP hD hS => ?_)
  have hP : va_P G.1 vwCl [oC od 3 [.ref q1, .ref q2, .null], aI G q1 4 (fun _ => (-1)), aJ G q2 4 (fun _ => lN 0), aJ G q3 4 (fun _ => lN 0)] H := hP
  have hD : va_D A [oC od 3 [.ref q1, .ref q2, .null], aI G q1 4 (fun _ => (-1)), aJ G q2 4 (fun _ => lN 0), aJ G q3 4 (fun _ => lN 0)] := hD
  refine W.cs (cells' := 3) (slots' := 12) rfl rfl ?_
  refine fFDe_19 hx hb hts hown hin9 hG hP hD hS 0 rfl rfl rfl (Nat.le_of_ble_eq_true rfl) dDe_init_38 (fun H locs hP hD hS => ?_)
  have hP : va_P G.1 vwCl [oC od 3 [.ref q1, .ref q2, .ref q3], aI G q1 4 (fun _ => (-1)), aJ G q2 4 (fun _ => lN 0), aJ G q3 4 (fun _ => lN 0)] H := hP
  have hD : va_D A [oC od 3 [.ref q1, .ref q2, .ref q3], aI G q1 4 (fun _ => (-1)), aJ G q2 4 (fun _ => lN 0), aJ G q3 4 (fun _ => lN 0)] := hD
  exact cr_vret (q1, q2, q3) (trivial) hx hb hr hlk hP hD hS rfl (rfl) dDe_init_41
set_option maxHeartbeats 4000000 in
set_option maxRecDepth 100000 in
theorem k_CK_init (l : Launch) (G : gG) (ox : Nat) : Cr l G yCK_init cCK_init 2 none { frames := 2, cells := 26, slots := 3133, locals := 40 } [.ref ox] [oC ox 7 [.null, .null, .null, .null, .null, .null, .null, .long (lN 0), .long (lN 0)]] (jAO) (S := Nat → Nat) (fun _ => True) (fun u => none) (fun u => [oC ox 7 [.ref (u 0), .ref (u 2), .ref (u 3), .ref (u 5), .ref (u 6), .ref (u 8), .ref (u 9), .long (lN 0), .long (lN 0)], oC (u 2) 6 [.int (nI 4), .long (lN 0), .long (lN 0)], oC (u 0) 1 [.ref (u 1), .long (lN 0), .long (lN 0)], aI G (u 1) 44 (fun _ => nI 0), oC (u 3) 2 [.ref (u 4)], aZ G (u 4) 512 (fun _ => nI 0), oC (u 5) 4 [.long (lN 0), .long (lN 0), .long (lN 0)], oC (u 6) 5 [.ref (u 7), .int (nI 0)], aI G (u 7) 229 (fun _ => nI 0), aH G (u 8) 4 (fun j => some (u (10 + 4 * j))), aQ G (u 9) 256 (fun _ => none), oC (u 10) 0 [.ref (u 11), .ref (u 12), .ref (u 13), .int (nI 0), .int (nI 0), .long (lN 0), .long (lN 0)], aZ G (u 11) 256 (fun _ => nI 0), aI G (u 12) 128 (fun _ => nI 0), aI G (u 13) 128 (fun _ => nI 0), oC (u 14) 0 [.ref (u 15), .ref (u 16), .ref (u 17), .int (nI 0), .int (nI 0), .long (lN 0), .long (lN 0)], aZ G (u 15) 256 (fun _ => nI 0), aI G (u 16) 128 (fun _ => nI 0), aI G (u 17) 128 (fun _ => nI 0), oC (u 18) 0 [.ref (u 19), .ref (u 20), .ref (u 21), .int (nI 0), .int (nI 0), .long (lN 0), .long (lN 0)], aZ G (u 19) 256 (fun _ => nI 0), aI G (u 20) 128 (fun _ => nI 0), aI G (u 21) 128 (fun _ => nI 0), oC (u 22) 0 [.ref (u 23), .ref (u 24), .ref (u 25), .int (nI 0), .int (nI 0), .long (lN 0), .long (lN 0)], aZ G (u 23) 256 (fun _ => nI 0), aI G (u 24) 128 (fun _ => nI 0), aI G (u 25) 128 (fun _ => nI 0)]) := by
  refine Cr.of (by decide) (Nat.le_of_ble_eq_true rfl) ?_
  intro p e s m args below meth c A ls hx hb hr hml hts hown hlk hin9 hJ hA hP hD hG hS hl
  have hl : lv_has ls 2 [(0, .ref ox)] := hl
  refine lv_aload_n hx hb dCK_init_0 rfl (lv_at hl 0 rfl) ?_
  refine W.objInit hx hb hown (hts _ kobCK_3) (hts _ kobI) (hts _ kobC) rfl (by rw [hml]; exact hl.1) rfl dCK_init_1 (Nat.le_of_ble_eq_true rfl) (Nat.le_of_ble_eq_true rfl) ?_
  refine W.eq (g2 := F0 m 4 ls []) rfl ?_
  refine lv_aload_n hx hb dCK_init_4 rfl (lv_at hl 0 rfl) ?_
  refine nwCK_9 hx hb hts hown hG hA hP hD hS ⟨by decide, by decide⟩ dCK_init_5 (fun oc H hP hD hS => ?_)
  have hP : va_P G.1 vwCl [oC ox 7 [.null, .null, .null, .null, .null, .null, .null, .long (lN 0), .long (lN 0)], oC oc 1 [.null, .long (lN 0), .long (lN 0)]] H := hP
  have hD : va_D A [oC ox 7 [.null, .null, .null, .null, .null, .null, .null, .long (lN 0), .long (lN 0)], oC oc 1 [.null, .long (lN 0), .long (lN 0)]] := hD
  refine W.cs (cells' := 1) (slots' := 3) rfl rfl ?_
  refine lv_dup hx hb dCK_init_8 rfl ?_
  refine clCK_11 (rest := [.ref oc, .ref ox]) (wr := [oC ox 7 [.null, .null, .null, .null, .null, .null, .null, .long (lN 0), .long (lN 0)]]) hx hb hml hown hts (k_Ci_init l G oc) Jk_t trivial hG hA hP hD hS [1] [0] rfl rfl rfl rfl (by decide) hl.1 rfl (Nat.le_of_ble_eq_true rfl) ⟨by decide, by decide⟩ ⟨by decide, by decide⟩ dCK_init_9 (fun owd H locs _ hP hD hS => ?_)
  have hP : va_P G.1 vwCl [oC ox 7 [.null, .null, .null, .null, .null, .null, .null, .long (lN 0), .long (lN 0)], oC oc 1 [.ref owd, .long (lN 0), .long (lN 0)], aI G owd 44 (fun _ => nI 0)] H := hP
  have hD : va_D A [oC ox 7 [.null, .null, .null, .null, .null, .null, .null, .long (lN 0), .long (lN 0)], oC oc 1 [.ref owd, .long (lN 0), .long (lN 0)], aI G owd 44 (fun _ => nI 0)] := hD
  refine W.cs (cells' := 2) (slots' := 47) rfl rfl ?_
  refine W.eq (g2 := F0 m 12 ls [.ref oc, .ref ox]) rfl ?_
  refine fFCK_12 hx hb hts hown hin9 hG hP hD hS 0 rfl rfl rfl (Nat.le_of_ble_eq_true rfl) dCK_init_12 (fun H locs hP hD hS => ?_)
  have hP : va_P G.1 vwCl [oC ox 7 [.ref oc, .null, .null, .null, .null, .null, .null, .long (lN 0), .long (lN 0)], oC oc 1 [.ref owd, .long (lN 0), .long (lN 0)], aI G owd 44 (fun _ => nI 0)] H := hP
  have hD : va_D A [oC ox 7 [.ref oc, .null, .null, .null, .null, .null, .null, .long (lN 0), .long (lN 0)], oC oc 1 [.ref owd, .long (lN 0), .long (lN 0)], aI G owd 44 (fun _ => nI 0)] := hD
  refine lv_aload_n hx hb dCK_init_15 rfl (lv_at hl 0 rfl) ?_
  refine nwCK_16 hx hb hts hown hG hA hP hD hS ⟨by decide, by decide⟩ dCK_init_16 (fun ot H hP hD hS => ?_)
  have hP : va_P G.1 vwCl [oC ox 7 [.ref oc, .null, .null, .null, .null, .null, .null, .long (lN 0), .long (lN 0)], oC oc 1 [.ref owd, .long (lN 0), .long (lN 0)], aI G owd 44 (fun _ => nI 0), oC ot 6 [.int (nI 0), .long (lN 0), .long (lN 0)]] H := hP
  have hD : va_D A [oC ox 7 [.ref oc, .null, .null, .null, .null, .null, .null, .long (lN 0), .long (lN 0)], oC oc 1 [.ref owd, .long (lN 0), .long (lN 0)], aI G owd 44 (fun _ => nI 0), oC ot 6 [.int (nI 0), .long (lN 0), .long (lN 0)]] := hD
  refine W.cs (cells' := 3) (slots' := 50) rfl rfl ?_
  refine lv_dup hx hb dCK_init_19 rfl ?_
  refine clCK_18 (rest := [.ref ot, .ref ox]) (wr := [oC ox 7 [.ref oc, .null, .null, .null, .null, .null, .null, .long (lN 0), .long (lN 0)], oC oc 1 [.ref owd, .long (lN 0), .long (lN 0)], aI G owd 44 (fun _ => nI 0)]) hx hb hml hown hts (k_Tr_init l G ot) Jk_t trivial hG hA hP hD hS [3] [0, 1, 2] rfl rfl rfl rfl (by decide) hl.1 rfl (Nat.le_of_ble_eq_true rfl) ⟨by decide, by decide⟩ ⟨by decide, by decide⟩ dCK_init_20 (fun _ H locs _ hP hD hS => ?_)
  have hP : va_P G.1 vwCl [oC ox 7 [.ref oc, .null, .null, .null, .null, .null, .null, .long (lN 0), .long (lN 0)], oC oc 1 [.ref owd, .long (lN 0), .long (lN 0)], aI G owd 44 (fun _ => nI 0), oC ot 6 [.int (nI 0), .long (lN 0), .long (lN 0)]] H := hP
  have hD : va_D A [oC ox 7 [.ref oc, .null, .null, .null, .null, .null, .null, .long (lN 0), .long (lN 0)], oC oc 1 [.ref owd, .long (lN 0), .long (lN 0)], aI G owd 44 (fun _ => nI 0), oC ot 6 [.int (nI 0), .long (lN 0), .long (lN 0)]] := hD
  refine W.cs (cells' := 3) (slots' := 50) rfl rfl ?_
  refine W.eq (g2 := F0 m 23 ls [.ref ot, .ref ox]) rfl ?_
  refine fFCK_19 hx hb hts hown hin9 hG hP hD hS 0 rfl rfl rfl (Nat.le_of_ble_eq_true rfl) dCK_init_23 (fun H locs hP hD hS => ?_)
  have hP : va_P G.1 vwCl [oC ox 7 [.ref oc, .ref ot, .null, .null, .null, .null, .null, .long (lN 0), .long (lN 0)], oC oc 1 [.ref owd, .long (lN 0), .long (lN 0)], aI G owd 44 (fun _ => nI 0), oC ot 6 [.int (nI 0), .long (lN 0), .long (lN 0)]] H := hP
  have hD : va_D A [oC ox 7 [.ref oc, .ref ot, .null, .null, .null, .null, .null, .long (lN 0), .long (lN 0)], oC oc 1 [.ref owd, .long (lN 0), .long (lN 0)], aI G owd 44 (fun _ => nI 0), oC ot 6 [.int (nI 0), .long (lN 0), .long (lN 0)]] := hD
  refine lv_aload_n hx hb dCK_init_26 rfl (lv_at hl 0 rfl) ?_
  refine nwCK_23 hx hb hts hown hG hA hP hD hS ⟨by decide, by decide⟩ dCK_init_27 (fun oo H hP hD hS => ?_)
  have hP : va_P G.1 vwCl [oC ox 7 [.ref oc, .ref ot, .null, .null, .null, .null, .null, .long (lN 0), .long (lN 0)], oC oc 1 [.ref owd, .long (lN 0), .long (lN 0)], aI G owd 44 (fun _ => nI 0), oC ot 6 [.int (nI 0), .long (lN 0), .long (lN 0)], oC oo 2 [.null]] H := hP
  have hD : va_D A [oC ox 7 [.ref oc, .ref ot, .null, .null, .null, .null, .null, .long (lN 0), .long (lN 0)], oC oc 1 [.ref owd, .long (lN 0), .long (lN 0)], aI G owd 44 (fun _ => nI 0), oC ot 6 [.int (nI 0), .long (lN 0), .long (lN 0)], oC oo 2 [.null]] := hD
  refine W.cs (cells' := 4) (slots' := 51) rfl rfl ?_
  refine lv_dup hx hb dCK_init_30 rfl ?_
  refine clCK_25 (rest := [.ref oo, .ref ox]) (wr := [oC ox 7 [.ref oc, .ref ot, .null, .null, .null, .null, .null, .long (lN 0), .long (lN 0)], oC oc 1 [.ref owd, .long (lN 0), .long (lN 0)], aI G owd 44 (fun _ => nI 0), oC ot 6 [.int (nI 0), .long (lN 0), .long (lN 0)]]) hx hb hml hown hts (k_Co_init l G oo) Jk_t trivial hG hA hP hD hS [4] [0, 1, 2, 3] rfl rfl rfl rfl (by decide) hl.1 rfl (Nat.le_of_ble_eq_true rfl) ⟨by decide, by decide⟩ ⟨by decide, by decide⟩ dCK_init_31 (fun om H locs _ hP hD hS => ?_)
  have hP : va_P G.1 vwCl [oC ox 7 [.ref oc, .ref ot, .null, .null, .null, .null, .null, .long (lN 0), .long (lN 0)], oC oc 1 [.ref owd, .long (lN 0), .long (lN 0)], aI G owd 44 (fun _ => nI 0), oC ot 6 [.int (nI 0), .long (lN 0), .long (lN 0)], oC oo 2 [.ref om], aZ G om 512 (fun _ => nI 0)] H := hP
  have hD : va_D A [oC ox 7 [.ref oc, .ref ot, .null, .null, .null, .null, .null, .long (lN 0), .long (lN 0)], oC oc 1 [.ref owd, .long (lN 0), .long (lN 0)], aI G owd 44 (fun _ => nI 0), oC ot 6 [.int (nI 0), .long (lN 0), .long (lN 0)], oC oo 2 [.ref om], aZ G om 512 (fun _ => nI 0)] := hD
  refine W.cs (cells' := 5) (slots' := 563) rfl rfl ?_
  refine W.eq (g2 := F0 m 34 ls [.ref oo, .ref ox]) rfl ?_
  refine fFCK_26 hx hb hts hown hin9 hG hP hD hS 0 rfl rfl rfl (Nat.le_of_ble_eq_true rfl) dCK_init_34 (fun H locs hP hD hS => ?_)
  have hP : va_P G.1 vwCl [oC ox 7 [.ref oc, .ref ot, .ref oo, .null, .null, .null, .null, .long (lN 0), .long (lN 0)], oC oc 1 [.ref owd, .long (lN 0), .long (lN 0)], aI G owd 44 (fun _ => nI 0), oC ot 6 [.int (nI 0), .long (lN 0), .long (lN 0)], oC oo 2 [.ref om], aZ G om 512 (fun _ => nI 0)] H := hP
  have hD : va_D A [oC ox 7 [.ref oc, .ref ot, .ref oo, .null, .null, .null, .null, .long (lN 0), .long (lN 0)], oC oc 1 [.ref owd, .long (lN 0), .long (lN 0)], aI G owd 44 (fun _ => nI 0), oC ot 6 [.int (nI 0), .long (lN 0), .long (lN 0)], oC oo 2 [.ref om], aZ G om 512 (fun _ => nI 0)] := hD
  refine lv_aload_n hx hb dCK_init_37 rfl (lv_at hl 0 rfl) ?_
  refine nwCK_30 hx hb hts hown hG hA hP hD hS ⟨by decide, by decide⟩ dCK_init_38 (fun oe H hP hD hS => ?_)
  have hP : va_P G.1 vwCl [oC ox 7 [.ref oc, .ref ot, .ref oo, .null, .null, .null, .null, .long (lN 0), .long (lN 0)], oC oc 1 [.ref owd, .long (lN 0), .long (lN 0)], aI G owd 44 (fun _ => nI 0), oC ot 6 [.int (nI 0), .long (lN 0), .long (lN 0)], oC oo 2 [.ref om], aZ G om 512 (fun _ => nI 0), oC oe 4 [.long (lN 0), .long (lN 0), .long (lN 0)]] H := hP
  have hD : va_D A [oC ox 7 [.ref oc, .ref ot, .ref oo, .null, .null, .null, .null, .long (lN 0), .long (lN 0)], oC oc 1 [.ref owd, .long (lN 0), .long (lN 0)], aI G owd 44 (fun _ => nI 0), oC ot 6 [.int (nI 0), .long (lN 0), .long (lN 0)], oC oo 2 [.ref om], aZ G om 512 (fun _ => nI 0), oC oe 4 [.long (lN 0), .long (lN 0), .long (lN 0)]] := hD
  refine W.cs (cells' := 6) (slots' := 566) rfl rfl ?_
  refine lv_dup hx hb dCK_init_41 rfl ?_
  refine clCK_32 (rest := [.ref oe, .ref ox]) (wr := [oC ox 7 [.ref oc, .ref ot, .ref oo, .null, .null, .null, .null, .long (lN 0), .long (lN 0)], oC oc 1 [.ref owd, .long (lN 0), .long (lN 0)], aI G owd 44 (fun _ => nI 0), oC ot 6 [.int (nI 0), .long (lN 0), .long (lN 0)], oC oo 2 [.ref om], aZ G om 512 (fun _ => nI 0)]) hx hb hml hown hts (k_En_init l G oe) Jk_t trivial hG hA hP hD hS [6] [0, 1, 2, 3, 4, 5] rfl rfl rfl rfl (by decide) hl.1 rfl (Nat.le_of_ble_eq_true rfl) ⟨by decide, by decide⟩ ⟨by decide, by decide⟩ dCK_init_42 (fun _ H locs _ hP hD hS => ?_)
  have hP : va_P G.1 vwCl [oC ox 7 [.ref oc, .ref ot, .ref oo, .null, .null, .null, .null, .long (lN 0), .long (lN 0)], oC oc 1 [.ref owd, .long (lN 0), .long (lN 0)], aI G owd 44 (fun _ => nI 0), oC ot 6 [.int (nI 0), .long (lN 0), .long (lN 0)], oC oo 2 [.ref om], aZ G om 512 (fun _ => nI 0), oC oe 4 [.long (lN 0), .long (lN 0), .long (lN 0)]] H := hP
  have hD : va_D A [oC ox 7 [.ref oc, .ref ot, .ref oo, .null, .null, .null, .null, .long (lN 0), .long (lN 0)], oC oc 1 [.ref owd, .long (lN 0), .long (lN 0)], aI G owd 44 (fun _ => nI 0), oC ot 6 [.int (nI 0), .long (lN 0), .long (lN 0)], oC oo 2 [.ref om], aZ G om 512 (fun _ => nI 0), oC oe 4 [.long (lN 0), .long (lN 0), .long (lN 0)]] := hD
  refine W.cs (cells' := 6) (slots' := 566) rfl rfl ?_
  refine W.eq (g2 := F0 m 45 ls [.ref oe, .ref ox]) rfl ?_
  refine fFCK_33 hx hb hts hown hin9 hG hP hD hS 0 rfl rfl rfl (Nat.le_of_ble_eq_true rfl) dCK_init_45 (fun H locs hP hD hS => ?_)
  have hP : va_P G.1 vwCl [oC ox 7 [.ref oc, .ref ot, .ref oo, .ref oe, .null, .null, .null, .long (lN 0), .long (lN 0)], oC oc 1 [.ref owd, .long (lN 0), .long (lN 0)], aI G owd 44 (fun _ => nI 0), oC ot 6 [.int (nI 0), .long (lN 0), .long (lN 0)], oC oo 2 [.ref om], aZ G om 512 (fun _ => nI 0), oC oe 4 [.long (lN 0), .long (lN 0), .long (lN 0)]] H := hP
  have hD : va_D A [oC ox 7 [.ref oc, .ref ot, .ref oo, .ref oe, .null, .null, .null, .long (lN 0), .long (lN 0)], oC oc 1 [.ref owd, .long (lN 0), .long (lN 0)], aI G owd 44 (fun _ => nI 0), oC ot 6 [.int (nI 0), .long (lN 0), .long (lN 0)], oC oo 2 [.ref om], aZ G om 512 (fun _ => nI 0), oC oe 4 [.long (lN 0), .long (lN 0), .long (lN 0)]] := hD
  refine lv_aload_n hx hb dCK_init_48 rfl (lv_at hl 0 rfl) ?_
  refine nwCK_37 hx hb hts hown hG hA hP hD hS ⟨by decide, by decide⟩ dCK_init_49 (fun op H hP hD hS => ?_)
  have hP : va_P G.1 vwCl [oC ox 7 [.ref oc, .ref ot, .ref oo, .ref oe, .null, .null, .null, .long (lN 0), .long (lN 0)], oC oc 1 [.ref owd, .long (lN 0), .long (lN 0)], aI G owd 44 (fun _ => nI 0), oC ot 6 [.int (nI 0), .long (lN 0), .long (lN 0)], oC oo 2 [.ref om], aZ G om 512 (fun _ => nI 0), oC oe 4 [.long (lN 0), .long (lN 0), .long (lN 0)], oC op 5 [.null, .int (nI 0)]] H := hP
  have hD : va_D A [oC ox 7 [.ref oc, .ref ot, .ref oo, .ref oe, .null, .null, .null, .long (lN 0), .long (lN 0)], oC oc 1 [.ref owd, .long (lN 0), .long (lN 0)], aI G owd 44 (fun _ => nI 0), oC ot 6 [.int (nI 0), .long (lN 0), .long (lN 0)], oC oo 2 [.ref om], aZ G om 512 (fun _ => nI 0), oC oe 4 [.long (lN 0), .long (lN 0), .long (lN 0)], oC op 5 [.null, .int (nI 0)]] := hD
  refine W.cs (cells' := 7) (slots' := 568) rfl rfl ?_
  refine lv_dup hx hb dCK_init_52 rfl ?_
  refine clCK_39 (rest := [.ref op, .ref ox]) (wr := [oC ox 7 [.ref oc, .ref ot, .ref oo, .ref oe, .null, .null, .null, .long (lN 0), .long (lN 0)], oC oc 1 [.ref owd, .long (lN 0), .long (lN 0)], aI G owd 44 (fun _ => nI 0), oC ot 6 [.int (nI 0), .long (lN 0), .long (lN 0)], oC oo 2 [.ref om], aZ G om 512 (fun _ => nI 0), oC oe 4 [.long (lN 0), .long (lN 0), .long (lN 0)]]) hx hb hml hown hts (k_Pa_init l G op) Jk_t trivial hG hA hP hD hS [7] [0, 1, 2, 3, 4, 5, 6] rfl rfl rfl rfl (by decide) hl.1 rfl (Nat.le_of_ble_eq_true rfl) ⟨by decide, by decide⟩ ⟨by decide, by decide⟩ dCK_init_53 (fun ob H locs _ hP hD hS => ?_)
  have hP : va_P G.1 vwCl [oC ox 7 [.ref oc, .ref ot, .ref oo, .ref oe, .null, .null, .null, .long (lN 0), .long (lN 0)], oC oc 1 [.ref owd, .long (lN 0), .long (lN 0)], aI G owd 44 (fun _ => nI 0), oC ot 6 [.int (nI 0), .long (lN 0), .long (lN 0)], oC oo 2 [.ref om], aZ G om 512 (fun _ => nI 0), oC oe 4 [.long (lN 0), .long (lN 0), .long (lN 0)], oC op 5 [.ref ob, .int (nI 0)], aI G ob 229 (fun _ => nI 0)] H := hP
  have hD : va_D A [oC ox 7 [.ref oc, .ref ot, .ref oo, .ref oe, .null, .null, .null, .long (lN 0), .long (lN 0)], oC oc 1 [.ref owd, .long (lN 0), .long (lN 0)], aI G owd 44 (fun _ => nI 0), oC ot 6 [.int (nI 0), .long (lN 0), .long (lN 0)], oC oo 2 [.ref om], aZ G om 512 (fun _ => nI 0), oC oe 4 [.long (lN 0), .long (lN 0), .long (lN 0)], oC op 5 [.ref ob, .int (nI 0)], aI G ob 229 (fun _ => nI 0)] := hD
  refine W.cs (cells' := 8) (slots' := 797) rfl rfl ?_
  refine W.eq (g2 := F0 m 56 ls [.ref op, .ref ox]) rfl ?_
  refine fFCK_40 hx hb hts hown hin9 hG hP hD hS 0 rfl rfl rfl (Nat.le_of_ble_eq_true rfl) dCK_init_56 (fun H locs hP hD hS => ?_)
  have hP : va_P G.1 vwCl [oC ox 7 [.ref oc, .ref ot, .ref oo, .ref oe, .ref op, .null, .null, .long (lN 0), .long (lN 0)], oC oc 1 [.ref owd, .long (lN 0), .long (lN 0)], aI G owd 44 (fun _ => nI 0), oC ot 6 [.int (nI 0), .long (lN 0), .long (lN 0)], oC oo 2 [.ref om], aZ G om 512 (fun _ => nI 0), oC oe 4 [.long (lN 0), .long (lN 0), .long (lN 0)], oC op 5 [.ref ob, .int (nI 0)], aI G ob 229 (fun _ => nI 0)] H := hP
  have hD : va_D A [oC ox 7 [.ref oc, .ref ot, .ref oo, .ref oe, .ref op, .null, .null, .long (lN 0), .long (lN 0)], oC oc 1 [.ref owd, .long (lN 0), .long (lN 0)], aI G owd 44 (fun _ => nI 0), oC ot 6 [.int (nI 0), .long (lN 0), .long (lN 0)], oC oo 2 [.ref om], aZ G om 512 (fun _ => nI 0), oC oe 4 [.long (lN 0), .long (lN 0), .long (lN 0)], oC op 5 [.ref ob, .int (nI 0)], aI G ob 229 (fun _ => nI 0)] := hD
  refine lv_aload_n hx hb dCK_init_59 rfl (lv_at hl 0 rfl) ?_
  refine lv_iconst (v := nI 4) hx hb dCK_init_60 (by decide) ?_
  refine ck_newH hx hb hts hown hJ hG hA hP hD hS 4 rfl (by decide) ⟨by decide, by decide⟩ dCK_init_61 (fun ocs H hP hD hS => ?_)
  have hP : va_P G.1 vwCl [oC ox 7 [.ref oc, .ref ot, .ref oo, .ref oe, .ref op, .null, .null, .long (lN 0), .long (lN 0)], oC oc 1 [.ref owd, .long (lN 0), .long (lN 0)], aI G owd 44 (fun _ => nI 0), oC ot 6 [.int (nI 0), .long (lN 0), .long (lN 0)], oC oo 2 [.ref om], aZ G om 512 (fun _ => nI 0), oC oe 4 [.long (lN 0), .long (lN 0), .long (lN 0)], oC op 5 [.ref ob, .int (nI 0)], aI G ob 229 (fun _ => nI 0), aH G ocs 4 (fun _ => none)] H := hP
  have hD : va_D A [oC ox 7 [.ref oc, .ref ot, .ref oo, .ref oe, .ref op, .null, .null, .long (lN 0), .long (lN 0)], oC oc 1 [.ref owd, .long (lN 0), .long (lN 0)], aI G owd 44 (fun _ => nI 0), oC ot 6 [.int (nI 0), .long (lN 0), .long (lN 0)], oC oo 2 [.ref om], aZ G om 512 (fun _ => nI 0), oC oe 4 [.long (lN 0), .long (lN 0), .long (lN 0)], oC op 5 [.ref ob, .int (nI 0)], aI G ob 229 (fun _ => nI 0), aH G ocs 4 (fun _ => none)] := hD
  refine W.cs (cells' := 9) (slots' := 801) rfl rfl ?_
  refine fFCK_46 hx hb hts hown hin9 hG hP hD hS 0 rfl rfl rfl (Nat.le_of_ble_eq_true rfl) dCK_init_64 (fun H locs hP hD hS => ?_)
  have hP : va_P G.1 vwCl [oC ox 7 [.ref oc, .ref ot, .ref oo, .ref oe, .ref op, .ref ocs, .null, .long (lN 0), .long (lN 0)], oC oc 1 [.ref owd, .long (lN 0), .long (lN 0)], aI G owd 44 (fun _ => nI 0), oC ot 6 [.int (nI 0), .long (lN 0), .long (lN 0)], oC oo 2 [.ref om], aZ G om 512 (fun _ => nI 0), oC oe 4 [.long (lN 0), .long (lN 0), .long (lN 0)], oC op 5 [.ref ob, .int (nI 0)], aI G ob 229 (fun _ => nI 0), aH G ocs 4 (fun _ => none)] H := hP
  have hD : va_D A [oC ox 7 [.ref oc, .ref ot, .ref oo, .ref oe, .ref op, .ref ocs, .null, .long (lN 0), .long (lN 0)], oC oc 1 [.ref owd, .long (lN 0), .long (lN 0)], aI G owd 44 (fun _ => nI 0), oC ot 6 [.int (nI 0), .long (lN 0), .long (lN 0)], oC oo 2 [.ref om], aZ G om 512 (fun _ => nI 0), oC oe 4 [.long (lN 0), .long (lN 0), .long (lN 0)], oC op 5 [.ref ob, .int (nI 0)], aI G ob 229 (fun _ => nI 0), aH G ocs 4 (fun _ => none)] := hD
  refine lv_aload_n hx hb dCK_init_67 rfl (lv_at hl 0 rfl) ?_
  refine lv_sipush (v := nI 256) hx hb dCK_init_68 (by decide) ?_
  refine ck_newQ hx hb hts hown hJ hG hA hP hD hS 256 rfl (by decide) ⟨by decide, by decide⟩ dCK_init_71 (fun ods H hP hD hS => ?_)
  have hP : va_P G.1 vwCl [oC ox 7 [.ref oc, .ref ot, .ref oo, .ref oe, .ref op, .ref ocs, .null, .long (lN 0), .long (lN 0)], oC oc 1 [.ref owd, .long (lN 0), .long (lN 0)], aI G owd 44 (fun _ => nI 0), oC ot 6 [.int (nI 0), .long (lN 0), .long (lN 0)], oC oo 2 [.ref om], aZ G om 512 (fun _ => nI 0), oC oe 4 [.long (lN 0), .long (lN 0), .long (lN 0)], oC op 5 [.ref ob, .int (nI 0)], aI G ob 229 (fun _ => nI 0), aH G ocs 4 (fun _ => none), aQ G ods 256 (fun _ => none)] H := hP
  have hD : va_D A [oC ox 7 [.ref oc, .ref ot, .ref oo, .ref oe, .ref op, .ref ocs, .null, .long (lN 0), .long (lN 0)], oC oc 1 [.ref owd, .long (lN 0), .long (lN 0)], aI G owd 44 (fun _ => nI 0), oC ot 6 [.int (nI 0), .long (lN 0), .long (lN 0)], oC oo 2 [.ref om], aZ G om 512 (fun _ => nI 0), oC oe 4 [.long (lN 0), .long (lN 0), .long (lN 0)], oC op 5 [.ref ob, .int (nI 0)], aI G ob 229 (fun _ => nI 0), aH G ocs 4 (fun _ => none), aQ G ods 256 (fun _ => none)] := hD
  refine W.cs (cells' := 10) (slots' := 1057) rfl rfl ?_
  refine fFCK_52 hx hb hts hown hin9 hG hP hD hS 0 rfl rfl rfl (Nat.le_of_ble_eq_true rfl) dCK_init_74 (fun H locs hP hD hS => ?_)
  have hP : va_P G.1 vwCl [oC ox 7 [.ref oc, .ref ot, .ref oo, .ref oe, .ref op, .ref ocs, .ref ods, .long (lN 0), .long (lN 0)], oC oc 1 [.ref owd, .long (lN 0), .long (lN 0)], aI G owd 44 (fun _ => nI 0), oC ot 6 [.int (nI 0), .long (lN 0), .long (lN 0)], oC oo 2 [.ref om], aZ G om 512 (fun _ => nI 0), oC oe 4 [.long (lN 0), .long (lN 0), .long (lN 0)], oC op 5 [.ref ob, .int (nI 0)], aI G ob 229 (fun _ => nI 0), aH G ocs 4 (fun _ => none), aQ G ods 256 (fun _ => none)] H := hP
  have hD : va_D A [oC ox 7 [.ref oc, .ref ot, .ref oo, .ref oe, .ref op, .ref ocs, .ref ods, .long (lN 0), .long (lN 0)], oC oc 1 [.ref owd, .long (lN 0), .long (lN 0)], aI G owd 44 (fun _ => nI 0), oC ot 6 [.int (nI 0), .long (lN 0), .long (lN 0)], oC oo 2 [.ref om], aZ G om 512 (fun _ => nI 0), oC oe 4 [.long (lN 0), .long (lN 0), .long (lN 0)], oC op 5 [.ref ob, .int (nI 0)], aI G ob 229 (fun _ => nI 0), aH G ocs 4 (fun _ => none), aQ G ods 256 (fun _ => none)] := hD
  refine lv_iconst (v := nI 0) hx hb dCK_init_77 (by decide) ?_
  refine lv_istore_n (lv' := [(1, .int (nI 0)), (0, .ref ox)]) hx hb dCK_init_78 rfl hl (by decide) rfl (fun ls hl => ?_)
  refine lv_iload_n hx hb dCK_init_79 rfl (lv_at hl 0 rfl) ?_
  refine lv_iconst (v := nI 4) hx hb dCK_init_80 (by decide) ?_
  refine lv_icmp_ge (tgt := 103) hx hb dCK_init_81 rfl (fun h => absurd h (by decide)) (fun _ => ?_)
  refine lv_aload_n hx hb dCK_init_84 rfl (lv_at hl 1 rfl) ?_
  refine gfCK_46 hx hb hts hown hG hP 0 rfl rfl dCK_init_85 ?_
  refine lv_iload_n hx hb dCK_init_88 rfl (lv_at hl 0 rfl) ?_
  refine nwCK_44 hx hb hts hown hG hA hP hD hS ⟨by decide, by decide⟩ dCK_init_89 (fun k0 H hP hD hS => ?_)
  have hP : va_P G.1 vwCl [oC ox 7 [.ref oc, .ref ot, .ref oo, .ref oe, .ref op, .ref ocs, .ref ods, .long (lN 0), .long (lN 0)], oC oc 1 [.ref owd, .long (lN 0), .long (lN 0)], aI G owd 44 (fun _ => nI 0), oC ot 6 [.int (nI 0), .long (lN 0), .long (lN 0)], oC oo 2 [.ref om], aZ G om 512 (fun _ => nI 0), oC oe 4 [.long (lN 0), .long (lN 0), .long (lN 0)], oC op 5 [.ref ob, .int (nI 0)], aI G ob 229 (fun _ => nI 0), aH G ocs 4 (fun _ => none), aQ G ods 256 (fun _ => none), oC k0 0 [.null, .null, .null, .int (nI 0), .int (nI 0), .long (lN 0), .long (lN 0)]] H := hP
  have hD : va_D A [oC ox 7 [.ref oc, .ref ot, .ref oo, .ref oe, .ref op, .ref ocs, .ref ods, .long (lN 0), .long (lN 0)], oC oc 1 [.ref owd, .long (lN 0), .long (lN 0)], aI G owd 44 (fun _ => nI 0), oC ot 6 [.int (nI 0), .long (lN 0), .long (lN 0)], oC oo 2 [.ref om], aZ G om 512 (fun _ => nI 0), oC oe 4 [.long (lN 0), .long (lN 0), .long (lN 0)], oC op 5 [.ref ob, .int (nI 0)], aI G ob 229 (fun _ => nI 0), aH G ocs 4 (fun _ => none), aQ G ods 256 (fun _ => none), oC k0 0 [.null, .null, .null, .int (nI 0), .int (nI 0), .long (lN 0), .long (lN 0)]] := hD
  refine W.cs (cells' := 11) (slots' := 1064) rfl rfl ?_
  refine lv_dup hx hb dCK_init_92 rfl ?_
  refine clCK_56 (rest := [.ref k0, .int (nI 0), .ref ocs]) (wr := [oC ox 7 [.ref oc, .ref ot, .ref oo, .ref oe, .ref op, .ref ocs, .ref ods, .long (lN 0), .long (lN 0)], oC oc 1 [.ref owd, .long (lN 0), .long (lN 0)], aI G owd 44 (fun _ => nI 0), oC ot 6 [.int (nI 0), .long (lN 0), .long (lN 0)], oC oo 2 [.ref om], aZ G om 512 (fun _ => nI 0), oC oe 4 [.long (lN 0), .long (lN 0), .long (lN 0)], oC op 5 [.ref ob, .int (nI 0)], aI G ob 229 (fun _ => nI 0), aH G ocs 4 (fun _ => none), aQ G ods 256 (fun _ => none)]) hx hb hml hown hts (k_Ch_init l G k0) Jk_t trivial hG hA hP hD hS [11] [0, 1, 2, 3, 4, 5, 6, 7, 8, 9, 10] rfl rfl rfl rfl (by decide) hl.1 rfl (Nat.le_of_ble_eq_true rfl) ⟨by decide, by decide⟩ ⟨by decide, by decide⟩ dCK_init_93 (fun v0 H locs _ hP hD hS => ?_)
  have hP : va_P G.1 vwCl [oC ox 7 [.ref oc, .ref ot, .ref oo, .ref oe, .ref op, .ref ocs, .ref ods, .long (lN 0), .long (lN 0)], oC oc 1 [.ref owd, .long (lN 0), .long (lN 0)], aI G owd 44 (fun _ => nI 0), oC ot 6 [.int (nI 0), .long (lN 0), .long (lN 0)], oC oo 2 [.ref om], aZ G om 512 (fun _ => nI 0), oC oe 4 [.long (lN 0), .long (lN 0), .long (lN 0)], oC op 5 [.ref ob, .int (nI 0)], aI G ob 229 (fun _ => nI 0), aH G ocs 4 (fun _ => none), aQ G ods 256 (fun _ => none), oC k0 0 [.ref v0.1, .ref v0.2.1, .ref v0.2.2, .int (nI 0), .int (nI 0), .long (lN 0), .long (lN 0)], aZ G v0.1 256 (fun _ => nI 0), aI G v0.2.1 128 (fun _ => nI 0), aI G v0.2.2 128 (fun _ => nI 0)] H := hP
  have hD : va_D A [oC ox 7 [.ref oc, .ref ot, .ref oo, .ref oe, .ref op, .ref ocs, .ref ods, .long (lN 0), .long (lN 0)], oC oc 1 [.ref owd, .long (lN 0), .long (lN 0)], aI G owd 44 (fun _ => nI 0), oC ot 6 [.int (nI 0), .long (lN 0), .long (lN 0)], oC oo 2 [.ref om], aZ G om 512 (fun _ => nI 0), oC oe 4 [.long (lN 0), .long (lN 0), .long (lN 0)], oC op 5 [.ref ob, .int (nI 0)], aI G ob 229 (fun _ => nI 0), aH G ocs 4 (fun _ => none), aQ G ods 256 (fun _ => none), oC k0 0 [.ref v0.1, .ref v0.2.1, .ref v0.2.2, .int (nI 0), .int (nI 0), .long (lN 0), .long (lN 0)], aZ G v0.1 256 (fun _ => nI 0), aI G v0.2.1 128 (fun _ => nI 0), aI G v0.2.2 128 (fun _ => nI 0)] := hD
  refine W.cs (cells' := 14) (slots' := 1576) rfl rfl ?_
  refine W.eq (g2 := F0 m 96 ls [.ref k0, .int (nI 0), .ref ocs]) rfl ?_
  refine ck_hast hx hb hG hP hD hS 9 11 rfl rfl (by decide) 0 (rfl) (by decide) dCK_init_96 (fun H locs hP hD hS => ?_)
  have hP : va_P G.1 vwCl [oC ox 7 [.ref oc, .ref ot, .ref oo, .ref oe, .ref op, .ref ocs, .ref ods, .long (lN 0), .long (lN 0)], oC oc 1 [.ref owd, .long (lN 0), .long (lN 0)], aI G owd 44 (fun _ => nI 0), oC ot 6 [.int (nI 0), .long (lN 0), .long (lN 0)], oC oo 2 [.ref om], aZ G om 512 (fun _ => nI 0), oC oe 4 [.long (lN 0), .long (lN 0), .long (lN 0)], oC op 5 [.ref ob, .int (nI 0)], aI G ob 229 (fun _ => nI 0), aH G ocs 4 (va_up (fun _ => none) 0 (some k0)), aQ G ods 256 (fun _ => none), oC k0 0 [.ref v0.1, .ref v0.2.1, .ref v0.2.2, .int (nI 0), .int (nI 0), .long (lN 0), .long (lN 0)], aZ G v0.1 256 (fun _ => nI 0), aI G v0.2.1 128 (fun _ => nI 0), aI G v0.2.2 128 (fun _ => nI 0)] H := hP
  have hD : va_D A [oC ox 7 [.ref oc, .ref ot, .ref oo, .ref oe, .ref op, .ref ocs, .ref ods, .long (lN 0), .long (lN 0)], oC oc 1 [.ref owd, .long (lN 0), .long (lN 0)], aI G owd 44 (fun _ => nI 0), oC ot 6 [.int (nI 0), .long (lN 0), .long (lN 0)], oC oo 2 [.ref om], aZ G om 512 (fun _ => nI 0), oC oe 4 [.long (lN 0), .long (lN 0), .long (lN 0)], oC op 5 [.ref ob, .int (nI 0)], aI G ob 229 (fun _ => nI 0), aH G ocs 4 (va_up (fun _ => none) 0 (some k0)), aQ G ods 256 (fun _ => none), oC k0 0 [.ref v0.1, .ref v0.2.1, .ref v0.2.2, .int (nI 0), .int (nI 0), .long (lN 0), .long (lN 0)], aZ G v0.1 256 (fun _ => nI 0), aI G v0.2.1 128 (fun _ => nI 0), aI G v0.2.2 128 (fun _ => nI 0)] := hD
  refine lv_iinc (v := nI 1) (lv' := [(1, .int (nI 1)), (0, .ref ox)]) hx hb dCK_init_97 hl (k := 0) rfl (by decide) (by decide) rfl (fun ls hl => ?_)
  refine lv_goto (tgt := 79) hx hb dCK_init_100 rfl ?_
  refine lv_iload_n hx hb dCK_init_79 rfl (lv_at hl 0 rfl) ?_
  refine lv_iconst (v := nI 4) hx hb dCK_init_80 (by decide) ?_
  refine lv_icmp_ge (tgt := 103) hx hb dCK_init_81 rfl (fun h => absurd h (by decide)) (fun _ => ?_)
  refine lv_aload_n hx hb dCK_init_84 rfl (lv_at hl 1 rfl) ?_
  refine gfCK_46 hx hb hts hown hG hP 0 rfl rfl dCK_init_85 ?_
  refine lv_iload_n hx hb dCK_init_88 rfl (lv_at hl 0 rfl) ?_
  refine nwCK_44 hx hb hts hown hG hA hP hD hS ⟨by decide, by decide⟩ dCK_init_89 (fun k1 H hP hD hS => ?_)
  have hP : va_P G.1 vwCl [oC ox 7 [.ref oc, .ref ot, .ref oo, .ref oe, .ref op, .ref ocs, .ref ods, .long (lN 0), .long (lN 0)], oC oc 1 [.ref owd, .long (lN 0), .long (lN 0)], aI G owd 44 (fun _ => nI 0), oC ot 6 [.int (nI 0), .long (lN 0), .long (lN 0)], oC oo 2 [.ref om], aZ G om 512 (fun _ => nI 0), oC oe 4 [.long (lN 0), .long (lN 0), .long (lN 0)], oC op 5 [.ref ob, .int (nI 0)], aI G ob 229 (fun _ => nI 0), aH G ocs 4 (va_up (fun _ => none) 0 (some k0)), aQ G ods 256 (fun _ => none), oC k0 0 [.ref v0.1, .ref v0.2.1, .ref v0.2.2, .int (nI 0), .int (nI 0), .long (lN 0), .long (lN 0)], aZ G v0.1 256 (fun _ => nI 0), aI G v0.2.1 128 (fun _ => nI 0), aI G v0.2.2 128 (fun _ => nI 0), oC k1 0 [.null, .null, .null, .int (nI 0), .int (nI 0), .long (lN 0), .long (lN 0)]] H := hP
  have hD : va_D A [oC ox 7 [.ref oc, .ref ot, .ref oo, .ref oe, .ref op, .ref ocs, .ref ods, .long (lN 0), .long (lN 0)], oC oc 1 [.ref owd, .long (lN 0), .long (lN 0)], aI G owd 44 (fun _ => nI 0), oC ot 6 [.int (nI 0), .long (lN 0), .long (lN 0)], oC oo 2 [.ref om], aZ G om 512 (fun _ => nI 0), oC oe 4 [.long (lN 0), .long (lN 0), .long (lN 0)], oC op 5 [.ref ob, .int (nI 0)], aI G ob 229 (fun _ => nI 0), aH G ocs 4 (va_up (fun _ => none) 0 (some k0)), aQ G ods 256 (fun _ => none), oC k0 0 [.ref v0.1, .ref v0.2.1, .ref v0.2.2, .int (nI 0), .int (nI 0), .long (lN 0), .long (lN 0)], aZ G v0.1 256 (fun _ => nI 0), aI G v0.2.1 128 (fun _ => nI 0), aI G v0.2.2 128 (fun _ => nI 0), oC k1 0 [.null, .null, .null, .int (nI 0), .int (nI 0), .long (lN 0), .long (lN 0)]] := hD
  refine W.cs (cells' := 15) (slots' := 1583) rfl rfl ?_
  refine lv_dup hx hb dCK_init_92 rfl ?_
  refine clCK_56 (rest := [.ref k1, .int (nI 1), .ref ocs]) (wr := [oC ox 7 [.ref oc, .ref ot, .ref oo, .ref oe, .ref op, .ref ocs, .ref ods, .long (lN 0), .long (lN 0)], oC oc 1 [.ref owd, .long (lN 0), .long (lN 0)], aI G owd 44 (fun _ => nI 0), oC ot 6 [.int (nI 0), .long (lN 0), .long (lN 0)], oC oo 2 [.ref om], aZ G om 512 (fun _ => nI 0), oC oe 4 [.long (lN 0), .long (lN 0), .long (lN 0)], oC op 5 [.ref ob, .int (nI 0)], aI G ob 229 (fun _ => nI 0), aH G ocs 4 (va_up (fun _ => none) 0 (some k0)), aQ G ods 256 (fun _ => none), oC k0 0 [.ref v0.1, .ref v0.2.1, .ref v0.2.2, .int (nI 0), .int (nI 0), .long (lN 0), .long (lN 0)], aZ G v0.1 256 (fun _ => nI 0), aI G v0.2.1 128 (fun _ => nI 0), aI G v0.2.2 128 (fun _ => nI 0)]) hx hb hml hown hts (k_Ch_init l G k1) Jk_t trivial hG hA hP hD hS [15] [0, 1, 2, 3, 4, 5, 6, 7, 8, 9, 10, 11, 12, 13, 14] rfl rfl rfl rfl (by decide) hl.1 rfl (Nat.le_of_ble_eq_true rfl) ⟨by decide, by decide⟩ ⟨by decide, by decide⟩ dCK_init_93 (fun v1 H locs _ hP hD hS => ?_)
  have hP : va_P G.1 vwCl [oC ox 7 [.ref oc, .ref ot, .ref oo, .ref oe, .ref op, .ref ocs, .ref ods, .long (lN 0), .long (lN 0)], oC oc 1 [.ref owd, .long (lN 0), .long (lN 0)], aI G owd 44 (fun _ => nI 0), oC ot 6 [.int (nI 0), .long (lN 0), .long (lN 0)], oC oo 2 [.ref om], aZ G om 512 (fun _ => nI 0), oC oe 4 [.long (lN 0), .long (lN 0), .long (lN 0)], oC op 5 [.ref ob, .int (nI 0)], aI G ob 229 (fun _ => nI 0), aH G ocs 4 (va_up (fun _ => none) 0 (some k0)), aQ G ods 256 (fun _ => none), oC k0 0 [.ref v0.1, .ref v0.2.1, .ref v0.2.2, .int (nI 0), .int (nI 0), .long (lN 0), .long (lN 0)], aZ G v0.1 256 (fun _ => nI 0), aI G v0.2.1 128 (fun _ => nI 0), aI G v0.2.2 128 (fun _ => nI 0), oC k1 0 [.ref v1.1, .ref v1.2.1, .ref v1.2.2, .int (nI 0), .int (nI 0), .long (lN 0), .long (lN 0)], aZ G v1.1 256 (fun _ => nI 0), aI G v1.2.1 128 (fun _ => nI 0), aI G v1.2.2 128 (fun _ => nI 0)] H := hP
  have hD : va_D A [oC ox 7 [.ref oc, .ref ot, .ref oo, .ref oe, .ref op, .ref ocs, .ref ods, .long (lN 0), .long (lN 0)], oC oc 1 [.ref owd, .long (lN 0), .long (lN 0)], aI G owd 44 (fun _ => nI 0), oC ot 6 [.int (nI 0), .long (lN 0), .long (lN 0)], oC oo 2 [.ref om], aZ G om 512 (fun _ => nI 0), oC oe 4 [.long (lN 0), .long (lN 0), .long (lN 0)], oC op 5 [.ref ob, .int (nI 0)], aI G ob 229 (fun _ => nI 0), aH G ocs 4 (va_up (fun _ => none) 0 (some k0)), aQ G ods 256 (fun _ => none), oC k0 0 [.ref v0.1, .ref v0.2.1, .ref v0.2.2, .int (nI 0), .int (nI 0), .long (lN 0), .long (lN 0)], aZ G v0.1 256 (fun _ => nI 0), aI G v0.2.1 128 (fun _ => nI 0), aI G v0.2.2 128 (fun _ => nI 0), oC k1 0 [.ref v1.1, .ref v1.2.1, .ref v1.2.2, .int (nI 0), .int (nI 0), .long (lN 0), .long (lN 0)], aZ G v1.1 256 (fun _ => nI 0), aI G v1.2.1 128 (fun _ => nI 0), aI G v1.2.2 128 (fun _ => nI 0)] := hD
  refine W.cs (cells' := 18) (slots' := 2095) rfl rfl ?_
  refine W.eq (g2 := F0 m 96 ls [.ref k1, .int (nI 1), .ref ocs]) rfl ?_
  refine ck_hast hx hb hG hP hD hS 9 15 rfl rfl (by decide) 1 (rfl) (by decide) dCK_init_96 (fun H locs hP hD hS => ?_)
  have hP : va_P G.1 vwCl [oC ox 7 [.ref oc, .ref ot, .ref oo, .ref oe, .ref op, .ref ocs, .ref ods, .long (lN 0), .long (lN 0)], oC oc 1 [.ref owd, .long (lN 0), .long (lN 0)], aI G owd 44 (fun _ => nI 0), oC ot 6 [.int (nI 0), .long (lN 0), .long (lN 0)], oC oo 2 [.ref om], aZ G om 512 (fun _ => nI 0), oC oe 4 [.long (lN 0), .long (lN 0), .long (lN 0)], oC op 5 [.ref ob, .int (nI 0)], aI G ob 229 (fun _ => nI 0), aH G ocs 4 (va_up (va_up (fun _ => none) 0 (some k0)) 1 (some k1)), aQ G ods 256 (fun _ => none), oC k0 0 [.ref v0.1, .ref v0.2.1, .ref v0.2.2, .int (nI 0), .int (nI 0), .long (lN 0), .long (lN 0)], aZ G v0.1 256 (fun _ => nI 0), aI G v0.2.1 128 (fun _ => nI 0), aI G v0.2.2 128 (fun _ => nI 0), oC k1 0 [.ref v1.1, .ref v1.2.1, .ref v1.2.2, .int (nI 0), .int (nI 0), .long (lN 0), .long (lN 0)], aZ G v1.1 256 (fun _ => nI 0), aI G v1.2.1 128 (fun _ => nI 0), aI G v1.2.2 128 (fun _ => nI 0)] H := hP
  have hD : va_D A [oC ox 7 [.ref oc, .ref ot, .ref oo, .ref oe, .ref op, .ref ocs, .ref ods, .long (lN 0), .long (lN 0)], oC oc 1 [.ref owd, .long (lN 0), .long (lN 0)], aI G owd 44 (fun _ => nI 0), oC ot 6 [.int (nI 0), .long (lN 0), .long (lN 0)], oC oo 2 [.ref om], aZ G om 512 (fun _ => nI 0), oC oe 4 [.long (lN 0), .long (lN 0), .long (lN 0)], oC op 5 [.ref ob, .int (nI 0)], aI G ob 229 (fun _ => nI 0), aH G ocs 4 (va_up (va_up (fun _ => none) 0 (some k0)) 1 (some k1)), aQ G ods 256 (fun _ => none), oC k0 0 [.ref v0.1, .ref v0.2.1, .ref v0.2.2, .int (nI 0), .int (nI 0), .long (lN 0), .long (lN 0)], aZ G v0.1 256 (fun _ => nI 0), aI G v0.2.1 128 (fun _ => nI 0), aI G v0.2.2 128 (fun _ => nI 0), oC k1 0 [.ref v1.1, .ref v1.2.1, .ref v1.2.2, .int (nI 0), .int (nI 0), .long (lN 0), .long (lN 0)], aZ G v1.1 256 (fun _ => nI 0), aI G v1.2.1 128 (fun _ => nI 0), aI G v1.2.2 128 (fun _ => nI 0)] := hD
  refine lv_iinc (v := nI 2) (lv' := [(1, .int (nI 2)), (0, .ref ox)]) hx hb dCK_init_97 hl (k := 0) rfl (by decide) (by decide) rfl (fun ls hl => ?_)
  refine lv_goto (tgt := 79) hx hb dCK_init_100 rfl ?_
  refine lv_iload_n hx hb dCK_init_79 rfl (lv_at hl 0 rfl) ?_
  refine lv_iconst (v := nI 4) hx hb dCK_init_80 (by decide) ?_
  refine lv_icmp_ge (tgt := 103) hx hb dCK_init_81 rfl (fun h => absurd h (by decide)) (fun _ => ?_)
  refine lv_aload_n hx hb dCK_init_84 rfl (lv_at hl 1 rfl) ?_
  refine gfCK_46 hx hb hts hown hG hP 0 rfl rfl dCK_init_85 ?_
  refine lv_iload_n hx hb dCK_init_88 rfl (lv_at hl 0 rfl) ?_
  refine nwCK_44 hx hb hts hown hG hA hP hD hS ⟨by decide, by decide⟩ dCK_init_89 (fun k2 H hP hD hS => ?_)
  have hP : va_P G.1 vwCl [oC ox 7 [.ref oc, .ref ot, .ref oo, .ref oe, .ref op, .ref ocs, .ref ods, .long (lN 0), .long (lN 0)], oC oc 1 [.ref owd, .long (lN 0), .long (lN 0)], aI G owd 44 (fun _ => nI 0), oC ot 6 [.int (nI 0), .long (lN 0), .long (lN 0)], oC oo 2 [.ref om], aZ G om 512 (fun _ => nI 0), oC oe 4 [.long (lN 0), .long (lN 0), .long (lN 0)], oC op 5 [.ref ob, .int (nI 0)], aI G ob 229 (fun _ => nI 0), aH G ocs 4 (va_up (va_up (fun _ => none) 0 (some k0)) 1 (some k1)), aQ G ods 256 (fun _ => none), oC k0 0 [.ref v0.1, .ref v0.2.1, .ref v0.2.2, .int (nI 0), .int (nI 0), .long (lN 0), .long (lN 0)], aZ G v0.1 256 (fun _ => nI 0), aI G v0.2.1 128 (fun _ => nI 0), aI G v0.2.2 128 (fun _ => nI 0), oC k1 0 [.ref v1.1, .ref v1.2.1, .ref v1.2.2, .int (nI 0), .int (nI 0), .long (lN 0), .long (lN 0)], aZ G v1.1 256 (fun _ => nI 0), aI G v1.2.1 128 (fun _ => nI 0), aI G v1.2.2 128 (fun _ => nI 0), oC k2 0 [.null, .null, .null, .int (nI 0), .int (nI 0), .long (lN 0), .long (lN 0)]] H := hP
  have hD : va_D A [oC ox 7 [.ref oc, .ref ot, .ref oo, .ref oe, .ref op, .ref ocs, .ref ods, .long (lN 0), .long (lN 0)], oC oc 1 [.ref owd, .long (lN 0), .long (lN 0)], aI G owd 44 (fun _ => nI 0), oC ot 6 [.int (nI 0), .long (lN 0), .long (lN 0)], oC oo 2 [.ref om], aZ G om 512 (fun _ => nI 0), oC oe 4 [.long (lN 0), .long (lN 0), .long (lN 0)], oC op 5 [.ref ob, .int (nI 0)], aI G ob 229 (fun _ => nI 0), aH G ocs 4 (va_up (va_up (fun _ => none) 0 (some k0)) 1 (some k1)), aQ G ods 256 (fun _ => none), oC k0 0 [.ref v0.1, .ref v0.2.1, .ref v0.2.2, .int (nI 0), .int (nI 0), .long (lN 0), .long (lN 0)], aZ G v0.1 256 (fun _ => nI 0), aI G v0.2.1 128 (fun _ => nI 0), aI G v0.2.2 128 (fun _ => nI 0), oC k1 0 [.ref v1.1, .ref v1.2.1, .ref v1.2.2, .int (nI 0), .int (nI 0), .long (lN 0), .long (lN 0)], aZ G v1.1 256 (fun _ => nI 0), aI G v1.2.1 128 (fun _ => nI 0), aI G v1.2.2 128 (fun _ => nI 0), oC k2 0 [.null, .null, .null, .int (nI 0), .int (nI 0), .long (lN 0), .long (lN 0)]] := hD
  refine W.cs (cells' := 19) (slots' := 2102) rfl rfl ?_
  refine lv_dup hx hb dCK_init_92 rfl ?_
  refine clCK_56 (rest := [.ref k2, .int (nI 2), .ref ocs]) (wr := [oC ox 7 [.ref oc, .ref ot, .ref oo, .ref oe, .ref op, .ref ocs, .ref ods, .long (lN 0), .long (lN 0)], oC oc 1 [.ref owd, .long (lN 0), .long (lN 0)], aI G owd 44 (fun _ => nI 0), oC ot 6 [.int (nI 0), .long (lN 0), .long (lN 0)], oC oo 2 [.ref om], aZ G om 512 (fun _ => nI 0), oC oe 4 [.long (lN 0), .long (lN 0), .long (lN 0)], oC op 5 [.ref ob, .int (nI 0)], aI G ob 229 (fun _ => nI 0), aH G ocs 4 (va_up (va_up (fun _ => none) 0 (some k0)) 1 (some k1)), aQ G ods 256 (fun _ => none), oC k0 0 [.ref v0.1, .ref v0.2.1, .ref v0.2.2, .int (nI 0), .int (nI 0), .long (lN 0), .long (lN 0)], aZ G v0.1 256 (fun _ => nI 0), aI G v0.2.1 128 (fun _ => nI 0), aI G v0.2.2 128 (fun _ => nI 0), oC k1 0 [.ref v1.1, .ref v1.2.1, .ref v1.2.2, .int (nI 0), .int (nI 0), .long (lN 0), .long (lN 0)], aZ G v1.1 256 (fun _ => nI 0), aI G v1.2.1 128 (fun _ => nI 0), aI G v1.2.2 128 (fun _ => nI 0)]) hx hb hml hown hts (k_Ch_init l G k2) Jk_t trivial hG hA hP hD hS [19] [0, 1, 2, 3, 4, 5, 6, 7, 8, 9, 10, 11, 12, 13, 14, 15, 16, 17, 18] rfl rfl rfl rfl (by decide) hl.1 rfl (Nat.le_of_ble_eq_true rfl) ⟨by decide, by decide⟩ ⟨by decide, by decide⟩ dCK_init_93 (fun v2 H locs _ hP hD hS => ?_)
  have hP : va_P G.1 vwCl [oC ox 7 [.ref oc, .ref ot, .ref oo, .ref oe, .ref op, .ref ocs, .ref ods, .long (lN 0), .long (lN 0)], oC oc 1 [.ref owd, .long (lN 0), .long (lN 0)], aI G owd 44 (fun _ => nI 0), oC ot 6 [.int (nI 0), .long (lN 0), .long (lN 0)], oC oo 2 [.ref om], aZ G om 512 (fun _ => nI 0), oC oe 4 [.long (lN 0), .long (lN 0), .long (lN 0)], oC op 5 [.ref ob, .int (nI 0)], aI G ob 229 (fun _ => nI 0), aH G ocs 4 (va_up (va_up (fun _ => none) 0 (some k0)) 1 (some k1)), aQ G ods 256 (fun _ => none), oC k0 0 [.ref v0.1, .ref v0.2.1, .ref v0.2.2, .int (nI 0), .int (nI 0), .long (lN 0), .long (lN 0)], aZ G v0.1 256 (fun _ => nI 0), aI G v0.2.1 128 (fun _ => nI 0), aI G v0.2.2 128 (fun _ => nI 0), oC k1 0 [.ref v1.1, .ref v1.2.1, .ref v1.2.2, .int (nI 0), .int (nI 0), .long (lN 0), .long (lN 0)], aZ G v1.1 256 (fun _ => nI 0), aI G v1.2.1 128 (fun _ => nI 0), aI G v1.2.2 128 (fun _ => nI 0), oC k2 0 [.ref v2.1, .ref v2.2.1, .ref v2.2.2, .int (nI 0), .int (nI 0), .long (lN 0), .long (lN 0)], aZ G v2.1 256 (fun _ => nI 0), aI G v2.2.1 128 (fun _ => nI 0), aI G v2.2.2 128 (fun _ => nI 0)] H := hP
  have hD : va_D A [oC ox 7 [.ref oc, .ref ot, .ref oo, .ref oe, .ref op, .ref ocs, .ref ods, .long (lN 0), .long (lN 0)], oC oc 1 [.ref owd, .long (lN 0), .long (lN 0)], aI G owd 44 (fun _ => nI 0), oC ot 6 [.int (nI 0), .long (lN 0), .long (lN 0)], oC oo 2 [.ref om], aZ G om 512 (fun _ => nI 0), oC oe 4 [.long (lN 0), .long (lN 0), .long (lN 0)], oC op 5 [.ref ob, .int (nI 0)], aI G ob 229 (fun _ => nI 0), aH G ocs 4 (va_up (va_up (fun _ => none) 0 (some k0)) 1 (some k1)), aQ G ods 256 (fun _ => none), oC k0 0 [.ref v0.1, .ref v0.2.1, .ref v0.2.2, .int (nI 0), .int (nI 0), .long (lN 0), .long (lN 0)], aZ G v0.1 256 (fun _ => nI 0), aI G v0.2.1 128 (fun _ => nI 0), aI G v0.2.2 128 (fun _ => nI 0), oC k1 0 [.ref v1.1, .ref v1.2.1, .ref v1.2.2, .int (nI 0), .int (nI 0), .long (lN 0), .long (lN 0)], aZ G v1.1 256 (fun _ => nI 0), aI G v1.2.1 128 (fun _ => nI 0), aI G v1.2.2 128 (fun _ => nI 0), oC k2 0 [.ref v2.1, .ref v2.2.1, .ref v2.2.2, .int (nI 0), .int (nI 0), .long (lN 0), .long (lN 0)], aZ G v2.1 256 (fun _ => nI 0), aI G v2.2.1 128 (fun _ => nI 0), aI G v2.2.2 128 (fun _ => nI 0)] := hD
  refine W.cs (cells' := 22) (slots' := 2614) rfl rfl ?_
  refine W.eq (g2 := F0 m 96 ls [.ref k2, .int (nI 2), .ref ocs]) rfl ?_
  refine ck_hast hx hb hG hP hD hS 9 19 rfl rfl (by decide) 2 (rfl) (by decide) dCK_init_96 (fun H locs hP hD hS => ?_)
  have hP : va_P G.1 vwCl [oC ox 7 [.ref oc, .ref ot, .ref oo, .ref oe, .ref op, .ref ocs, .ref ods, .long (lN 0), .long (lN 0)], oC oc 1 [.ref owd, .long (lN 0), .long (lN 0)], aI G owd 44 (fun _ => nI 0), oC ot 6 [.int (nI 0), .long (lN 0), .long (lN 0)], oC oo 2 [.ref om], aZ G om 512 (fun _ => nI 0), oC oe 4 [.long (lN 0), .long (lN 0), .long (lN 0)], oC op 5 [.ref ob, .int (nI 0)], aI G ob 229 (fun _ => nI 0), aH G ocs 4 (va_up (va_up (va_up (fun _ => none) 0 (some k0)) 1 (some k1)) 2 (some k2)), aQ G ods 256 (fun _ => none), oC k0 0 [.ref v0.1, .ref v0.2.1, .ref v0.2.2, .int (nI 0), .int (nI 0), .long (lN 0), .long (lN 0)], aZ G v0.1 256 (fun _ => nI 0), aI G v0.2.1 128 (fun _ => nI 0), aI G v0.2.2 128 (fun _ => nI 0), oC k1 0 [.ref v1.1, .ref v1.2.1, .ref v1.2.2, .int (nI 0), .int (nI 0), .long (lN 0), .long (lN 0)], aZ G v1.1 256 (fun _ => nI 0), aI G v1.2.1 128 (fun _ => nI 0), aI G v1.2.2 128 (fun _ => nI 0), oC k2 0 [.ref v2.1, .ref v2.2.1, .ref v2.2.2, .int (nI 0), .int (nI 0), .long (lN 0), .long (lN 0)], aZ G v2.1 256 (fun _ => nI 0), aI G v2.2.1 128 (fun _ => nI 0), aI G v2.2.2 128 (fun _ => nI 0)] H := hP
  have hD : va_D A [oC ox 7 [.ref oc, .ref ot, .ref oo, .ref oe, .ref op, .ref ocs, .ref ods, .long (lN 0), .long (lN 0)], oC oc 1 [.ref owd, .long (lN 0), .long (lN 0)], aI G owd 44 (fun _ => nI 0), oC ot 6 [.int (nI 0), .long (lN 0), .long (lN 0)], oC oo 2 [.ref om], aZ G om 512 (fun _ => nI 0), oC oe 4 [.long (lN 0), .long (lN 0), .long (lN 0)], oC op 5 [.ref ob, .int (nI 0)], aI G ob 229 (fun _ => nI 0), aH G ocs 4 (va_up (va_up (va_up (fun _ => none) 0 (some k0)) 1 (some k1)) 2 (some k2)), aQ G ods 256 (fun _ => none), oC k0 0 [.ref v0.1, .ref v0.2.1, .ref v0.2.2, .int (nI 0), .int (nI 0), .long (lN 0), .long (lN 0)], aZ G v0.1 256 (fun _ => nI 0), aI G v0.2.1 128 (fun _ => nI 0), aI G v0.2.2 128 (fun _ => nI 0), oC k1 0 [.ref v1.1, .ref v1.2.1, .ref v1.2.2, .int (nI 0), .int (nI 0), .long (lN 0), .long (lN 0)], aZ G v1.1 256 (fun _ => nI 0), aI G v1.2.1 128 (fun _ => nI 0), aI G v1.2.2 128 (fun _ => nI 0), oC k2 0 [.ref v2.1, .ref v2.2.1, .ref v2.2.2, .int (nI 0), .int (nI 0), .long (lN 0), .long (lN 0)], aZ G v2.1 256 (fun _ => nI 0), aI G v2.2.1 128 (fun _ => nI 0), aI G v2.2.2 128 (fun _ => nI 0)] := hD
  refine lv_iinc (v := nI 3) (lv' := [(1, .int (nI 3)), (0, .ref ox)]) hx hb dCK_init_97 hl (k := 0) rfl (by decide) (by decide) rfl (fun ls hl => ?_)
  refine lv_goto (tgt := 79) hx hb dCK_init_100 rfl ?_
  refine lv_iload_n hx hb dCK_init_79 rfl (lv_at hl 0 rfl) ?_
  refine lv_iconst (v := nI 4) hx hb dCK_init_80 (by decide) ?_
  refine lv_icmp_ge (tgt := 103) hx hb dCK_init_81 rfl (fun h => absurd h (by decide)) (fun _ => ?_)
  refine lv_aload_n hx hb dCK_init_84 rfl (lv_at hl 1 rfl) ?_
  refine gfCK_46 hx hb hts hown hG hP 0 rfl rfl dCK_init_85 ?_
  refine lv_iload_n hx hb dCK_init_88 rfl (lv_at hl 0 rfl) ?_
  refine nwCK_44 hx hb hts hown hG hA hP hD hS ⟨by decide, by decide⟩ dCK_init_89 (fun k3 H hP hD hS => ?_)
  have hP : va_P G.1 vwCl [oC ox 7 [.ref oc, .ref ot, .ref oo, .ref oe, .ref op, .ref ocs, .ref ods, .long (lN 0), .long (lN 0)], oC oc 1 [.ref owd, .long (lN 0), .long (lN 0)], aI G owd 44 (fun _ => nI 0), oC ot 6 [.int (nI 0), .long (lN 0), .long (lN 0)], oC oo 2 [.ref om], aZ G om 512 (fun _ => nI 0), oC oe 4 [.long (lN 0), .long (lN 0), .long (lN 0)], oC op 5 [.ref ob, .int (nI 0)], aI G ob 229 (fun _ => nI 0), aH G ocs 4 (va_up (va_up (va_up (fun _ => none) 0 (some k0)) 1 (some k1)) 2 (some k2)), aQ G ods 256 (fun _ => none), oC k0 0 [.ref v0.1, .ref v0.2.1, .ref v0.2.2, .int (nI 0), .int (nI 0), .long (lN 0), .long (lN 0)], aZ G v0.1 256 (fun _ => nI 0), aI G v0.2.1 128 (fun _ => nI 0), aI G v0.2.2 128 (fun _ => nI 0), oC k1 0 [.ref v1.1, .ref v1.2.1, .ref v1.2.2, .int (nI 0), .int (nI 0), .long (lN 0), .long (lN 0)], aZ G v1.1 256 (fun _ => nI 0), aI G v1.2.1 128 (fun _ => nI 0), aI G v1.2.2 128 (fun _ => nI 0), oC k2 0 [.ref v2.1, .ref v2.2.1, .ref v2.2.2, .int (nI 0), .int (nI 0), .long (lN 0), .long (lN 0)], aZ G v2.1 256 (fun _ => nI 0), aI G v2.2.1 128 (fun _ => nI 0), aI G v2.2.2 128 (fun _ => nI 0), oC k3 0 [.null, .null, .null, .int (nI 0), .int (nI 0), .long (lN 0), .long (lN 0)]] H := hP
  have hD : va_D A [oC ox 7 [.ref oc, .ref ot, .ref oo, .ref oe, .ref op, .ref ocs, .ref ods, .long (lN 0), .long (lN 0)], oC oc 1 [.ref owd, .long (lN 0), .long (lN 0)], aI G owd 44 (fun _ => nI 0), oC ot 6 [.int (nI 0), .long (lN 0), .long (lN 0)], oC oo 2 [.ref om], aZ G om 512 (fun _ => nI 0), oC oe 4 [.long (lN 0), .long (lN 0), .long (lN 0)], oC op 5 [.ref ob, .int (nI 0)], aI G ob 229 (fun _ => nI 0), aH G ocs 4 (va_up (va_up (va_up (fun _ => none) 0 (some k0)) 1 (some k1)) 2 (some k2)), aQ G ods 256 (fun _ => none), oC k0 0 [.ref v0.1, .ref v0.2.1, .ref v0.2.2, .int (nI 0), .int (nI 0), .long (lN 0), .long (lN 0)], aZ G v0.1 256 (fun _ => nI 0), aI G v0.2.1 128 (fun _ => nI 0), aI G v0.2.2 128 (fun _ => nI 0), oC k1 0 [.ref v1.1, .ref v1.2.1, .ref v1.2.2, .int (nI 0), .int (nI 0), .long (lN 0), .long (lN 0)], aZ G v1.1 256 (fun _ => nI 0), aI G v1.2.1 128 (fun _ => nI 0), aI G v1.2.2 128 (fun _ => nI 0), oC k2 0 [.ref v2.1, .ref v2.2.1, .ref v2.2.2, .int (nI 0), .int (nI 0), .long (lN 0), .long (lN 0)], aZ G v2.1 256 (fun _ => nI 0), aI G v2.2.1 128 (fun _ => nI 0), aI G v2.2.2 128 (fun _ => nI 0), oC k3 0 [.null, .null, .null, .int (nI 0), .int (nI 0), .long (lN 0), .long (lN 0)]] := hD
  refine W.cs (cells' := 23) (slots' := 2621) rfl rfl ?_
  refine lv_dup hx hb dCK_init_92 rfl ?_
  refine clCK_56 (rest := [.ref k3, .int (nI 3), .ref ocs]) (wr := [oC ox 7 [.ref oc, .ref ot, .ref oo, .ref oe, .ref op, .ref ocs, .ref ods, .long (lN 0), .long (lN 0)], oC oc 1 [.ref owd, .long (lN 0), .long (lN 0)], aI G owd 44 (fun _ => nI 0), oC ot 6 [.int (nI 0), .long (lN 0), .long (lN 0)], oC oo 2 [.ref om], aZ G om 512 (fun _ => nI 0), oC oe 4 [.long (lN 0), .long (lN 0), .long (lN 0)], oC op 5 [.ref ob, .int (nI 0)], aI G ob 229 (fun _ => nI 0), aH G ocs 4 (va_up (va_up (va_up (fun _ => none) 0 (some k0)) 1 (some k1)) 2 (some k2)), aQ G ods 256 (fun _ => none), oC k0 0 [.ref v0.1, .ref v0.2.1, .ref v0.2.2, .int (nI 0), .int (nI 0), .long (lN 0), .long (lN 0)], aZ G v0.1 256 (fun _ => nI 0), aI G v0.2.1 128 (fun _ => nI 0), aI G v0.2.2 128 (fun _ => nI 0), oC k1 0 [.ref v1.1, .ref v1.2.1, .ref v1.2.2, .int (nI 0), .int (nI 0), .long (lN 0), .long (lN 0)], aZ G v1.1 256 (fun _ => nI 0), aI G v1.2.1 128 (fun _ => nI 0), aI G v1.2.2 128 (fun _ => nI 0), oC k2 0 [.ref v2.1, .ref v2.2.1, .ref v2.2.2, .int (nI 0), .int (nI 0), .long (lN 0), .long (lN 0)], aZ G v2.1 256 (fun _ => nI 0), aI G v2.2.1 128 (fun _ => nI 0), aI G v2.2.2 128 (fun _ => nI 0)]) hx hb hml hown hts (k_Ch_init l G k3) Jk_t trivial hG hA hP hD hS [23] [0, 1, 2, 3, 4, 5, 6, 7, 8, 9, 10, 11, 12, 13, 14, 15, 16, 17, 18, 19, 20, 21, 22] rfl rfl rfl rfl (by decide) hl.1 rfl (Nat.le_of_ble_eq_true rfl) ⟨by decide, by decide⟩ ⟨by decide, by decide⟩ dCK_init_93 (fun v3 H locs _ hP hD hS => ?_)
  have hP : va_P G.1 vwCl [oC ox 7 [.ref oc, .ref ot, .ref oo, .ref oe, .ref op, .ref ocs, .ref ods, .long (lN 0), .long (lN 0)], oC oc 1 [.ref owd, .long (lN 0), .long (lN 0)], aI G owd 44 (fun _ => nI 0), oC ot 6 [.int (nI 0), .long (lN 0), .long (lN 0)], oC oo 2 [.ref om], aZ G om 512 (fun _ => nI 0), oC oe 4 [.long (lN 0), .long (lN 0), .long (lN 0)], oC op 5 [.ref ob, .int (nI 0)], aI G ob 229 (fun _ => nI 0), aH G ocs 4 (va_up (va_up (va_up (fun _ => none) 0 (some k0)) 1 (some k1)) 2 (some k2)), aQ G ods 256 (fun _ => none), oC k0 0 [.ref v0.1, .ref v0.2.1, .ref v0.2.2, .int (nI 0), .int (nI 0), .long (lN 0), .long (lN 0)], aZ G v0.1 256 (fun _ => nI 0), aI G v0.2.1 128 (fun _ => nI 0), aI G v0.2.2 128 (fun _ => nI 0), oC k1 0 [.ref v1.1, .ref v1.2.1, .ref v1.2.2, .int (nI 0), .int (nI 0), .long (lN 0), .long (lN 0)], aZ G v1.1 256 (fun _ => nI 0), aI G v1.2.1 128 (fun _ => nI 0), aI G v1.2.2 128 (fun _ => nI 0), oC k2 0 [.ref v2.1, .ref v2.2.1, .ref v2.2.2, .int (nI 0), .int (nI 0), .long (lN 0), .long (lN 0)], aZ G v2.1 256 (fun _ => nI 0), aI G v2.2.1 128 (fun _ => nI 0), aI G v2.2.2 128 (fun _ => nI 0), oC k3 0 [.ref v3.1, .ref v3.2.1, .ref v3.2.2, .int (nI 0), .int (nI 0), .long (lN 0), .long (lN 0)], aZ G v3.1 256 (fun _ => nI 0), aI G v3.2.1 128 (fun _ => nI 0), aI G v3.2.2 128 (fun _ => nI 0)] H := hP
  have hD : va_D A [oC ox 7 [.ref oc, .ref ot, .ref oo, .ref oe, .ref op, .ref ocs, .ref ods, .long (lN 0), .long (lN 0)], oC oc 1 [.ref owd, .long (lN 0), .long (lN 0)], aI G owd 44 (fun _ => nI 0), oC ot 6 [.int (nI 0), .long (lN 0), .long (lN 0)], oC oo 2 [.ref om], aZ G om 512 (fun _ => nI 0), oC oe 4 [.long (lN 0), .long (lN 0), .long (lN 0)], oC op 5 [.ref ob, .int (nI 0)], aI G ob 229 (fun _ => nI 0), aH G ocs 4 (va_up (va_up (va_up (fun _ => none) 0 (some k0)) 1 (some k1)) 2 (some k2)), aQ G ods 256 (fun _ => none), oC k0 0 [.ref v0.1, .ref v0.2.1, .ref v0.2.2, .int (nI 0), .int (nI 0), .long (lN 0), .long (lN 0)], aZ G v0.1 256 (fun _ => nI 0), aI G v0.2.1 128 (fun _ => nI 0), aI G v0.2.2 128 (fun _ => nI 0), oC k1 0 [.ref v1.1, .ref v1.2.1, .ref v1.2.2, .int (nI 0), .int (nI 0), .long (lN 0), .long (lN 0)], aZ G v1.1 256 (fun _ => nI 0), aI G v1.2.1 128 (fun _ => nI 0), aI G v1.2.2 128 (fun _ => nI 0), oC k2 0 [.ref v2.1, .ref v2.2.1, .ref v2.2.2, .int (nI 0), .int (nI 0), .long (lN 0), .long (lN 0)], aZ G v2.1 256 (fun _ => nI 0), aI G v2.2.1 128 (fun _ => nI 0), aI G v2.2.2 128 (fun _ => nI 0), oC k3 0 [.ref v3.1, .ref v3.2.1, .ref v3.2.2, .int (nI 0), .int (nI 0), .long (lN 0), .long (lN 0)], aZ G v3.1 256 (fun _ => nI 0), aI G v3.2.1 128 (fun _ => nI 0), aI G v3.2.2 128 (fun _ => nI 0)] := hD
  refine W.cs (cells' := 26) (slots' := 3133) rfl rfl ?_
  refine W.eq (g2 := F0 m 96 ls [.ref k3, .int (nI 3), .ref ocs]) rfl ?_
  refine ck_hast hx hb hG hP hD hS 9 23 rfl rfl (by decide) 3 (rfl) (by decide) dCK_init_96 (fun H locs hP hD hS => ?_)
  have hP : va_P G.1 vwCl [oC ox 7 [.ref oc, .ref ot, .ref oo, .ref oe, .ref op, .ref ocs, .ref ods, .long (lN 0), .long (lN 0)], oC oc 1 [.ref owd, .long (lN 0), .long (lN 0)], aI G owd 44 (fun _ => nI 0), oC ot 6 [.int (nI 0), .long (lN 0), .long (lN 0)], oC oo 2 [.ref om], aZ G om 512 (fun _ => nI 0), oC oe 4 [.long (lN 0), .long (lN 0), .long (lN 0)], oC op 5 [.ref ob, .int (nI 0)], aI G ob 229 (fun _ => nI 0), aH G ocs 4 (va_up (va_up (va_up (va_up (fun _ => none) 0 (some k0)) 1 (some k1)) 2 (some k2)) 3 (some k3)), aQ G ods 256 (fun _ => none), oC k0 0 [.ref v0.1, .ref v0.2.1, .ref v0.2.2, .int (nI 0), .int (nI 0), .long (lN 0), .long (lN 0)], aZ G v0.1 256 (fun _ => nI 0), aI G v0.2.1 128 (fun _ => nI 0), aI G v0.2.2 128 (fun _ => nI 0), oC k1 0 [.ref v1.1, .ref v1.2.1, .ref v1.2.2, .int (nI 0), .int (nI 0), .long (lN 0), .long (lN 0)], aZ G v1.1 256 (fun _ => nI 0), aI G v1.2.1 128 (fun _ => nI 0), aI G v1.2.2 128 (fun _ => nI 0), oC k2 0 [.ref v2.1, .ref v2.2.1, .ref v2.2.2, .int (nI 0), .int (nI 0), .long (lN 0), .long (lN 0)], aZ G v2.1 256 (fun _ => nI 0), aI G v2.2.1 128 (fun _ => nI 0), aI G v2.2.2 128 (fun _ => nI 0), oC k3 0 [.ref v3.1, .ref v3.2.1, .ref v3.2.2, .int (nI 0), .int (nI 0), .long (lN 0), .long (lN 0)], aZ G v3.1 256 (fun _ => nI 0), aI G v3.2.1 128 (fun _ => nI 0), aI G v3.2.2 128 (fun _ => nI 0)] H := hP
  have hD : va_D A [oC ox 7 [.ref oc, .ref ot, .ref oo, .ref oe, .ref op, .ref ocs, .ref ods, .long (lN 0), .long (lN 0)], oC oc 1 [.ref owd, .long (lN 0), .long (lN 0)], aI G owd 44 (fun _ => nI 0), oC ot 6 [.int (nI 0), .long (lN 0), .long (lN 0)], oC oo 2 [.ref om], aZ G om 512 (fun _ => nI 0), oC oe 4 [.long (lN 0), .long (lN 0), .long (lN 0)], oC op 5 [.ref ob, .int (nI 0)], aI G ob 229 (fun _ => nI 0), aH G ocs 4 (va_up (va_up (va_up (va_up (fun _ => none) 0 (some k0)) 1 (some k1)) 2 (some k2)) 3 (some k3)), aQ G ods 256 (fun _ => none), oC k0 0 [.ref v0.1, .ref v0.2.1, .ref v0.2.2, .int (nI 0), .int (nI 0), .long (lN 0), .long (lN 0)], aZ G v0.1 256 (fun _ => nI 0), aI G v0.2.1 128 (fun _ => nI 0), aI G v0.2.2 128 (fun _ => nI 0), oC k1 0 [.ref v1.1, .ref v1.2.1, .ref v1.2.2, .int (nI 0), .int (nI 0), .long (lN 0), .long (lN 0)], aZ G v1.1 256 (fun _ => nI 0), aI G v1.2.1 128 (fun _ => nI 0), aI G v1.2.2 128 (fun _ => nI 0), oC k2 0 [.ref v2.1, .ref v2.2.1, .ref v2.2.2, .int (nI 0), .int (nI 0), .long (lN 0), .long (lN 0)], aZ G v2.1 256 (fun _ => nI 0), aI G v2.2.1 128 (fun _ => nI 0), aI G v2.2.2 128 (fun _ => nI 0), oC k3 0 [.ref v3.1, .ref v3.2.1, .ref v3.2.2, .int (nI 0), .int (nI 0), .long (lN 0), .long (lN 0)], aZ G v3.1 256 (fun _ => nI 0), aI G v3.2.1 128 (fun _ => nI 0), aI G v3.2.2 128 (fun _ => nI 0)] := hD
  refine lv_iinc (v := nI 4) (lv' := [(1, .int (nI 4)), (0, .ref ox)]) hx hb dCK_init_97 hl (k := 0) rfl (by decide) (by decide) rfl (fun ls hl => ?_)
  refine lv_goto (tgt := 79) hx hb dCK_init_100 rfl ?_
  refine lv_iload_n hx hb dCK_init_79 rfl (lv_at hl 0 rfl) ?_
  refine lv_iconst (v := nI 4) hx hb dCK_init_80 (by decide) ?_
  refine lv_icmp_ge (tgt := 103) hx hb dCK_init_81 rfl (fun _ => ?_) (fun h => absurd (by decide) h)
  refine lv_aload_n hx hb dCK_init_103 rfl (lv_at hl 1 rfl) ?_
  refine gfCK_19 hx hb hts hown hG hP 0 rfl rfl dCK_init_104 ?_
  refine lv_iconst (v := nI 4) hx hb dCK_init_107 (by decide) ?_
  refine lv_lconst (v := lN 0) hx hb dCK_init_108 (by decide) ?_
  refine lv_lconst (v := lN 0) hx hb dCK_init_109 (by decide) ?_
  refine clCK_57 (As := [.int (nI 4), .long (lN 0), .long (lN 0)]) (rest := []) hx hb hml hown hts (k_Tr_plant l G ot (nI 0) (nI 4) (lN 0) (lN 0) (lN 0) (lN 0)) hG hA hP hD hS 3 rfl [3] rfl rfl (fun _ => rfl) rfl hl.1 rfl (Nat.le_of_ble_eq_true rfl) ⟨by decide, by decide⟩ ⟨by decide, by decide⟩ dCK_init_110 (fun _ H locs _ hP hD hS => ?_)
  have hP : va_P G.1 vwCl [oC ox 7 [.ref oc, .ref ot, .ref oo, .ref oe, .ref op, .ref ocs, .ref ods, .long (lN 0), .long (lN 0)], oC oc 1 [.ref owd, .long (lN 0), .long (lN 0)], aI G owd 44 (fun _ => nI 0), oC ot 6 [.int (nI 4), .long (lN 0), .long (lN 0)], oC oo 2 [.ref om], aZ G om 512 (fun _ => nI 0), oC oe 4 [.long (lN 0), .long (lN 0), .long (lN 0)], oC op 5 [.ref ob, .int (nI 0)], aI G ob 229 (fun _ => nI 0), aH G ocs 4 (va_up (va_up (va_up (va_up (fun _ => none) 0 (some k0)) 1 (some k1)) 2 (some k2)) 3 (some k3)), aQ G ods 256 (fun _ => none), oC k0 0 [.ref v0.1, .ref v0.2.1, .ref v0.2.2, .int (nI 0), .int (nI 0), .long (lN 0), .long (lN 0)], aZ G v0.1 256 (fun _ => nI 0), aI G v0.2.1 128 (fun _ => nI 0), aI G v0.2.2 128 (fun _ => nI 0), oC k1 0 [.ref v1.1, .ref v1.2.1, .ref v1.2.2, .int (nI 0), .int (nI 0), .long (lN 0), .long (lN 0)], aZ G v1.1 256 (fun _ => nI 0), aI G v1.2.1 128 (fun _ => nI 0), aI G v1.2.2 128 (fun _ => nI 0), oC k2 0 [.ref v2.1, .ref v2.2.1, .ref v2.2.2, .int (nI 0), .int (nI 0), .long (lN 0), .long (lN 0)], aZ G v2.1 256 (fun _ => nI 0), aI G v2.2.1 128 (fun _ => nI 0), aI G v2.2.2 128 (fun _ => nI 0), oC k3 0 [.ref v3.1, .ref v3.2.1, .ref v3.2.2, .int (nI 0), .int (nI 0), .long (lN 0), .long (lN 0)], aZ G v3.1 256 (fun _ => nI 0), aI G v3.2.1 128 (fun _ => nI 0), aI G v3.2.2 128 (fun _ => nI 0)] H := hP
  have hD : va_D A [oC ox 7 [.ref oc, .ref ot, .ref oo, .ref oe, .ref op, .ref ocs, .ref ods, .long (lN 0), .long (lN 0)], oC oc 1 [.ref owd, .long (lN 0), .long (lN 0)], aI G owd 44 (fun _ => nI 0), oC ot 6 [.int (nI 4), .long (lN 0), .long (lN 0)], oC oo 2 [.ref om], aZ G om 512 (fun _ => nI 0), oC oe 4 [.long (lN 0), .long (lN 0), .long (lN 0)], oC op 5 [.ref ob, .int (nI 0)], aI G ob 229 (fun _ => nI 0), aH G ocs 4 (va_up (va_up (va_up (va_up (fun _ => none) 0 (some k0)) 1 (some k1)) 2 (some k2)) 3 (some k3)), aQ G ods 256 (fun _ => none), oC k0 0 [.ref v0.1, .ref v0.2.1, .ref v0.2.2, .int (nI 0), .int (nI 0), .long (lN 0), .long (lN 0)], aZ G v0.1 256 (fun _ => nI 0), aI G v0.2.1 128 (fun _ => nI 0), aI G v0.2.2 128 (fun _ => nI 0), oC k1 0 [.ref v1.1, .ref v1.2.1, .ref v1.2.2, .int (nI 0), .int (nI 0), .long (lN 0), .long (lN 0)], aZ G v1.1 256 (fun _ => nI 0), aI G v1.2.1 128 (fun _ => nI 0), aI G v1.2.2 128 (fun _ => nI 0), oC k2 0 [.ref v2.1, .ref v2.2.1, .ref v2.2.2, .int (nI 0), .int (nI 0), .long (lN 0), .long (lN 0)], aZ G v2.1 256 (fun _ => nI 0), aI G v2.2.1 128 (fun _ => nI 0), aI G v2.2.2 128 (fun _ => nI 0), oC k3 0 [.ref v3.1, .ref v3.2.1, .ref v3.2.2, .int (nI 0), .int (nI 0), .long (lN 0), .long (lN 0)], aZ G v3.1 256 (fun _ => nI 0), aI G v3.2.1 128 (fun _ => nI 0), aI G v3.2.2 128 (fun _ => nI 0)] := hD
  refine W.cs (cells' := 26) (slots' := 3133) rfl rfl ?_
  refine W.eq (g2 := F0 m 113 ls []) rfl ?_
  have hP := ck_cgQ hP 9 rfl (g := fun j => some (List.getD [oc, owd, ot, oo, om, oe, op, ob, ocs, ods, k0, v0.1, v0.2.1, v0.2.2, k1, v1.1, v1.2.1, v1.2.2, k2, v2.1, v2.2.1, v2.2.2, k3, v3.1, v3.2.1, v3.2.2] (10 + 4 * j) 0)) (fun j hj => by
    by_cases h0 : j = 0
    · subst h0; rfl
    by_cases h1 : j = 1
    · subst h1; rfl
    by_cases h2 : j = 2
    · subst h2; rfl
    by_cases h3 : j = 3
    · subst h3; rfl
    omega)
  have hP : va_P G.1 vwCl [oC ox 7 [.ref oc, .ref ot, .ref oo, .ref oe, .ref op, .ref ocs, .ref ods, .long (lN 0), .long (lN 0)], oC oc 1 [.ref owd, .long (lN 0), .long (lN 0)], aI G owd 44 (fun _ => nI 0), oC ot 6 [.int (nI 4), .long (lN 0), .long (lN 0)], oC oo 2 [.ref om], aZ G om 512 (fun _ => nI 0), oC oe 4 [.long (lN 0), .long (lN 0), .long (lN 0)], oC op 5 [.ref ob, .int (nI 0)], aI G ob 229 (fun _ => nI 0), aH G ocs 4 (fun j => some (List.getD [oc, owd, ot, oo, om, oe, op, ob, ocs, ods, k0, v0.1, v0.2.1, v0.2.2, k1, v1.1, v1.2.1, v1.2.2, k2, v2.1, v2.2.1, v2.2.2, k3, v3.1, v3.2.1, v3.2.2] (10 + 4 * j) 0)), aQ G ods 256 (fun _ => none), oC k0 0 [.ref v0.1, .ref v0.2.1, .ref v0.2.2, .int (nI 0), .int (nI 0), .long (lN 0), .long (lN 0)], aZ G v0.1 256 (fun _ => nI 0), aI G v0.2.1 128 (fun _ => nI 0), aI G v0.2.2 128 (fun _ => nI 0), oC k1 0 [.ref v1.1, .ref v1.2.1, .ref v1.2.2, .int (nI 0), .int (nI 0), .long (lN 0), .long (lN 0)], aZ G v1.1 256 (fun _ => nI 0), aI G v1.2.1 128 (fun _ => nI 0), aI G v1.2.2 128 (fun _ => nI 0), oC k2 0 [.ref v2.1, .ref v2.2.1, .ref v2.2.2, .int (nI 0), .int (nI 0), .long (lN 0), .long (lN 0)], aZ G v2.1 256 (fun _ => nI 0), aI G v2.2.1 128 (fun _ => nI 0), aI G v2.2.2 128 (fun _ => nI 0), oC k3 0 [.ref v3.1, .ref v3.2.1, .ref v3.2.2, .int (nI 0), .int (nI 0), .long (lN 0), .long (lN 0)], aZ G v3.1 256 (fun _ => nI 0), aI G v3.2.1 128 (fun _ => nI 0), aI G v3.2.2 128 (fun _ => nI 0)] H := hP
  have hD : va_D A [oC ox 7 [.ref oc, .ref ot, .ref oo, .ref oe, .ref op, .ref ocs, .ref ods, .long (lN 0), .long (lN 0)], oC oc 1 [.ref owd, .long (lN 0), .long (lN 0)], aI G owd 44 (fun _ => nI 0), oC ot 6 [.int (nI 4), .long (lN 0), .long (lN 0)], oC oo 2 [.ref om], aZ G om 512 (fun _ => nI 0), oC oe 4 [.long (lN 0), .long (lN 0), .long (lN 0)], oC op 5 [.ref ob, .int (nI 0)], aI G ob 229 (fun _ => nI 0), aH G ocs 4 (fun j => some (List.getD [oc, owd, ot, oo, om, oe, op, ob, ocs, ods, k0, v0.1, v0.2.1, v0.2.2, k1, v1.1, v1.2.1, v1.2.2, k2, v2.1, v2.2.1, v2.2.2, k3, v3.1, v3.2.1, v3.2.2] (10 + 4 * j) 0)), aQ G ods 256 (fun _ => none), oC k0 0 [.ref v0.1, .ref v0.2.1, .ref v0.2.2, .int (nI 0), .int (nI 0), .long (lN 0), .long (lN 0)], aZ G v0.1 256 (fun _ => nI 0), aI G v0.2.1 128 (fun _ => nI 0), aI G v0.2.2 128 (fun _ => nI 0), oC k1 0 [.ref v1.1, .ref v1.2.1, .ref v1.2.2, .int (nI 0), .int (nI 0), .long (lN 0), .long (lN 0)], aZ G v1.1 256 (fun _ => nI 0), aI G v1.2.1 128 (fun _ => nI 0), aI G v1.2.2 128 (fun _ => nI 0), oC k2 0 [.ref v2.1, .ref v2.2.1, .ref v2.2.2, .int (nI 0), .int (nI 0), .long (lN 0), .long (lN 0)], aZ G v2.1 256 (fun _ => nI 0), aI G v2.2.1 128 (fun _ => nI 0), aI G v2.2.2 128 (fun _ => nI 0), oC k3 0 [.ref v3.1, .ref v3.2.1, .ref v3.2.2, .int (nI 0), .int (nI 0), .long (lN 0), .long (lN 0)], aZ G v3.1 256 (fun _ => nI 0), aI G v3.2.1 128 (fun _ => nI 0), aI G v3.2.2 128 (fun _ => nI 0)] := ck_Dsame (by rfl) hD
  exact cr_vret (fun j => List.getD [oc, owd, ot, oo, om, oe, op, ob, ocs, ods, k0, v0.1, v0.2.1, v0.2.2, k1, v1.1, v1.2.1, v1.2.2, k2, v2.1, v2.2.1, v2.2.2, k3, v3.1, v3.2.1, v3.2.2] j 0) trivial hx hb hr hlk (hP.sub [0, 3, 1, 2, 4, 5, 6, 7, 8, 9, 10, 11, 12, 13, 14, 15, 16, 17, 18, 19, 20, 21, 22, 23, 24, 25, 26] rfl) (hD.sub [0, 3, 1, 2, 4, 5, 6, 7, 8, 9, 10, 11, 12, 13, 14, 15, 16, 17, 18, 19, 20, 21, 22, 23, 24, 25, 26] rfl rfl) hS rfl rfl dCK_init_113
set_option maxHeartbeats 4000000 in
set_option maxRecDepth 100000 in
theorem k_CK_install (l : Launch) (G : gG) (ox oc ot oo oe op ocs ods : Nat) (oh ol : Int64) (dp : Nat) (hdp : dp ≤ 8) (sh sl : Int64) (dec : Nat → Option Nat) (dd : Nat) (hd : dd < 2 ^ dp) (ho : dec dd = none) : Cr l G yCK_install cCK_install 2 (some .int) { frames := 2, cells := 4, slots := 15, locals := 41 } [.ref ox, .int (nI dd)] [oC ox 7 [.ref oc, .ref ot, .ref oo, .ref oe, .ref op, .ref ocs, .ref ods, .long oh, .long ol], oC ot 6 [.int (nI dp), .long sh, .long sl], aQ G ods 256 dec] (fun _ => True) (S := Nat → Nat) (fun _ => True) (fun u => some (.int (nI (dp * (dp + 1) / 2)))) (fun u => [oC ox 7 [.ref oc, .ref ot, .ref oo, .ref oe, .ref op, .ref ocs, .ref ods, .long oh, .long ol], oC ot 6 [.int (nI dp), .long sh, .long sl], aQ G ods 256 (va_up dec dd (some (u 0))), oC (u 0) 3 [.ref (u 1), .ref (u 2), .ref (u 3)], aI G (u 1) 4 (fun _ => (-1)), aJ G (u 2) 4 (fun _ => lN 0), aJ G (u 3) 4 (fun _ => lN 0)]) := by
  refine Cr.of (by decide) (Nat.le_of_ble_eq_true rfl) ?_
  intro p e s m args below meth c A ls hx hb hr hml hts hown hlk hin9 hJ hA hP hD hG hS hl
  have hp2 : 2 ^ dp ≤ 256 := Nat.pow_le_pow_right (n := 2) (by decide) hdp
  have hp1 : 1 ≤ 2 ^ dp := Nat.one_le_two_pow
  have hl : lv_has ls 2 [(0, .ref ox), (1, .int (nI dd))] := hl
  refine lv_aload_n hx hb dCK_install_0 rfl (lv_at hl 0 rfl) ?_
  refine lv_iload_n hx hb dCK_install_1 rfl (lv_at hl 1 rfl) ?_
  refine clCK_72 (As := [.int (nI dd)]) (rest := []) hx hb hml hown hts (k_CK_checkDecoder l G ox oc ot oo oe op ocs ods oh ol dp hdp sh sl dd hd) hG hA hP hD hS 0 rfl [0, 1] rfl rfl (fun _ => rfl) rfl hl.1 rfl (Nat.le_of_ble_eq_true rfl) ⟨by decide, by decide⟩ ⟨by decide, by decide⟩ dCK_install_2 (fun _ H locs _ hP hD hS => ?_)
  have hP : va_P G.1 vwCl [oC ox 7 [.ref oc, .ref ot, .ref oo, .ref oe, .ref op, .ref ocs, .ref ods, .long oh, .long ol], oC ot 6 [.int (nI dp), .long sh, .long sl], aQ G ods 256 dec] H := hP
  have hD : va_D A [oC ox 7 [.ref oc, .ref ot, .ref oo, .ref oe, .ref op, .ref ocs, .ref ods, .long oh, .long ol], oC ot 6 [.int (nI dp), .long sh, .long sl], aQ G ods 256 dec] := hD
  refine W.cs (cells' := 0) (slots' := 0) rfl rfl ?_
  refine W.eq (g2 := F0 m 5 ls []) rfl ?_
  refine lv_aload_n hx hb dCK_install_5 rfl (lv_at hl 0 rfl) ?_
  refine gfCK_52 hx hb hts hown hG hP 0 rfl rfl dCK_install_6 ?_
  refine lv_iload_n hx hb dCK_install_9 rfl (lv_at hl 1 rfl) ?_
  refine ck_qald (v := .null) hx hb hG hP 2 rfl (by decide) dd (rfl) (by omega) (by rw [ho]; rfl) dCK_install_10 ?_
  refine lv_ifnullN (tgt := 24) hx hb dCK_install_11 rfl ?_
  refine lv_aload_n hx hb dCK_install_24 rfl (lv_at hl 0 rfl) ?_
  refine gfCK_52 hx hb hts hown hG hP 0 rfl rfl dCK_install_25 ?_
  refine lv_iload_n hx hb dCK_install_28 rfl (lv_at hl 1 rfl) ?_
  refine nwCK_50 hx hb hts hown hG hA hP hD hS ⟨by decide, by decide⟩ dCK_install_29 (fun od H hP hD hS => ?_)
  have hP : va_P G.1 vwCl [oC ox 7 [.ref oc, .ref ot, .ref oo, .ref oe, .ref op, .ref ocs, .ref ods, .long oh, .long ol], oC ot 6 [.int (nI dp), .long sh, .long sl], aQ G ods 256 dec, oC od 3 [.null, .null, .null]] H := hP
  have hD : va_D A [oC ox 7 [.ref oc, .ref ot, .ref oo, .ref oe, .ref op, .ref ocs, .ref ods, .long oh, .long ol], oC ot 6 [.int (nI dp), .long sh, .long sl], aQ G ods 256 dec, oC od 3 [.null, .null, .null]] := hD
  refine W.cs (cells' := 1) (slots' := 3) rfl rfl ?_
  refine lv_dup hx hb dCK_install_32 rfl ?_
  refine clCK_81 (rest := [.ref od, .int (nI dd), .ref ods]) (wr := [oC ox 7 [.ref oc, .ref ot, .ref oo, .ref oe, .ref op, .ref ocs, .ref ods, .long oh, .long ol], oC ot 6 [.int (nI dp), .long sh, .long sl], aQ G ods 256 dec]) hx hb hml hown hts (k_De_init l G od) Jk_t trivial hG hA hP hD hS [3] [0, 1, 2] rfl rfl rfl rfl (by decide) hl.1 rfl (Nat.le_of_ble_eq_true rfl) ⟨by decide, by decide⟩ ⟨by decide, by decide⟩ dCK_install_33 (fun v H locs _ hP hD hS => ?_)
  have hP : va_P G.1 vwCl [oC ox 7 [.ref oc, .ref ot, .ref oo, .ref oe, .ref op, .ref ocs, .ref ods, .long oh, .long ol], oC ot 6 [.int (nI dp), .long sh, .long sl], aQ G ods 256 dec, oC od 3 [.ref v.1, .ref v.2.1, .ref v.2.2], aI G v.1 4 (fun _ => (-1)), aJ G v.2.1 4 (fun _ => lN 0), aJ G v.2.2 4 (fun _ => lN 0)] H := hP
  have hD : va_D A [oC ox 7 [.ref oc, .ref ot, .ref oo, .ref oe, .ref op, .ref ocs, .ref ods, .long oh, .long ol], oC ot 6 [.int (nI dp), .long sh, .long sl], aQ G ods 256 dec, oC od 3 [.ref v.1, .ref v.2.1, .ref v.2.2], aI G v.1 4 (fun _ => (-1)), aJ G v.2.1 4 (fun _ => lN 0), aJ G v.2.2 4 (fun _ => lN 0)] := hD
  refine W.cs (cells' := 4) (slots' := 15) rfl rfl ?_
  refine W.eq (g2 := F0 m 36 ls [.ref od, .int (nI dd), .ref ods]) rfl ?_
  refine ck_qast hx hb hG hP hD hS 2 3 rfl rfl (by decide) dd (rfl) (by omega) dCK_install_36 (fun H locs hP hD hS => ?_)
  have hP : va_P G.1 vwCl [oC ox 7 [.ref oc, .ref ot, .ref oo, .ref oe, .ref op, .ref ocs, .ref ods, .long oh, .long ol], oC ot 6 [.int (nI dp), .long sh, .long sl], aQ G ods 256 (va_up dec dd (some od)), oC od 3 [.ref v.1, .ref v.2.1, .ref v.2.2], aI G v.1 4 (fun _ => (-1)), aJ G v.2.1 4 (fun _ => lN 0), aJ G v.2.2 4 (fun _ => lN 0)] H := hP
  have hD : va_D A [oC ox 7 [.ref oc, .ref ot, .ref oo, .ref oe, .ref op, .ref ocs, .ref ods, .long oh, .long ol], oC ot 6 [.int (nI dp), .long sh, .long sl], aQ G ods 256 (va_up dec dd (some od)), oC od 3 [.ref v.1, .ref v.2.1, .ref v.2.2], aI G v.1 4 (fun _ => (-1)), aJ G v.2.1 4 (fun _ => lN 0), aJ G v.2.2 4 (fun _ => lN 0)] := hD
  refine lv_aload_n hx hb dCK_install_37 rfl (lv_at hl 0 rfl) ?_
  refine gfCK_19 hx hb hts hown hG hP 0 rfl rfl dCK_install_38 ?_
  refine clCK_82 (As := []) (rest := []) hx hb hml hown hts (k_Tr_labelsEach l G ot dp hdp sh sl) hG hA hP hD hS 1 rfl [1] rfl rfl (fun _ => rfl) rfl hl.1 rfl (Nat.le_of_ble_eq_true rfl) ⟨by decide, by decide⟩ ⟨by decide, by decide⟩ dCK_install_41 (fun _ H locs _ hP hD hS => ?_)
  have hP : va_P G.1 vwCl [oC ox 7 [.ref oc, .ref ot, .ref oo, .ref oe, .ref op, .ref ocs, .ref ods, .long oh, .long ol], oC ot 6 [.int (nI dp), .long sh, .long sl], aQ G ods 256 (va_up dec dd (some od)), oC od 3 [.ref v.1, .ref v.2.1, .ref v.2.2], aI G v.1 4 (fun _ => (-1)), aJ G v.2.1 4 (fun _ => lN 0), aJ G v.2.2 4 (fun _ => lN 0)] H := hP
  have hD : va_D A [oC ox 7 [.ref oc, .ref ot, .ref oo, .ref oe, .ref op, .ref ocs, .ref ods, .long oh, .long ol], oC ot 6 [.int (nI dp), .long sh, .long sl], aQ G ods 256 (va_up dec dd (some od)), oC od 3 [.ref v.1, .ref v.2.1, .ref v.2.2], aI G v.1 4 (fun _ => (-1)), aJ G v.2.1 4 (fun _ => lN 0), aJ G v.2.2 4 (fun _ => lN 0)] := hD
  refine W.cs (cells' := 4) (slots' := 15) rfl rfl ?_
  refine W.eq (g2 := F0 m 44 ls [.int (nI (dp * (dp + 1) / 2))]) rfl ?_
  exact cr_iret (fun j => List.getD [od, v.1, v.2.1, v.2.2] j 0) trivial hx hb hr hlk (hP.sub [0, 1, 2, 3, 4, 5, 6] rfl) (hD.sub [0, 1, 2, 3, 4, 5, 6] rfl rfl) hS rfl rfl dCK_install_44
set_option maxHeartbeats 4000000 in
set_option maxRecDepth 100000 in
theorem x_CK_install1 (l : Launch) (hl0 : l.stackTraces = false) (G : gG) (ox oc ot oo oe op ocs ods : Nat) (oh ol : Int64) (dp : Nat) (hdp : dp ≤ 8) (sh sl : Int64) (d1 : Int32) (hd : jIn (2 ^ dp) d1 = false) : Cx l G yCK_install cCK_install 2 (some .int) { frames := 7, cells := 1, slots := 6, locals := 103 } [.ref ox, .int d1] [oC ox 7 [.ref oc, .ref ot, .ref oo, .ref oe, .ref op, .ref ocs, .ref ods, .long oh, .long ol], oC ot 6 [.int (nI dp), .long sh, .long sl]] "java/lang/IndexOutOfBoundsException" [oC ox 7 [.ref oc, .ref ot, .ref oo, .ref oe, .ref op, .ref ocs, .ref ods, .long oh, .long ol], oC ot 6 [.int (nI dp), .long sh, .long sl]] := by
  refine Cx.of (by decide) (Nat.le_of_ble_eq_true rfl) ?_
  intro p e s m args below meth c A ls hx hb hr hml hts hown hlk htb hA hP hD hG hS hl
  have hl : lv_has ls 2 [(0, .ref ox), (1, .int d1)] := hl
  refine lv_aload_n hx hb dCK_install_0 rfl (lv_at hl 0 rfl) ?_
  refine lv_iload_n hx hb dCK_install_1 rfl (lv_at hl 1 rfl) ?_
  exact cxCK_72 (As := [.int d1]) (rest := []) hx hb hml hown hts (x_CK_checkDecoder l hl0 G ox oc ot oo oe op ocs ods oh ol dp hdp sh sl d1 hd) hG hA hP hD hS 0 rfl [0, 1] rfl rfl rfl rfl hl.1 rfl (Nat.le_of_ble_eq_true rfl) ⟨by decide, by decide⟩ ⟨by decide, by decide⟩ dCK_install_2 htb hlk (by decide) (by decide)
set_option maxHeartbeats 4000000 in
set_option maxRecDepth 100000 in
theorem x_CK_install2 (l : Launch) (hl0 : l.stackTraces = false) (G : gG) (ox oc ot oo oe op ocs ods : Nat) (oh ol : Int64) (dp : Nat) (hdp : dp ≤ 8) (sh sl : Int64) (dec : Nat → Option Nat) (dd : Nat) (hd : dd < 2 ^ dp) (od : Nat) (ho : dec dd = some od) : Cx l G yCK_install cCK_install 2 (some .int) { frames := 6, cells := 1, slots := 6, locals := 82 } [.ref ox, .int (nI dd)] [oC ox 7 [.ref oc, .ref ot, .ref oo, .ref oe, .ref op, .ref ocs, .ref ods, .long oh, .long ol], oC ot 6 [.int (nI dp), .long sh, .long sl], aQ G ods 256 dec] "java/lang/IllegalStateException" [oC ox 7 [.ref oc, .ref ot, .ref oo, .ref oe, .ref op, .ref ocs, .ref ods, .long oh, .long ol], oC ot 6 [.int (nI dp), .long sh, .long sl], aQ G ods 256 dec] := by
  refine Cx.of (by decide) (Nat.le_of_ble_eq_true rfl) ?_
  intro p e s m args below meth c A ls hx hb hr hml hts hown hlk htb hA hP hD hG hS hl
  have hp2 : 2 ^ dp ≤ 256 := Nat.pow_le_pow_right (n := 2) (by decide) hdp
  have hp1 : 1 ≤ 2 ^ dp := Nat.one_le_two_pow
  have hl : lv_has ls 2 [(0, .ref ox), (1, .int (nI dd))] := hl
  refine lv_aload_n hx hb dCK_install_0 rfl (lv_at hl 0 rfl) ?_
  refine lv_iload_n hx hb dCK_install_1 rfl (lv_at hl 1 rfl) ?_
  refine clCK_72 (As := [.int (nI dd)]) (rest := []) hx hb hml hown hts (k_CK_checkDecoder l G ox oc ot oo oe op ocs ods oh ol dp hdp sh sl dd hd) hG hA hP hD hS 0 rfl [0, 1] rfl rfl (fun _ => rfl) rfl hl.1 rfl (Nat.le_of_ble_eq_true rfl) ⟨by decide, by decide⟩ ⟨by decide, by decide⟩ dCK_install_2 (fun _ H locs _ hP hD hS => ?_)
  have hP : va_P G.1 vwCl [oC ox 7 [.ref oc, .ref ot, .ref oo, .ref oe, .ref op, .ref ocs, .ref ods, .long oh, .long ol], oC ot 6 [.int (nI dp), .long sh, .long sl], aQ G ods 256 dec] H := hP
  have hD : va_D A [oC ox 7 [.ref oc, .ref ot, .ref oo, .ref oe, .ref op, .ref ocs, .ref ods, .long oh, .long ol], oC ot 6 [.int (nI dp), .long sh, .long sl], aQ G ods 256 dec] := hD
  refine W.cs (cells' := 0) (slots' := 0) rfl rfl ?_
  refine W.eq (g2 := F0 m 5 ls []) rfl ?_
  refine lv_aload_n hx hb dCK_install_5 rfl (lv_at hl 0 rfl) ?_
  refine gfCK_52 hx hb hts hown hG hP 0 rfl rfl dCK_install_6 ?_
  refine lv_iload_n hx hb dCK_install_9 rfl (lv_at hl 1 rfl) ?_
  refine ck_qald (v := .ref od) hx hb hG hP 2 rfl (by decide) dd (rfl) (by omega) (by rw [ho]; rfl) dCK_install_10 ?_
  refine lv_ifnull hx hb dCK_install_11 ?_
  exact cxISE (sx := 78) (tx := "installed already") hl0 hx hb hml hown hts htb hlk hG hP hS hl.1 (by decide) dCK_install_14 dCK_install_17 dCK_install_18 dCK_install_20 dCK_install_23 (by decide) (Nat.le_of_ble_eq_true rfl) (by decide) (by decide) (by decide) (by decide)
