/-! the law's wrappers -/
set_option maxHeartbeats 4000000 in
set_option maxRecDepth 100000 in
theorem w_La_begin (l : Launch) (G : gG) (ox : Nat) (a0 : Int32) (a1 : Int64) (a2 : Int64) {S : Type} {φ : S → Prop} {rm : Room} {wi : va_W} {wo : S → va_W} {fs : List Value} (hM : Cq l G yCK_begin cCK_begin 7 none rm [.ref ox, .int a0, .long a1, .long a2] wi φ (fun u => none) wo) (hq : wi[0]? = some (oC ox 7 fs)) (ha : ∀ u, (wo u).map (·.1) = wi.map (·.1)) : Cqw l G yLa_begin cLa_begin 7 (some .int) [(0, 8, 11, 13)] { frames := rm.frames + 1, cells := rm.cells, slots := rm.slots, locals := 8 + (7 + 11) + rm.locals } [.ref ox, .int a0, .long a1, .long a2] ([] ++ wi) φ (fun u => some (.int (nI 0))) (fun u => ([] ++ wo u)) := by
  refine Cqw.of (by decide) (Nat.le_of_ble_eq_true rfl) ?_
  intro p e s m args below meth c A ls hx hb hr hml hts hown hlk htb hA hP hD hG hS hl
  have hl : lv_has ls 7 [(0, .ref ox), (1, .int a0), (2, .long a1), (4, .long a2)] := hl
  refine lv_aload_n hx hb dLa_begin_0 rfl (lv_at hl 0 rfl) ?_
  refine lv_iload_n hx hb dLa_begin_1 rfl (lv_at hl 1 rfl) ?_
  refine lv_lload_n hx hb dLa_begin_2 rfl (lv_at hl 2 rfl) ?_
  refine lv_lload hx hb dLa_begin_3 (lv_at hl 3 rfl) ?_
  refine clLa_7 (As := [.int a0, .long a1, .long a2]) (rest := []) hx hb hml hown hts hM hG hA hP hD hS 0 hq (List.range' 0 wi.length) (rng_map [] wi) (nd_range _ _) ha rfl hl.1 rfl (Nat.le_of_ble_eq_true rfl) ⟨Nat.le_refl _, Nat.le_refl _⟩ ⟨Nat.le_of_eq (Nat.zero_add _), Nat.le_of_eq (Nat.zero_add _)⟩ dLa_begin_5 (fun u H locs hu hP hD hS => ?_)
  have e9 : ck_set ([] ++ wi) (List.range' 0 wi.length) (wo u) = [] ++ wo u := set_rng [] wi (wo u) (ha_len (ha u))
  rw [e9] at hP hD
  have hP : va_P G.1 vwCl ([] ++ wo u) H := hP
  have hD : va_D A ([] ++ wo u) := hD
  refine W.cs (cells' := rm.cells) (slots' := rm.slots) (Nat.zero_add _) (Nat.zero_add _) ?_
  refine W.eq (g2 := F0 m 8 ls []) rfl ?_
  refine lv_goto (tgt := 15) hx hb dLa_begin_8 rfl ?_
  refine lv_iconst (v := nI 0) hx hb dLa_begin_15 (by decide) ?_
  exact cq_iret u (hu) hx hb hr hlk hP hS (rfl) (rfl) dLa_begin_16
set_option maxHeartbeats 4000000 in
set_option maxRecDepth 100000 in
theorem w_La_begin_IAE (l : Launch) (G : gG) (ox : Nat) (a0 : Int32) (a1 : Int64) (a2 : Int64) {rm : Room} {wi wc : va_W} {fs : List Value} (hM : Cx l G yCK_begin cCK_begin 7 none rm [.ref ox, .int a0, .long a1, .long a2] wc "java/lang/IllegalArgumentException" wc) (q0 : Nat) (hq : wi[q0]? = some (oC ox 7 fs)) (is : List Nat) (hC : is.map (fun i => wi[i]?) = wc.map some) (hnd : va_nd is = true) (hset : ck_set wi is wc = wi) : Cqw l G yLa_begin cLa_begin 7 (some .int) [(0, 8, 11, 13)] { frames := rm.frames + 1, cells := rm.cells, slots := rm.slots, locals := 8 + (7 + 11) + rm.locals } [.ref ox, .int a0, .long a1, .long a2] wi (S := Unit) (fun _ => True) (fun _ => some (.int (nI 1))) (fun _ => wi) := by
  refine Cqw.of (by decide) (Nat.le_of_ble_eq_true rfl) ?_
  intro p e s m args below meth c A ls hx hb hr hml hts hown hlk htb hA hP hD hG hS hl
  have hl : lv_has ls 7 [(0, .ref ox), (1, .int a0), (2, .long a1), (4, .long a2)] := hl
  refine lv_aload_n hx hb dLa_begin_0 rfl (lv_at hl 0 rfl) ?_
  refine lv_iload_n hx hb dLa_begin_1 rfl (lv_at hl 1 rfl) ?_
  refine lv_lload_n hx hb dLa_begin_2 rfl (lv_at hl 2 rfl) ?_
  refine lv_lload hx hb dLa_begin_3 (lv_at hl 3 rfl) ?_
  refine cxLa_7 (As := [.int a0, .long a1, .long a2]) (rest := []) hx hb hml hown hts hM hG hA hP hD hS q0 hq is hC hnd hset rfl hl.1 rfl (Nat.le_of_ble_eq_true rfl) ⟨Nat.le_refl _, Nat.le_refl _⟩ ⟨Nat.le_of_eq (Nat.zero_add _), Nat.le_of_eq (Nat.zero_add _)⟩ dLa_begin_5 [] ⟨0, 8, 11, 13⟩ [] htb (fun z hz => by cases hz) (by decide) (by decide) (hts _ kLaIAE) (va_Nw.use rfl (hG.2.2.2.2.2.2.1 _ kLcIAE)) (fun qx H locs hP hD hS => ?_)
  refine W.cs (cells' := rm.cells) (slots' := rm.slots) (Nat.zero_add _) (Nat.zero_add _) ?_
  refine W.eq (g2 := F0 m 11 ls [.ref qx]) rfl ?_
  refine lv_astore (lv' := [(6, .ref qx), (0, .ref ox), (1, .int a0), (2, .long a1), (4, .long a2)]) hx hb dLa_begin_11 hl (by decide) rfl (fun ls hl => ?_)
  refine lv_iconst (v := nI 1) hx hb dLa_begin_13 (by decide) ?_
  exact cq_iret () (trivial) hx hb hr hlk hP hS (rfl) (rfl) dLa_begin_14
set_option maxHeartbeats 4000000 in
set_option maxRecDepth 100000 in
theorem w_La_install (l : Launch) (G : gG) (ox oq : Nat) (a0 : Int32) (fo : Nat → Int64) {S : Type} {φ : S → Prop} {rm : Room} {wi : va_W} {wo : S → va_W} {fs : List Value} (v : S → Int32) (hM : Cr l G yCK_install cCK_install 2 (some .int) rm [.ref ox, .int a0] wi (fun _ => True) φ (fun u => some (.int (v u))) wo) (hq : wi[0]? = some (oC ox 7 fs)) : Crw l G yLa_install cLa_install 4 (some .int) [(0, 9, 12, 19), (0, 9, 15, 21)] { frames := rm.frames + 1, cells := rm.cells, slots := rm.slots, locals := 8 + (2 + 11) + rm.locals } [.ref ox, .int a0, .ref oq] ([aJ G oq 1 fo] ++ wi) φ (fun u => some (.int (nI 0))) (fun u => ([aJ G oq 1 (vp_updL fo 0 ((v u).toInt64))] ++ wo u)) := by
  refine Crw.of (by decide) (Nat.le_of_ble_eq_true rfl) ?_
  intro p e s m args below meth c A ls hx hb hr hml hts hown hlk htb hA hP hD hG hS hl
  have hl : lv_has ls 4 [(0, .ref ox), (1, .int a0), (2, .ref oq)] := hl
  refine lv_aload_n hx hb dLa_install_0 rfl (lv_at hl 2 rfl) ?_
  refine lv_iconst (v := nI 0) hx hb dLa_install_1 (by decide) ?_
  refine lv_aload_n hx hb dLa_install_2 rfl (lv_at hl 0 rfl) ?_
  refine lv_iload_n hx hb dLa_install_3 rfl (lv_at hl 1 rfl) ?_
  refine cnLa_15 (As := [.int a0]) (rest := [.int (nI 0), .ref oq]) (wr := [aJ G oq 1 fo]) hx hb hml hown hts hM Jk_t trivial hG hA hP hD hS 1 hq (List.range' 1 wi.length) [0] (rng_map [aJ G oq 1 fo] wi) (nd_range _ _) rfl rfl (fun i hi z => by obtain rfl := List.mem_singleton.mp hi; have := (List.mem_range'_1.mp z).1; omega) rfl hl.1 rfl (Nat.le_of_ble_eq_true rfl) ⟨Nat.le_refl _, Nat.le_refl _⟩ ⟨Nat.le_of_eq (Nat.zero_add _), Nat.le_of_eq (Nat.zero_add _)⟩ dLa_install_4 (fun u H locs hu hP hD hS => ?_)
  have hP : va_P G.1 vwCl ([aJ G oq 1 fo] ++ wo u) H := hP
  have hD : va_D A ([aJ G oq 1 fo] ++ wo u) := hD
  refine W.cs (cells' := rm.cells) (slots' := rm.slots) (Nat.zero_add _) (Nat.zero_add _) ?_
  refine W.eq (g2 := F0 m 7 ls [.int (v u), .int (nI 0), .ref oq]) rfl ?_
  refine lv_i2l (v := (v u).toInt64) hx hb dLa_install_7 rfl ?_
  refine ck_last hx hb hG hP hD hS 0 rfl (by decide) 0 (rfl) (by decide) dLa_install_8 (fun H locs hP hD hS => ?_)
  have hP : va_P G.1 vwCl ([aJ G oq 1 (vp_updL fo 0 ((v u).toInt64))] ++ wo u) H := hP
  have hD : va_D A ([aJ G oq 1 (vp_updL fo 0 ((v u).toInt64))] ++ wo u) := hD
  refine lv_goto (tgt := 18) hx hb dLa_install_9 rfl ?_
  refine lv_iconst (v := nI 0) hx hb dLa_install_18 (by decide) ?_
  exact cr_iret u hu hx hb hr hlk hP hD hS rfl rfl dLa_install_19
set_option maxHeartbeats 4000000 in
set_option maxRecDepth 100000 in
theorem w_La_install_IOB (l : Launch) (G : gG) (ox oq : Nat) (a0 : Int32) {rm : Room} {wi wc : va_W} {fs : List Value} (hM : Cx l G yCK_install cCK_install 2 (some .int) rm [.ref ox, .int a0] wc "java/lang/IndexOutOfBoundsException" wc) (q0 : Nat) (hq : wi[q0]? = some (oC ox 7 fs)) (is : List Nat) (hC : is.map (fun i => wi[i]?) = wc.map some) (hnd : va_nd is = true) (hset : ck_set wi is wc = wi) : Cqw l G yLa_install cLa_install 4 (some .int) [(0, 9, 12, 19), (0, 9, 15, 21)] { frames := rm.frames + 1, cells := rm.cells, slots := rm.slots, locals := 8 + (2 + 11) + rm.locals } [.ref ox, .int a0, .ref oq] wi (S := Unit) (fun _ => True) (fun _ => some (.int (nI 1))) (fun _ => wi) := by
  refine Cqw.of (by decide) (Nat.le_of_ble_eq_true rfl) ?_
  intro p e s m args below meth c A ls hx hb hr hml hts hown hlk htb hA hP hD hG hS hl
  have hl : lv_has ls 4 [(0, .ref ox), (1, .int a0), (2, .ref oq)] := hl
  refine lv_aload_n hx hb dLa_install_0 rfl (lv_at hl 2 rfl) ?_
  refine lv_iconst (v := nI 0) hx hb dLa_install_1 (by decide) ?_
  refine lv_aload_n hx hb dLa_install_2 rfl (lv_at hl 0 rfl) ?_
  refine lv_iload_n hx hb dLa_install_3 rfl (lv_at hl 1 rfl) ?_
  refine cxLa_15 (As := [.int a0]) (rest := [.int (nI 0), .ref oq]) hx hb hml hown hts hM hG hA hP hD hS q0 hq is hC hnd hset rfl hl.1 rfl (Nat.le_of_ble_eq_true rfl) ⟨Nat.le_refl _, Nat.le_refl _⟩ ⟨Nat.le_of_eq (Nat.zero_add _), Nat.le_of_eq (Nat.zero_add _)⟩ dLa_install_4 [] ⟨0, 9, 12, 19⟩ [⟨0, 9, 15, 21⟩] htb (fun z hz => by cases hz) (by decide) (by decide) (hts _ kLaIOB) (va_Nw.use rfl (hG.2.2.2.2.2.2.1 _ kLcIOB)) (fun qx H locs hP hD hS => ?_)
  refine W.cs (cells' := rm.cells) (slots' := rm.slots) (Nat.zero_add _) (Nat.zero_add _) ?_
  refine W.eq (g2 := F0 m 12 ls [.ref qx]) rfl ?_
  refine lv_astore_n (lv' := [(3, .ref qx), (0, .ref ox), (1, .int a0), (2, .ref oq)]) hx hb dLa_install_12 rfl hl (by decide) rfl (fun ls hl => ?_)
  refine lv_iconst (v := nI 1) hx hb dLa_install_13 (by decide) ?_
  exact cq_iret () (trivial) hx hb hr hlk hP hS (rfl) (rfl) dLa_install_14
set_option maxHeartbeats 4000000 in
set_option maxRecDepth 100000 in
theorem w_La_install_ISE (l : Launch) (G : gG) (ox oq : Nat) (a0 : Int32) {rm : Room} {wi wc : va_W} {fs : List Value} (hM : Cx l G yCK_install cCK_install 2 (some .int) rm [.ref ox, .int a0] wc "java/lang/IllegalStateException" wc) (q0 : Nat) (hq : wi[q0]? = some (oC ox 7 fs)) (is : List Nat) (hC : is.map (fun i => wi[i]?) = wc.map some) (hnd : va_nd is = true) (hset : ck_set wi is wc = wi) : Cqw l G yLa_install cLa_install 4 (some .int) [(0, 9, 12, 19), (0, 9, 15, 21)] { frames := rm.frames + 1, cells := rm.cells, slots := rm.slots, locals := 8 + (2 + 11) + rm.locals } [.ref ox, .int a0, .ref oq] wi (S := Unit) (fun _ => True) (fun _ => some (.int (nI 2))) (fun _ => wi) := by
  refine Cqw.of (by decide) (Nat.le_of_ble_eq_true rfl) ?_
  intro p e s m args below meth c A ls hx hb hr hml hts hown hlk htb hA hP hD hG hS hl
  have hl : lv_has ls 4 [(0, .ref ox), (1, .int a0), (2, .ref oq)] := hl
  refine lv_aload_n hx hb dLa_install_0 rfl (lv_at hl 2 rfl) ?_
  refine lv_iconst (v := nI 0) hx hb dLa_install_1 (by decide) ?_
  refine lv_aload_n hx hb dLa_install_2 rfl (lv_at hl 0 rfl) ?_
  refine lv_iload_n hx hb dLa_install_3 rfl (lv_at hl 1 rfl) ?_
  refine cxLa_15 (As := [.int a0]) (rest := [.int (nI 0), .ref oq]) hx hb hml hown hts hM hG hA hP hD hS q0 hq is hC hnd hset rfl hl.1 rfl (Nat.le_of_ble_eq_true rfl) ⟨Nat.le_refl _, Nat.le_refl _⟩ ⟨Nat.le_of_eq (Nat.zero_add _), Nat.le_of_eq (Nat.zero_add _)⟩ dLa_install_4 [⟨0, 9, 12, 19⟩] ⟨0, 9, 15, 21⟩ [] htb (fun z hz => by obtain rfl := List.mem_singleton.mp hz; exact Or.inr ⟨by decide, "java/lang/IndexOutOfBoundsException", hts _ kLaIOB, hG.2.2.2.2.2.2.2 _ kLnISE_IOB⟩) (by decide) (by decide) (hts _ kLaISE) (va_Nw.use rfl (hG.2.2.2.2.2.2.1 _ kLcISE)) (fun qx H locs hP hD hS => ?_)
  refine W.cs (cells' := rm.cells) (slots' := rm.slots) (Nat.zero_add _) (Nat.zero_add _) ?_
  refine W.eq (g2 := F0 m 15 ls [.ref qx]) rfl ?_
  refine lv_astore_n (lv' := [(3, .ref qx), (0, .ref ox), (1, .int a0), (2, .ref oq)]) hx hb dLa_install_15 rfl hl (by decide) rfl (fun ls hl => ?_)
  refine lv_iconst (v := nI 2) hx hb dLa_install_16 (by decide) ?_
  exact cq_iret () (trivial) hx hb hr hlk hP hS (rfl) (rfl) dLa_install_17
set_option maxHeartbeats 4000000 in
set_option maxRecDepth 100000 in
theorem w_La_subscribe (l : Launch) (G : gG) (ox oq : Nat) (a0 : Int32) (a1 : Int32) (a2 : Int32) (fo : Nat → Int64) {S : Type} {φ : S → Prop} {rm : Room} {wi : va_W} {wo : S → va_W} {fs : List Value} (v : S → Int32) (hM : Cq l G yCK_subscribe cCK_subscribe 6 (some .boolean) rm [.ref ox, .int a0, .int a1, .int a2] wi φ (fun u => some (.int (v u))) wo) (hq : wi[0]? = some (oC ox 7 fs)) (ha : ∀ u, (wo u).map (·.1) = wi.map (·.1)) : Cqw l G yLa_subscribe cLa_subscribe 6 (some .int) [(0, 19, 22, 19)] { frames := rm.frames + 1, cells := rm.cells, slots := rm.slots, locals := 8 + (6 + 11) + rm.locals } [.ref ox, .int a0, .int a1, .int a2, .ref oq] ([aJ G oq 1 fo] ++ wi) φ (fun u => some (.int (nI 0))) (fun u => ([aJ G oq 1 (vp_updL fo 0 (jZl (v u)))] ++ wo u)) := by
  refine Cqw.of (by decide) (Nat.le_of_ble_eq_true rfl) ?_
  intro p e s m args below meth c A ls hx hb hr hml hts hown hlk htb hA hP hD hG hS hl
  have hl : lv_has ls 6 [(0, .ref ox), (1, .int a0), (2, .int a1), (3, .int a2), (4, .ref oq)] := hl
  refine lv_aload hx hb dLa_subscribe_0 (lv_at hl 4 rfl) ?_
  refine lv_iconst (v := nI 0) hx hb dLa_subscribe_2 (by decide) ?_
  refine lv_aload_n hx hb dLa_subscribe_3 rfl (lv_at hl 0 rfl) ?_
  refine lv_iload_n hx hb dLa_subscribe_4 rfl (lv_at hl 1 rfl) ?_
  refine lv_iload_n hx hb dLa_subscribe_5 rfl (lv_at hl 2 rfl) ?_
  refine lv_iload_n hx hb dLa_subscribe_6 rfl (lv_at hl 3 rfl) ?_
  refine clLa_23 (As := [.int a0, .int a1, .int a2]) (rest := [.int (nI 0), .ref oq]) hx hb hml hown hts hM hG hA hP hD hS 1 hq (List.range' 1 wi.length) (rng_map [aJ G oq 1 fo] wi) (nd_range _ _) ha rfl hl.1 rfl (Nat.le_of_ble_eq_true rfl) ⟨Nat.le_refl _, Nat.le_refl _⟩ ⟨Nat.le_of_eq (Nat.zero_add _), Nat.le_of_eq (Nat.zero_add _)⟩ dLa_subscribe_7 (fun u H locs hu hP hD hS => ?_)
  have e9 : ck_set ([aJ G oq 1 fo] ++ wi) (List.range' 1 wi.length) (wo u) = [aJ G oq 1 fo] ++ wo u := set_rng [aJ G oq 1 fo] wi (wo u) (ha_len (ha u))
  rw [e9] at hP hD
  have hP : va_P G.1 vwCl ([aJ G oq 1 fo] ++ wo u) H := hP
  have hD : va_D A ([aJ G oq 1 fo] ++ wo u) := hD
  refine W.cs (cells' := rm.cells) (slots' := rm.slots) (Nat.zero_add _) (Nat.zero_add _) ?_
  refine W.eq (g2 := F0 m 10 ls [.int (v u), .int (nI 0), .ref oq]) rfl ?_
  refine lv_if_eq (tgt := 17) hx hb dLa_subscribe_10 rfl (fun hz => ?_) (fun hz => ?_)
  · have hy : v u = 0 := hz
    refine lv_lconst (v := lN 0) hx hb dLa_subscribe_17 (by decide) ?_
    refine ck_last hx hb hG hP hD hS 0 rfl (by decide) 0 (rfl) (by decide) dLa_subscribe_18 (fun H locs hP hD hS => ?_)
    have hP : va_P G.1 vwCl ([aJ G oq 1 (vp_updL fo 0 (lN 0))] ++ wo u) H := hP
    have hD : va_D A ([aJ G oq 1 (vp_updL fo 0 (lN 0))] ++ wo u) := hD
    refine lv_goto (tgt := 26) hx hb dLa_subscribe_19 rfl ?_
    refine lv_iconst (v := nI 0) hx hb dLa_subscribe_26 (by decide) ?_
    exact cq_iret u (hu) hx hb hr hlk hP hS (rfl) (by unfold jZl; rw [if_pos hy]) dLa_subscribe_27
  · have hy : ¬ v u = 0 := hz
    refine lv_lconst (v := lN 1) hx hb dLa_subscribe_13 (by decide) ?_
    refine lv_goto (tgt := 18) hx hb dLa_subscribe_14 rfl ?_
    refine ck_last hx hb hG hP hD hS 0 rfl (by decide) 0 (rfl) (by decide) dLa_subscribe_18 (fun H locs hP hD hS => ?_)
    have hP : va_P G.1 vwCl ([aJ G oq 1 (vp_updL fo 0 (lN 1))] ++ wo u) H := hP
    have hD : va_D A ([aJ G oq 1 (vp_updL fo 0 (lN 1))] ++ wo u) := hD
    refine lv_goto (tgt := 26) hx hb dLa_subscribe_19 rfl ?_
    refine lv_iconst (v := nI 0) hx hb dLa_subscribe_26 (by decide) ?_
    exact cq_iret u (hu) hx hb hr hlk hP hS (rfl) (by unfold jZl; rw [if_neg hy]) dLa_subscribe_27
set_option maxHeartbeats 4000000 in
set_option maxRecDepth 100000 in
theorem w_La_subscribe_IOB (l : Launch) (G : gG) (ox oq : Nat) (a0 : Int32) (a1 : Int32) (a2 : Int32) {rm : Room} {wi wc : va_W} {fs : List Value} (hM : Cx l G yCK_subscribe cCK_subscribe 6 (some .boolean) rm [.ref ox, .int a0, .int a1, .int a2] wc "java/lang/IndexOutOfBoundsException" wc) (q0 : Nat) (hq : wi[q0]? = some (oC ox 7 fs)) (is : List Nat) (hC : is.map (fun i => wi[i]?) = wc.map some) (hnd : va_nd is = true) (hset : ck_set wi is wc = wi) : Cqw l G yLa_subscribe cLa_subscribe 6 (some .int) [(0, 19, 22, 19)] { frames := rm.frames + 1, cells := rm.cells, slots := rm.slots, locals := 8 + (6 + 11) + rm.locals } [.ref ox, .int a0, .int a1, .int a2, .ref oq] wi (S := Unit) (fun _ => True) (fun _ => some (.int (nI 1))) (fun _ => wi) := by
  refine Cqw.of (by decide) (Nat.le_of_ble_eq_true rfl) ?_
  intro p e s m args below meth c A ls hx hb hr hml hts hown hlk htb hA hP hD hG hS hl
  have hl : lv_has ls 6 [(0, .ref ox), (1, .int a0), (2, .int a1), (3, .int a2), (4, .ref oq)] := hl
  refine lv_aload hx hb dLa_subscribe_0 (lv_at hl 4 rfl) ?_
  refine lv_iconst (v := nI 0) hx hb dLa_subscribe_2 (by decide) ?_
  refine lv_aload_n hx hb dLa_subscribe_3 rfl (lv_at hl 0 rfl) ?_
  refine lv_iload_n hx hb dLa_subscribe_4 rfl (lv_at hl 1 rfl) ?_
  refine lv_iload_n hx hb dLa_subscribe_5 rfl (lv_at hl 2 rfl) ?_
  refine lv_iload_n hx hb dLa_subscribe_6 rfl (lv_at hl 3 rfl) ?_
  refine cxLa_23 (As := [.int a0, .int a1, .int a2]) (rest := [.int (nI 0), .ref oq]) hx hb hml hown hts hM hG hA hP hD hS q0 hq is hC hnd hset rfl hl.1 rfl (Nat.le_of_ble_eq_true rfl) ⟨Nat.le_refl _, Nat.le_refl _⟩ ⟨Nat.le_of_eq (Nat.zero_add _), Nat.le_of_eq (Nat.zero_add _)⟩ dLa_subscribe_7 [] ⟨0, 19, 22, 19⟩ [] htb (fun z hz => by cases hz) (by decide) (by decide) (hts _ kLaIOB) (va_Nw.use rfl (hG.2.2.2.2.2.2.1 _ kLcIOB)) (fun qx H locs hP hD hS => ?_)
  refine W.cs (cells' := rm.cells) (slots' := rm.slots) (Nat.zero_add _) (Nat.zero_add _) ?_
  refine W.eq (g2 := F0 m 22 ls [.ref qx]) rfl ?_
  refine lv_astore (lv' := [(5, .ref qx), (0, .ref ox), (1, .int a0), (2, .int a1), (3, .int a2), (4, .ref oq)]) hx hb dLa_subscribe_22 hl (by decide) rfl (fun ls hl => ?_)
  refine lv_iconst (v := nI 1) hx hb dLa_subscribe_24 (by decide) ?_
  exact cq_iret () (trivial) hx hb hr hlk hP hS (rfl) (rfl) dLa_subscribe_25
set_option maxHeartbeats 4000000 in
set_option maxRecDepth 100000 in
theorem w_La_period (l : Launch) (G : gG) (ox oq : Nat) (a0 : Int32) (a1 : Int64) (a2 : Int64) (fo : Nat → Int64) {S : Type} {φ : S → Prop} {rm : Room} {wi : va_W} {wo : S → va_W} {fs : List Value} (v : S → Int32) (hM : Cq l G yCK_period cCK_period 7 (some .int) rm [.ref ox, .int a0, .long a1, .long a2] wi φ (fun u => some (.int (v u))) wo) (hq : wi[0]? = some (oC ox 7 fs)) (ha : ∀ u, (wo u).map (·.1) = wi.map (·.1)) : Cqw l G yLa_period cLa_period 8 (some .int) [(0, 13, 16, 19), (0, 13, 20, 31)] { frames := rm.frames + 1, cells := rm.cells, slots := rm.slots, locals := 8 + (7 + 11) + rm.locals } [.ref ox, .int a0, .long a1, .long a2, .ref oq] ([aJ G oq 1 fo] ++ wi) φ (fun u => some (.int (nI 0))) (fun u => ([aJ G oq 1 (vp_updL fo 0 ((v u).toInt64))] ++ wo u)) := by
  refine Cqw.of (by decide) (Nat.le_of_ble_eq_true rfl) ?_
  intro p e s m args below meth c A ls hx hb hr hml hts hown hlk htb hA hP hD hG hS hl
  have hl : lv_has ls 8 [(0, .ref ox), (1, .int a0), (2, .long a1), (4, .long a2), (6, .ref oq)] := hl
  refine lv_aload hx hb dLa_period_0 (lv_at hl 4 rfl) ?_
  refine lv_iconst (v := nI 0) hx hb dLa_period_2 (by decide) ?_
  refine lv_aload_n hx hb dLa_period_3 rfl (lv_at hl 0 rfl) ?_
  refine lv_iload_n hx hb dLa_period_4 rfl (lv_at hl 1 rfl) ?_
  refine lv_lload_n hx hb dLa_period_5 rfl (lv_at hl 2 rfl) ?_
  refine lv_lload hx hb dLa_period_6 (lv_at hl 3 rfl) ?_
  refine clLa_27 (As := [.int a0, .long a1, .long a2]) (rest := [.int (nI 0), .ref oq]) hx hb hml hown hts hM hG hA hP hD hS 1 hq (List.range' 1 wi.length) (rng_map [aJ G oq 1 fo] wi) (nd_range _ _) ha rfl hl.1 rfl (Nat.le_of_ble_eq_true rfl) ⟨Nat.le_refl _, Nat.le_refl _⟩ ⟨Nat.le_of_eq (Nat.zero_add _), Nat.le_of_eq (Nat.zero_add _)⟩ dLa_period_8 (fun u H locs hu hP hD hS => ?_)
  have e9 : ck_set ([aJ G oq 1 fo] ++ wi) (List.range' 1 wi.length) (wo u) = [aJ G oq 1 fo] ++ wo u := set_rng [aJ G oq 1 fo] wi (wo u) (ha_len (ha u))
  rw [e9] at hP hD
  have hP : va_P G.1 vwCl ([aJ G oq 1 fo] ++ wo u) H := hP
  have hD : va_D A ([aJ G oq 1 fo] ++ wo u) := hD
  refine W.cs (cells' := rm.cells) (slots' := rm.slots) (Nat.zero_add _) (Nat.zero_add _) ?_
  refine W.eq (g2 := F0 m 11 ls [.int (v u), .int (nI 0), .ref oq]) rfl ?_
  refine lv_i2l (v := (v u).toInt64) hx hb dLa_period_11 rfl ?_
  refine ck_last hx hb hG hP hD hS 0 rfl (by decide) 0 (rfl) (by decide) dLa_period_12 (fun H locs hP hD hS => ?_)
  have hP : va_P G.1 vwCl ([aJ G oq 1 (vp_updL fo 0 ((v u).toInt64))] ++ wo u) H := hP
  have hD : va_D A ([aJ G oq 1 (vp_updL fo 0 ((v u).toInt64))] ++ wo u) := hD
  refine lv_goto (tgt := 24) hx hb dLa_period_13 rfl ?_
  refine lv_iconst (v := nI 0) hx hb dLa_period_24 (by decide) ?_
  exact cq_iret u (hu) hx hb hr hlk hP hS (rfl) (rfl) dLa_period_25
set_option maxHeartbeats 4000000 in
set_option maxRecDepth 100000 in
theorem w_La_period_IOB (l : Launch) (G : gG) (ox oq : Nat) (a0 : Int32) (a1 : Int64) (a2 : Int64) {rm : Room} {wi wc : va_W} {fs : List Value} (hM : Cx l G yCK_period cCK_period 7 (some .int) rm [.ref ox, .int a0, .long a1, .long a2] wc "java/lang/IndexOutOfBoundsException" wc) (q0 : Nat) (hq : wi[q0]? = some (oC ox 7 fs)) (is : List Nat) (hC : is.map (fun i => wi[i]?) = wc.map some) (hnd : va_nd is = true) (hset : ck_set wi is wc = wi) : Cqw l G yLa_period cLa_period 8 (some .int) [(0, 13, 16, 19), (0, 13, 20, 31)] { frames := rm.frames + 1, cells := rm.cells, slots := rm.slots, locals := 8 + (7 + 11) + rm.locals } [.ref ox, .int a0, .long a1, .long a2, .ref oq] wi (S := Unit) (fun _ => True) (fun _ => some (.int (nI 1))) (fun _ => wi) := by
  refine Cqw.of (by decide) (Nat.le_of_ble_eq_true rfl) ?_
  intro p e s m args below meth c A ls hx hb hr hml hts hown hlk htb hA hP hD hG hS hl
  have hl : lv_has ls 8 [(0, .ref ox), (1, .int a0), (2, .long a1), (4, .long a2), (6, .ref oq)] := hl
  refine lv_aload hx hb dLa_period_0 (lv_at hl 4 rfl) ?_
  refine lv_iconst (v := nI 0) hx hb dLa_period_2 (by decide) ?_
  refine lv_aload_n hx hb dLa_period_3 rfl (lv_at hl 0 rfl) ?_
  refine lv_iload_n hx hb dLa_period_4 rfl (lv_at hl 1 rfl) ?_
  refine lv_lload_n hx hb dLa_period_5 rfl (lv_at hl 2 rfl) ?_
  refine lv_lload hx hb dLa_period_6 (lv_at hl 3 rfl) ?_
  refine cxLa_27 (As := [.int a0, .long a1, .long a2]) (rest := [.int (nI 0), .ref oq]) hx hb hml hown hts hM hG hA hP hD hS q0 hq is hC hnd hset rfl hl.1 rfl (Nat.le_of_ble_eq_true rfl) ⟨Nat.le_refl _, Nat.le_refl _⟩ ⟨Nat.le_of_eq (Nat.zero_add _), Nat.le_of_eq (Nat.zero_add _)⟩ dLa_period_8 [] ⟨0, 13, 16, 19⟩ [⟨0, 13, 20, 31⟩] htb (fun z hz => by cases hz) (by decide) (by decide) (hts _ kLaIOB) (va_Nw.use rfl (hG.2.2.2.2.2.2.1 _ kLcIOB)) (fun qx H locs hP hD hS => ?_)
  refine W.cs (cells' := rm.cells) (slots' := rm.slots) (Nat.zero_add _) (Nat.zero_add _) ?_
  refine W.eq (g2 := F0 m 16 ls [.ref qx]) rfl ?_
  refine lv_astore (lv' := [(7, .ref qx), (0, .ref ox), (1, .int a0), (2, .long a1), (4, .long a2), (6, .ref oq)]) hx hb dLa_period_16 hl (by decide) rfl (fun ls hl => ?_)
  refine lv_iconst (v := nI 1) hx hb dLa_period_18 (by decide) ?_
  exact cq_iret () (trivial) hx hb hr hlk hP hS (rfl) (rfl) dLa_period_19
set_option maxHeartbeats 4000000 in
set_option maxRecDepth 100000 in
theorem w_La_period_UOE (l : Launch) (G : gG) (ox oq : Nat) (a0 : Int32) (a1 : Int64) (a2 : Int64) {rm : Room} {wi wc : va_W} {fs : List Value} (hM : Cx l G yCK_period cCK_period 7 (some .int) rm [.ref ox, .int a0, .long a1, .long a2] wc "java/lang/UnsupportedOperationException" wc) (q0 : Nat) (hq : wi[q0]? = some (oC ox 7 fs)) (is : List Nat) (hC : is.map (fun i => wi[i]?) = wc.map some) (hnd : va_nd is = true) (hset : ck_set wi is wc = wi) : Cqw l G yLa_period cLa_period 8 (some .int) [(0, 13, 16, 19), (0, 13, 20, 31)] { frames := rm.frames + 1, cells := rm.cells, slots := rm.slots, locals := 8 + (7 + 11) + rm.locals } [.ref ox, .int a0, .long a1, .long a2, .ref oq] wi (S := Unit) (fun _ => True) (fun _ => some (.int (nI 2))) (fun _ => wi) := by
  refine Cqw.of (by decide) (Nat.le_of_ble_eq_true rfl) ?_
  intro p e s m args below meth c A ls hx hb hr hml hts hown hlk htb hA hP hD hG hS hl
  have hl : lv_has ls 8 [(0, .ref ox), (1, .int a0), (2, .long a1), (4, .long a2), (6, .ref oq)] := hl
  refine lv_aload hx hb dLa_period_0 (lv_at hl 4 rfl) ?_
  refine lv_iconst (v := nI 0) hx hb dLa_period_2 (by decide) ?_
  refine lv_aload_n hx hb dLa_period_3 rfl (lv_at hl 0 rfl) ?_
  refine lv_iload_n hx hb dLa_period_4 rfl (lv_at hl 1 rfl) ?_
  refine lv_lload_n hx hb dLa_period_5 rfl (lv_at hl 2 rfl) ?_
  refine lv_lload hx hb dLa_period_6 (lv_at hl 3 rfl) ?_
  refine cxLa_27 (As := [.int a0, .long a1, .long a2]) (rest := [.int (nI 0), .ref oq]) hx hb hml hown hts hM hG hA hP hD hS q0 hq is hC hnd hset rfl hl.1 rfl (Nat.le_of_ble_eq_true rfl) ⟨Nat.le_refl _, Nat.le_refl _⟩ ⟨Nat.le_of_eq (Nat.zero_add _), Nat.le_of_eq (Nat.zero_add _)⟩ dLa_period_8 [⟨0, 13, 16, 19⟩] ⟨0, 13, 20, 31⟩ [] htb (fun z hz => by obtain rfl := List.mem_singleton.mp hz; exact Or.inr ⟨by decide, "java/lang/IndexOutOfBoundsException", hts _ kLaIOB, hG.2.2.2.2.2.2.2 _ kLnUOE_IOB⟩) (by decide) (by decide) (hts _ kLaUOE) (va_Nw.use rfl (hG.2.2.2.2.2.2.1 _ kLcUOE)) (fun qx H locs hP hD hS => ?_)
  refine W.cs (cells' := rm.cells) (slots' := rm.slots) (Nat.zero_add _) (Nat.zero_add _) ?_
  refine W.eq (g2 := F0 m 20 ls [.ref qx]) rfl ?_
  refine lv_astore (lv' := [(7, .ref qx), (0, .ref ox), (1, .int a0), (2, .long a1), (4, .long a2), (6, .ref oq)]) hx hb dLa_period_20 hl (by decide) rfl (fun ls hl => ?_)
  refine lv_iconst (v := nI 2) hx hb dLa_period_22 (by decide) ?_
  exact cq_iret () (trivial) hx hb hr hlk hP hS (rfl) (rfl) dLa_period_23
set_option maxHeartbeats 4000000 in
set_option maxRecDepth 100000 in
theorem w_La_packet (l : Launch) (G : gG) (ox oq : Nat) (a0 : Int32) (a1 : Int32) (fo : Nat → Int64) {S : Type} {φ : S → Prop} {rm : Room} {wi : va_W} {wo : S → va_W} {fs : List Value} (v : S → Int32) (hM : Cq l G yCK_packet cCK_packet 6 (some .int) rm [.ref ox, .int a0, .int a1] wi φ (fun u => some (.int (v u))) wo) (hq : wi[0]? = some (oC ox 7 fs)) (ha : ∀ u, (wo u).map (·.1) = wi.map (·.1)) : Cqw l G yLa_packet cLa_packet 5 (some .int) [(0, 10, 13, 19), (0, 10, 17, 21), (0, 10, 21, 13)] { frames := rm.frames + 1, cells := rm.cells, slots := rm.slots, locals := 8 + (6 + 11) + rm.locals } [.ref ox, .int a0, .int a1, .ref oq] ([aJ G oq 1 fo] ++ wi) φ (fun u => some (.int (nI 0))) (fun u => ([aJ G oq 1 (vp_updL fo 0 ((v u).toInt64))] ++ wo u)) := by
  refine Cqw.of (by decide) (Nat.le_of_ble_eq_true rfl) ?_
  intro p e s m args below meth c A ls hx hb hr hml hts hown hlk htb hA hP hD hG hS hl
  have hl : lv_has ls 5 [(0, .ref ox), (1, .int a0), (2, .int a1), (3, .ref oq)] := hl
  refine lv_aload_n hx hb dLa_packet_0 rfl (lv_at hl 3 rfl) ?_
  refine lv_iconst (v := nI 0) hx hb dLa_packet_1 (by decide) ?_
  refine lv_aload_n hx hb dLa_packet_2 rfl (lv_at hl 0 rfl) ?_
  refine lv_iload_n hx hb dLa_packet_3 rfl (lv_at hl 1 rfl) ?_
  refine lv_iload_n hx hb dLa_packet_4 rfl (lv_at hl 2 rfl) ?_
  refine clLa_33 (As := [.int a0, .int a1]) (rest := [.int (nI 0), .ref oq]) hx hb hml hown hts hM hG hA hP hD hS 1 hq (List.range' 1 wi.length) (rng_map [aJ G oq 1 fo] wi) (nd_range _ _) ha rfl hl.1 rfl (Nat.le_of_ble_eq_true rfl) ⟨Nat.le_refl _, Nat.le_refl _⟩ ⟨Nat.le_of_eq (Nat.zero_add _), Nat.le_of_eq (Nat.zero_add _)⟩ dLa_packet_5 (fun u H locs hu hP hD hS => ?_)
  have e9 : ck_set ([aJ G oq 1 fo] ++ wi) (List.range' 1 wi.length) (wo u) = [aJ G oq 1 fo] ++ wo u := set_rng [aJ G oq 1 fo] wi (wo u) (ha_len (ha u))
  rw [e9] at hP hD
  have hP : va_P G.1 vwCl ([aJ G oq 1 fo] ++ wo u) H := hP
  have hD : va_D A ([aJ G oq 1 fo] ++ wo u) := hD
  refine W.cs (cells' := rm.cells) (slots' := rm.slots) (Nat.zero_add _) (Nat.zero_add _) ?_
  refine W.eq (g2 := F0 m 8 ls [.int (v u), .int (nI 0), .ref oq]) rfl ?_
  refine lv_i2l (v := (v u).toInt64) hx hb dLa_packet_8 rfl ?_
  refine ck_last hx hb hG hP hD hS 0 rfl (by decide) 0 (rfl) (by decide) dLa_packet_9 (fun H locs hP hD hS => ?_)
  have hP : va_P G.1 vwCl ([aJ G oq 1 (vp_updL fo 0 ((v u).toInt64))] ++ wo u) H := hP
  have hD : va_D A ([aJ G oq 1 (vp_updL fo 0 ((v u).toInt64))] ++ wo u) := hD
  refine lv_goto (tgt := 25) hx hb dLa_packet_10 rfl ?_
  refine lv_iconst (v := nI 0) hx hb dLa_packet_25 (by decide) ?_
  exact cq_iret u (hu) hx hb hr hlk hP hS (rfl) (rfl) dLa_packet_26
set_option maxHeartbeats 4000000 in
set_option maxRecDepth 100000 in
theorem w_La_packet_IOB (l : Launch) (G : gG) (ox oq : Nat) (a0 : Int32) (a1 : Int32) {rm : Room} {wi wc : va_W} {fs : List Value} (hM : Cx l G yCK_packet cCK_packet 6 (some .int) rm [.ref ox, .int a0, .int a1] wc "java/lang/IndexOutOfBoundsException" wc) (q0 : Nat) (hq : wi[q0]? = some (oC ox 7 fs)) (is : List Nat) (hC : is.map (fun i => wi[i]?) = wc.map some) (hnd : va_nd is = true) (hset : ck_set wi is wc = wi) : Cqw l G yLa_packet cLa_packet 5 (some .int) [(0, 10, 13, 19), (0, 10, 17, 21), (0, 10, 21, 13)] { frames := rm.frames + 1, cells := rm.cells, slots := rm.slots, locals := 8 + (6 + 11) + rm.locals } [.ref ox, .int a0, .int a1, .ref oq] wi (S := Unit) (fun _ => True) (fun _ => some (.int (nI 1))) (fun _ => wi) := by
  refine Cqw.of (by decide) (Nat.le_of_ble_eq_true rfl) ?_
  intro p e s m args below meth c A ls hx hb hr hml hts hown hlk htb hA hP hD hG hS hl
  have hl : lv_has ls 5 [(0, .ref ox), (1, .int a0), (2, .int a1), (3, .ref oq)] := hl
  refine lv_aload_n hx hb dLa_packet_0 rfl (lv_at hl 3 rfl) ?_
  refine lv_iconst (v := nI 0) hx hb dLa_packet_1 (by decide) ?_
  refine lv_aload_n hx hb dLa_packet_2 rfl (lv_at hl 0 rfl) ?_
  refine lv_iload_n hx hb dLa_packet_3 rfl (lv_at hl 1 rfl) ?_
  refine lv_iload_n hx hb dLa_packet_4 rfl (lv_at hl 2 rfl) ?_
  refine cxLa_33 (As := [.int a0, .int a1]) (rest := [.int (nI 0), .ref oq]) hx hb hml hown hts hM hG hA hP hD hS q0 hq is hC hnd hset rfl hl.1 rfl (Nat.le_of_ble_eq_true rfl) ⟨Nat.le_refl _, Nat.le_refl _⟩ ⟨Nat.le_of_eq (Nat.zero_add _), Nat.le_of_eq (Nat.zero_add _)⟩ dLa_packet_5 [] ⟨0, 10, 13, 19⟩ [⟨0, 10, 17, 21⟩, ⟨0, 10, 21, 13⟩] htb (fun z hz => by cases hz) (by decide) (by decide) (hts _ kLaIOB) (va_Nw.use rfl (hG.2.2.2.2.2.2.1 _ kLcIOB)) (fun qx H locs hP hD hS => ?_)
  refine W.cs (cells' := rm.cells) (slots' := rm.slots) (Nat.zero_add _) (Nat.zero_add _) ?_
  refine W.eq (g2 := F0 m 13 ls [.ref qx]) rfl ?_
  refine lv_astore (lv' := [(4, .ref qx), (0, .ref ox), (1, .int a0), (2, .int a1), (3, .ref oq)]) hx hb dLa_packet_13 hl (by decide) rfl (fun ls hl => ?_)
  refine lv_iconst (v := nI 1) hx hb dLa_packet_15 (by decide) ?_
  exact cq_iret () (trivial) hx hb hr hlk hP hS (rfl) (rfl) dLa_packet_16
set_option maxHeartbeats 4000000 in
set_option maxRecDepth 100000 in
theorem w_La_packet_ISE (l : Launch) (G : gG) (ox oq : Nat) (a0 : Int32) (a1 : Int32) {rm : Room} {wi wc : va_W} {fs : List Value} (hM : Cx l G yCK_packet cCK_packet 6 (some .int) rm [.ref ox, .int a0, .int a1] wc "java/lang/IllegalStateException" wc) (q0 : Nat) (hq : wi[q0]? = some (oC ox 7 fs)) (is : List Nat) (hC : is.map (fun i => wi[i]?) = wc.map some) (hnd : va_nd is = true) (hset : ck_set wi is wc = wi) : Cqw l G yLa_packet cLa_packet 5 (some .int) [(0, 10, 13, 19), (0, 10, 17, 21), (0, 10, 21, 13)] { frames := rm.frames + 1, cells := rm.cells, slots := rm.slots, locals := 8 + (6 + 11) + rm.locals } [.ref ox, .int a0, .int a1, .ref oq] wi (S := Unit) (fun _ => True) (fun _ => some (.int (nI 2))) (fun _ => wi) := by
  refine Cqw.of (by decide) (Nat.le_of_ble_eq_true rfl) ?_
  intro p e s m args below meth c A ls hx hb hr hml hts hown hlk htb hA hP hD hG hS hl
  have hl : lv_has ls 5 [(0, .ref ox), (1, .int a0), (2, .int a1), (3, .ref oq)] := hl
  refine lv_aload_n hx hb dLa_packet_0 rfl (lv_at hl 3 rfl) ?_
  refine lv_iconst (v := nI 0) hx hb dLa_packet_1 (by decide) ?_
  refine lv_aload_n hx hb dLa_packet_2 rfl (lv_at hl 0 rfl) ?_
  refine lv_iload_n hx hb dLa_packet_3 rfl (lv_at hl 1 rfl) ?_
  refine lv_iload_n hx hb dLa_packet_4 rfl (lv_at hl 2 rfl) ?_
  refine cxLa_33 (As := [.int a0, .int a1]) (rest := [.int (nI 0), .ref oq]) hx hb hml hown hts hM hG hA hP hD hS q0 hq is hC hnd hset rfl hl.1 rfl (Nat.le_of_ble_eq_true rfl) ⟨Nat.le_refl _, Nat.le_refl _⟩ ⟨Nat.le_of_eq (Nat.zero_add _), Nat.le_of_eq (Nat.zero_add _)⟩ dLa_packet_5 [⟨0, 10, 13, 19⟩] ⟨0, 10, 17, 21⟩ [⟨0, 10, 21, 13⟩] htb (fun z hz => by obtain rfl := List.mem_singleton.mp hz; exact Or.inr ⟨by decide, "java/lang/IndexOutOfBoundsException", hts _ kLaIOB, hG.2.2.2.2.2.2.2 _ kLnISE_IOB⟩) (by decide) (by decide) (hts _ kLaISE) (va_Nw.use rfl (hG.2.2.2.2.2.2.1 _ kLcISE)) (fun qx H locs hP hD hS => ?_)
  refine W.cs (cells' := rm.cells) (slots' := rm.slots) (Nat.zero_add _) (Nat.zero_add _) ?_
  refine W.eq (g2 := F0 m 17 ls [.ref qx]) rfl ?_
  refine lv_astore (lv' := [(4, .ref qx), (0, .ref ox), (1, .int a0), (2, .int a1), (3, .ref oq)]) hx hb dLa_packet_17 hl (by decide) rfl (fun ls hl => ?_)
  refine lv_iconst (v := nI 2) hx hb dLa_packet_19 (by decide) ?_
  exact cq_iret () (trivial) hx hb hr hlk hP hS (rfl) (rfl) dLa_packet_20
set_option maxHeartbeats 4000000 in
set_option maxRecDepth 100000 in
theorem w_La_packet_IAE (l : Launch) (G : gG) (ox oq : Nat) (a0 : Int32) (a1 : Int32) {rm : Room} {wi wc : va_W} {fs : List Value} (hM : Cx l G yCK_packet cCK_packet 6 (some .int) rm [.ref ox, .int a0, .int a1] wc "java/lang/IllegalArgumentException" wc) (q0 : Nat) (hq : wi[q0]? = some (oC ox 7 fs)) (is : List Nat) (hC : is.map (fun i => wi[i]?) = wc.map some) (hnd : va_nd is = true) (hset : ck_set wi is wc = wi) : Cqw l G yLa_packet cLa_packet 5 (some .int) [(0, 10, 13, 19), (0, 10, 17, 21), (0, 10, 21, 13)] { frames := rm.frames + 1, cells := rm.cells, slots := rm.slots, locals := 8 + (6 + 11) + rm.locals } [.ref ox, .int a0, .int a1, .ref oq] wi (S := Unit) (fun _ => True) (fun _ => some (.int (nI 3))) (fun _ => wi) := by
  refine Cqw.of (by decide) (Nat.le_of_ble_eq_true rfl) ?_
  intro p e s m args below meth c A ls hx hb hr hml hts hown hlk htb hA hP hD hG hS hl
  have hl : lv_has ls 5 [(0, .ref ox), (1, .int a0), (2, .int a1), (3, .ref oq)] := hl
  refine lv_aload_n hx hb dLa_packet_0 rfl (lv_at hl 3 rfl) ?_
  refine lv_iconst (v := nI 0) hx hb dLa_packet_1 (by decide) ?_
  refine lv_aload_n hx hb dLa_packet_2 rfl (lv_at hl 0 rfl) ?_
  refine lv_iload_n hx hb dLa_packet_3 rfl (lv_at hl 1 rfl) ?_
  refine lv_iload_n hx hb dLa_packet_4 rfl (lv_at hl 2 rfl) ?_
  refine cxLa_33 (As := [.int a0, .int a1]) (rest := [.int (nI 0), .ref oq]) hx hb hml hown hts hM hG hA hP hD hS q0 hq is hC hnd hset rfl hl.1 rfl (Nat.le_of_ble_eq_true rfl) ⟨Nat.le_refl _, Nat.le_refl _⟩ ⟨Nat.le_of_eq (Nat.zero_add _), Nat.le_of_eq (Nat.zero_add _)⟩ dLa_packet_5 [⟨0, 10, 13, 19⟩, ⟨0, 10, 17, 21⟩] ⟨0, 10, 21, 13⟩ [] htb (fun z hz => by
      rcases List.mem_cons.mp hz with rfl | hz
      · exact Or.inr ⟨by decide, "java/lang/IndexOutOfBoundsException", hts _ kLaIOB, hG.2.2.2.2.2.2.2 _ kLnIAE_IOB⟩
      · obtain rfl := List.mem_singleton.mp hz; exact Or.inr ⟨by decide, "java/lang/IllegalStateException", hts _ kLaISE, hG.2.2.2.2.2.2.2 _ kLnIAE_ISE⟩) (by decide) (by decide) (hts _ kLaIAE) (va_Nw.use rfl (hG.2.2.2.2.2.2.1 _ kLcIAE)) (fun qx H locs hP hD hS => ?_)
  refine W.cs (cells' := rm.cells) (slots' := rm.slots) (Nat.zero_add _) (Nat.zero_add _) ?_
  refine W.eq (g2 := F0 m 21 ls [.ref qx]) rfl ?_
  refine lv_astore (lv' := [(4, .ref qx), (0, .ref ox), (1, .int a0), (2, .int a1), (3, .ref oq)]) hx hb dLa_packet_21 hl (by decide) rfl (fun ls hl => ?_)
  refine lv_iconst (v := nI 3) hx hb dLa_packet_23 (by decide) ?_
  exact cq_iret () (trivial) hx hb hr hlk hP hS (rfl) (rfl) dLa_packet_24
set_option maxHeartbeats 4000000 in
set_option maxRecDepth 100000 in
theorem w_La_air (l : Launch) (G : gG) (ox oq : Nat) (a0 : Int32) (fo : Nat → Int64) {S : Type} {φ : S → Prop} {rm : Room} {wi : va_W} {wo : S → va_W} {fs : List Value} (v : S → Int32) (hM : Cq l G yCK_air cCK_air 2 (some .int) rm [.ref ox, .int a0] wi φ (fun u => some (.int (v u))) wo) (hq : wi[0]? = some (oC ox 7 fs)) (ha : ∀ u, (wo u).map (·.1) = wi.map (·.1)) : Cqw l G yLa_air cLa_air 4 (some .int) [(0, 9, 12, 19)] { frames := rm.frames + 1, cells := rm.cells, slots := rm.slots, locals := 8 + (2 + 11) + rm.locals } [.ref ox, .int a0, .ref oq] ([aJ G oq 1 fo] ++ wi) φ (fun u => some (.int (nI 0))) (fun u => ([aJ G oq 1 (vp_updL fo 0 ((v u).toInt64))] ++ wo u)) := by
  refine Cqw.of (by decide) (Nat.le_of_ble_eq_true rfl) ?_
  intro p e s m args below meth c A ls hx hb hr hml hts hown hlk htb hA hP hD hG hS hl
  have hl : lv_has ls 4 [(0, .ref ox), (1, .int a0), (2, .ref oq)] := hl
  refine lv_aload_n hx hb dLa_air_0 rfl (lv_at hl 2 rfl) ?_
  refine lv_iconst (v := nI 0) hx hb dLa_air_1 (by decide) ?_
  refine lv_aload_n hx hb dLa_air_2 rfl (lv_at hl 0 rfl) ?_
  refine lv_iload_n hx hb dLa_air_3 rfl (lv_at hl 1 rfl) ?_
  refine clLa_37 (As := [.int a0]) (rest := [.int (nI 0), .ref oq]) hx hb hml hown hts hM hG hA hP hD hS 1 hq (List.range' 1 wi.length) (rng_map [aJ G oq 1 fo] wi) (nd_range _ _) ha rfl hl.1 rfl (Nat.le_of_ble_eq_true rfl) ⟨Nat.le_refl _, Nat.le_refl _⟩ ⟨Nat.le_of_eq (Nat.zero_add _), Nat.le_of_eq (Nat.zero_add _)⟩ dLa_air_4 (fun u H locs hu hP hD hS => ?_)
  have e9 : ck_set ([aJ G oq 1 fo] ++ wi) (List.range' 1 wi.length) (wo u) = [aJ G oq 1 fo] ++ wo u := set_rng [aJ G oq 1 fo] wi (wo u) (ha_len (ha u))
  rw [e9] at hP hD
  have hP : va_P G.1 vwCl ([aJ G oq 1 fo] ++ wo u) H := hP
  have hD : va_D A ([aJ G oq 1 fo] ++ wo u) := hD
  refine W.cs (cells' := rm.cells) (slots' := rm.slots) (Nat.zero_add _) (Nat.zero_add _) ?_
  refine W.eq (g2 := F0 m 7 ls [.int (v u), .int (nI 0), .ref oq]) rfl ?_
  refine lv_i2l (v := (v u).toInt64) hx hb dLa_air_7 rfl ?_
  refine ck_last hx hb hG hP hD hS 0 rfl (by decide) 0 (rfl) (by decide) dLa_air_8 (fun H locs hP hD hS => ?_)
  have hP : va_P G.1 vwCl ([aJ G oq 1 (vp_updL fo 0 ((v u).toInt64))] ++ wo u) H := hP
  have hD : va_D A ([aJ G oq 1 (vp_updL fo 0 ((v u).toInt64))] ++ wo u) := hD
  refine lv_goto (tgt := 15) hx hb dLa_air_9 rfl ?_
  refine lv_iconst (v := nI 0) hx hb dLa_air_15 (by decide) ?_
  exact cq_iret u (hu) hx hb hr hlk hP hS (rfl) (rfl) dLa_air_16
set_option maxHeartbeats 4000000 in
set_option maxRecDepth 100000 in
theorem w_La_air_IOB (l : Launch) (G : gG) (ox oq : Nat) (a0 : Int32) {rm : Room} {wi wc : va_W} {fs : List Value} (hM : Cx l G yCK_air cCK_air 2 (some .int) rm [.ref ox, .int a0] wc "java/lang/IndexOutOfBoundsException" wc) (q0 : Nat) (hq : wi[q0]? = some (oC ox 7 fs)) (is : List Nat) (hC : is.map (fun i => wi[i]?) = wc.map some) (hnd : va_nd is = true) (hset : ck_set wi is wc = wi) : Cqw l G yLa_air cLa_air 4 (some .int) [(0, 9, 12, 19)] { frames := rm.frames + 1, cells := rm.cells, slots := rm.slots, locals := 8 + (2 + 11) + rm.locals } [.ref ox, .int a0, .ref oq] wi (S := Unit) (fun _ => True) (fun _ => some (.int (nI 1))) (fun _ => wi) := by
  refine Cqw.of (by decide) (Nat.le_of_ble_eq_true rfl) ?_
  intro p e s m args below meth c A ls hx hb hr hml hts hown hlk htb hA hP hD hG hS hl
  have hl : lv_has ls 4 [(0, .ref ox), (1, .int a0), (2, .ref oq)] := hl
  refine lv_aload_n hx hb dLa_air_0 rfl (lv_at hl 2 rfl) ?_
  refine lv_iconst (v := nI 0) hx hb dLa_air_1 (by decide) ?_
  refine lv_aload_n hx hb dLa_air_2 rfl (lv_at hl 0 rfl) ?_
  refine lv_iload_n hx hb dLa_air_3 rfl (lv_at hl 1 rfl) ?_
  refine cxLa_37 (As := [.int a0]) (rest := [.int (nI 0), .ref oq]) hx hb hml hown hts hM hG hA hP hD hS q0 hq is hC hnd hset rfl hl.1 rfl (Nat.le_of_ble_eq_true rfl) ⟨Nat.le_refl _, Nat.le_refl _⟩ ⟨Nat.le_of_eq (Nat.zero_add _), Nat.le_of_eq (Nat.zero_add _)⟩ dLa_air_4 [] ⟨0, 9, 12, 19⟩ [] htb (fun z hz => by cases hz) (by decide) (by decide) (hts _ kLaIOB) (va_Nw.use rfl (hG.2.2.2.2.2.2.1 _ kLcIOB)) (fun qx H locs hP hD hS => ?_)
  refine W.cs (cells' := rm.cells) (slots' := rm.slots) (Nat.zero_add _) (Nat.zero_add _) ?_
  refine W.eq (g2 := F0 m 12 ls [.ref qx]) rfl ?_
  refine lv_astore_n (lv' := [(3, .ref qx), (0, .ref ox), (1, .int a0), (2, .ref oq)]) hx hb dLa_air_12 rfl hl (by decide) rfl (fun ls hl => ?_)
  refine lv_iconst (v := nI 1) hx hb dLa_air_13 (by decide) ?_
  exact cq_iret () (trivial) hx hb hr hlk hP hS (rfl) (rfl) dLa_air_14
set_option maxHeartbeats 4000000 in
set_option maxRecDepth 100000 in
theorem w_La_flip (l : Launch) (G : gG) (ox : Nat) (a0 : Int32) (a1 : Int32) {S : Type} {φ : S → Prop} {rm : Room} {wi : va_W} {wo : S → va_W} {fs : List Value} (hM : Cq l G yCK_flip cCK_flip 3 none rm [.ref ox, .int a0, .int a1] wi φ (fun u => none) wo) (hq : wi[0]? = some (oC ox 7 fs)) (ha : ∀ u, (wo u).map (·.1) = wi.map (·.1)) : Cqw l G yLa_flip cLa_flip 4 (some .int) [(0, 6, 9, 19)] { frames := rm.frames + 1, cells := rm.cells, slots := rm.slots, locals := 8 + (3 + 11) + rm.locals } [.ref ox, .int a0, .int a1] ([] ++ wi) φ (fun u => some (.int (nI 0))) (fun u => ([] ++ wo u)) := by
  refine Cqw.of (by decide) (Nat.le_of_ble_eq_true rfl) ?_
  intro p e s m args below meth c A ls hx hb hr hml hts hown hlk htb hA hP hD hG hS hl
  have hl : lv_has ls 4 [(0, .ref ox), (1, .int a0), (2, .int a1)] := hl
  refine lv_aload_n hx hb dLa_flip_0 rfl (lv_at hl 0 rfl) ?_
  refine lv_iload_n hx hb dLa_flip_1 rfl (lv_at hl 1 rfl) ?_
  refine lv_iload_n hx hb dLa_flip_2 rfl (lv_at hl 2 rfl) ?_
  refine clLa_40 (As := [.int a0, .int a1]) (rest := []) hx hb hml hown hts hM hG hA hP hD hS 0 hq (List.range' 0 wi.length) (rng_map [] wi) (nd_range _ _) ha rfl hl.1 rfl (Nat.le_of_ble_eq_true rfl) ⟨Nat.le_refl _, Nat.le_refl _⟩ ⟨Nat.le_of_eq (Nat.zero_add _), Nat.le_of_eq (Nat.zero_add _)⟩ dLa_flip_3 (fun u H locs hu hP hD hS => ?_)
  have e9 : ck_set ([] ++ wi) (List.range' 0 wi.length) (wo u) = [] ++ wo u := set_rng [] wi (wo u) (ha_len (ha u))
  rw [e9] at hP hD
  have hP : va_P G.1 vwCl ([] ++ wo u) H := hP
  have hD : va_D A ([] ++ wo u) := hD
  refine W.cs (cells' := rm.cells) (slots' := rm.slots) (Nat.zero_add _) (Nat.zero_add _) ?_
  refine W.eq (g2 := F0 m 6 ls []) rfl ?_
  refine lv_goto (tgt := 12) hx hb dLa_flip_6 rfl ?_
  refine lv_iconst (v := nI 0) hx hb dLa_flip_12 (by decide) ?_
  exact cq_iret u (hu) hx hb hr hlk hP hS (rfl) (rfl) dLa_flip_13
set_option maxHeartbeats 4000000 in
set_option maxRecDepth 100000 in
theorem w_La_flip_IOB (l : Launch) (G : gG) (ox : Nat) (a0 : Int32) (a1 : Int32) {rm : Room} {wi wc : va_W} {fs : List Value} (hM : Cx l G yCK_flip cCK_flip 3 none rm [.ref ox, .int a0, .int a1] wc "java/lang/IndexOutOfBoundsException" wc) (q0 : Nat) (hq : wi[q0]? = some (oC ox 7 fs)) (is : List Nat) (hC : is.map (fun i => wi[i]?) = wc.map some) (hnd : va_nd is = true) (hset : ck_set wi is wc = wi) : Cqw l G yLa_flip cLa_flip 4 (some .int) [(0, 6, 9, 19)] { frames := rm.frames + 1, cells := rm.cells, slots := rm.slots, locals := 8 + (3 + 11) + rm.locals } [.ref ox, .int a0, .int a1] wi (S := Unit) (fun _ => True) (fun _ => some (.int (nI 1))) (fun _ => wi) := by
  refine Cqw.of (by decide) (Nat.le_of_ble_eq_true rfl) ?_
  intro p e s m args below meth c A ls hx hb hr hml hts hown hlk htb hA hP hD hG hS hl
  have hl : lv_has ls 4 [(0, .ref ox), (1, .int a0), (2, .int a1)] := hl
  refine lv_aload_n hx hb dLa_flip_0 rfl (lv_at hl 0 rfl) ?_
  refine lv_iload_n hx hb dLa_flip_1 rfl (lv_at hl 1 rfl) ?_
  refine lv_iload_n hx hb dLa_flip_2 rfl (lv_at hl 2 rfl) ?_
  refine cxLa_40 (As := [.int a0, .int a1]) (rest := []) hx hb hml hown hts hM hG hA hP hD hS q0 hq is hC hnd hset rfl hl.1 rfl (Nat.le_of_ble_eq_true rfl) ⟨Nat.le_refl _, Nat.le_refl _⟩ ⟨Nat.le_of_eq (Nat.zero_add _), Nat.le_of_eq (Nat.zero_add _)⟩ dLa_flip_3 [] ⟨0, 6, 9, 19⟩ [] htb (fun z hz => by cases hz) (by decide) (by decide) (hts _ kLaIOB) (va_Nw.use rfl (hG.2.2.2.2.2.2.1 _ kLcIOB)) (fun qx H locs hP hD hS => ?_)
  refine W.cs (cells' := rm.cells) (slots' := rm.slots) (Nat.zero_add _) (Nat.zero_add _) ?_
  refine W.eq (g2 := F0 m 9 ls [.ref qx]) rfl ?_
  refine lv_astore_n (lv' := [(3, .ref qx), (0, .ref ox), (1, .int a0), (2, .int a1)]) hx hb dLa_flip_9 rfl hl (by decide) rfl (fun ls hl => ?_)
  refine lv_iconst (v := nI 1) hx hb dLa_flip_10 (by decide) ?_
  exact cq_iret () (trivial) hx hb hr hlk hP hS (rfl) (rfl) dLa_flip_11
set_option maxHeartbeats 4000000 in
set_option maxRecDepth 100000 in
theorem w_La_hear (l : Launch) (G : gG) (ox oq : Nat) (a0 : Int32) (fo : Nat → Int64) {S : Type} {φ : S → Prop} {rm : Room} {wi : va_W} {wo : S → va_W} {fs : List Value} (v : S → Int32) (hM : Cq l G yCK_hear cCK_hear 8 (some .int) rm [.ref ox, .int a0] wi φ (fun u => some (.int (v u))) wo) (hq : wi[0]? = some (oC ox 7 fs)) (ha : ∀ u, (wo u).map (·.1) = wi.map (·.1)) : Cqw l G yLa_hear cLa_hear 4 (some .int) [(0, 9, 12, 19), (0, 9, 15, 21)] { frames := rm.frames + 1, cells := rm.cells, slots := rm.slots, locals := 8 + (8 + 11) + rm.locals } [.ref ox, .int a0, .ref oq] ([aJ G oq 1 fo] ++ wi) φ (fun u => some (.int (nI 0))) (fun u => ([aJ G oq 1 (vp_updL fo 0 ((v u).toInt64))] ++ wo u)) := by
  refine Cqw.of (by decide) (Nat.le_of_ble_eq_true rfl) ?_
  intro p e s m args below meth c A ls hx hb hr hml hts hown hlk htb hA hP hD hG hS hl
  have hl : lv_has ls 4 [(0, .ref ox), (1, .int a0), (2, .ref oq)] := hl
  refine lv_aload_n hx hb dLa_hear_0 rfl (lv_at hl 2 rfl) ?_
  refine lv_iconst (v := nI 0) hx hb dLa_hear_1 (by decide) ?_
  refine lv_aload_n hx hb dLa_hear_2 rfl (lv_at hl 0 rfl) ?_
  refine lv_iload_n hx hb dLa_hear_3 rfl (lv_at hl 1 rfl) ?_
  refine clLa_44 (As := [.int a0]) (rest := [.int (nI 0), .ref oq]) hx hb hml hown hts hM hG hA hP hD hS 1 hq (List.range' 1 wi.length) (rng_map [aJ G oq 1 fo] wi) (nd_range _ _) ha rfl hl.1 rfl (Nat.le_of_ble_eq_true rfl) ⟨Nat.le_refl _, Nat.le_refl _⟩ ⟨Nat.le_of_eq (Nat.zero_add _), Nat.le_of_eq (Nat.zero_add _)⟩ dLa_hear_4 (fun u H locs hu hP hD hS => ?_)
  have e9 : ck_set ([aJ G oq 1 fo] ++ wi) (List.range' 1 wi.length) (wo u) = [aJ G oq 1 fo] ++ wo u := set_rng [aJ G oq 1 fo] wi (wo u) (ha_len (ha u))
  rw [e9] at hP hD
  have hP : va_P G.1 vwCl ([aJ G oq 1 fo] ++ wo u) H := hP
  have hD : va_D A ([aJ G oq 1 fo] ++ wo u) := hD
  refine W.cs (cells' := rm.cells) (slots' := rm.slots) (Nat.zero_add _) (Nat.zero_add _) ?_
  refine W.eq (g2 := F0 m 7 ls [.int (v u), .int (nI 0), .ref oq]) rfl ?_
  refine lv_i2l (v := (v u).toInt64) hx hb dLa_hear_7 rfl ?_
  refine ck_last hx hb hG hP hD hS 0 rfl (by decide) 0 (rfl) (by decide) dLa_hear_8 (fun H locs hP hD hS => ?_)
  have hP : va_P G.1 vwCl ([aJ G oq 1 (vp_updL fo 0 ((v u).toInt64))] ++ wo u) H := hP
  have hD : va_D A ([aJ G oq 1 (vp_updL fo 0 ((v u).toInt64))] ++ wo u) := hD
  refine lv_goto (tgt := 18) hx hb dLa_hear_9 rfl ?_
  refine lv_iconst (v := nI 0) hx hb dLa_hear_18 (by decide) ?_
  exact cq_iret u (hu) hx hb hr hlk hP hS (rfl) (rfl) dLa_hear_19
set_option maxHeartbeats 4000000 in
set_option maxRecDepth 100000 in
theorem w_La_hear_IOB (l : Launch) (G : gG) (ox oq : Nat) (a0 : Int32) {rm : Room} {wi wc : va_W} {fs : List Value} (hM : Cx l G yCK_hear cCK_hear 8 (some .int) rm [.ref ox, .int a0] wc "java/lang/IndexOutOfBoundsException" wc) (q0 : Nat) (hq : wi[q0]? = some (oC ox 7 fs)) (is : List Nat) (hC : is.map (fun i => wi[i]?) = wc.map some) (hnd : va_nd is = true) (hset : ck_set wi is wc = wi) : Cqw l G yLa_hear cLa_hear 4 (some .int) [(0, 9, 12, 19), (0, 9, 15, 21)] { frames := rm.frames + 1, cells := rm.cells, slots := rm.slots, locals := 8 + (8 + 11) + rm.locals } [.ref ox, .int a0, .ref oq] wi (S := Unit) (fun _ => True) (fun _ => some (.int (nI 1))) (fun _ => wi) := by
  refine Cqw.of (by decide) (Nat.le_of_ble_eq_true rfl) ?_
  intro p e s m args below meth c A ls hx hb hr hml hts hown hlk htb hA hP hD hG hS hl
  have hl : lv_has ls 4 [(0, .ref ox), (1, .int a0), (2, .ref oq)] := hl
  refine lv_aload_n hx hb dLa_hear_0 rfl (lv_at hl 2 rfl) ?_
  refine lv_iconst (v := nI 0) hx hb dLa_hear_1 (by decide) ?_
  refine lv_aload_n hx hb dLa_hear_2 rfl (lv_at hl 0 rfl) ?_
  refine lv_iload_n hx hb dLa_hear_3 rfl (lv_at hl 1 rfl) ?_
  refine cxLa_44 (As := [.int a0]) (rest := [.int (nI 0), .ref oq]) hx hb hml hown hts hM hG hA hP hD hS q0 hq is hC hnd hset rfl hl.1 rfl (Nat.le_of_ble_eq_true rfl) ⟨Nat.le_refl _, Nat.le_refl _⟩ ⟨Nat.le_of_eq (Nat.zero_add _), Nat.le_of_eq (Nat.zero_add _)⟩ dLa_hear_4 [] ⟨0, 9, 12, 19⟩ [⟨0, 9, 15, 21⟩] htb (fun z hz => by cases hz) (by decide) (by decide) (hts _ kLaIOB) (va_Nw.use rfl (hG.2.2.2.2.2.2.1 _ kLcIOB)) (fun qx H locs hP hD hS => ?_)
  refine W.cs (cells' := rm.cells) (slots' := rm.slots) (Nat.zero_add _) (Nat.zero_add _) ?_
  refine W.eq (g2 := F0 m 12 ls [.ref qx]) rfl ?_
  refine lv_astore_n (lv' := [(3, .ref qx), (0, .ref ox), (1, .int a0), (2, .ref oq)]) hx hb dLa_hear_12 rfl hl (by decide) rfl (fun ls hl => ?_)
  refine lv_iconst (v := nI 1) hx hb dLa_hear_13 (by decide) ?_
  exact cq_iret () (trivial) hx hb hr hlk hP hS (rfl) (rfl) dLa_hear_14
set_option maxHeartbeats 4000000 in
set_option maxRecDepth 100000 in
theorem w_La_hear_ISE (l : Launch) (G : gG) (ox oq : Nat) (a0 : Int32) {rm : Room} {wi wc : va_W} {fs : List Value} (hM : Cx l G yCK_hear cCK_hear 8 (some .int) rm [.ref ox, .int a0] wc "java/lang/IllegalStateException" wc) (q0 : Nat) (hq : wi[q0]? = some (oC ox 7 fs)) (is : List Nat) (hC : is.map (fun i => wi[i]?) = wc.map some) (hnd : va_nd is = true) (hset : ck_set wi is wc = wi) : Cqw l G yLa_hear cLa_hear 4 (some .int) [(0, 9, 12, 19), (0, 9, 15, 21)] { frames := rm.frames + 1, cells := rm.cells, slots := rm.slots, locals := 8 + (8 + 11) + rm.locals } [.ref ox, .int a0, .ref oq] wi (S := Unit) (fun _ => True) (fun _ => some (.int (nI 2))) (fun _ => wi) := by
  refine Cqw.of (by decide) (Nat.le_of_ble_eq_true rfl) ?_
  intro p e s m args below meth c A ls hx hb hr hml hts hown hlk htb hA hP hD hG hS hl
  have hl : lv_has ls 4 [(0, .ref ox), (1, .int a0), (2, .ref oq)] := hl
  refine lv_aload_n hx hb dLa_hear_0 rfl (lv_at hl 2 rfl) ?_
  refine lv_iconst (v := nI 0) hx hb dLa_hear_1 (by decide) ?_
  refine lv_aload_n hx hb dLa_hear_2 rfl (lv_at hl 0 rfl) ?_
  refine lv_iload_n hx hb dLa_hear_3 rfl (lv_at hl 1 rfl) ?_
  refine cxLa_44 (As := [.int a0]) (rest := [.int (nI 0), .ref oq]) hx hb hml hown hts hM hG hA hP hD hS q0 hq is hC hnd hset rfl hl.1 rfl (Nat.le_of_ble_eq_true rfl) ⟨Nat.le_refl _, Nat.le_refl _⟩ ⟨Nat.le_of_eq (Nat.zero_add _), Nat.le_of_eq (Nat.zero_add _)⟩ dLa_hear_4 [⟨0, 9, 12, 19⟩] ⟨0, 9, 15, 21⟩ [] htb (fun z hz => by obtain rfl := List.mem_singleton.mp hz; exact Or.inr ⟨by decide, "java/lang/IndexOutOfBoundsException", hts _ kLaIOB, hG.2.2.2.2.2.2.2 _ kLnISE_IOB⟩) (by decide) (by decide) (hts _ kLaISE) (va_Nw.use rfl (hG.2.2.2.2.2.2.1 _ kLcISE)) (fun qx H locs hP hD hS => ?_)
  refine W.cs (cells' := rm.cells) (slots' := rm.slots) (Nat.zero_add _) (Nat.zero_add _) ?_
  refine W.eq (g2 := F0 m 15 ls [.ref qx]) rfl ?_
  refine lv_astore_n (lv' := [(3, .ref qx), (0, .ref ox), (1, .int a0), (2, .ref oq)]) hx hb dLa_hear_15 rfl hl (by decide) rfl (fun ls hl => ?_)
  refine lv_iconst (v := nI 2) hx hb dLa_hear_16 (by decide) ?_
  exact cq_iret () (trivial) hx hb hr hlk hP hS (rfl) (rfl) dLa_hear_17
set_option maxHeartbeats 4000000 in
set_option maxRecDepth 100000 in
theorem w_La_has (l : Launch) (G : gG) (ox oq : Nat) (a0 : Int32) (a1 : Int32) (fo : Nat → Int64) {S : Type} {φ : S → Prop} {rm : Room} {wi : va_W} {wo : S → va_W} {fs : List Value} (v : S → Int32) (hM : Cq l G yCK_has cCK_has 4 (some .int) rm [.ref ox, .int a0, .int a1] wi φ (fun u => some (.int (v u))) wo) (hq : wi[0]? = some (oC ox 7 fs)) (ha : ∀ u, (wo u).map (·.1) = wi.map (·.1)) : Cqw l G yLa_has cLa_has 5 (some .int) [(0, 10, 13, 19)] { frames := rm.frames + 1, cells := rm.cells, slots := rm.slots, locals := 8 + (4 + 11) + rm.locals } [.ref ox, .int a0, .int a1, .ref oq] ([aJ G oq 1 fo] ++ wi) φ (fun u => some (.int (nI 0))) (fun u => ([aJ G oq 1 (vp_updL fo 0 ((v u).toInt64))] ++ wo u)) := by
  refine Cqw.of (by decide) (Nat.le_of_ble_eq_true rfl) ?_
  intro p e s m args below meth c A ls hx hb hr hml hts hown hlk htb hA hP hD hG hS hl
  have hl : lv_has ls 5 [(0, .ref ox), (1, .int a0), (2, .int a1), (3, .ref oq)] := hl
  refine lv_aload_n hx hb dLa_has_0 rfl (lv_at hl 3 rfl) ?_
  refine lv_iconst (v := nI 0) hx hb dLa_has_1 (by decide) ?_
  refine lv_aload_n hx hb dLa_has_2 rfl (lv_at hl 0 rfl) ?_
  refine lv_iload_n hx hb dLa_has_3 rfl (lv_at hl 1 rfl) ?_
  refine lv_iload_n hx hb dLa_has_4 rfl (lv_at hl 2 rfl) ?_
  refine clLa_47 (As := [.int a0, .int a1]) (rest := [.int (nI 0), .ref oq]) hx hb hml hown hts hM hG hA hP hD hS 1 hq (List.range' 1 wi.length) (rng_map [aJ G oq 1 fo] wi) (nd_range _ _) ha rfl hl.1 rfl (Nat.le_of_ble_eq_true rfl) ⟨Nat.le_refl _, Nat.le_refl _⟩ ⟨Nat.le_of_eq (Nat.zero_add _), Nat.le_of_eq (Nat.zero_add _)⟩ dLa_has_5 (fun u H locs hu hP hD hS => ?_)
  have e9 : ck_set ([aJ G oq 1 fo] ++ wi) (List.range' 1 wi.length) (wo u) = [aJ G oq 1 fo] ++ wo u := set_rng [aJ G oq 1 fo] wi (wo u) (ha_len (ha u))
  rw [e9] at hP hD
  have hP : va_P G.1 vwCl ([aJ G oq 1 fo] ++ wo u) H := hP
  have hD : va_D A ([aJ G oq 1 fo] ++ wo u) := hD
  refine W.cs (cells' := rm.cells) (slots' := rm.slots) (Nat.zero_add _) (Nat.zero_add _) ?_
  refine W.eq (g2 := F0 m 8 ls [.int (v u), .int (nI 0), .ref oq]) rfl ?_
  refine lv_i2l (v := (v u).toInt64) hx hb dLa_has_8 rfl ?_
  refine ck_last hx hb hG hP hD hS 0 rfl (by decide) 0 (rfl) (by decide) dLa_has_9 (fun H locs hP hD hS => ?_)
  have hP : va_P G.1 vwCl ([aJ G oq 1 (vp_updL fo 0 ((v u).toInt64))] ++ wo u) H := hP
  have hD : va_D A ([aJ G oq 1 (vp_updL fo 0 ((v u).toInt64))] ++ wo u) := hD
  refine lv_goto (tgt := 17) hx hb dLa_has_10 rfl ?_
  refine lv_iconst (v := nI 0) hx hb dLa_has_17 (by decide) ?_
  exact cq_iret u (hu) hx hb hr hlk hP hS (rfl) (rfl) dLa_has_18
set_option maxHeartbeats 4000000 in
set_option maxRecDepth 100000 in
theorem w_La_has_IOB (l : Launch) (G : gG) (ox oq : Nat) (a0 : Int32) (a1 : Int32) {rm : Room} {wi wc : va_W} {fs : List Value} (hM : Cx l G yCK_has cCK_has 4 (some .int) rm [.ref ox, .int a0, .int a1] wc "java/lang/IndexOutOfBoundsException" wc) (q0 : Nat) (hq : wi[q0]? = some (oC ox 7 fs)) (is : List Nat) (hC : is.map (fun i => wi[i]?) = wc.map some) (hnd : va_nd is = true) (hset : ck_set wi is wc = wi) : Cqw l G yLa_has cLa_has 5 (some .int) [(0, 10, 13, 19)] { frames := rm.frames + 1, cells := rm.cells, slots := rm.slots, locals := 8 + (4 + 11) + rm.locals } [.ref ox, .int a0, .int a1, .ref oq] wi (S := Unit) (fun _ => True) (fun _ => some (.int (nI 1))) (fun _ => wi) := by
  refine Cqw.of (by decide) (Nat.le_of_ble_eq_true rfl) ?_
  intro p e s m args below meth c A ls hx hb hr hml hts hown hlk htb hA hP hD hG hS hl
  have hl : lv_has ls 5 [(0, .ref ox), (1, .int a0), (2, .int a1), (3, .ref oq)] := hl
  refine lv_aload_n hx hb dLa_has_0 rfl (lv_at hl 3 rfl) ?_
  refine lv_iconst (v := nI 0) hx hb dLa_has_1 (by decide) ?_
  refine lv_aload_n hx hb dLa_has_2 rfl (lv_at hl 0 rfl) ?_
  refine lv_iload_n hx hb dLa_has_3 rfl (lv_at hl 1 rfl) ?_
  refine lv_iload_n hx hb dLa_has_4 rfl (lv_at hl 2 rfl) ?_
  refine cxLa_47 (As := [.int a0, .int a1]) (rest := [.int (nI 0), .ref oq]) hx hb hml hown hts hM hG hA hP hD hS q0 hq is hC hnd hset rfl hl.1 rfl (Nat.le_of_ble_eq_true rfl) ⟨Nat.le_refl _, Nat.le_refl _⟩ ⟨Nat.le_of_eq (Nat.zero_add _), Nat.le_of_eq (Nat.zero_add _)⟩ dLa_has_5 [] ⟨0, 10, 13, 19⟩ [] htb (fun z hz => by cases hz) (by decide) (by decide) (hts _ kLaIOB) (va_Nw.use rfl (hG.2.2.2.2.2.2.1 _ kLcIOB)) (fun qx H locs hP hD hS => ?_)
  refine W.cs (cells' := rm.cells) (slots' := rm.slots) (Nat.zero_add _) (Nat.zero_add _) ?_
  refine W.eq (g2 := F0 m 13 ls [.ref qx]) rfl ?_
  refine lv_astore (lv' := [(4, .ref qx), (0, .ref ox), (1, .int a0), (2, .int a1), (3, .ref oq)]) hx hb dLa_has_13 hl (by decide) rfl (fun ls hl => ?_)
  refine lv_iconst (v := nI 1) hx hb dLa_has_15 (by decide) ?_
  exact cq_iret () (trivial) hx hb hr hlk hP hS (rfl) (rfl) dLa_has_16
set_option maxHeartbeats 4000000 in
set_option maxRecDepth 100000 in
theorem w_La_seal (l : Launch) (G : gG) (ox : Nat) (a0 : Int32) (a1 : Int64) (a2 : Int64) (a3 : Int64) {S : Type} {φ : S → Prop} {rm : Room} {wi : va_W} {wo : S → va_W} {fs : List Value} (hM : Cq l G yCK_seal cCK_seal 9 none rm [.ref ox, .int a0, .long a1, .long a2, .long a3] wi φ (fun u => none) wo) (hq : wi[0]? = some (oC ox 7 fs)) (ha : ∀ u, (wo u).map (·.1) = wi.map (·.1)) : Cqw l G yLa_seal cLa_seal 9 (some .int) [(0, 10, 13, 19), (0, 10, 17, 21)] { frames := rm.frames + 1, cells := rm.cells, slots := rm.slots, locals := 8 + (9 + 11) + rm.locals } [.ref ox, .int a0, .long a1, .long a2, .long a3] ([] ++ wi) φ (fun u => some (.int (nI 0))) (fun u => ([] ++ wo u)) := by
  refine Cqw.of (by decide) (Nat.le_of_ble_eq_true rfl) ?_
  intro p e s m args below meth c A ls hx hb hr hml hts hown hlk htb hA hP hD hG hS hl
  have hl : lv_has ls 9 [(0, .ref ox), (1, .int a0), (2, .long a1), (4, .long a2), (6, .long a3)] := hl
  refine lv_aload_n hx hb dLa_seal_0 rfl (lv_at hl 0 rfl) ?_
  refine lv_iload_n hx hb dLa_seal_1 rfl (lv_at hl 1 rfl) ?_
  refine lv_lload_n hx hb dLa_seal_2 rfl (lv_at hl 2 rfl) ?_
  refine lv_lload hx hb dLa_seal_3 (lv_at hl 3 rfl) ?_
  refine lv_lload hx hb dLa_seal_5 (lv_at hl 4 rfl) ?_
  refine clLa_50 (As := [.int a0, .long a1, .long a2, .long a3]) (rest := []) hx hb hml hown hts hM hG hA hP hD hS 0 hq (List.range' 0 wi.length) (rng_map [] wi) (nd_range _ _) ha rfl hl.1 rfl (Nat.le_of_ble_eq_true rfl) ⟨Nat.le_refl _, Nat.le_refl _⟩ ⟨Nat.le_of_eq (Nat.zero_add _), Nat.le_of_eq (Nat.zero_add _)⟩ dLa_seal_7 (fun u H locs hu hP hD hS => ?_)
  have e9 : ck_set ([] ++ wi) (List.range' 0 wi.length) (wo u) = [] ++ wo u := set_rng [] wi (wo u) (ha_len (ha u))
  rw [e9] at hP hD
  have hP : va_P G.1 vwCl ([] ++ wo u) H := hP
  have hD : va_D A ([] ++ wo u) := hD
  refine W.cs (cells' := rm.cells) (slots' := rm.slots) (Nat.zero_add _) (Nat.zero_add _) ?_
  refine W.eq (g2 := F0 m 10 ls []) rfl ?_
  refine lv_goto (tgt := 21) hx hb dLa_seal_10 rfl ?_
  refine lv_iconst (v := nI 0) hx hb dLa_seal_21 (by decide) ?_
  exact cq_iret u (hu) hx hb hr hlk hP hS (rfl) (rfl) dLa_seal_22
set_option maxHeartbeats 4000000 in
set_option maxRecDepth 100000 in
theorem w_La_seal_IOB (l : Launch) (G : gG) (ox : Nat) (a0 : Int32) (a1 : Int64) (a2 : Int64) (a3 : Int64) {rm : Room} {wi wc : va_W} {fs : List Value} (hM : Cx l G yCK_seal cCK_seal 9 none rm [.ref ox, .int a0, .long a1, .long a2, .long a3] wc "java/lang/IndexOutOfBoundsException" wc) (q0 : Nat) (hq : wi[q0]? = some (oC ox 7 fs)) (is : List Nat) (hC : is.map (fun i => wi[i]?) = wc.map some) (hnd : va_nd is = true) (hset : ck_set wi is wc = wi) : Cqw l G yLa_seal cLa_seal 9 (some .int) [(0, 10, 13, 19), (0, 10, 17, 21)] { frames := rm.frames + 1, cells := rm.cells, slots := rm.slots, locals := 8 + (9 + 11) + rm.locals } [.ref ox, .int a0, .long a1, .long a2, .long a3] wi (S := Unit) (fun _ => True) (fun _ => some (.int (nI 1))) (fun _ => wi) := by
  refine Cqw.of (by decide) (Nat.le_of_ble_eq_true rfl) ?_
  intro p e s m args below meth c A ls hx hb hr hml hts hown hlk htb hA hP hD hG hS hl
  have hl : lv_has ls 9 [(0, .ref ox), (1, .int a0), (2, .long a1), (4, .long a2), (6, .long a3)] := hl
  refine lv_aload_n hx hb dLa_seal_0 rfl (lv_at hl 0 rfl) ?_
  refine lv_iload_n hx hb dLa_seal_1 rfl (lv_at hl 1 rfl) ?_
  refine lv_lload_n hx hb dLa_seal_2 rfl (lv_at hl 2 rfl) ?_
  refine lv_lload hx hb dLa_seal_3 (lv_at hl 3 rfl) ?_
  refine lv_lload hx hb dLa_seal_5 (lv_at hl 4 rfl) ?_
  refine cxLa_50 (As := [.int a0, .long a1, .long a2, .long a3]) (rest := []) hx hb hml hown hts hM hG hA hP hD hS q0 hq is hC hnd hset rfl hl.1 rfl (Nat.le_of_ble_eq_true rfl) ⟨Nat.le_refl _, Nat.le_refl _⟩ ⟨Nat.le_of_eq (Nat.zero_add _), Nat.le_of_eq (Nat.zero_add _)⟩ dLa_seal_7 [] ⟨0, 10, 13, 19⟩ [⟨0, 10, 17, 21⟩] htb (fun z hz => by cases hz) (by decide) (by decide) (hts _ kLaIOB) (va_Nw.use rfl (hG.2.2.2.2.2.2.1 _ kLcIOB)) (fun qx H locs hP hD hS => ?_)
  refine W.cs (cells' := rm.cells) (slots' := rm.slots) (Nat.zero_add _) (Nat.zero_add _) ?_
  refine W.eq (g2 := F0 m 13 ls [.ref qx]) rfl ?_
  refine lv_astore (lv' := [(8, .ref qx), (0, .ref ox), (1, .int a0), (2, .long a1), (4, .long a2), (6, .long a3)]) hx hb dLa_seal_13 hl (by decide) rfl (fun ls hl => ?_)
  refine lv_iconst (v := nI 1) hx hb dLa_seal_15 (by decide) ?_
  exact cq_iret () (trivial) hx hb hr hlk hP hS (rfl) (rfl) dLa_seal_16
set_option maxHeartbeats 4000000 in
set_option maxRecDepth 100000 in
theorem w_La_seal_ISE (l : Launch) (G : gG) (ox : Nat) (a0 : Int32) (a1 : Int64) (a2 : Int64) (a3 : Int64) {rm : Room} {wi wc : va_W} {fs : List Value} (hM : Cx l G yCK_seal cCK_seal 9 none rm [.ref ox, .int a0, .long a1, .long a2, .long a3] wc "java/lang/IllegalStateException" wc) (q0 : Nat) (hq : wi[q0]? = some (oC ox 7 fs)) (is : List Nat) (hC : is.map (fun i => wi[i]?) = wc.map some) (hnd : va_nd is = true) (hset : ck_set wi is wc = wi) : Cqw l G yLa_seal cLa_seal 9 (some .int) [(0, 10, 13, 19), (0, 10, 17, 21)] { frames := rm.frames + 1, cells := rm.cells, slots := rm.slots, locals := 8 + (9 + 11) + rm.locals } [.ref ox, .int a0, .long a1, .long a2, .long a3] wi (S := Unit) (fun _ => True) (fun _ => some (.int (nI 2))) (fun _ => wi) := by
  refine Cqw.of (by decide) (Nat.le_of_ble_eq_true rfl) ?_
  intro p e s m args below meth c A ls hx hb hr hml hts hown hlk htb hA hP hD hG hS hl
  have hl : lv_has ls 9 [(0, .ref ox), (1, .int a0), (2, .long a1), (4, .long a2), (6, .long a3)] := hl
  refine lv_aload_n hx hb dLa_seal_0 rfl (lv_at hl 0 rfl) ?_
  refine lv_iload_n hx hb dLa_seal_1 rfl (lv_at hl 1 rfl) ?_
  refine lv_lload_n hx hb dLa_seal_2 rfl (lv_at hl 2 rfl) ?_
  refine lv_lload hx hb dLa_seal_3 (lv_at hl 3 rfl) ?_
  refine lv_lload hx hb dLa_seal_5 (lv_at hl 4 rfl) ?_
  refine cxLa_50 (As := [.int a0, .long a1, .long a2, .long a3]) (rest := []) hx hb hml hown hts hM hG hA hP hD hS q0 hq is hC hnd hset rfl hl.1 rfl (Nat.le_of_ble_eq_true rfl) ⟨Nat.le_refl _, Nat.le_refl _⟩ ⟨Nat.le_of_eq (Nat.zero_add _), Nat.le_of_eq (Nat.zero_add _)⟩ dLa_seal_7 [⟨0, 10, 13, 19⟩] ⟨0, 10, 17, 21⟩ [] htb (fun z hz => by obtain rfl := List.mem_singleton.mp hz; exact Or.inr ⟨by decide, "java/lang/IndexOutOfBoundsException", hts _ kLaIOB, hG.2.2.2.2.2.2.2 _ kLnISE_IOB⟩) (by decide) (by decide) (hts _ kLaISE) (va_Nw.use rfl (hG.2.2.2.2.2.2.1 _ kLcISE)) (fun qx H locs hP hD hS => ?_)
  refine W.cs (cells' := rm.cells) (slots' := rm.slots) (Nat.zero_add _) (Nat.zero_add _) ?_
  refine W.eq (g2 := F0 m 17 ls [.ref qx]) rfl ?_
  refine lv_astore (lv' := [(8, .ref qx), (0, .ref ox), (1, .int a0), (2, .long a1), (4, .long a2), (6, .long a3)]) hx hb dLa_seal_17 hl (by decide) rfl (fun ls hl => ?_)
  refine lv_iconst (v := nI 2) hx hb dLa_seal_19 (by decide) ?_
  exact cq_iret () (trivial) hx hb hr hlk hP hS (rfl) (rfl) dLa_seal_20
set_option maxHeartbeats 4000000 in
set_option maxRecDepth 100000 in
theorem w_La_open (l : Launch) (G : gG) (ox : Nat) (a0 : Int32) (a1 : Int32) (a2 : Int64) (a3 : Int64) (a4 : Int64) {S : Type} {φ : S → Prop} {rm : Room} {wi : va_W} {wo : S → va_W} {fs : List Value} (hM : Cq l G yCK_open cCK_open 10 none rm [.ref ox, .int a0, .int a1, .long a2, .long a3, .long a4] wi φ (fun u => none) wo) (hq : wi[0]? = some (oC ox 7 fs)) (ha : ∀ u, (wo u).map (·.1) = wi.map (·.1)) : Cqw l G yLa_open cLa_open 10 (some .int) [(0, 11, 14, 19), (0, 11, 18, 21)] { frames := rm.frames + 1, cells := rm.cells, slots := rm.slots, locals := 8 + (10 + 11) + rm.locals } [.ref ox, .int a0, .int a1, .long a2, .long a3, .long a4] ([] ++ wi) φ (fun u => some (.int (nI 0))) (fun u => ([] ++ wo u)) := by
  refine Cqw.of (by decide) (Nat.le_of_ble_eq_true rfl) ?_
  intro p e s m args below meth c A ls hx hb hr hml hts hown hlk htb hA hP hD hG hS hl
  have hl : lv_has ls 10 [(0, .ref ox), (1, .int a0), (2, .int a1), (3, .long a2), (5, .long a3), (7, .long a4)] := hl
  refine lv_aload_n hx hb dLa_open_0 rfl (lv_at hl 0 rfl) ?_
  refine lv_iload_n hx hb dLa_open_1 rfl (lv_at hl 1 rfl) ?_
  refine lv_iload_n hx hb dLa_open_2 rfl (lv_at hl 2 rfl) ?_
  refine lv_lload_n hx hb dLa_open_3 rfl (lv_at hl 3 rfl) ?_
  refine lv_lload hx hb dLa_open_4 (lv_at hl 4 rfl) ?_
  refine lv_lload hx hb dLa_open_6 (lv_at hl 5 rfl) ?_
  refine clLa_54 (As := [.int a0, .int a1, .long a2, .long a3, .long a4]) (rest := []) hx hb hml hown hts hM hG hA hP hD hS 0 hq (List.range' 0 wi.length) (rng_map [] wi) (nd_range _ _) ha rfl hl.1 rfl (Nat.le_of_ble_eq_true rfl) ⟨Nat.le_refl _, Nat.le_refl _⟩ ⟨Nat.le_of_eq (Nat.zero_add _), Nat.le_of_eq (Nat.zero_add _)⟩ dLa_open_8 (fun u H locs hu hP hD hS => ?_)
  have e9 : ck_set ([] ++ wi) (List.range' 0 wi.length) (wo u) = [] ++ wo u := set_rng [] wi (wo u) (ha_len (ha u))
  rw [e9] at hP hD
  have hP : va_P G.1 vwCl ([] ++ wo u) H := hP
  have hD : va_D A ([] ++ wo u) := hD
  refine W.cs (cells' := rm.cells) (slots' := rm.slots) (Nat.zero_add _) (Nat.zero_add _) ?_
  refine W.eq (g2 := F0 m 11 ls []) rfl ?_
  refine lv_goto (tgt := 22) hx hb dLa_open_11 rfl ?_
  refine lv_iconst (v := nI 0) hx hb dLa_open_22 (by decide) ?_
  exact cq_iret u (hu) hx hb hr hlk hP hS (rfl) (rfl) dLa_open_23
set_option maxHeartbeats 4000000 in
set_option maxRecDepth 100000 in
theorem w_La_open_IOB (l : Launch) (G : gG) (ox : Nat) (a0 : Int32) (a1 : Int32) (a2 : Int64) (a3 : Int64) (a4 : Int64) {rm : Room} {wi wc : va_W} {fs : List Value} (hM : Cx l G yCK_open cCK_open 10 none rm [.ref ox, .int a0, .int a1, .long a2, .long a3, .long a4] wc "java/lang/IndexOutOfBoundsException" wc) (q0 : Nat) (hq : wi[q0]? = some (oC ox 7 fs)) (is : List Nat) (hC : is.map (fun i => wi[i]?) = wc.map some) (hnd : va_nd is = true) (hset : ck_set wi is wc = wi) : Cqw l G yLa_open cLa_open 10 (some .int) [(0, 11, 14, 19), (0, 11, 18, 21)] { frames := rm.frames + 1, cells := rm.cells, slots := rm.slots, locals := 8 + (10 + 11) + rm.locals } [.ref ox, .int a0, .int a1, .long a2, .long a3, .long a4] wi (S := Unit) (fun _ => True) (fun _ => some (.int (nI 1))) (fun _ => wi) := by
  refine Cqw.of (by decide) (Nat.le_of_ble_eq_true rfl) ?_
  intro p e s m args below meth c A ls hx hb hr hml hts hown hlk htb hA hP hD hG hS hl
  have hl : lv_has ls 10 [(0, .ref ox), (1, .int a0), (2, .int a1), (3, .long a2), (5, .long a3), (7, .long a4)] := hl
  refine lv_aload_n hx hb dLa_open_0 rfl (lv_at hl 0 rfl) ?_
  refine lv_iload_n hx hb dLa_open_1 rfl (lv_at hl 1 rfl) ?_
  refine lv_iload_n hx hb dLa_open_2 rfl (lv_at hl 2 rfl) ?_
  refine lv_lload_n hx hb dLa_open_3 rfl (lv_at hl 3 rfl) ?_
  refine lv_lload hx hb dLa_open_4 (lv_at hl 4 rfl) ?_
  refine lv_lload hx hb dLa_open_6 (lv_at hl 5 rfl) ?_
  refine cxLa_54 (As := [.int a0, .int a1, .long a2, .long a3, .long a4]) (rest := []) hx hb hml hown hts hM hG hA hP hD hS q0 hq is hC hnd hset rfl hl.1 rfl (Nat.le_of_ble_eq_true rfl) ⟨Nat.le_refl _, Nat.le_refl _⟩ ⟨Nat.le_of_eq (Nat.zero_add _), Nat.le_of_eq (Nat.zero_add _)⟩ dLa_open_8 [] ⟨0, 11, 14, 19⟩ [⟨0, 11, 18, 21⟩] htb (fun z hz => by cases hz) (by decide) (by decide) (hts _ kLaIOB) (va_Nw.use rfl (hG.2.2.2.2.2.2.1 _ kLcIOB)) (fun qx H locs hP hD hS => ?_)
  refine W.cs (cells' := rm.cells) (slots' := rm.slots) (Nat.zero_add _) (Nat.zero_add _) ?_
  refine W.eq (g2 := F0 m 14 ls [.ref qx]) rfl ?_
  refine lv_astore (lv' := [(9, .ref qx), (0, .ref ox), (1, .int a0), (2, .int a1), (3, .long a2), (5, .long a3), (7, .long a4)]) hx hb dLa_open_14 hl (by decide) rfl (fun ls hl => ?_)
  refine lv_iconst (v := nI 1) hx hb dLa_open_16 (by decide) ?_
  exact cq_iret () (trivial) hx hb hr hlk hP hS (rfl) (rfl) dLa_open_17
set_option maxHeartbeats 4000000 in
set_option maxRecDepth 100000 in
theorem w_La_open_ISE (l : Launch) (G : gG) (ox : Nat) (a0 : Int32) (a1 : Int32) (a2 : Int64) (a3 : Int64) (a4 : Int64) {rm : Room} {wi wc : va_W} {fs : List Value} (hM : Cx l G yCK_open cCK_open 10 none rm [.ref ox, .int a0, .int a1, .long a2, .long a3, .long a4] wc "java/lang/IllegalStateException" wc) (q0 : Nat) (hq : wi[q0]? = some (oC ox 7 fs)) (is : List Nat) (hC : is.map (fun i => wi[i]?) = wc.map some) (hnd : va_nd is = true) (hset : ck_set wi is wc = wi) : Cqw l G yLa_open cLa_open 10 (some .int) [(0, 11, 14, 19), (0, 11, 18, 21)] { frames := rm.frames + 1, cells := rm.cells, slots := rm.slots, locals := 8 + (10 + 11) + rm.locals } [.ref ox, .int a0, .int a1, .long a2, .long a3, .long a4] wi (S := Unit) (fun _ => True) (fun _ => some (.int (nI 2))) (fun _ => wi) := by
  refine Cqw.of (by decide) (Nat.le_of_ble_eq_true rfl) ?_
  intro p e s m args below meth c A ls hx hb hr hml hts hown hlk htb hA hP hD hG hS hl
  have hl : lv_has ls 10 [(0, .ref ox), (1, .int a0), (2, .int a1), (3, .long a2), (5, .long a3), (7, .long a4)] := hl
  refine lv_aload_n hx hb dLa_open_0 rfl (lv_at hl 0 rfl) ?_
  refine lv_iload_n hx hb dLa_open_1 rfl (lv_at hl 1 rfl) ?_
  refine lv_iload_n hx hb dLa_open_2 rfl (lv_at hl 2 rfl) ?_
  refine lv_lload_n hx hb dLa_open_3 rfl (lv_at hl 3 rfl) ?_
  refine lv_lload hx hb dLa_open_4 (lv_at hl 4 rfl) ?_
  refine lv_lload hx hb dLa_open_6 (lv_at hl 5 rfl) ?_
  refine cxLa_54 (As := [.int a0, .int a1, .long a2, .long a3, .long a4]) (rest := []) hx hb hml hown hts hM hG hA hP hD hS q0 hq is hC hnd hset rfl hl.1 rfl (Nat.le_of_ble_eq_true rfl) ⟨Nat.le_refl _, Nat.le_refl _⟩ ⟨Nat.le_of_eq (Nat.zero_add _), Nat.le_of_eq (Nat.zero_add _)⟩ dLa_open_8 [⟨0, 11, 14, 19⟩] ⟨0, 11, 18, 21⟩ [] htb (fun z hz => by obtain rfl := List.mem_singleton.mp hz; exact Or.inr ⟨by decide, "java/lang/IndexOutOfBoundsException", hts _ kLaIOB, hG.2.2.2.2.2.2.2 _ kLnISE_IOB⟩) (by decide) (by decide) (hts _ kLaISE) (va_Nw.use rfl (hG.2.2.2.2.2.2.1 _ kLcISE)) (fun qx H locs hP hD hS => ?_)
  refine W.cs (cells' := rm.cells) (slots' := rm.slots) (Nat.zero_add _) (Nat.zero_add _) ?_
  refine W.eq (g2 := F0 m 18 ls [.ref qx]) rfl ?_
  refine lv_astore (lv' := [(9, .ref qx), (0, .ref ox), (1, .int a0), (2, .int a1), (3, .long a2), (5, .long a3), (7, .long a4)]) hx hb dLa_open_18 hl (by decide) rfl (fun ls hl => ?_)
  refine lv_iconst (v := nI 2) hx hb dLa_open_20 (by decide) ?_
  exact cq_iret () (trivial) hx hb hr hlk hP hS (rfl) (rfl) dLa_open_21
set_option maxHeartbeats 4000000 in
set_option maxRecDepth 100000 in
theorem w_La_subset (l : Launch) (G : gG) (ox oq : Nat) (a0 : Int32) (a1 : Int32) (a2 : Int32) (fo : Nat → Int64) {S : Type} {φ : S → Prop} {rm : Room} {wi : va_W} {wo : S → va_W} {fs : List Value} (v : S → Int32) (hM : Cq l G yCK_subset cCK_subset 5 (some .int) rm [.ref ox, .int a0, .int a1, .int a2] wi φ (fun u => some (.int (v u))) wo) (hq : wi[0]? = some (oC ox 7 fs)) (ha : ∀ u, (wo u).map (·.1) = wi.map (·.1)) : Cqw l G yLa_subset cLa_subset 6 (some .int) [(0, 12, 15, 21), (0, 12, 19, 19)] { frames := rm.frames + 1, cells := rm.cells, slots := rm.slots, locals := 8 + (5 + 11) + rm.locals } [.ref ox, .int a0, .int a1, .int a2, .ref oq] ([aJ G oq 1 fo] ++ wi) φ (fun u => some (.int (nI 0))) (fun u => ([aJ G oq 1 (vp_updL fo 0 ((v u).toInt64))] ++ wo u)) := by
  refine Cqw.of (by decide) (Nat.le_of_ble_eq_true rfl) ?_
  intro p e s m args below meth c A ls hx hb hr hml hts hown hlk htb hA hP hD hG hS hl
  have hl : lv_has ls 6 [(0, .ref ox), (1, .int a0), (2, .int a1), (3, .int a2), (4, .ref oq)] := hl
  refine lv_aload hx hb dLa_subset_0 (lv_at hl 4 rfl) ?_
  refine lv_iconst (v := nI 0) hx hb dLa_subset_2 (by decide) ?_
  refine lv_aload_n hx hb dLa_subset_3 rfl (lv_at hl 0 rfl) ?_
  refine lv_iload_n hx hb dLa_subset_4 rfl (lv_at hl 1 rfl) ?_
  refine lv_iload_n hx hb dLa_subset_5 rfl (lv_at hl 2 rfl) ?_
  refine lv_iload_n hx hb dLa_subset_6 rfl (lv_at hl 3 rfl) ?_
  refine clLa_58 (As := [.int a0, .int a1, .int a2]) (rest := [.int (nI 0), .ref oq]) hx hb hml hown hts hM hG hA hP hD hS 1 hq (List.range' 1 wi.length) (rng_map [aJ G oq 1 fo] wi) (nd_range _ _) ha rfl hl.1 rfl (Nat.le_of_ble_eq_true rfl) ⟨Nat.le_refl _, Nat.le_refl _⟩ ⟨Nat.le_of_eq (Nat.zero_add _), Nat.le_of_eq (Nat.zero_add _)⟩ dLa_subset_7 (fun u H locs hu hP hD hS => ?_)
  have e9 : ck_set ([aJ G oq 1 fo] ++ wi) (List.range' 1 wi.length) (wo u) = [aJ G oq 1 fo] ++ wo u := set_rng [aJ G oq 1 fo] wi (wo u) (ha_len (ha u))
  rw [e9] at hP hD
  have hP : va_P G.1 vwCl ([aJ G oq 1 fo] ++ wo u) H := hP
  have hD : va_D A ([aJ G oq 1 fo] ++ wo u) := hD
  refine W.cs (cells' := rm.cells) (slots' := rm.slots) (Nat.zero_add _) (Nat.zero_add _) ?_
  refine W.eq (g2 := F0 m 10 ls [.int (v u), .int (nI 0), .ref oq]) rfl ?_
  refine lv_i2l (v := (v u).toInt64) hx hb dLa_subset_10 rfl ?_
  refine ck_last hx hb hG hP hD hS 0 rfl (by decide) 0 (rfl) (by decide) dLa_subset_11 (fun H locs hP hD hS => ?_)
  have hP : va_P G.1 vwCl ([aJ G oq 1 (vp_updL fo 0 ((v u).toInt64))] ++ wo u) H := hP
  have hD : va_D A ([aJ G oq 1 (vp_updL fo 0 ((v u).toInt64))] ++ wo u) := hD
  refine lv_goto (tgt := 23) hx hb dLa_subset_12 rfl ?_
  refine lv_iconst (v := nI 0) hx hb dLa_subset_23 (by decide) ?_
  exact cq_iret u (hu) hx hb hr hlk hP hS (rfl) (rfl) dLa_subset_24
set_option maxHeartbeats 4000000 in
set_option maxRecDepth 100000 in
theorem w_La_subset_ISE (l : Launch) (G : gG) (ox oq : Nat) (a0 : Int32) (a1 : Int32) (a2 : Int32) {rm : Room} {wi wc : va_W} {fs : List Value} (hM : Cx l G yCK_subset cCK_subset 5 (some .int) rm [.ref ox, .int a0, .int a1, .int a2] wc "java/lang/IllegalStateException" wc) (q0 : Nat) (hq : wi[q0]? = some (oC ox 7 fs)) (is : List Nat) (hC : is.map (fun i => wi[i]?) = wc.map some) (hnd : va_nd is = true) (hset : ck_set wi is wc = wi) : Cqw l G yLa_subset cLa_subset 6 (some .int) [(0, 12, 15, 21), (0, 12, 19, 19)] { frames := rm.frames + 1, cells := rm.cells, slots := rm.slots, locals := 8 + (5 + 11) + rm.locals } [.ref ox, .int a0, .int a1, .int a2, .ref oq] wi (S := Unit) (fun _ => True) (fun _ => some (.int (nI 1))) (fun _ => wi) := by
  refine Cqw.of (by decide) (Nat.le_of_ble_eq_true rfl) ?_
  intro p e s m args below meth c A ls hx hb hr hml hts hown hlk htb hA hP hD hG hS hl
  have hl : lv_has ls 6 [(0, .ref ox), (1, .int a0), (2, .int a1), (3, .int a2), (4, .ref oq)] := hl
  refine lv_aload hx hb dLa_subset_0 (lv_at hl 4 rfl) ?_
  refine lv_iconst (v := nI 0) hx hb dLa_subset_2 (by decide) ?_
  refine lv_aload_n hx hb dLa_subset_3 rfl (lv_at hl 0 rfl) ?_
  refine lv_iload_n hx hb dLa_subset_4 rfl (lv_at hl 1 rfl) ?_
  refine lv_iload_n hx hb dLa_subset_5 rfl (lv_at hl 2 rfl) ?_
  refine lv_iload_n hx hb dLa_subset_6 rfl (lv_at hl 3 rfl) ?_
  refine cxLa_58 (As := [.int a0, .int a1, .int a2]) (rest := [.int (nI 0), .ref oq]) hx hb hml hown hts hM hG hA hP hD hS q0 hq is hC hnd hset rfl hl.1 rfl (Nat.le_of_ble_eq_true rfl) ⟨Nat.le_refl _, Nat.le_refl _⟩ ⟨Nat.le_of_eq (Nat.zero_add _), Nat.le_of_eq (Nat.zero_add _)⟩ dLa_subset_7 [] ⟨0, 12, 15, 21⟩ [⟨0, 12, 19, 19⟩] htb (fun z hz => by cases hz) (by decide) (by decide) (hts _ kLaISE) (va_Nw.use rfl (hG.2.2.2.2.2.2.1 _ kLcISE)) (fun qx H locs hP hD hS => ?_)
  refine W.cs (cells' := rm.cells) (slots' := rm.slots) (Nat.zero_add _) (Nat.zero_add _) ?_
  refine W.eq (g2 := F0 m 15 ls [.ref qx]) rfl ?_
  refine lv_astore (lv' := [(5, .ref qx), (0, .ref ox), (1, .int a0), (2, .int a1), (3, .int a2), (4, .ref oq)]) hx hb dLa_subset_15 hl (by decide) rfl (fun ls hl => ?_)
  refine lv_iconst (v := nI 1) hx hb dLa_subset_17 (by decide) ?_
  exact cq_iret () (trivial) hx hb hr hlk hP hS (rfl) (rfl) dLa_subset_18
set_option maxHeartbeats 4000000 in
set_option maxRecDepth 100000 in
theorem w_La_subset_IOB (l : Launch) (G : gG) (ox oq : Nat) (a0 : Int32) (a1 : Int32) (a2 : Int32) {rm : Room} {wi wc : va_W} {fs : List Value} (hM : Cx l G yCK_subset cCK_subset 5 (some .int) rm [.ref ox, .int a0, .int a1, .int a2] wc "java/lang/IndexOutOfBoundsException" wc) (q0 : Nat) (hq : wi[q0]? = some (oC ox 7 fs)) (is : List Nat) (hC : is.map (fun i => wi[i]?) = wc.map some) (hnd : va_nd is = true) (hset : ck_set wi is wc = wi) : Cqw l G yLa_subset cLa_subset 6 (some .int) [(0, 12, 15, 21), (0, 12, 19, 19)] { frames := rm.frames + 1, cells := rm.cells, slots := rm.slots, locals := 8 + (5 + 11) + rm.locals } [.ref ox, .int a0, .int a1, .int a2, .ref oq] wi (S := Unit) (fun _ => True) (fun _ => some (.int (nI 2))) (fun _ => wi) := by
  refine Cqw.of (by decide) (Nat.le_of_ble_eq_true rfl) ?_
  intro p e s m args below meth c A ls hx hb hr hml hts hown hlk htb hA hP hD hG hS hl
  have hl : lv_has ls 6 [(0, .ref ox), (1, .int a0), (2, .int a1), (3, .int a2), (4, .ref oq)] := hl
  refine lv_aload hx hb dLa_subset_0 (lv_at hl 4 rfl) ?_
  refine lv_iconst (v := nI 0) hx hb dLa_subset_2 (by decide) ?_
  refine lv_aload_n hx hb dLa_subset_3 rfl (lv_at hl 0 rfl) ?_
  refine lv_iload_n hx hb dLa_subset_4 rfl (lv_at hl 1 rfl) ?_
  refine lv_iload_n hx hb dLa_subset_5 rfl (lv_at hl 2 rfl) ?_
  refine lv_iload_n hx hb dLa_subset_6 rfl (lv_at hl 3 rfl) ?_
  refine cxLa_58 (As := [.int a0, .int a1, .int a2]) (rest := [.int (nI 0), .ref oq]) hx hb hml hown hts hM hG hA hP hD hS q0 hq is hC hnd hset rfl hl.1 rfl (Nat.le_of_ble_eq_true rfl) ⟨Nat.le_refl _, Nat.le_refl _⟩ ⟨Nat.le_of_eq (Nat.zero_add _), Nat.le_of_eq (Nat.zero_add _)⟩ dLa_subset_7 [⟨0, 12, 15, 21⟩] ⟨0, 12, 19, 19⟩ [] htb (fun z hz => by obtain rfl := List.mem_singleton.mp hz; exact Or.inr ⟨by decide, "java/lang/IllegalStateException", hts _ kLaISE, hG.2.2.2.2.2.2.2 _ kLnIOB_ISE⟩) (by decide) (by decide) (hts _ kLaIOB) (va_Nw.use rfl (hG.2.2.2.2.2.2.1 _ kLcIOB)) (fun qx H locs hP hD hS => ?_)
  refine W.cs (cells' := rm.cells) (slots' := rm.slots) (Nat.zero_add _) (Nat.zero_add _) ?_
  refine W.eq (g2 := F0 m 19 ls [.ref qx]) rfl ?_
  refine lv_astore (lv' := [(5, .ref qx), (0, .ref ox), (1, .int a0), (2, .int a1), (3, .int a2), (4, .ref oq)]) hx hb dLa_subset_19 hl (by decide) rfl (fun ls hl => ?_)
  refine lv_iconst (v := nI 2) hx hb dLa_subset_21 (by decide) ?_
  exact cq_iret () (trivial) hx hb hr hlk hP hS (rfl) (rfl) dLa_subset_22
set_option maxHeartbeats 4000000 in
set_option maxRecDepth 100000 in
theorem w_La_label (l : Launch) (G : gG) (ox oq : Nat) (a0 : Int32) (a1 : Int32) (a2 : Int32) (fo : Nat → Int64) {S : Type} {φ : S → Prop} {rm : Room} {wi : va_W} {wo : S → va_W} {fs : List Value} (v : S → Int64) (hM : Cq l G yCK_label cCK_label 6 (some .long) rm [.ref ox, .int a0, .int a1, .int a2] wi φ (fun u => some (.long (v u))) wo) (hq : wi[0]? = some (oC ox 7 fs)) (ha : ∀ u, (wo u).map (·.1) = wi.map (·.1)) : Cqw l G yLa_label cLa_label 6 (some .int) [(0, 11, 14, 19), (0, 11, 18, 21), (0, 11, 22, 13)] { frames := rm.frames + 1, cells := rm.cells, slots := rm.slots, locals := 8 + (6 + 11) + rm.locals } [.ref ox, .int a0, .int a1, .int a2, .ref oq] ([aJ G oq 1 fo] ++ wi) φ (fun u => some (.int (nI 0))) (fun u => ([aJ G oq 1 (vp_updL fo 0 (v u))] ++ wo u)) := by
  refine Cqw.of (by decide) (Nat.le_of_ble_eq_true rfl) ?_
  intro p e s m args below meth c A ls hx hb hr hml hts hown hlk htb hA hP hD hG hS hl
  have hl : lv_has ls 6 [(0, .ref ox), (1, .int a0), (2, .int a1), (3, .int a2), (4, .ref oq)] := hl
  refine lv_aload hx hb dLa_label_0 (lv_at hl 4 rfl) ?_
  refine lv_iconst (v := nI 0) hx hb dLa_label_2 (by decide) ?_
  refine lv_aload_n hx hb dLa_label_3 rfl (lv_at hl 0 rfl) ?_
  refine lv_iload_n hx hb dLa_label_4 rfl (lv_at hl 1 rfl) ?_
  refine lv_iload_n hx hb dLa_label_5 rfl (lv_at hl 2 rfl) ?_
  refine lv_iload_n hx hb dLa_label_6 rfl (lv_at hl 3 rfl) ?_
  refine clLa_62 (As := [.int a0, .int a1, .int a2]) (rest := [.int (nI 0), .ref oq]) hx hb hml hown hts hM hG hA hP hD hS 1 hq (List.range' 1 wi.length) (rng_map [aJ G oq 1 fo] wi) (nd_range _ _) ha rfl hl.1 rfl (Nat.le_of_ble_eq_true rfl) ⟨Nat.le_refl _, Nat.le_refl _⟩ ⟨Nat.le_of_eq (Nat.zero_add _), Nat.le_of_eq (Nat.zero_add _)⟩ dLa_label_7 (fun u H locs hu hP hD hS => ?_)
  have e9 : ck_set ([aJ G oq 1 fo] ++ wi) (List.range' 1 wi.length) (wo u) = [aJ G oq 1 fo] ++ wo u := set_rng [aJ G oq 1 fo] wi (wo u) (ha_len (ha u))
  rw [e9] at hP hD
  have hP : va_P G.1 vwCl ([aJ G oq 1 fo] ++ wo u) H := hP
  have hD : va_D A ([aJ G oq 1 fo] ++ wo u) := hD
  refine W.cs (cells' := rm.cells) (slots' := rm.slots) (Nat.zero_add _) (Nat.zero_add _) ?_
  refine W.eq (g2 := F0 m 10 ls [.long (v u), .int (nI 0), .ref oq]) rfl ?_
  refine ck_last hx hb hG hP hD hS 0 rfl (by decide) 0 (rfl) (by decide) dLa_label_10 (fun H locs hP hD hS => ?_)
  have hP : va_P G.1 vwCl ([aJ G oq 1 (vp_updL fo 0 (v u))] ++ wo u) H := hP
  have hD : va_D A ([aJ G oq 1 (vp_updL fo 0 (v u))] ++ wo u) := hD
  refine lv_goto (tgt := 26) hx hb dLa_label_11 rfl ?_
  refine lv_iconst (v := nI 0) hx hb dLa_label_26 (by decide) ?_
  exact cq_iret u (hu) hx hb hr hlk hP hS (rfl) (rfl) dLa_label_27
set_option maxHeartbeats 4000000 in
set_option maxRecDepth 100000 in
theorem w_La_label_IOB (l : Launch) (G : gG) (ox oq : Nat) (a0 : Int32) (a1 : Int32) (a2 : Int32) {rm : Room} {wi wc : va_W} {fs : List Value} (hM : Cx l G yCK_label cCK_label 6 (some .long) rm [.ref ox, .int a0, .int a1, .int a2] wc "java/lang/IndexOutOfBoundsException" wc) (q0 : Nat) (hq : wi[q0]? = some (oC ox 7 fs)) (is : List Nat) (hC : is.map (fun i => wi[i]?) = wc.map some) (hnd : va_nd is = true) (hset : ck_set wi is wc = wi) : Cqw l G yLa_label cLa_label 6 (some .int) [(0, 11, 14, 19), (0, 11, 18, 21), (0, 11, 22, 13)] { frames := rm.frames + 1, cells := rm.cells, slots := rm.slots, locals := 8 + (6 + 11) + rm.locals } [.ref ox, .int a0, .int a1, .int a2, .ref oq] wi (S := Unit) (fun _ => True) (fun _ => some (.int (nI 1))) (fun _ => wi) := by
  refine Cqw.of (by decide) (Nat.le_of_ble_eq_true rfl) ?_
  intro p e s m args below meth c A ls hx hb hr hml hts hown hlk htb hA hP hD hG hS hl
  have hl : lv_has ls 6 [(0, .ref ox), (1, .int a0), (2, .int a1), (3, .int a2), (4, .ref oq)] := hl
  refine lv_aload hx hb dLa_label_0 (lv_at hl 4 rfl) ?_
  refine lv_iconst (v := nI 0) hx hb dLa_label_2 (by decide) ?_
  refine lv_aload_n hx hb dLa_label_3 rfl (lv_at hl 0 rfl) ?_
  refine lv_iload_n hx hb dLa_label_4 rfl (lv_at hl 1 rfl) ?_
  refine lv_iload_n hx hb dLa_label_5 rfl (lv_at hl 2 rfl) ?_
  refine lv_iload_n hx hb dLa_label_6 rfl (lv_at hl 3 rfl) ?_
  refine cxLa_62 (As := [.int a0, .int a1, .int a2]) (rest := [.int (nI 0), .ref oq]) hx hb hml hown hts hM hG hA hP hD hS q0 hq is hC hnd hset rfl hl.1 rfl (Nat.le_of_ble_eq_true rfl) ⟨Nat.le_refl _, Nat.le_refl _⟩ ⟨Nat.le_of_eq (Nat.zero_add _), Nat.le_of_eq (Nat.zero_add _)⟩ dLa_label_7 [] ⟨0, 11, 14, 19⟩ [⟨0, 11, 18, 21⟩, ⟨0, 11, 22, 13⟩] htb (fun z hz => by cases hz) (by decide) (by decide) (hts _ kLaIOB) (va_Nw.use rfl (hG.2.2.2.2.2.2.1 _ kLcIOB)) (fun qx H locs hP hD hS => ?_)
  refine W.cs (cells' := rm.cells) (slots' := rm.slots) (Nat.zero_add _) (Nat.zero_add _) ?_
  refine W.eq (g2 := F0 m 14 ls [.ref qx]) rfl ?_
  refine lv_astore (lv' := [(5, .ref qx), (0, .ref ox), (1, .int a0), (2, .int a1), (3, .int a2), (4, .ref oq)]) hx hb dLa_label_14 hl (by decide) rfl (fun ls hl => ?_)
  refine lv_iconst (v := nI 1) hx hb dLa_label_16 (by decide) ?_
  exact cq_iret () (trivial) hx hb hr hlk hP hS (rfl) (rfl) dLa_label_17
set_option maxHeartbeats 4000000 in
set_option maxRecDepth 100000 in
theorem w_La_label_ISE (l : Launch) (G : gG) (ox oq : Nat) (a0 : Int32) (a1 : Int32) (a2 : Int32) {rm : Room} {wi wc : va_W} {fs : List Value} (hM : Cx l G yCK_label cCK_label 6 (some .long) rm [.ref ox, .int a0, .int a1, .int a2] wc "java/lang/IllegalStateException" wc) (q0 : Nat) (hq : wi[q0]? = some (oC ox 7 fs)) (is : List Nat) (hC : is.map (fun i => wi[i]?) = wc.map some) (hnd : va_nd is = true) (hset : ck_set wi is wc = wi) : Cqw l G yLa_label cLa_label 6 (some .int) [(0, 11, 14, 19), (0, 11, 18, 21), (0, 11, 22, 13)] { frames := rm.frames + 1, cells := rm.cells, slots := rm.slots, locals := 8 + (6 + 11) + rm.locals } [.ref ox, .int a0, .int a1, .int a2, .ref oq] wi (S := Unit) (fun _ => True) (fun _ => some (.int (nI 2))) (fun _ => wi) := by
  refine Cqw.of (by decide) (Nat.le_of_ble_eq_true rfl) ?_
  intro p e s m args below meth c A ls hx hb hr hml hts hown hlk htb hA hP hD hG hS hl
  have hl : lv_has ls 6 [(0, .ref ox), (1, .int a0), (2, .int a1), (3, .int a2), (4, .ref oq)] := hl
  refine lv_aload hx hb dLa_label_0 (lv_at hl 4 rfl) ?_
  refine lv_iconst (v := nI 0) hx hb dLa_label_2 (by decide) ?_
  refine lv_aload_n hx hb dLa_label_3 rfl (lv_at hl 0 rfl) ?_
  refine lv_iload_n hx hb dLa_label_4 rfl (lv_at hl 1 rfl) ?_
  refine lv_iload_n hx hb dLa_label_5 rfl (lv_at hl 2 rfl) ?_
  refine lv_iload_n hx hb dLa_label_6 rfl (lv_at hl 3 rfl) ?_
  refine cxLa_62 (As := [.int a0, .int a1, .int a2]) (rest := [.int (nI 0), .ref oq]) hx hb hml hown hts hM hG hA hP hD hS q0 hq is hC hnd hset rfl hl.1 rfl (Nat.le_of_ble_eq_true rfl) ⟨Nat.le_refl _, Nat.le_refl _⟩ ⟨Nat.le_of_eq (Nat.zero_add _), Nat.le_of_eq (Nat.zero_add _)⟩ dLa_label_7 [⟨0, 11, 14, 19⟩] ⟨0, 11, 18, 21⟩ [⟨0, 11, 22, 13⟩] htb (fun z hz => by obtain rfl := List.mem_singleton.mp hz; exact Or.inr ⟨by decide, "java/lang/IndexOutOfBoundsException", hts _ kLaIOB, hG.2.2.2.2.2.2.2 _ kLnISE_IOB⟩) (by decide) (by decide) (hts _ kLaISE) (va_Nw.use rfl (hG.2.2.2.2.2.2.1 _ kLcISE)) (fun qx H locs hP hD hS => ?_)
  refine W.cs (cells' := rm.cells) (slots' := rm.slots) (Nat.zero_add _) (Nat.zero_add _) ?_
  refine W.eq (g2 := F0 m 18 ls [.ref qx]) rfl ?_
  refine lv_astore (lv' := [(5, .ref qx), (0, .ref ox), (1, .int a0), (2, .int a1), (3, .int a2), (4, .ref oq)]) hx hb dLa_label_18 hl (by decide) rfl (fun ls hl => ?_)
  refine lv_iconst (v := nI 2) hx hb dLa_label_20 (by decide) ?_
  exact cq_iret () (trivial) hx hb hr hlk hP hS (rfl) (rfl) dLa_label_21
set_option maxHeartbeats 4000000 in
set_option maxRecDepth 100000 in
theorem w_La_label_IAE (l : Launch) (G : gG) (ox oq : Nat) (a0 : Int32) (a1 : Int32) (a2 : Int32) {rm : Room} {wi wc : va_W} {fs : List Value} (hM : Cx l G yCK_label cCK_label 6 (some .long) rm [.ref ox, .int a0, .int a1, .int a2] wc "java/lang/IllegalArgumentException" wc) (q0 : Nat) (hq : wi[q0]? = some (oC ox 7 fs)) (is : List Nat) (hC : is.map (fun i => wi[i]?) = wc.map some) (hnd : va_nd is = true) (hset : ck_set wi is wc = wi) : Cqw l G yLa_label cLa_label 6 (some .int) [(0, 11, 14, 19), (0, 11, 18, 21), (0, 11, 22, 13)] { frames := rm.frames + 1, cells := rm.cells, slots := rm.slots, locals := 8 + (6 + 11) + rm.locals } [.ref ox, .int a0, .int a1, .int a2, .ref oq] wi (S := Unit) (fun _ => True) (fun _ => some (.int (nI 3))) (fun _ => wi) := by
  refine Cqw.of (by decide) (Nat.le_of_ble_eq_true rfl) ?_
  intro p e s m args below meth c A ls hx hb hr hml hts hown hlk htb hA hP hD hG hS hl
  have hl : lv_has ls 6 [(0, .ref ox), (1, .int a0), (2, .int a1), (3, .int a2), (4, .ref oq)] := hl
  refine lv_aload hx hb dLa_label_0 (lv_at hl 4 rfl) ?_
  refine lv_iconst (v := nI 0) hx hb dLa_label_2 (by decide) ?_
  refine lv_aload_n hx hb dLa_label_3 rfl (lv_at hl 0 rfl) ?_
  refine lv_iload_n hx hb dLa_label_4 rfl (lv_at hl 1 rfl) ?_
  refine lv_iload_n hx hb dLa_label_5 rfl (lv_at hl 2 rfl) ?_
  refine lv_iload_n hx hb dLa_label_6 rfl (lv_at hl 3 rfl) ?_
  refine cxLa_62 (As := [.int a0, .int a1, .int a2]) (rest := [.int (nI 0), .ref oq]) hx hb hml hown hts hM hG hA hP hD hS q0 hq is hC hnd hset rfl hl.1 rfl (Nat.le_of_ble_eq_true rfl) ⟨Nat.le_refl _, Nat.le_refl _⟩ ⟨Nat.le_of_eq (Nat.zero_add _), Nat.le_of_eq (Nat.zero_add _)⟩ dLa_label_7 [⟨0, 11, 14, 19⟩, ⟨0, 11, 18, 21⟩] ⟨0, 11, 22, 13⟩ [] htb (fun z hz => by
      rcases List.mem_cons.mp hz with rfl | hz
      · exact Or.inr ⟨by decide, "java/lang/IndexOutOfBoundsException", hts _ kLaIOB, hG.2.2.2.2.2.2.2 _ kLnIAE_IOB⟩
      · obtain rfl := List.mem_singleton.mp hz; exact Or.inr ⟨by decide, "java/lang/IllegalStateException", hts _ kLaISE, hG.2.2.2.2.2.2.2 _ kLnIAE_ISE⟩) (by decide) (by decide) (hts _ kLaIAE) (va_Nw.use rfl (hG.2.2.2.2.2.2.1 _ kLcIAE)) (fun qx H locs hP hD hS => ?_)
  refine W.cs (cells' := rm.cells) (slots' := rm.slots) (Nat.zero_add _) (Nat.zero_add _) ?_
  refine W.eq (g2 := F0 m 22 ls [.ref qx]) rfl ?_
  refine lv_astore (lv' := [(5, .ref qx), (0, .ref ox), (1, .int a0), (2, .int a1), (3, .int a2), (4, .ref oq)]) hx hb dLa_label_22 hl (by decide) rfl (fun ls hl => ?_)
  refine lv_iconst (v := nI 3) hx hb dLa_label_24 (by decide) ?_
  exact cq_iret () (trivial) hx hb hr hlk hP hS (rfl) (rfl) dLa_label_25
set_option maxHeartbeats 4000000 in
set_option maxRecDepth 100000 in
theorem w_La_reach (l : Launch) (G : gG) (ox oq : Nat) (a0 : Int32) (a1 : Int32) (fo : Nat → Int64) {S : Type} {φ : S → Prop} {rm : Room} {wi : va_W} {wo : S → va_W} {fs : List Value} (v : S → Int32) (hM : Cq l G yCK_reach cCK_reach 6 (some .int) rm [.ref ox, .int a0, .int a1] wi φ (fun u => some (.int (v u))) wo) (hq : wi[0]? = some (oC ox 7 fs)) (ha : ∀ u, (wo u).map (·.1) = wi.map (·.1)) : Cqw l G yLa_reach cLa_reach 5 (some .int) [(0, 10, 13, 19), (0, 10, 17, 21)] { frames := rm.frames + 1, cells := rm.cells, slots := rm.slots, locals := 8 + (6 + 11) + rm.locals } [.ref ox, .int a0, .int a1, .ref oq] ([aJ G oq 1 fo] ++ wi) φ (fun u => some (.int (nI 0))) (fun u => ([aJ G oq 1 (vp_updL fo 0 ((v u).toInt64))] ++ wo u)) := by
  refine Cqw.of (by decide) (Nat.le_of_ble_eq_true rfl) ?_
  intro p e s m args below meth c A ls hx hb hr hml hts hown hlk htb hA hP hD hG hS hl
  have hl : lv_has ls 5 [(0, .ref ox), (1, .int a0), (2, .int a1), (3, .ref oq)] := hl
  refine lv_aload_n hx hb dLa_reach_0 rfl (lv_at hl 3 rfl) ?_
  refine lv_iconst (v := nI 0) hx hb dLa_reach_1 (by decide) ?_
  refine lv_aload_n hx hb dLa_reach_2 rfl (lv_at hl 0 rfl) ?_
  refine lv_iload_n hx hb dLa_reach_3 rfl (lv_at hl 1 rfl) ?_
  refine lv_iload_n hx hb dLa_reach_4 rfl (lv_at hl 2 rfl) ?_
  refine clLa_66 (As := [.int a0, .int a1]) (rest := [.int (nI 0), .ref oq]) hx hb hml hown hts hM hG hA hP hD hS 1 hq (List.range' 1 wi.length) (rng_map [aJ G oq 1 fo] wi) (nd_range _ _) ha rfl hl.1 rfl (Nat.le_of_ble_eq_true rfl) ⟨Nat.le_refl _, Nat.le_refl _⟩ ⟨Nat.le_of_eq (Nat.zero_add _), Nat.le_of_eq (Nat.zero_add _)⟩ dLa_reach_5 (fun u H locs hu hP hD hS => ?_)
  have e9 : ck_set ([aJ G oq 1 fo] ++ wi) (List.range' 1 wi.length) (wo u) = [aJ G oq 1 fo] ++ wo u := set_rng [aJ G oq 1 fo] wi (wo u) (ha_len (ha u))
  rw [e9] at hP hD
  have hP : va_P G.1 vwCl ([aJ G oq 1 fo] ++ wo u) H := hP
  have hD : va_D A ([aJ G oq 1 fo] ++ wo u) := hD
  refine W.cs (cells' := rm.cells) (slots' := rm.slots) (Nat.zero_add _) (Nat.zero_add _) ?_
  refine W.eq (g2 := F0 m 8 ls [.int (v u), .int (nI 0), .ref oq]) rfl ?_
  refine lv_i2l (v := (v u).toInt64) hx hb dLa_reach_8 rfl ?_
  refine ck_last hx hb hG hP hD hS 0 rfl (by decide) 0 (rfl) (by decide) dLa_reach_9 (fun H locs hP hD hS => ?_)
  have hP : va_P G.1 vwCl ([aJ G oq 1 (vp_updL fo 0 ((v u).toInt64))] ++ wo u) H := hP
  have hD : va_D A ([aJ G oq 1 (vp_updL fo 0 ((v u).toInt64))] ++ wo u) := hD
  refine lv_goto (tgt := 21) hx hb dLa_reach_10 rfl ?_
  refine lv_iconst (v := nI 0) hx hb dLa_reach_21 (by decide) ?_
  exact cq_iret u (hu) hx hb hr hlk hP hS (rfl) (rfl) dLa_reach_22
set_option maxHeartbeats 4000000 in
set_option maxRecDepth 100000 in
theorem w_La_reach_IOB (l : Launch) (G : gG) (ox oq : Nat) (a0 : Int32) (a1 : Int32) {rm : Room} {wi wc : va_W} {fs : List Value} (hM : Cx l G yCK_reach cCK_reach 6 (some .int) rm [.ref ox, .int a0, .int a1] wc "java/lang/IndexOutOfBoundsException" wc) (q0 : Nat) (hq : wi[q0]? = some (oC ox 7 fs)) (is : List Nat) (hC : is.map (fun i => wi[i]?) = wc.map some) (hnd : va_nd is = true) (hset : ck_set wi is wc = wi) : Cqw l G yLa_reach cLa_reach 5 (some .int) [(0, 10, 13, 19), (0, 10, 17, 21)] { frames := rm.frames + 1, cells := rm.cells, slots := rm.slots, locals := 8 + (6 + 11) + rm.locals } [.ref ox, .int a0, .int a1, .ref oq] wi (S := Unit) (fun _ => True) (fun _ => some (.int (nI 1))) (fun _ => wi) := by
  refine Cqw.of (by decide) (Nat.le_of_ble_eq_true rfl) ?_
  intro p e s m args below meth c A ls hx hb hr hml hts hown hlk htb hA hP hD hG hS hl
  have hl : lv_has ls 5 [(0, .ref ox), (1, .int a0), (2, .int a1), (3, .ref oq)] := hl
  refine lv_aload_n hx hb dLa_reach_0 rfl (lv_at hl 3 rfl) ?_
  refine lv_iconst (v := nI 0) hx hb dLa_reach_1 (by decide) ?_
  refine lv_aload_n hx hb dLa_reach_2 rfl (lv_at hl 0 rfl) ?_
  refine lv_iload_n hx hb dLa_reach_3 rfl (lv_at hl 1 rfl) ?_
  refine lv_iload_n hx hb dLa_reach_4 rfl (lv_at hl 2 rfl) ?_
  refine cxLa_66 (As := [.int a0, .int a1]) (rest := [.int (nI 0), .ref oq]) hx hb hml hown hts hM hG hA hP hD hS q0 hq is hC hnd hset rfl hl.1 rfl (Nat.le_of_ble_eq_true rfl) ⟨Nat.le_refl _, Nat.le_refl _⟩ ⟨Nat.le_of_eq (Nat.zero_add _), Nat.le_of_eq (Nat.zero_add _)⟩ dLa_reach_5 [] ⟨0, 10, 13, 19⟩ [⟨0, 10, 17, 21⟩] htb (fun z hz => by cases hz) (by decide) (by decide) (hts _ kLaIOB) (va_Nw.use rfl (hG.2.2.2.2.2.2.1 _ kLcIOB)) (fun qx H locs hP hD hS => ?_)
  refine W.cs (cells' := rm.cells) (slots' := rm.slots) (Nat.zero_add _) (Nat.zero_add _) ?_
  refine W.eq (g2 := F0 m 13 ls [.ref qx]) rfl ?_
  refine lv_astore (lv' := [(4, .ref qx), (0, .ref ox), (1, .int a0), (2, .int a1), (3, .ref oq)]) hx hb dLa_reach_13 hl (by decide) rfl (fun ls hl => ?_)
  refine lv_iconst (v := nI 1) hx hb dLa_reach_15 (by decide) ?_
  exact cq_iret () (trivial) hx hb hr hlk hP hS (rfl) (rfl) dLa_reach_16
set_option maxHeartbeats 4000000 in
set_option maxRecDepth 100000 in
theorem w_La_reach_ISE (l : Launch) (G : gG) (ox oq : Nat) (a0 : Int32) (a1 : Int32) {rm : Room} {wi wc : va_W} {fs : List Value} (hM : Cx l G yCK_reach cCK_reach 6 (some .int) rm [.ref ox, .int a0, .int a1] wc "java/lang/IllegalStateException" wc) (q0 : Nat) (hq : wi[q0]? = some (oC ox 7 fs)) (is : List Nat) (hC : is.map (fun i => wi[i]?) = wc.map some) (hnd : va_nd is = true) (hset : ck_set wi is wc = wi) : Cqw l G yLa_reach cLa_reach 5 (some .int) [(0, 10, 13, 19), (0, 10, 17, 21)] { frames := rm.frames + 1, cells := rm.cells, slots := rm.slots, locals := 8 + (6 + 11) + rm.locals } [.ref ox, .int a0, .int a1, .ref oq] wi (S := Unit) (fun _ => True) (fun _ => some (.int (nI 2))) (fun _ => wi) := by
  refine Cqw.of (by decide) (Nat.le_of_ble_eq_true rfl) ?_
  intro p e s m args below meth c A ls hx hb hr hml hts hown hlk htb hA hP hD hG hS hl
  have hl : lv_has ls 5 [(0, .ref ox), (1, .int a0), (2, .int a1), (3, .ref oq)] := hl
  refine lv_aload_n hx hb dLa_reach_0 rfl (lv_at hl 3 rfl) ?_
  refine lv_iconst (v := nI 0) hx hb dLa_reach_1 (by decide) ?_
  refine lv_aload_n hx hb dLa_reach_2 rfl (lv_at hl 0 rfl) ?_
  refine lv_iload_n hx hb dLa_reach_3 rfl (lv_at hl 1 rfl) ?_
  refine lv_iload_n hx hb dLa_reach_4 rfl (lv_at hl 2 rfl) ?_
  refine cxLa_66 (As := [.int a0, .int a1]) (rest := [.int (nI 0), .ref oq]) hx hb hml hown hts hM hG hA hP hD hS q0 hq is hC hnd hset rfl hl.1 rfl (Nat.le_of_ble_eq_true rfl) ⟨Nat.le_refl _, Nat.le_refl _⟩ ⟨Nat.le_of_eq (Nat.zero_add _), Nat.le_of_eq (Nat.zero_add _)⟩ dLa_reach_5 [⟨0, 10, 13, 19⟩] ⟨0, 10, 17, 21⟩ [] htb (fun z hz => by obtain rfl := List.mem_singleton.mp hz; exact Or.inr ⟨by decide, "java/lang/IndexOutOfBoundsException", hts _ kLaIOB, hG.2.2.2.2.2.2.2 _ kLnISE_IOB⟩) (by decide) (by decide) (hts _ kLaISE) (va_Nw.use rfl (hG.2.2.2.2.2.2.1 _ kLcISE)) (fun qx H locs hP hD hS => ?_)
  refine W.cs (cells' := rm.cells) (slots' := rm.slots) (Nat.zero_add _) (Nat.zero_add _) ?_
  refine W.eq (g2 := F0 m 17 ls [.ref qx]) rfl ?_
  refine lv_astore (lv' := [(4, .ref qx), (0, .ref ox), (1, .int a0), (2, .int a1), (3, .ref oq)]) hx hb dLa_reach_17 hl (by decide) rfl (fun ls hl => ?_)
  refine lv_iconst (v := nI 2) hx hb dLa_reach_19 (by decide) ?_
  exact cq_iret () (trivial) hx hb hr hlk hP hS (rfl) (rfl) dLa_reach_20
set_option maxHeartbeats 4000000 in
set_option maxRecDepth 100000 in
theorem w_La_key (l : Launch) (G : gG) (ox oq : Nat) (a0 : Int32) (a1 : Int32) (a2 : Int32) (fo : Nat → Int64) {S : Type} {φ : S → Prop} {rm : Room} {wi : va_W} {wo : S → va_W} {fs : List Value} (v : S → Int64) (hM : Cq l G yCK_key cCK_key 4 (some .long) rm [.ref ox, .int a0, .int a1, .int a2] wi φ (fun u => some (.long (v u))) wo) (hq : wi[0]? = some (oC ox 7 fs)) (ha : ∀ u, (wo u).map (·.1) = wi.map (·.1)) : Cqw l G yLa_key cLa_key 6 (some .int) [(0, 11, 14, 13)] { frames := rm.frames + 1, cells := rm.cells, slots := rm.slots, locals := 8 + (4 + 11) + rm.locals } [.ref ox, .int a0, .int a1, .int a2, .ref oq] ([aJ G oq 1 fo] ++ wi) φ (fun u => some (.int (nI 0))) (fun u => ([aJ G oq 1 (vp_updL fo 0 (v u))] ++ wo u)) := by
  refine Cqw.of (by decide) (Nat.le_of_ble_eq_true rfl) ?_
  intro p e s m args below meth c A ls hx hb hr hml hts hown hlk htb hA hP hD hG hS hl
  have hl : lv_has ls 6 [(0, .ref ox), (1, .int a0), (2, .int a1), (3, .int a2), (4, .ref oq)] := hl
  refine lv_aload hx hb dLa_key_0 (lv_at hl 4 rfl) ?_
  refine lv_iconst (v := nI 0) hx hb dLa_key_2 (by decide) ?_
  refine lv_aload_n hx hb dLa_key_3 rfl (lv_at hl 0 rfl) ?_
  refine lv_iload_n hx hb dLa_key_4 rfl (lv_at hl 1 rfl) ?_
  refine lv_iload_n hx hb dLa_key_5 rfl (lv_at hl 2 rfl) ?_
  refine lv_iload_n hx hb dLa_key_6 rfl (lv_at hl 3 rfl) ?_
  refine clLa_69 (As := [.int a0, .int a1, .int a2]) (rest := [.int (nI 0), .ref oq]) hx hb hml hown hts hM hG hA hP hD hS 1 hq (List.range' 1 wi.length) (rng_map [aJ G oq 1 fo] wi) (nd_range _ _) ha rfl hl.1 rfl (Nat.le_of_ble_eq_true rfl) ⟨Nat.le_refl _, Nat.le_refl _⟩ ⟨Nat.le_of_eq (Nat.zero_add _), Nat.le_of_eq (Nat.zero_add _)⟩ dLa_key_7 (fun u H locs hu hP hD hS => ?_)
  have e9 : ck_set ([aJ G oq 1 fo] ++ wi) (List.range' 1 wi.length) (wo u) = [aJ G oq 1 fo] ++ wo u := set_rng [aJ G oq 1 fo] wi (wo u) (ha_len (ha u))
  rw [e9] at hP hD
  have hP : va_P G.1 vwCl ([aJ G oq 1 fo] ++ wo u) H := hP
  have hD : va_D A ([aJ G oq 1 fo] ++ wo u) := hD
  refine W.cs (cells' := rm.cells) (slots' := rm.slots) (Nat.zero_add _) (Nat.zero_add _) ?_
  refine W.eq (g2 := F0 m 10 ls [.long (v u), .int (nI 0), .ref oq]) rfl ?_
  refine ck_last hx hb hG hP hD hS 0 rfl (by decide) 0 (rfl) (by decide) dLa_key_10 (fun H locs hP hD hS => ?_)
  have hP : va_P G.1 vwCl ([aJ G oq 1 (vp_updL fo 0 (v u))] ++ wo u) H := hP
  have hD : va_D A ([aJ G oq 1 (vp_updL fo 0 (v u))] ++ wo u) := hD
  refine lv_goto (tgt := 18) hx hb dLa_key_11 rfl ?_
  refine lv_iconst (v := nI 0) hx hb dLa_key_18 (by decide) ?_
  exact cq_iret u (hu) hx hb hr hlk hP hS (rfl) (rfl) dLa_key_19
set_option maxHeartbeats 4000000 in
set_option maxRecDepth 100000 in
theorem w_La_key_IAE (l : Launch) (G : gG) (ox oq : Nat) (a0 : Int32) (a1 : Int32) (a2 : Int32) {rm : Room} {wi wc : va_W} {fs : List Value} (hM : Cx l G yCK_key cCK_key 4 (some .long) rm [.ref ox, .int a0, .int a1, .int a2] wc "java/lang/IllegalArgumentException" wc) (q0 : Nat) (hq : wi[q0]? = some (oC ox 7 fs)) (is : List Nat) (hC : is.map (fun i => wi[i]?) = wc.map some) (hnd : va_nd is = true) (hset : ck_set wi is wc = wi) : Cqw l G yLa_key cLa_key 6 (some .int) [(0, 11, 14, 13)] { frames := rm.frames + 1, cells := rm.cells, slots := rm.slots, locals := 8 + (4 + 11) + rm.locals } [.ref ox, .int a0, .int a1, .int a2, .ref oq] wi (S := Unit) (fun _ => True) (fun _ => some (.int (nI 1))) (fun _ => wi) := by
  refine Cqw.of (by decide) (Nat.le_of_ble_eq_true rfl) ?_
  intro p e s m args below meth c A ls hx hb hr hml hts hown hlk htb hA hP hD hG hS hl
  have hl : lv_has ls 6 [(0, .ref ox), (1, .int a0), (2, .int a1), (3, .int a2), (4, .ref oq)] := hl
  refine lv_aload hx hb dLa_key_0 (lv_at hl 4 rfl) ?_
  refine lv_iconst (v := nI 0) hx hb dLa_key_2 (by decide) ?_
  refine lv_aload_n hx hb dLa_key_3 rfl (lv_at hl 0 rfl) ?_
  refine lv_iload_n hx hb dLa_key_4 rfl (lv_at hl 1 rfl) ?_
  refine lv_iload_n hx hb dLa_key_5 rfl (lv_at hl 2 rfl) ?_
  refine lv_iload_n hx hb dLa_key_6 rfl (lv_at hl 3 rfl) ?_
  refine cxLa_69 (As := [.int a0, .int a1, .int a2]) (rest := [.int (nI 0), .ref oq]) hx hb hml hown hts hM hG hA hP hD hS q0 hq is hC hnd hset rfl hl.1 rfl (Nat.le_of_ble_eq_true rfl) ⟨Nat.le_refl _, Nat.le_refl _⟩ ⟨Nat.le_of_eq (Nat.zero_add _), Nat.le_of_eq (Nat.zero_add _)⟩ dLa_key_7 [] ⟨0, 11, 14, 13⟩ [] htb (fun z hz => by cases hz) (by decide) (by decide) (hts _ kLaIAE) (va_Nw.use rfl (hG.2.2.2.2.2.2.1 _ kLcIAE)) (fun qx H locs hP hD hS => ?_)
  refine W.cs (cells' := rm.cells) (slots' := rm.slots) (Nat.zero_add _) (Nat.zero_add _) ?_
  refine W.eq (g2 := F0 m 14 ls [.ref qx]) rfl ?_
  refine lv_astore (lv' := [(5, .ref qx), (0, .ref ox), (1, .int a0), (2, .int a1), (3, .int a2), (4, .ref oq)]) hx hb dLa_key_14 hl (by decide) rfl (fun ls hl => ?_)
  refine lv_iconst (v := nI 1) hx hb dLa_key_16 (by decide) ?_
  exact cq_iret () (trivial) hx hb hr hlk hP hS (rfl) (rfl) dLa_key_17
set_option maxHeartbeats 4000000 in
set_option maxRecDepth 100000 in
theorem w_La_count (l : Launch) (G : gG) (ox oq : Nat) (a0 : Int32) (fo : Nat → Int64) {S : Type} {φ : S → Prop} {rm : Room} {wi : va_W} {wo : S → va_W} {fs : List Value} (v : S → Int32) (hM : Cq l G yCK_count cCK_count 2 (some .int) rm [.ref ox, .int a0] wi φ (fun u => some (.int (v u))) wo) (hq : wi[0]? = some (oC ox 7 fs)) (ha : ∀ u, (wo u).map (·.1) = wi.map (·.1)) : Cqw l G yLa_count cLa_count 4 (some .int) [(0, 9, 12, 13)] { frames := rm.frames + 1, cells := rm.cells, slots := rm.slots, locals := 8 + (2 + 11) + rm.locals } [.ref ox, .int a0, .ref oq] ([aJ G oq 1 fo] ++ wi) φ (fun u => some (.int (nI 0))) (fun u => ([aJ G oq 1 (vp_updL fo 0 ((v u).toInt64))] ++ wo u)) := by
  refine Cqw.of (by decide) (Nat.le_of_ble_eq_true rfl) ?_
  intro p e s m args below meth c A ls hx hb hr hml hts hown hlk htb hA hP hD hG hS hl
  have hl : lv_has ls 4 [(0, .ref ox), (1, .int a0), (2, .ref oq)] := hl
  refine lv_aload_n hx hb dLa_count_0 rfl (lv_at hl 2 rfl) ?_
  refine lv_iconst (v := nI 0) hx hb dLa_count_1 (by decide) ?_
  refine lv_aload_n hx hb dLa_count_2 rfl (lv_at hl 0 rfl) ?_
  refine lv_iload_n hx hb dLa_count_3 rfl (lv_at hl 1 rfl) ?_
  refine clLa_73 (As := [.int a0]) (rest := [.int (nI 0), .ref oq]) hx hb hml hown hts hM hG hA hP hD hS 1 hq (List.range' 1 wi.length) (rng_map [aJ G oq 1 fo] wi) (nd_range _ _) ha rfl hl.1 rfl (Nat.le_of_ble_eq_true rfl) ⟨Nat.le_refl _, Nat.le_refl _⟩ ⟨Nat.le_of_eq (Nat.zero_add _), Nat.le_of_eq (Nat.zero_add _)⟩ dLa_count_4 (fun u H locs hu hP hD hS => ?_)
  have e9 : ck_set ([aJ G oq 1 fo] ++ wi) (List.range' 1 wi.length) (wo u) = [aJ G oq 1 fo] ++ wo u := set_rng [aJ G oq 1 fo] wi (wo u) (ha_len (ha u))
  rw [e9] at hP hD
  have hP : va_P G.1 vwCl ([aJ G oq 1 fo] ++ wo u) H := hP
  have hD : va_D A ([aJ G oq 1 fo] ++ wo u) := hD
  refine W.cs (cells' := rm.cells) (slots' := rm.slots) (Nat.zero_add _) (Nat.zero_add _) ?_
  refine W.eq (g2 := F0 m 7 ls [.int (v u), .int (nI 0), .ref oq]) rfl ?_
  refine lv_i2l (v := (v u).toInt64) hx hb dLa_count_7 rfl ?_
  refine ck_last hx hb hG hP hD hS 0 rfl (by decide) 0 (rfl) (by decide) dLa_count_8 (fun H locs hP hD hS => ?_)
  have hP : va_P G.1 vwCl ([aJ G oq 1 (vp_updL fo 0 ((v u).toInt64))] ++ wo u) H := hP
  have hD : va_D A ([aJ G oq 1 (vp_updL fo 0 ((v u).toInt64))] ++ wo u) := hD
  refine lv_goto (tgt := 15) hx hb dLa_count_9 rfl ?_
  refine lv_iconst (v := nI 0) hx hb dLa_count_15 (by decide) ?_
  exact cq_iret u (hu) hx hb hr hlk hP hS (rfl) (rfl) dLa_count_16
set_option maxHeartbeats 4000000 in
set_option maxRecDepth 100000 in
theorem w_La_count_IAE (l : Launch) (G : gG) (ox oq : Nat) (a0 : Int32) {rm : Room} {wi wc : va_W} {fs : List Value} (hM : Cx l G yCK_count cCK_count 2 (some .int) rm [.ref ox, .int a0] wc "java/lang/IllegalArgumentException" wc) (q0 : Nat) (hq : wi[q0]? = some (oC ox 7 fs)) (is : List Nat) (hC : is.map (fun i => wi[i]?) = wc.map some) (hnd : va_nd is = true) (hset : ck_set wi is wc = wi) : Cqw l G yLa_count cLa_count 4 (some .int) [(0, 9, 12, 13)] { frames := rm.frames + 1, cells := rm.cells, slots := rm.slots, locals := 8 + (2 + 11) + rm.locals } [.ref ox, .int a0, .ref oq] wi (S := Unit) (fun _ => True) (fun _ => some (.int (nI 1))) (fun _ => wi) := by
  refine Cqw.of (by decide) (Nat.le_of_ble_eq_true rfl) ?_
  intro p e s m args below meth c A ls hx hb hr hml hts hown hlk htb hA hP hD hG hS hl
  have hl : lv_has ls 4 [(0, .ref ox), (1, .int a0), (2, .ref oq)] := hl
  refine lv_aload_n hx hb dLa_count_0 rfl (lv_at hl 2 rfl) ?_
  refine lv_iconst (v := nI 0) hx hb dLa_count_1 (by decide) ?_
  refine lv_aload_n hx hb dLa_count_2 rfl (lv_at hl 0 rfl) ?_
  refine lv_iload_n hx hb dLa_count_3 rfl (lv_at hl 1 rfl) ?_
  refine cxLa_73 (As := [.int a0]) (rest := [.int (nI 0), .ref oq]) hx hb hml hown hts hM hG hA hP hD hS q0 hq is hC hnd hset rfl hl.1 rfl (Nat.le_of_ble_eq_true rfl) ⟨Nat.le_refl _, Nat.le_refl _⟩ ⟨Nat.le_of_eq (Nat.zero_add _), Nat.le_of_eq (Nat.zero_add _)⟩ dLa_count_4 [] ⟨0, 9, 12, 13⟩ [] htb (fun z hz => by cases hz) (by decide) (by decide) (hts _ kLaIAE) (va_Nw.use rfl (hG.2.2.2.2.2.2.1 _ kLcIAE)) (fun qx H locs hP hD hS => ?_)
  refine W.cs (cells' := rm.cells) (slots' := rm.slots) (Nat.zero_add _) (Nat.zero_add _) ?_
  refine W.eq (g2 := F0 m 12 ls [.ref qx]) rfl ?_
  refine lv_astore_n (lv' := [(3, .ref qx), (0, .ref ox), (1, .int a0), (2, .ref oq)]) hx hb dLa_count_12 rfl hl (by decide) rfl (fun ls hl => ?_)
  refine lv_iconst (v := nI 1) hx hb dLa_count_13 (by decide) ?_
  exact cq_iret () (trivial) hx hb hr hlk hP hS (rfl) (rfl) dLa_count_14
