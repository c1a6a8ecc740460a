/-! the reference's cipher: a block, a wrapped key -/
set_option maxHeartbeats 4000000 in
set_option maxRecDepth 100000 in
theorem k_Mo_encrypt (l : Launch) (G : gG) (oy : Nat) (r : Nat → Nat) (th : Int32) (fi se : Int64) (d : Int32) (sh sl : Int64) (az : Int32) (oh ol w0 w1 w2 : Int64) (f g m0 : Nat → Nat) (kh kl h1 l1 : Int64) : Cq l G yMo_encrypt cMo_encrypt 11 none { frames := 2, cells := 0, slots := 0, locals := 51 } [.ref oy, .long kh, .long kl, .long h1, .long l1] [moC oy r th fi se d sh sl az oh ol w0 w1 w2, aI G (r 0) 256 ckS, aI G (r 2) 176 (bN f), aI G (r 3) 16 (bN g), aI G (r 4) 16 (bN m0)] (S := (Nat → Nat) × (Nat → Nat) × (Nat → Nat)) (fun _ => True) (fun u => none) (fun u => [moC oy r th (rF kh kl h1 l1) (rS kh kl h1 l1) d sh sl az oh ol w0 w1 w2, aI G (r 0) 256 ckS, aI G (r 2) 176 (bN u.1), aI G (r 3) 16 (bN u.2.1), aI G (r 4) 16 (bN u.2.2)]) := by
  refine Cq.of (by decide) (Nat.le_of_ble_eq_true rfl) ?_
  intro p e s m args below meth c A ls hx hb hr hml hts hown hlk hA hP hD hG hS hl
  have hl : lv_has ls 11 [(0, .ref oy), (1, .long kh), (3, .long kl), (5, .long h1), (7, .long l1)] := hl
  refine lv_aload_n hx hb dMo_encrypt_0 rfl (lv_at hl 0 rfl) ?_
  refine lv_lload_n hx hb dMo_encrypt_1 rfl (lv_at hl 1 rfl) ?_
  refine lv_lload_n hx hb dMo_encrypt_2 rfl (lv_at hl 2 rfl) ?_
  refine clMo_89 (As := [.long kh, .long kl]) (rest := []) hx hb hml hown hts (k_Mo_makeWords l G oy r th fi se d sh sl az oh ol w0 w1 w2 f kh kl) hG hA hP hD hS 0 rfl [0, 1, 2] rfl rfl (fun _ => rfl) rfl hl.1 rfl (Nat.le_of_ble_eq_true rfl) ⟨by decide, by decide⟩ ⟨by decide, by decide⟩ dMo_encrypt_3 (fun _ H locs _ hP hD hS => ?_)
  have hP : va_P G.1 vwCl [moC oy r th fi se d sh sl az oh ol w0 w1 w2, aI G (r 0) 256 ckS, aI G (r 2) 176 (bN (rW kh kl)), aI G (r 3) 16 (bN g), aI G (r 4) 16 (bN m0)] H := hP
  have hD : va_D A [moC oy r th fi se d sh sl az oh ol w0 w1 w2, aI G (r 0) 256 ckS, aI G (r 2) 176 (bN (rW kh kl)), aI G (r 3) 16 (bN g), aI G (r 4) 16 (bN m0)] := hD
  refine W.cs (cells' := 0) (slots' := 0) rfl rfl ?_
  refine W.eq (g2 := F0 m 6 ls []) rfl ?_
  refine lv_aload_n hx hb dMo_encrypt_6 rfl (lv_at hl 0 rfl) ?_
  refine lv_lload hx hb dMo_encrypt_7 (lv_at hl 3 rfl) ?_
  refine lv_lload hx hb dMo_encrypt_9 (lv_at hl 4 rfl) ?_
  refine clMo_93 (As := [.long h1, .long l1]) (rest := []) hx hb hml hown hts (k_Mo_load l G oy r th fi se d sh sl az oh ol w0 w1 w2 g h1 l1) hG hA hP hD hS 0 rfl [0, 3] rfl rfl (fun _ => rfl) rfl hl.1 rfl (Nat.le_of_ble_eq_true rfl) ⟨by decide, by decide⟩ ⟨by decide, by decide⟩ dMo_encrypt_11 (fun _ H locs _ hP hD hS => ?_)
  have hP : va_P G.1 vwCl [moC oy r th fi se d sh sl az oh ol w0 w1 w2, aI G (r 0) 256 ckS, aI G (r 2) 176 (bN (rW kh kl)), aI G (r 3) 16 (bN (rBy h1 l1)), aI G (r 4) 16 (bN m0)] H := hP
  have hD : va_D A [moC oy r th fi se d sh sl az oh ol w0 w1 w2, aI G (r 0) 256 ckS, aI G (r 2) 176 (bN (rW kh kl)), aI G (r 3) 16 (bN (rBy h1 l1)), aI G (r 4) 16 (bN m0)] := hD
  refine W.cs (cells' := 0) (slots' := 0) rfl rfl ?_
  refine W.eq (g2 := F0 m 14 ls []) rfl ?_
  refine lv_aload_n hx hb dMo_encrypt_14 rfl (lv_at hl 0 rfl) ?_
  refine lv_iconst (v := nI 0) hx hb dMo_encrypt_15 (by decide) ?_
  refine clMo_96 (As := [.int (nI 0)]) (rest := []) hx hb hml hown hts (k_Mo_addWords l G oy r th fi se d sh sl az oh ol w0 w1 w2 (rBy h1 l1) (rW kh kl) 0 (by decide)) hG hA hP hD hS 0 rfl [0, 2, 3] rfl rfl (fun _ => rfl) rfl hl.1 rfl (Nat.le_of_ble_eq_true rfl) ⟨by decide, by decide⟩ ⟨by decide, by decide⟩ dMo_encrypt_16 (fun _ H locs _ hP hD hS => ?_)
  have hP : va_P G.1 vwCl [moC oy r th fi se d sh sl az oh ol w0 w1 w2, aI G (r 0) 256 ckS, aI G (r 2) 176 (bN (rW kh kl)), aI G (r 3) 16 (bN (rAd (rW kh kl) 0 (rBy h1 l1))), aI G (r 4) 16 (bN m0)] H := hP
  have hD : va_D A [moC oy r th fi se d sh sl az oh ol w0 w1 w2, aI G (r 0) 256 ckS, aI G (r 2) 176 (bN (rW kh kl)), aI G (r 3) 16 (bN (rAd (rW kh kl) 0 (rBy h1 l1))), aI G (r 4) 16 (bN m0)] := hD
  refine W.cs (cells' := 0) (slots' := 0) rfl rfl ?_
  refine W.eq (g2 := F0 m 19 ls []) rfl ?_
  refine lv_iconst (v := nI 1) hx hb dMo_encrypt_19 (by decide) ?_
  refine lv_istore (lv' := [(9, .int (nI 1)), (0, .ref oy), (1, .long kh), (3, .long kl), (5, .long h1), (7, .long l1)]) hx hb dMo_encrypt_20 hl (by decide) rfl (fun ls hl => ?_)
  have loopr : ∀ (k9 : Nat) (i : Nat) (F : Nat → Nat) (m1 : Nat → Nat) (H : Heap) (locs : List Loc) (ls : Array Slot), i + k9 = 10 → rEn (rW kh kl) (rBy h1 l1) i = F → (∀ j, F j < 256) → va_P G.1 vwCl [moC oy r th fi se d sh sl az oh ol w0 w1 w2, aI G (r 0) 256 ckS, aI G (r 2) 176 (bN (rW kh kl)), aI G (r 3) 16 (bN F), aI G (r 4) 16 (bN m1)] H → va_D A [moC oy r th fi se d sh sl az oh ol w0 w1 w2, aI G (r 0) 256 ckS, aI G (r 2) 176 (bN (rW kh kl)), aI G (r 3) 16 (bN F), aI G (r 4) 16 (bN m1)] → va_S A s.heap H locs → lv_has ls 11 [(0, .ref oy), (9, .int (nI (i + 1)))] → W p l e { frames := 2, cells := 0, slots := 0, locals := 51 } s m args below meth c H locs 0 0 (MQ below (cq_out G (S := (Nat → Nat) × (Nat → Nat) × (Nat → Nat)) (fun _ => True) (fun u => none) (fun u => [moC oy r th (rF kh kl h1 l1) (rS kh kl h1 l1) d sh sl az oh ol w0 w1 w2, aI G (r 0) 256 ckS, aI G (r 2) 176 (bN u.1), aI G (r 3) 16 (bN u.2.1), aI G (r 4) 16 (bN u.2.2)]) A) args s 0 0 A) (F0 m 22 ls []) := by
    intro k9
    induction k9 with
    | zero =>
      intro i F m1 H locs ls hk9 hq hF hP hD hS hl
      obtain rfl : i = 10 := by omega
      refine lv_iload hx hb dMo_encrypt_22 (lv_at hl 1 rfl) ?_
      refine lv_bipush (v := nI 10) hx hb dMo_encrypt_24 (by decide) ?_
      refine lv_icmp_gt (tgt := 92) hx hb dMo_encrypt_26 rfl (fun _ => ?_) (fun h => absurd (nI_lt (by omega) (by omega)) h)
      refine lv_aload_n hx hb dMo_encrypt_92 rfl (lv_at hl 0 rfl) ?_
      refine clMo_106 (As := []) (rest := []) hx hb hml hown hts (k_Mo_store l G oy r th fi se d sh sl az oh ol w0 w1 w2 (bN F)) hG hA hP hD hS 0 rfl [0, 3] rfl rfl (fun _ => rfl) rfl hl.1 rfl (Nat.le_of_ble_eq_true rfl) ⟨by decide, by decide⟩ ⟨by decide, by decide⟩ dMo_encrypt_93 (fun _ H locs _ hP hD hS => ?_)
      have hP : va_P G.1 vwCl [moC oy r th (jRd (bN F) 0 8) (jRd (bN F) 8 8) d sh sl az oh ol w0 w1 w2, aI G (r 0) 256 ckS, aI G (r 2) 176 (bN (rW kh kl)), aI G (r 3) 16 (bN F), aI G (r 4) 16 (bN m1)] H := hP
      have hD : va_D A [moC oy r th (jRd (bN F) 0 8) (jRd (bN F) 8 8) d sh sl az oh ol w0 w1 w2, aI G (r 0) 256 ckS, aI G (r 2) 176 (bN (rW kh kl)), aI G (r 3) 16 (bN F), aI G (r 4) 16 (bN m1)] := hD
      refine W.cs (cells' := 0) (slots' := 0) rfl rfl ?_
      refine W.eq (g2 := F0 m 96 ls []) rfl ?_
      exact cq_vret (rW kh kl, F, m1) (trivial) hx hb hr hlk hP hS rfl (by unfold rF rS rE; rw [hq]) dMo_encrypt_96
    | succ k9 ih9 =>
      intro i F m1 H locs ls hk9 hq hF hP hD hS hl
      refine lv_iload hx hb dMo_encrypt_22 (lv_at hl 1 rfl) ?_
      refine lv_bipush (v := nI 10) hx hb dMo_encrypt_24 (by decide) ?_
      refine lv_icmp_gt (tgt := 92) hx hb dMo_encrypt_26 rfl (fun h => absurd h (nI_nlt (by omega) (by omega))) (fun _ => ?_)
      refine lv_iconst (v := nI 0) hx hb dMo_encrypt_29 (by decide) ?_
      refine lv_istore (lv' := [(10, .int (nI 0)), (0, .ref oy), (9, .int (nI (i + 1)))]) hx hb dMo_encrypt_30 hl (by decide) rfl (fun ls hl => ?_)
      rw [bN_0 (rSb F) F] at hP hD
      have loopk : ∀ (k : Nat) (n : Nat) (H : Heap) (locs : List Loc) (ls : Array Slot), n + k = 16 → va_P G.1 vwCl [moC oy r th fi se d sh sl az oh ol w0 w1 w2, aI G (r 0) 256 ckS, aI G (r 2) 176 (bN (rW kh kl)), aI G (r 3) 16 (pN n (rSb F) F), aI G (r 4) 16 (bN m1)] H → va_D A [moC oy r th fi se d sh sl az oh ol w0 w1 w2, aI G (r 0) 256 ckS, aI G (r 2) 176 (bN (rW kh kl)), aI G (r 3) 16 (pN n (rSb F) F), aI G (r 4) 16 (bN m1)] → va_S A s.heap H locs → lv_has ls 11 [(0, .ref oy), (9, .int (nI (i + 1))), (10, .int (nI n))] → W p l e { frames := 2, cells := 0, slots := 0, locals := 51 } s m args below meth c H locs 0 0 (MQ below (cq_out G (S := (Nat → Nat) × (Nat → Nat) × (Nat → Nat)) (fun _ => True) (fun u => none) (fun u => [moC oy r th (rF kh kl h1 l1) (rS kh kl h1 l1) d sh sl az oh ol w0 w1 w2, aI G (r 0) 256 ckS, aI G (r 2) 176 (bN u.1), aI G (r 3) 16 (bN u.2.1), aI G (r 4) 16 (bN u.2.2)]) A) args s 0 0 A) (F0 m 32 ls []) := by
        intro k
        induction k with
        | zero =>
          intro n H locs ls hk hP hD hS hl
          have hP := ck_cg hP 3 rfl (g := bN (rSb F)) (fun j hj => pN_lo _ _ (by omega))
          have hP : va_P G.1 vwCl [moC oy r th fi se d sh sl az oh ol w0 w1 w2, aI G (r 0) 256 ckS, aI G (r 2) 176 (bN (rW kh kl)), aI G (r 3) 16 (bN (rSb F)), aI G (r 4) 16 (bN m1)] H := hP
          have hD : va_D A [moC oy r th fi se d sh sl az oh ol w0 w1 w2, aI G (r 0) 256 ckS, aI G (r 2) 176 (bN (rW kh kl)), aI G (r 3) 16 (bN (rSb F)), aI G (r 4) 16 (bN m1)] := ck_Dsame (by rfl) hD
          refine lv_iload hx hb dMo_encrypt_32 (lv_at hl 2 rfl) ?_
          refine lv_bipush (v := nI 16) hx hb dMo_encrypt_34 (by decide) ?_
          refine lv_icmp_ge (tgt := 64) hx hb dMo_encrypt_36 rfl (fun _ => ?_) (fun h => absurd (nI_le (by omega) (by omega)) h)
          refine lv_aload_n hx hb dMo_encrypt_64 rfl (lv_at hl 0 rfl) ?_
          refine lv_iconst (v := nI 1) hx hb dMo_encrypt_65 (by decide) ?_
          refine clMo_100 (As := [.int (nI 1)]) (rest := []) hx hb hml hown hts (k_Mo_turn l G oy r th fi se d sh sl az oh ol w0 w1 w2 (rSb F) m1 1 (by decide)) hG hA hP hD hS 0 rfl [0, 3, 4] rfl rfl (fun _ => rfl) rfl hl.1 rfl (Nat.le_of_ble_eq_true rfl) ⟨by decide, by decide⟩ ⟨by decide, by decide⟩ dMo_encrypt_66 (fun _ H locs _ hP hD hS => ?_)
          have hP : va_P G.1 vwCl [moC oy r th fi se d sh sl az oh ol w0 w1 w2, aI G (r 0) 256 ckS, aI G (r 2) 176 (bN (rW kh kl)), aI G (r 3) 16 (bN (rTu 1 (rSb F))), aI G (r 4) 16 (bN (rTu 1 (rSb F)))] H := hP
          have hD : va_D A [moC oy r th fi se d sh sl az oh ol w0 w1 w2, aI G (r 0) 256 ckS, aI G (r 2) 176 (bN (rW kh kl)), aI G (r 3) 16 (bN (rTu 1 (rSb F))), aI G (r 4) 16 (bN (rTu 1 (rSb F)))] := hD
          refine W.cs (cells' := 0) (slots' := 0) rfl rfl ?_
          refine W.eq (g2 := F0 m 69 ls []) rfl ?_
          refine lv_iload hx hb dMo_encrypt_69 (lv_at hl 1 rfl) ?_
          refine lv_bipush (v := nI 10) hx hb dMo_encrypt_71 (by decide) ?_
          refine lv_icmp_ge (tgt := 80) hx hb dMo_encrypt_73 rfl (fun h8 => ?_) (fun h8 => ?_)
          · have hm : ¬ i + 1 < 10 := by have := (nI_leI (a := 10) (by omega) (by omega)).mp h8; omega
            refine lv_aload_n hx hb dMo_encrypt_80 rfl (lv_at hl 0 rfl) ?_
            refine lv_iload hx hb dMo_encrypt_81 (lv_at hl 1 rfl) ?_
            refine clMo_96 (As := [.int (nI (i + 1))]) (rest := []) hx hb hml hown hts (k_Mo_addWords l G oy r th fi se d sh sl az oh ol w0 w1 w2 (rTu 1 (rSb F)) (rW kh kl) (i + 1) (by omega)) hG hA hP hD hS 0 rfl [0, 2, 3] rfl rfl (fun _ => rfl) rfl hl.1 rfl (Nat.le_of_ble_eq_true rfl) ⟨by decide, by decide⟩ ⟨by decide, by decide⟩ dMo_encrypt_83 (fun _ H locs _ hP hD hS => ?_)
            have hP : va_P G.1 vwCl [moC oy r th fi se d sh sl az oh ol w0 w1 w2, aI G (r 0) 256 ckS, aI G (r 2) 176 (bN (rW kh kl)), aI G (r 3) 16 (bN (rAd (rW kh kl) (i + 1) (rTu 1 (rSb F)))), aI G (r 4) 16 (bN (rTu 1 (rSb F)))] H := hP
            have hD : va_D A [moC oy r th fi se d sh sl az oh ol w0 w1 w2, aI G (r 0) 256 ckS, aI G (r 2) 176 (bN (rW kh kl)), aI G (r 3) 16 (bN (rAd (rW kh kl) (i + 1) (rTu 1 (rSb F)))), aI G (r 4) 16 (bN (rTu 1 (rSb F)))] := hD
            refine W.cs (cells' := 0) (slots' := 0) rfl rfl ?_
            refine W.eq (g2 := F0 m 86 ls []) rfl ?_
            refine lv_iinc (v := nI (i + 1 + 1)) (lv' := [(9, .int (nI (i + 1 + 1))), (0, .ref oy), (10, .int (nI n))]) hx hb dMo_encrypt_86 hl (k := 1) rfl (nI_1 (i + 1)) (by decide) rfl (fun ls hl => ?_)
            refine lv_goto (tgt := 22) hx hb dMo_encrypt_89 rfl ?_
            have e9 : rEn (rW kh kl) (rBy h1 l1) (i + 1) = (rAd (rW kh kl) (i + 1) (rTu 1 (rSb F))) := by rw [rEn, if_neg hm, hq]
            exact ih9 (i + 1) _ _ _ _ _ (by omega) e9 (rAd_lt (rW_lt kh kl) (rTu_lt (rSb_lt F))) hP hD hS (lv_sub hl [1, 0] rfl)
          · have hm : i + 1 < 10 := Nat.not_le.mp (fun z => h8 ((nI_leI (a := 10) (by omega) (by omega)).mpr z))
            refine lv_aload_n hx hb dMo_encrypt_76 rfl (lv_at hl 0 rfl) ?_
            refine clMo_103 (As := []) (rest := []) hx hb hml hown hts (k_Mo_mix l G oy r th fi se d sh sl az oh ol w0 w1 w2 (rTu 1 (rSb F)) (rTu 1 (rSb F)) (rTu_lt (rSb_lt F))) hG hA hP hD hS 0 rfl [0, 3, 4] rfl rfl (fun _ => rfl) rfl hl.1 rfl (Nat.le_of_ble_eq_true rfl) ⟨by decide, by decide⟩ ⟨by decide, by decide⟩ dMo_encrypt_77 (fun _ H locs _ hP hD hS => ?_)
            have hP : va_P G.1 vwCl [moC oy r th fi se d sh sl az oh ol w0 w1 w2, aI G (r 0) 256 ckS, aI G (r 2) 176 (bN (rW kh kl)), aI G (r 3) 16 (bN (rMx (rTu 1 (rSb F)))), aI G (r 4) 16 (bN (rMx (rTu 1 (rSb F))))] H := hP
            have hD : va_D A [moC oy r th fi se d sh sl az oh ol w0 w1 w2, aI G (r 0) 256 ckS, aI G (r 2) 176 (bN (rW kh kl)), aI G (r 3) 16 (bN (rMx (rTu 1 (rSb F)))), aI G (r 4) 16 (bN (rMx (rTu 1 (rSb F))))] := hD
            refine W.cs (cells' := 0) (slots' := 0) rfl rfl ?_
            refine W.eq (g2 := F0 m 80 ls []) rfl ?_
            refine lv_aload_n hx hb dMo_encrypt_80 rfl (lv_at hl 0 rfl) ?_
            refine lv_iload hx hb dMo_encrypt_81 (lv_at hl 1 rfl) ?_
            refine clMo_96 (As := [.int (nI (i + 1))]) (rest := []) hx hb hml hown hts (k_Mo_addWords l G oy r th fi se d sh sl az oh ol w0 w1 w2 (rMx (rTu 1 (rSb F))) (rW kh kl) (i + 1) (by omega)) hG hA hP hD hS 0 rfl [0, 2, 3] rfl rfl (fun _ => rfl) rfl hl.1 rfl (Nat.le_of_ble_eq_true rfl) ⟨by decide, by decide⟩ ⟨by decide, by decide⟩ dMo_encrypt_83 (fun _ H locs _ hP hD hS => ?_)
            have hP : va_P G.1 vwCl [moC oy r th fi se d sh sl az oh ol w0 w1 w2, aI G (r 0) 256 ckS, aI G (r 2) 176 (bN (rW kh kl)), aI G (r 3) 16 (bN (rAd (rW kh kl) (i + 1) (rMx (rTu 1 (rSb F))))), aI G (r 4) 16 (bN (rMx (rTu 1 (rSb F))))] H := hP
            have hD : va_D A [moC oy r th fi se d sh sl az oh ol w0 w1 w2, aI G (r 0) 256 ckS, aI G (r 2) 176 (bN (rW kh kl)), aI G (r 3) 16 (bN (rAd (rW kh kl) (i + 1) (rMx (rTu 1 (rSb F))))), aI G (r 4) 16 (bN (rMx (rTu 1 (rSb F))))] := hD
            refine W.cs (cells' := 0) (slots' := 0) rfl rfl ?_
            refine W.eq (g2 := F0 m 86 ls []) rfl ?_
            refine lv_iinc (v := nI (i + 1 + 1)) (lv' := [(9, .int (nI (i + 1 + 1))), (0, .ref oy), (10, .int (nI n))]) hx hb dMo_encrypt_86 hl (k := 1) rfl (nI_1 (i + 1)) (by decide) rfl (fun ls hl => ?_)
            refine lv_goto (tgt := 22) hx hb dMo_encrypt_89 rfl ?_
            have e9 : rEn (rW kh kl) (rBy h1 l1) (i + 1) = (rAd (rW kh kl) (i + 1) (rMx (rTu 1 (rSb F)))) := by rw [rEn, if_pos hm, hq]
            exact ih9 (i + 1) _ _ _ _ _ (by omega) e9 (rAd_lt (rW_lt kh kl) (rMx_lt (rTu_lt (rSb_lt F)))) hP hD hS (lv_sub hl [1, 0] rfl)
        | succ k ih =>
          intro n H locs ls hk hP hD hS hl
          refine lv_iload hx hb dMo_encrypt_32 (lv_at hl 2 rfl) ?_
          refine lv_bipush (v := nI 16) hx hb dMo_encrypt_34 (by decide) ?_
          refine lv_icmp_ge (tgt := 64) hx hb dMo_encrypt_36 rfl (fun h => absurd h (nI_ge (by omega) (by omega))) (fun _ => ?_)
          refine lv_aload_n hx hb dMo_encrypt_39 rfl (lv_at hl 0 rfl) ?_
          refine gfMo_19 hx hb hts hown hG hP 0 rfl rfl dMo_encrypt_40 ?_
          refine lv_iload hx hb dMo_encrypt_43 (lv_at hl 2 rfl) ?_
          refine lv_aload_n hx hb dMo_encrypt_45 rfl (lv_at hl 0 rfl) ?_
          refine gfMo_7 hx hb hts hown hG hP 0 rfl rfl dMo_encrypt_46 ?_
          refine lv_aload_n hx hb dMo_encrypt_49 rfl (lv_at hl 0 rfl) ?_
          refine gfMo_19 hx hb hts hown hG hP 0 rfl rfl dMo_encrypt_50 ?_
          refine lv_iload hx hb dMo_encrypt_53 (lv_at hl 2 rfl) ?_
          refine ck_iald hx hb hG hP 3 rfl (by decide) n (rfl) (by omega) dMo_encrypt_55 ?_
          refine ck_ri (y := nI (F n)) (pN_at _ _ _) ?_
          refine ck_iald hx hb hG hP 1 rfl (by decide) (F n) (rfl) (hF n) dMo_encrypt_56 ?_
          refine ck_ri (y := nI (sB (F n))) (rfl) ?_
          refine ck_iast hx hb hG hP hD hS 3 rfl (by decide) n (rfl) (by omega) dMo_encrypt_57 (fun H locs hP hD hS => ?_)
          have hP : va_P G.1 vwCl [moC oy r th fi se d sh sl az oh ol w0 w1 w2, aI G (r 0) 256 ckS, aI G (r 2) 176 (bN (rW kh kl)), aI G (r 3) 16 (upd (pN n (rSb F) F) n (nI (sB (F n)))), aI G (r 4) 16 (bN m1)] H := hP
          have hD : va_D A [moC oy r th fi se d sh sl az oh ol w0 w1 w2, aI G (r 0) 256 ckS, aI G (r 2) 176 (bN (rW kh kl)), aI G (r 3) 16 (upd (pN n (rSb F) F) n (nI (sB (F n)))), aI G (r 4) 16 (bN m1)] := hD
          refine lv_iinc (v := nI (n + 1)) (lv' := [(10, .int (nI (n + 1))), (0, .ref oy), (9, .int (nI (i + 1)))]) hx hb dMo_encrypt_58 hl (k := 2) rfl (nI_1 n) (by decide) rfl (fun ls hl => ?_)
          refine lv_goto (tgt := 32) hx hb dMo_encrypt_61 rfl ?_
          have e1 : upd (pN n (rSb F) F) n (nI (sB (F n))) = pN (n + 1) (rSb F) F := pN_upd n (rSb F) F
          rw [e1] at hP hD
          exact ih (n + 1) _ _ _ (by omega) hP hD hS (lv_sub hl [1, 2, 0] rfl)
      exact loopk 16 0 _ _ _ (by omega) hP hD hS (lv_sub hl [1, 2, 0] rfl)
  exact loopr 10 0 _ _ _ _ _ (by omega) rfl (rAd_lt (rW_lt kh kl) (rBy_lt h1 l1)) hP hD hS (lv_sub hl [1, 0] rfl)
set_option maxHeartbeats 4000000 in
set_option maxRecDepth 100000 in
theorem k_Mo_decrypt (l : Launch) (G : gG) (oy : Nat) (r : Nat → Nat) (th : Int32) (fi se : Int64) (d : Int32) (sh sl : Int64) (az : Int32) (oh ol w0 w1 w2 : Int64) (f g m0 : Nat → Nat) (kh kl h1 l1 : Int64) : Cq l G yMo_decrypt cMo_decrypt 11 none { frames := 2, cells := 0, slots := 0, locals := 51 } [.ref oy, .long kh, .long kl, .long h1, .long l1] [moC oy r th fi se d sh sl az oh ol w0 w1 w2, aI G (r 0) 256 ckS, aI G (r 1) 256 ckU, aI G (r 2) 176 (bN f), aI G (r 3) 16 (bN g), aI G (r 4) 16 (bN m0)] (S := (Nat → Nat) × (Nat → Nat) × (Nat → Nat)) (fun _ => True) (fun u => none) (fun u => [moC oy r th (rG kh kl h1 l1) (rH kh kl h1 l1) d sh sl az oh ol w0 w1 w2, aI G (r 0) 256 ckS, aI G (r 1) 256 ckU, aI G (r 2) 176 (bN u.1), aI G (r 3) 16 (bN u.2.1), aI G (r 4) 16 (bN u.2.2)]) := by
  refine Cq.of (by decide) (Nat.le_of_ble_eq_true rfl) ?_
  intro p e s m args below meth c A ls hx hb hr hml hts hown hlk hA hP hD hG hS hl
  have hl : lv_has ls 11 [(0, .ref oy), (1, .long kh), (3, .long kl), (5, .long h1), (7, .long l1)] := hl
  refine lv_aload_n hx hb dMo_decrypt_0 rfl (lv_at hl 0 rfl) ?_
  refine lv_lload_n hx hb dMo_decrypt_1 rfl (lv_at hl 1 rfl) ?_
  refine lv_lload_n hx hb dMo_decrypt_2 rfl (lv_at hl 2 rfl) ?_
  refine clMo_89 (As := [.long kh, .long kl]) (rest := []) hx hb hml hown hts (k_Mo_makeWords l G oy r th fi se d sh sl az oh ol w0 w1 w2 f kh kl) hG hA hP hD hS 0 rfl [0, 1, 3] rfl rfl (fun _ => rfl) rfl hl.1 rfl (Nat.le_of_ble_eq_true rfl) ⟨by decide, by decide⟩ ⟨by decide, by decide⟩ dMo_decrypt_3 (fun _ H locs _ hP hD hS => ?_)
  have hP : va_P G.1 vwCl [moC oy r th fi se d sh sl az oh ol w0 w1 w2, aI G (r 0) 256 ckS, aI G (r 1) 256 ckU, aI G (r 2) 176 (bN (rW kh kl)), aI G (r 3) 16 (bN g), aI G (r 4) 16 (bN m0)] H := hP
  have hD : va_D A [moC oy r th fi se d sh sl az oh ol w0 w1 w2, aI G (r 0) 256 ckS, aI G (r 1) 256 ckU, aI G (r 2) 176 (bN (rW kh kl)), aI G (r 3) 16 (bN g), aI G (r 4) 16 (bN m0)] := hD
  refine W.cs (cells' := 0) (slots' := 0) rfl rfl ?_
  refine W.eq (g2 := F0 m 6 ls []) rfl ?_
  refine lv_aload_n hx hb dMo_decrypt_6 rfl (lv_at hl 0 rfl) ?_
  refine lv_lload hx hb dMo_decrypt_7 (lv_at hl 3 rfl) ?_
  refine lv_lload hx hb dMo_decrypt_9 (lv_at hl 4 rfl) ?_
  refine clMo_93 (As := [.long h1, .long l1]) (rest := []) hx hb hml hown hts (k_Mo_load l G oy r th fi se d sh sl az oh ol w0 w1 w2 g h1 l1) hG hA hP hD hS 0 rfl [0, 4] rfl rfl (fun _ => rfl) rfl hl.1 rfl (Nat.le_of_ble_eq_true rfl) ⟨by decide, by decide⟩ ⟨by decide, by decide⟩ dMo_decrypt_11 (fun _ H locs _ hP hD hS => ?_)
  have hP : va_P G.1 vwCl [moC oy r th fi se d sh sl az oh ol w0 w1 w2, aI G (r 0) 256 ckS, aI G (r 1) 256 ckU, aI G (r 2) 176 (bN (rW kh kl)), aI G (r 3) 16 (bN (rBy h1 l1)), aI G (r 4) 16 (bN m0)] H := hP
  have hD : va_D A [moC oy r th fi se d sh sl az oh ol w0 w1 w2, aI G (r 0) 256 ckS, aI G (r 1) 256 ckU, aI G (r 2) 176 (bN (rW kh kl)), aI G (r 3) 16 (bN (rBy h1 l1)), aI G (r 4) 16 (bN m0)] := hD
  refine W.cs (cells' := 0) (slots' := 0) rfl rfl ?_
  refine W.eq (g2 := F0 m 14 ls []) rfl ?_
  refine lv_bipush (v := nI 10) hx hb dMo_decrypt_14 (by decide) ?_
  refine lv_istore (lv' := [(9, .int (nI 10)), (0, .ref oy), (1, .long kh), (3, .long kl), (5, .long h1), (7, .long l1)]) hx hb dMo_decrypt_16 hl (by decide) rfl (fun ls hl => ?_)
  have loopr : ∀ (k9 : Nat) (i : Nat) (F : Nat → Nat) (m1 : Nat → Nat) (H : Heap) (locs : List Loc) (ls : Array Slot), i + k9 = 10 → rDn (rW kh kl) (rBy h1 l1) i = F → (∀ j, F j < 256) → va_P G.1 vwCl [moC oy r th fi se d sh sl az oh ol w0 w1 w2, aI G (r 0) 256 ckS, aI G (r 1) 256 ckU, aI G (r 2) 176 (bN (rW kh kl)), aI G (r 3) 16 (bN F), aI G (r 4) 16 (bN m1)] H → va_D A [moC oy r th fi se d sh sl az oh ol w0 w1 w2, aI G (r 0) 256 ckS, aI G (r 1) 256 ckU, aI G (r 2) 176 (bN (rW kh kl)), aI G (r 3) 16 (bN F), aI G (r 4) 16 (bN m1)] → va_S A s.heap H locs → lv_has ls 11 [(0, .ref oy), (9, .int (nI (10 - i)))] → W p l e { frames := 2, cells := 0, slots := 0, locals := 51 } s m args below meth c H locs 0 0 (MQ below (cq_out G (S := (Nat → Nat) × (Nat → Nat) × (Nat → Nat)) (fun _ => True) (fun u => none) (fun u => [moC oy r th (rG kh kl h1 l1) (rH kh kl h1 l1) d sh sl az oh ol w0 w1 w2, aI G (r 0) 256 ckS, aI G (r 1) 256 ckU, aI G (r 2) 176 (bN u.1), aI G (r 3) 16 (bN u.2.1), aI G (r 4) 16 (bN u.2.2)]) A) args s 0 0 A) (F0 m 18 ls []) := by
    intro k9
    induction k9 with
    | zero =>
      intro i F m1 H locs ls hk9 hq hF hP hD hS hl
      obtain rfl : i = 10 := by omega
      refine lv_iload hx hb dMo_decrypt_18 (lv_at hl 1 rfl) ?_
      refine lv_iconst (v := nI 1) hx hb dMo_decrypt_20 (by decide) ?_
      refine lv_icmp_lt (tgt := 95) hx hb dMo_decrypt_21 rfl (fun _ => ?_) (fun h => absurd (nI_lt (a := 10 - 10) (b := 1) (by omega) (by omega)) h)
      refine lv_aload_n hx hb dMo_decrypt_95 rfl (lv_at hl 0 rfl) ?_
      refine lv_iconst (v := nI 0) hx hb dMo_decrypt_96 (by decide) ?_
      refine clMo_96 (As := [.int (nI 0)]) (rest := []) hx hb hml hown hts (k_Mo_addWords l G oy r th fi se d sh sl az oh ol w0 w1 w2 F (rW kh kl) 0 (by decide)) hG hA hP hD hS 0 rfl [0, 3, 4] rfl rfl (fun _ => rfl) rfl hl.1 rfl (Nat.le_of_ble_eq_true rfl) ⟨by decide, by decide⟩ ⟨by decide, by decide⟩ dMo_decrypt_97 (fun _ H locs _ hP hD hS => ?_)
      have hP : va_P G.1 vwCl [moC oy r th fi se d sh sl az oh ol w0 w1 w2, aI G (r 0) 256 ckS, aI G (r 1) 256 ckU, aI G (r 2) 176 (bN (rW kh kl)), aI G (r 3) 16 (bN (rAd (rW kh kl) 0 F)), aI G (r 4) 16 (bN m1)] H := hP
      have hD : va_D A [moC oy r th fi se d sh sl az oh ol w0 w1 w2, aI G (r 0) 256 ckS, aI G (r 1) 256 ckU, aI G (r 2) 176 (bN (rW kh kl)), aI G (r 3) 16 (bN (rAd (rW kh kl) 0 F)), aI G (r 4) 16 (bN m1)] := hD
      refine W.cs (cells' := 0) (slots' := 0) rfl rfl ?_
      refine W.eq (g2 := F0 m 100 ls []) rfl ?_
      refine lv_aload_n hx hb dMo_decrypt_100 rfl (lv_at hl 0 rfl) ?_
      refine clMo_106 (As := []) (rest := []) hx hb hml hown hts (k_Mo_store l G oy r th fi se d sh sl az oh ol w0 w1 w2 (bN (rAd (rW kh kl) 0 F))) hG hA hP hD hS 0 rfl [0, 4] rfl rfl (fun _ => rfl) rfl hl.1 rfl (Nat.le_of_ble_eq_true rfl) ⟨by decide, by decide⟩ ⟨by decide, by decide⟩ dMo_decrypt_101 (fun _ H locs _ hP hD hS => ?_)
      have hP : va_P G.1 vwCl [moC oy r th (jRd (bN (rAd (rW kh kl) 0 F)) 0 8) (jRd (bN (rAd (rW kh kl) 0 F)) 8 8) d sh sl az oh ol w0 w1 w2, aI G (r 0) 256 ckS, aI G (r 1) 256 ckU, aI G (r 2) 176 (bN (rW kh kl)), aI G (r 3) 16 (bN (rAd (rW kh kl) 0 F)), aI G (r 4) 16 (bN m1)] H := hP
      have hD : va_D A [moC oy r th (jRd (bN (rAd (rW kh kl) 0 F)) 0 8) (jRd (bN (rAd (rW kh kl) 0 F)) 8 8) d sh sl az oh ol w0 w1 w2, aI G (r 0) 256 ckS, aI G (r 1) 256 ckU, aI G (r 2) 176 (bN (rW kh kl)), aI G (r 3) 16 (bN (rAd (rW kh kl) 0 F)), aI G (r 4) 16 (bN m1)] := hD
      refine W.cs (cells' := 0) (slots' := 0) rfl rfl ?_
      refine W.eq (g2 := F0 m 104 ls []) rfl ?_
      exact cq_vret (rW kh kl, rAd (rW kh kl) 0 F, m1) (trivial) hx hb hr hlk hP hS rfl (by unfold rG rH rD; rw [hq]) dMo_decrypt_104
    | succ k9 ih9 =>
      intro i F m1 H locs ls hk9 hq hF hP hD hS hl
      refine lv_iload hx hb dMo_decrypt_18 (lv_at hl 1 rfl) ?_
      refine lv_iconst (v := nI 1) hx hb dMo_decrypt_20 (by decide) ?_
      refine lv_icmp_lt (tgt := 95) hx hb dMo_decrypt_21 rfl (fun h => absurd h (nI_nlt (a := 10 - i) (b := 1) (by omega) (by omega))) (fun _ => ?_)
      refine lv_aload_n hx hb dMo_decrypt_24 rfl (lv_at hl 0 rfl) ?_
      refine lv_iload hx hb dMo_decrypt_25 (lv_at hl 1 rfl) ?_
      refine clMo_96 (As := [.int (nI (10 - i))]) (rest := []) hx hb hml hown hts (k_Mo_addWords l G oy r th fi se d sh sl az oh ol w0 w1 w2 F (rW kh kl) (10 - i) (by omega)) hG hA hP hD hS 0 rfl [0, 3, 4] rfl rfl (fun _ => rfl) rfl hl.1 rfl (Nat.le_of_ble_eq_true rfl) ⟨by decide, by decide⟩ ⟨by decide, by decide⟩ dMo_decrypt_27 (fun _ H locs _ hP hD hS => ?_)
      have hP : va_P G.1 vwCl [moC oy r th fi se d sh sl az oh ol w0 w1 w2, aI G (r 0) 256 ckS, aI G (r 1) 256 ckU, aI G (r 2) 176 (bN (rW kh kl)), aI G (r 3) 16 (bN (rAd (rW kh kl) (10 - i) F)), aI G (r 4) 16 (bN m1)] H := hP
      have hD : va_D A [moC oy r th fi se d sh sl az oh ol w0 w1 w2, aI G (r 0) 256 ckS, aI G (r 1) 256 ckU, aI G (r 2) 176 (bN (rW kh kl)), aI G (r 3) 16 (bN (rAd (rW kh kl) (10 - i) F)), aI G (r 4) 16 (bN m1)] := hD
      refine W.cs (cells' := 0) (slots' := 0) rfl rfl ?_
      refine W.eq (g2 := F0 m 30 ls []) rfl ?_
      refine lv_iload hx hb dMo_decrypt_30 (lv_at hl 1 rfl) ?_
      refine lv_bipush (v := nI 10) hx hb dMo_decrypt_32 (by decide) ?_
      refine lv_icmp_ge (tgt := 49) hx hb dMo_decrypt_34 rfl (fun h8 => ?_) (fun h8 => ?_)
      · have hm : ¬ 10 - i < 10 := by have := (nI_leI (a := 10) (by omega) (by omega)).mp h8; omega
        refine lv_aload_n hx hb dMo_decrypt_49 rfl (lv_at hl 0 rfl) ?_
        refine lv_iconst (v := nI 3) hx hb dMo_decrypt_50 (by decide) ?_
        refine clMo_100 (As := [.int (nI 3)]) (rest := []) hx hb hml hown hts (k_Mo_turn l G oy r th fi se d sh sl az oh ol w0 w1 w2 (rAd (rW kh kl) (10 - i) F) m1 3 (by decide)) hG hA hP hD hS 0 rfl [0, 4, 5] rfl rfl (fun _ => rfl) rfl hl.1 rfl (Nat.le_of_ble_eq_true rfl) ⟨by decide, by decide⟩ ⟨by decide, by decide⟩ dMo_decrypt_51 (fun _ H locs _ hP hD hS => ?_)
        have hP : va_P G.1 vwCl [moC oy r th fi se d sh sl az oh ol w0 w1 w2, aI G (r 0) 256 ckS, aI G (r 1) 256 ckU, aI G (r 2) 176 (bN (rW kh kl)), aI G (r 3) 16 (bN (rTu 3 (rAd (rW kh kl) (10 - i) F))), aI G (r 4) 16 (bN (rTu 3 (rAd (rW kh kl) (10 - i) F)))] H := hP
        have hD : va_D A [moC oy r th fi se d sh sl az oh ol w0 w1 w2, aI G (r 0) 256 ckS, aI G (r 1) 256 ckU, aI G (r 2) 176 (bN (rW kh kl)), aI G (r 3) 16 (bN (rTu 3 (rAd (rW kh kl) (10 - i) F))), aI G (r 4) 16 (bN (rTu 3 (rAd (rW kh kl) (10 - i) F)))] := hD
        refine W.cs (cells' := 0) (slots' := 0) rfl rfl ?_
        refine W.eq (g2 := F0 m 54 ls []) rfl ?_
        refine lv_iconst (v := nI 0) hx hb dMo_decrypt_54 (by decide) ?_
        refine lv_istore (lv' := [(10, .int (nI 0)), (0, .ref oy), (9, .int (nI (10 - i)))]) hx hb dMo_decrypt_55 hl (by decide) rfl (fun ls hl => ?_)
        rw [bN_0 (rUb (rTu 3 (rAd (rW kh kl) (10 - i) F))) (rTu 3 (rAd (rW kh kl) (10 - i) F))] at hP hD
        have loopk : ∀ (k : Nat) (n : Nat) (H : Heap) (locs : List Loc) (ls : Array Slot), n + k = 16 → va_P G.1 vwCl [moC oy r th fi se d sh sl az oh ol w0 w1 w2, aI G (r 0) 256 ckS, aI G (r 1) 256 ckU, aI G (r 2) 176 (bN (rW kh kl)), aI G (r 3) 16 (pN n (rUb (rTu 3 (rAd (rW kh kl) (10 - i) F))) (rTu 3 (rAd (rW kh kl) (10 - i) F))), aI G (r 4) 16 (bN (rTu 3 (rAd (rW kh kl) (10 - i) F)))] H → va_D A [moC oy r th fi se d sh sl az oh ol w0 w1 w2, aI G (r 0) 256 ckS, aI G (r 1) 256 ckU, aI G (r 2) 176 (bN (rW kh kl)), aI G (r 3) 16 (pN n (rUb (rTu 3 (rAd (rW kh kl) (10 - i) F))) (rTu 3 (rAd (rW kh kl) (10 - i) F))), aI G (r 4) 16 (bN (rTu 3 (rAd (rW kh kl) (10 - i) F)))] → va_S A s.heap H locs → lv_has ls 11 [(0, .ref oy), (9, .int (nI (10 - i))), (10, .int (nI n))] → W p l e { frames := 2, cells := 0, slots := 0, locals := 51 } s m args below meth c H locs 0 0 (MQ below (cq_out G (S := (Nat → Nat) × (Nat → Nat) × (Nat → Nat)) (fun _ => True) (fun u => none) (fun u => [moC oy r th (rG kh kl h1 l1) (rH kh kl h1 l1) d sh sl az oh ol w0 w1 w2, aI G (r 0) 256 ckS, aI G (r 1) 256 ckU, aI G (r 2) 176 (bN u.1), aI G (r 3) 16 (bN u.2.1), aI G (r 4) 16 (bN u.2.2)]) A) args s 0 0 A) (F0 m 57 ls []) := by
          intro k
          induction k with
          | zero =>
            intro n H locs ls hk hP hD hS hl
            have hP := ck_cg hP 4 rfl (g := bN (rUb (rTu 3 (rAd (rW kh kl) (10 - i) F)))) (fun j hj => pN_lo _ _ (by omega))
            have hP : va_P G.1 vwCl [moC oy r th fi se d sh sl az oh ol w0 w1 w2, aI G (r 0) 256 ckS, aI G (r 1) 256 ckU, aI G (r 2) 176 (bN (rW kh kl)), aI G (r 3) 16 (bN (rUb (rTu 3 (rAd (rW kh kl) (10 - i) F)))), aI G (r 4) 16 (bN (rTu 3 (rAd (rW kh kl) (10 - i) F)))] H := hP
            have hD : va_D A [moC oy r th fi se d sh sl az oh ol w0 w1 w2, aI G (r 0) 256 ckS, aI G (r 1) 256 ckU, aI G (r 2) 176 (bN (rW kh kl)), aI G (r 3) 16 (bN (rUb (rTu 3 (rAd (rW kh kl) (10 - i) F)))), aI G (r 4) 16 (bN (rTu 3 (rAd (rW kh kl) (10 - i) F)))] := ck_Dsame (by rfl) hD
            refine lv_iload hx hb dMo_decrypt_57 (lv_at hl 2 rfl) ?_
            refine lv_bipush (v := nI 16) hx hb dMo_decrypt_59 (by decide) ?_
            refine lv_icmp_ge (tgt := 89) hx hb dMo_decrypt_61 rfl (fun _ => ?_) (fun h => absurd (nI_le (by omega) (by omega)) h)
            refine lv_iinc (v := nI (10 - (i + 1))) (lv' := [(9, .int (nI (10 - (i + 1)))), (0, .ref oy), (10, .int (nI n))]) hx hb dMo_decrypt_89 hl (k := 1) rfl (by rw [show 10 - i = (10 - (i + 1)) + 1 by omega]; exact pk_m1 _) (by decide) rfl (fun ls hl => ?_)
            refine lv_goto (tgt := 18) hx hb dMo_decrypt_92 rfl ?_
            have e9 : rDn (rW kh kl) (rBy h1 l1) (i + 1) = (rUb (rTu 3 (rAd (rW kh kl) (10 - i) F))) := by rw [rDn, if_neg hm, hq]
            exact ih9 (i + 1) _ _ _ _ _ (by omega) e9 (rUb_lt _) hP hD hS (lv_sub hl [1, 0] rfl)
          | succ k ih =>
            intro n H locs ls hk hP hD hS hl
            refine lv_iload hx hb dMo_decrypt_57 (lv_at hl 2 rfl) ?_
            refine lv_bipush (v := nI 16) hx hb dMo_decrypt_59 (by decide) ?_
            refine lv_icmp_ge (tgt := 89) hx hb dMo_decrypt_61 rfl (fun h => absurd h (nI_ge (by omega) (by omega))) (fun _ => ?_)
            refine lv_aload_n hx hb dMo_decrypt_64 rfl (lv_at hl 0 rfl) ?_
            refine gfMo_19 hx hb hts hown hG hP 0 rfl rfl dMo_decrypt_65 ?_
            refine lv_iload hx hb dMo_decrypt_68 (lv_at hl 2 rfl) ?_
            refine lv_aload_n hx hb dMo_decrypt_70 rfl (lv_at hl 0 rfl) ?_
            refine gfMo_13 hx hb hts hown hG hP 0 rfl rfl dMo_decrypt_71 ?_
            refine lv_aload_n hx hb dMo_decrypt_74 rfl (lv_at hl 0 rfl) ?_
            refine gfMo_19 hx hb hts hown hG hP 0 rfl rfl dMo_decrypt_75 ?_
            refine lv_iload hx hb dMo_decrypt_78 (lv_at hl 2 rfl) ?_
            refine ck_iald hx hb hG hP 4 rfl (by decide) n (rfl) (by omega) dMo_decrypt_80 ?_
            refine ck_ri (y := nI ((rTu 3 (rAd (rW kh kl) (10 - i) F)) n)) (pN_at _ _ _) ?_
            refine ck_iald hx hb hG hP 2 rfl (by decide) ((rTu 3 (rAd (rW kh kl) (10 - i) F)) n) (rfl) (rTu_lt (rAd_lt (rW_lt kh kl) hF) n) dMo_decrypt_81 ?_
            refine ck_ri (y := nI (sV ((rTu 3 (rAd (rW kh kl) (10 - i) F)) n))) (rfl) ?_
            refine ck_iast hx hb hG hP hD hS 4 rfl (by decide) n (rfl) (by omega) dMo_decrypt_82 (fun H locs hP hD hS => ?_)
            have hP : va_P G.1 vwCl [moC oy r th fi se d sh sl az oh ol w0 w1 w2, aI G (r 0) 256 ckS, aI G (r 1) 256 ckU, aI G (r 2) 176 (bN (rW kh kl)), aI G (r 3) 16 (upd (pN n (rUb (rTu 3 (rAd (rW kh kl) (10 - i) F))) (rTu 3 (rAd (rW kh kl) (10 - i) F))) n (nI (sV ((rTu 3 (rAd (rW kh kl) (10 - i) F)) n)))), aI G (r 4) 16 (bN (rTu 3 (rAd (rW kh kl) (10 - i) F)))] H := hP
            have hD : va_D A [moC oy r th fi se d sh sl az oh ol w0 w1 w2, aI G (r 0) 256 ckS, aI G (r 1) 256 ckU, aI G (r 2) 176 (bN (rW kh kl)), aI G (r 3) 16 (upd (pN n (rUb (rTu 3 (rAd (rW kh kl) (10 - i) F))) (rTu 3 (rAd (rW kh kl) (10 - i) F))) n (nI (sV ((rTu 3 (rAd (rW kh kl) (10 - i) F)) n)))), aI G (r 4) 16 (bN (rTu 3 (rAd (rW kh kl) (10 - i) F)))] := hD
            refine lv_iinc (v := nI (n + 1)) (lv' := [(10, .int (nI (n + 1))), (0, .ref oy), (9, .int (nI (10 - i)))]) hx hb dMo_decrypt_83 hl (k := 2) rfl (nI_1 n) (by decide) rfl (fun ls hl => ?_)
            refine lv_goto (tgt := 57) hx hb dMo_decrypt_86 rfl ?_
            have e1 : upd (pN n (rUb (rTu 3 (rAd (rW kh kl) (10 - i) F))) (rTu 3 (rAd (rW kh kl) (10 - i) F))) n (nI (sV ((rTu 3 (rAd (rW kh kl) (10 - i) F)) n))) = pN (n + 1) (rUb (rTu 3 (rAd (rW kh kl) (10 - i) F))) (rTu 3 (rAd (rW kh kl) (10 - i) F)) := pN_upd n (rUb (rTu 3 (rAd (rW kh kl) (10 - i) F))) (rTu 3 (rAd (rW kh kl) (10 - i) F))
            rw [e1] at hP hD
            exact ih (n + 1) _ _ _ (by omega) hP hD hS (lv_sub hl [1, 2, 0] rfl)
        exact loopk 16 0 _ _ _ (by omega) hP hD hS (lv_sub hl [1, 2, 0] rfl)
      · have hm : 10 - i < 10 := Nat.not_le.mp (fun z => h8 ((nI_leI (a := 10) (by omega) (by omega)).mpr z))
        refine lv_aload_n hx hb dMo_decrypt_37 rfl (lv_at hl 0 rfl) ?_
        refine clMo_103 (As := []) (rest := []) hx hb hml hown hts (k_Mo_mix l G oy r th fi se d sh sl az oh ol w0 w1 w2 (rAd (rW kh kl) (10 - i) F) m1 (rAd_lt (rW_lt kh kl) hF)) hG hA hP hD hS 0 rfl [0, 4, 5] rfl rfl (fun _ => rfl) rfl hl.1 rfl (Nat.le_of_ble_eq_true rfl) ⟨by decide, by decide⟩ ⟨by decide, by decide⟩ dMo_decrypt_38 (fun _ H locs _ hP hD hS => ?_)
        have hP : va_P G.1 vwCl [moC oy r th fi se d sh sl az oh ol w0 w1 w2, aI G (r 0) 256 ckS, aI G (r 1) 256 ckU, aI G (r 2) 176 (bN (rW kh kl)), aI G (r 3) 16 (bN (rMx (rAd (rW kh kl) (10 - i) F))), aI G (r 4) 16 (bN (rMx (rAd (rW kh kl) (10 - i) F)))] H := hP
        have hD : va_D A [moC oy r th fi se d sh sl az oh ol w0 w1 w2, aI G (r 0) 256 ckS, aI G (r 1) 256 ckU, aI G (r 2) 176 (bN (rW kh kl)), aI G (r 3) 16 (bN (rMx (rAd (rW kh kl) (10 - i) F))), aI G (r 4) 16 (bN (rMx (rAd (rW kh kl) (10 - i) F)))] := hD
        refine W.cs (cells' := 0) (slots' := 0) rfl rfl ?_
        refine W.eq (g2 := F0 m 41 ls []) rfl ?_
        refine lv_aload_n hx hb dMo_decrypt_41 rfl (lv_at hl 0 rfl) ?_
        refine clMo_103 (As := []) (rest := []) hx hb hml hown hts (k_Mo_mix l G oy r th fi se d sh sl az oh ol w0 w1 w2 (rMx (rAd (rW kh kl) (10 - i) F)) (rMx (rAd (rW kh kl) (10 - i) F)) (rMx_lt (rAd_lt (rW_lt kh kl) hF))) hG hA hP hD hS 0 rfl [0, 4, 5] rfl rfl (fun _ => rfl) rfl hl.1 rfl (Nat.le_of_ble_eq_true rfl) ⟨by decide, by decide⟩ ⟨by decide, by decide⟩ dMo_decrypt_42 (fun _ H locs _ hP hD hS => ?_)
        have hP : va_P G.1 vwCl [moC oy r th fi se d sh sl az oh ol w0 w1 w2, aI G (r 0) 256 ckS, aI G (r 1) 256 ckU, aI G (r 2) 176 (bN (rW kh kl)), aI G (r 3) 16 (bN (rMx (rMx (rAd (rW kh kl) (10 - i) F)))), aI G (r 4) 16 (bN (rMx (rMx (rAd (rW kh kl) (10 - i) F))))] H := hP
        have hD : va_D A [moC oy r th fi se d sh sl az oh ol w0 w1 w2, aI G (r 0) 256 ckS, aI G (r 1) 256 ckU, aI G (r 2) 176 (bN (rW kh kl)), aI G (r 3) 16 (bN (rMx (rMx (rAd (rW kh kl) (10 - i) F)))), aI G (r 4) 16 (bN (rMx (rMx (rAd (rW kh kl) (10 - i) F))))] := hD
        refine W.cs (cells' := 0) (slots' := 0) rfl rfl ?_
        refine W.eq (g2 := F0 m 45 ls []) rfl ?_
        refine lv_aload_n hx hb dMo_decrypt_45 rfl (lv_at hl 0 rfl) ?_
        refine clMo_103 (As := []) (rest := []) hx hb hml hown hts (k_Mo_mix l G oy r th fi se d sh sl az oh ol w0 w1 w2 (rMx (rMx (rAd (rW kh kl) (10 - i) F))) (rMx (rMx (rAd (rW kh kl) (10 - i) F))) (rMx_lt (rMx_lt (rAd_lt (rW_lt kh kl) hF)))) hG hA hP hD hS 0 rfl [0, 4, 5] rfl rfl (fun _ => rfl) rfl hl.1 rfl (Nat.le_of_ble_eq_true rfl) ⟨by decide, by decide⟩ ⟨by decide, by decide⟩ dMo_decrypt_46 (fun _ H locs _ hP hD hS => ?_)
        have hP : va_P G.1 vwCl [moC oy r th fi se d sh sl az oh ol w0 w1 w2, aI G (r 0) 256 ckS, aI G (r 1) 256 ckU, aI G (r 2) 176 (bN (rW kh kl)), aI G (r 3) 16 (bN (rMx (rMx (rMx (rAd (rW kh kl) (10 - i) F))))), aI G (r 4) 16 (bN (rMx (rMx (rMx (rAd (rW kh kl) (10 - i) F)))))] H := hP
        have hD : va_D A [moC oy r th fi se d sh sl az oh ol w0 w1 w2, aI G (r 0) 256 ckS, aI G (r 1) 256 ckU, aI G (r 2) 176 (bN (rW kh kl)), aI G (r 3) 16 (bN (rMx (rMx (rMx (rAd (rW kh kl) (10 - i) F))))), aI G (r 4) 16 (bN (rMx (rMx (rMx (rAd (rW kh kl) (10 - i) F)))))] := hD
        refine W.cs (cells' := 0) (slots' := 0) rfl rfl ?_
        refine W.eq (g2 := F0 m 49 ls []) rfl ?_
        refine lv_aload_n hx hb dMo_decrypt_49 rfl (lv_at hl 0 rfl) ?_
        refine lv_iconst (v := nI 3) hx hb dMo_decrypt_50 (by decide) ?_
        refine clMo_100 (As := [.int (nI 3)]) (rest := []) hx hb hml hown hts (k_Mo_turn l G oy r th fi se d sh sl az oh ol w0 w1 w2 (rMx (rMx (rMx (rAd (rW kh kl) (10 - i) F)))) (rMx (rMx (rMx (rAd (rW kh kl) (10 - i) F)))) 3 (by decide)) hG hA hP hD hS 0 rfl [0, 4, 5] rfl rfl (fun _ => rfl) rfl hl.1 rfl (Nat.le_of_ble_eq_true rfl) ⟨by decide, by decide⟩ ⟨by decide, by decide⟩ dMo_decrypt_51 (fun _ H locs _ hP hD hS => ?_)
        have hP : va_P G.1 vwCl [moC oy r th fi se d sh sl az oh ol w0 w1 w2, aI G (r 0) 256 ckS, aI G (r 1) 256 ckU, aI G (r 2) 176 (bN (rW kh kl)), aI G (r 3) 16 (bN (rTu 3 (rMx (rMx (rMx (rAd (rW kh kl) (10 - i) F)))))), aI G (r 4) 16 (bN (rTu 3 (rMx (rMx (rMx (rAd (rW kh kl) (10 - i) F))))))] H := hP
        have hD : va_D A [moC oy r th fi se d sh sl az oh ol w0 w1 w2, aI G (r 0) 256 ckS, aI G (r 1) 256 ckU, aI G (r 2) 176 (bN (rW kh kl)), aI G (r 3) 16 (bN (rTu 3 (rMx (rMx (rMx (rAd (rW kh kl) (10 - i) F)))))), aI G (r 4) 16 (bN (rTu 3 (rMx (rMx (rMx (rAd (rW kh kl) (10 - i) F))))))] := hD
        refine W.cs (cells' := 0) (slots' := 0) rfl rfl ?_
        refine W.eq (g2 := F0 m 54 ls []) rfl ?_
        refine lv_iconst (v := nI 0) hx hb dMo_decrypt_54 (by decide) ?_
        refine lv_istore (lv' := [(10, .int (nI 0)), (0, .ref oy), (9, .int (nI (10 - i)))]) hx hb dMo_decrypt_55 hl (by decide) rfl (fun ls hl => ?_)
        rw [bN_0 (rUb (rTu 3 (rMx (rMx (rMx (rAd (rW kh kl) (10 - i) F)))))) (rTu 3 (rMx (rMx (rMx (rAd (rW kh kl) (10 - i) F)))))] at hP hD
        have loopk : ∀ (k : Nat) (n : Nat) (H : Heap) (locs : List Loc) (ls : Array Slot), n + k = 16 → va_P G.1 vwCl [moC oy r th fi se d sh sl az oh ol w0 w1 w2, aI G (r 0) 256 ckS, aI G (r 1) 256 ckU, aI G (r 2) 176 (bN (rW kh kl)), aI G (r 3) 16 (pN n (rUb (rTu 3 (rMx (rMx (rMx (rAd (rW kh kl) (10 - i) F)))))) (rTu 3 (rMx (rMx (rMx (rAd (rW kh kl) (10 - i) F)))))), aI G (r 4) 16 (bN (rTu 3 (rMx (rMx (rMx (rAd (rW kh kl) (10 - i) F))))))] H → va_D A [moC oy r th fi se d sh sl az oh ol w0 w1 w2, aI G (r 0) 256 ckS, aI G (r 1) 256 ckU, aI G (r 2) 176 (bN (rW kh kl)), aI G (r 3) 16 (pN n (rUb (rTu 3 (rMx (rMx (rMx (rAd (rW kh kl) (10 - i) F)))))) (rTu 3 (rMx (rMx (rMx (rAd (rW kh kl) (10 - i) F)))))), aI G (r 4) 16 (bN (rTu 3 (rMx (rMx (rMx (rAd (rW kh kl) (10 - i) F))))))] → va_S A s.heap H locs → lv_has ls 11 [(0, .ref oy), (9, .int (nI (10 - i))), (10, .int (nI n))] → W p l e { frames := 2, cells := 0, slots := 0, locals := 51 } s m args below meth c H locs 0 0 (MQ below (cq_out G (S := (Nat → Nat) × (Nat → Nat) × (Nat → Nat)) (fun _ => True) (fun u => none) (fun u => [moC oy r th (rG kh kl h1 l1) (rH kh kl h1 l1) d sh sl az oh ol w0 w1 w2, aI G (r 0) 256 ckS, aI G (r 1) 256 ckU, aI G (r 2) 176 (bN u.1), aI G (r 3) 16 (bN u.2.1), aI G (r 4) 16 (bN u.2.2)]) A) args s 0 0 A) (F0 m 57 ls []) := by
          intro k
          induction k with
          | zero =>
            intro n H locs ls hk hP hD hS hl
            have hP := ck_cg hP 4 rfl (g := bN (rUb (rTu 3 (rMx (rMx (rMx (rAd (rW kh kl) (10 - i) F))))))) (fun j hj => pN_lo _ _ (by omega))
            have hP : va_P G.1 vwCl [moC oy r th fi se d sh sl az oh ol w0 w1 w2, aI G (r 0) 256 ckS, aI G (r 1) 256 ckU, aI G (r 2) 176 (bN (rW kh kl)), aI G (r 3) 16 (bN (rUb (rTu 3 (rMx (rMx (rMx (rAd (rW kh kl) (10 - i) F))))))), aI G (r 4) 16 (bN (rTu 3 (rMx (rMx (rMx (rAd (rW kh kl) (10 - i) F))))))] H := hP
            have hD : va_D A [moC oy r th fi se d sh sl az oh ol w0 w1 w2, aI G (r 0) 256 ckS, aI G (r 1) 256 ckU, aI G (r 2) 176 (bN (rW kh kl)), aI G (r 3) 16 (bN (rUb (rTu 3 (rMx (rMx (rMx (rAd (rW kh kl) (10 - i) F))))))), aI G (r 4) 16 (bN (rTu 3 (rMx (rMx (rMx (rAd (rW kh kl) (10 - i) F))))))] := ck_Dsame (by rfl) hD
            refine lv_iload hx hb dMo_decrypt_57 (lv_at hl 2 rfl) ?_
            refine lv_bipush (v := nI 16) hx hb dMo_decrypt_59 (by decide) ?_
            refine lv_icmp_ge (tgt := 89) hx hb dMo_decrypt_61 rfl (fun _ => ?_) (fun h => absurd (nI_le (by omega) (by omega)) h)
            refine lv_iinc (v := nI (10 - (i + 1))) (lv' := [(9, .int (nI (10 - (i + 1)))), (0, .ref oy), (10, .int (nI n))]) hx hb dMo_decrypt_89 hl (k := 1) rfl (by rw [show 10 - i = (10 - (i + 1)) + 1 by omega]; exact pk_m1 _) (by decide) rfl (fun ls hl => ?_)
            refine lv_goto (tgt := 18) hx hb dMo_decrypt_92 rfl ?_
            have e9 : rDn (rW kh kl) (rBy h1 l1) (i + 1) = (rUb (rTu 3 (rMx (rMx (rMx (rAd (rW kh kl) (10 - i) F)))))) := by rw [rDn, if_pos hm, hq]
            exact ih9 (i + 1) _ _ _ _ _ (by omega) e9 (rUb_lt _) hP hD hS (lv_sub hl [1, 0] rfl)
          | succ k ih =>
            intro n H locs ls hk hP hD hS hl
            refine lv_iload hx hb dMo_decrypt_57 (lv_at hl 2 rfl) ?_
            refine lv_bipush (v := nI 16) hx hb dMo_decrypt_59 (by decide) ?_
            refine lv_icmp_ge (tgt := 89) hx hb dMo_decrypt_61 rfl (fun h => absurd h (nI_ge (by omega) (by omega))) (fun _ => ?_)
            refine lv_aload_n hx hb dMo_decrypt_64 rfl (lv_at hl 0 rfl) ?_
            refine gfMo_19 hx hb hts hown hG hP 0 rfl rfl dMo_decrypt_65 ?_
            refine lv_iload hx hb dMo_decrypt_68 (lv_at hl 2 rfl) ?_
            refine lv_aload_n hx hb dMo_decrypt_70 rfl (lv_at hl 0 rfl) ?_
            refine gfMo_13 hx hb hts hown hG hP 0 rfl rfl dMo_decrypt_71 ?_
            refine lv_aload_n hx hb dMo_decrypt_74 rfl (lv_at hl 0 rfl) ?_
            refine gfMo_19 hx hb hts hown hG hP 0 rfl rfl dMo_decrypt_75 ?_
            refine lv_iload hx hb dMo_decrypt_78 (lv_at hl 2 rfl) ?_
            refine ck_iald hx hb hG hP 4 rfl (by decide) n (rfl) (by omega) dMo_decrypt_80 ?_
            refine ck_ri (y := nI ((rTu 3 (rMx (rMx (rMx (rAd (rW kh kl) (10 - i) F))))) n)) (pN_at _ _ _) ?_
            refine ck_iald hx hb hG hP 2 rfl (by decide) ((rTu 3 (rMx (rMx (rMx (rAd (rW kh kl) (10 - i) F))))) n) (rfl) (rTu_lt (rMx_lt (rMx_lt (rMx_lt (rAd_lt (rW_lt kh kl) hF)))) n) dMo_decrypt_81 ?_
            refine ck_ri (y := nI (sV ((rTu 3 (rMx (rMx (rMx (rAd (rW kh kl) (10 - i) F))))) n))) (rfl) ?_
            refine ck_iast hx hb hG hP hD hS 4 rfl (by decide) n (rfl) (by omega) dMo_decrypt_82 (fun H locs hP hD hS => ?_)
            have hP : va_P G.1 vwCl [moC oy r th fi se d sh sl az oh ol w0 w1 w2, aI G (r 0) 256 ckS, aI G (r 1) 256 ckU, aI G (r 2) 176 (bN (rW kh kl)), aI G (r 3) 16 (upd (pN n (rUb (rTu 3 (rMx (rMx (rMx (rAd (rW kh kl) (10 - i) F)))))) (rTu 3 (rMx (rMx (rMx (rAd (rW kh kl) (10 - i) F)))))) n (nI (sV ((rTu 3 (rMx (rMx (rMx (rAd (rW kh kl) (10 - i) F))))) n)))), aI G (r 4) 16 (bN (rTu 3 (rMx (rMx (rMx (rAd (rW kh kl) (10 - i) F))))))] H := hP
            have hD : va_D A [moC oy r th fi se d sh sl az oh ol w0 w1 w2, aI G (r 0) 256 ckS, aI G (r 1) 256 ckU, aI G (r 2) 176 (bN (rW kh kl)), aI G (r 3) 16 (upd (pN n (rUb (rTu 3 (rMx (rMx (rMx (rAd (rW kh kl) (10 - i) F)))))) (rTu 3 (rMx (rMx (rMx (rAd (rW kh kl) (10 - i) F)))))) n (nI (sV ((rTu 3 (rMx (rMx (rMx (rAd (rW kh kl) (10 - i) F))))) n)))), aI G (r 4) 16 (bN (rTu 3 (rMx (rMx (rMx (rAd (rW kh kl) (10 - i) F))))))] := hD
            refine lv_iinc (v := nI (n + 1)) (lv' := [(10, .int (nI (n + 1))), (0, .ref oy), (9, .int (nI (10 - i)))]) hx hb dMo_decrypt_83 hl (k := 2) rfl (nI_1 n) (by decide) rfl (fun ls hl => ?_)
            refine lv_goto (tgt := 57) hx hb dMo_decrypt_86 rfl ?_
            have e1 : upd (pN n (rUb (rTu 3 (rMx (rMx (rMx (rAd (rW kh kl) (10 - i) F)))))) (rTu 3 (rMx (rMx (rMx (rAd (rW kh kl) (10 - i) F)))))) n (nI (sV ((rTu 3 (rMx (rMx (rMx (rAd (rW kh kl) (10 - i) F))))) n))) = pN (n + 1) (rUb (rTu 3 (rMx (rMx (rMx (rAd (rW kh kl) (10 - i) F)))))) (rTu 3 (rMx (rMx (rMx (rAd (rW kh kl) (10 - i) F))))) := pN_upd n (rUb (rTu 3 (rMx (rMx (rMx (rAd (rW kh kl) (10 - i) F)))))) (rTu 3 (rMx (rMx (rMx (rAd (rW kh kl) (10 - i) F)))))
            rw [e1] at hP hD
            exact ih (n + 1) _ _ _ (by omega) hP hD hS (lv_sub hl [1, 2, 0] rfl)
        exact loopk 16 0 _ _ _ (by omega) hP hD hS (lv_sub hl [1, 2, 0] rfl)
  exact loopr 10 0 _ _ _ _ _ (by omega) rfl (rBy_lt h1 l1) hP hD hS (lv_sub hl [1, 0] rfl)
set_option maxHeartbeats 4000000 in
set_option maxRecDepth 100000 in
theorem k_Mo_wrap (l : Launch) (G : gG) (oy : Nat) (r : Nat → Nat) (th : Int32) (fi se : Int64) (d : Int32) (sh sl : Int64) (az : Int32) (oh ol w0 w1 w2 : Int64) (f g m0 : Nat → Nat) (kh kl h1 l1 : Int64) : Cq l G yMo_wrap cMo_wrap 10 none { frames := 3, cells := 0, slots := 0, locals := 81 } [.ref oy, .long kh, .long kl, .long h1, .long l1] [moC oy r th fi se d sh sl az oh ol w0 w1 w2, aI G (r 0) 256 ckS, aI G (r 2) 176 (bN f), aI G (r 3) 16 (bN g), aI G (r 4) 16 (bN m0)] (S := (Nat → Nat) × (Nat → Nat) × (Nat → Nat) × Int64 × Int64) (fun _ => True) (fun u => none) (fun u => [moC oy r th u.2.2.2.1 u.2.2.2.2 d sh sl az oh ol ((rWr kh kl (jSeal, h1, l1) 12).1) ((rWr kh kl (jSeal, h1, l1) 12).2.1) ((rWr kh kl (jSeal, h1, l1) 12).2.2), aI G (r 0) 256 ckS, aI G (r 2) 176 (bN u.1), aI G (r 3) 16 (bN u.2.1), aI G (r 4) 16 (bN u.2.2.1)]) := by
  refine Cq.of (by decide) (Nat.le_of_ble_eq_true rfl) ?_
  intro p e s m args below meth c A ls hx hb hr hml hts hown hlk hA hP hD hG hS hl
  have hl : lv_has ls 10 [(0, .ref oy), (1, .long kh), (3, .long kl), (5, .long h1), (7, .long l1)] := hl
  refine lv_aload_n hx hb dMo_wrap_0 rfl (lv_at hl 0 rfl) ?_
  refine lv_ldc2 (v := lN 12008468691120727718) hx hb hown (hts _ kkMo_109) dMo_wrap_1 ?_
  refine pfMo_111 hx hb hts hown hG hP hD hS 0 rfl rfl rfl (Nat.le_of_ble_eq_true rfl) dMo_wrap_4 (fun H locs hP hD hS => ?_)
  have hP : va_P G.1 vwCl [moC oy r th fi se d sh sl az oh ol (lN 12008468691120727718) w1 w2, aI G (r 0) 256 ckS, aI G (r 2) 176 (bN f), aI G (r 3) 16 (bN g), aI G (r 4) 16 (bN m0)] H := hP
  have hD : va_D A [moC oy r th fi se d sh sl az oh ol (lN 12008468691120727718) w1 w2, aI G (r 0) 256 ckS, aI G (r 2) 176 (bN f), aI G (r 3) 16 (bN g), aI G (r 4) 16 (bN m0)] := hD
  refine lv_aload_n hx hb dMo_wrap_7 rfl (lv_at hl 0 rfl) ?_
  refine lv_lload hx hb dMo_wrap_8 (lv_at hl 3 rfl) ?_
  refine pfMo_114 hx hb hts hown hG hP hD hS 0 rfl rfl rfl (Nat.le_of_ble_eq_true rfl) dMo_wrap_10 (fun H locs hP hD hS => ?_)
  have hP : va_P G.1 vwCl [moC oy r th fi se d sh sl az oh ol (lN 12008468691120727718) h1 w2, aI G (r 0) 256 ckS, aI G (r 2) 176 (bN f), aI G (r 3) 16 (bN g), aI G (r 4) 16 (bN m0)] H := hP
  have hD : va_D A [moC oy r th fi se d sh sl az oh ol (lN 12008468691120727718) h1 w2, aI G (r 0) 256 ckS, aI G (r 2) 176 (bN f), aI G (r 3) 16 (bN g), aI G (r 4) 16 (bN m0)] := hD
  refine lv_aload_n hx hb dMo_wrap_13 rfl (lv_at hl 0 rfl) ?_
  refine lv_lload hx hb dMo_wrap_14 (lv_at hl 4 rfl) ?_
  refine pfMo_117 hx hb hts hown hG hP hD hS 0 rfl rfl rfl (Nat.le_of_ble_eq_true rfl) dMo_wrap_16 (fun H locs hP hD hS => ?_)
  have hP : va_P G.1 vwCl [moC oy r th fi se d sh sl az oh ol (lN 12008468691120727718) h1 l1, aI G (r 0) 256 ckS, aI G (r 2) 176 (bN f), aI G (r 3) 16 (bN g), aI G (r 4) 16 (bN m0)] H := hP
  have hD : va_D A [moC oy r th fi se d sh sl az oh ol (lN 12008468691120727718) h1 l1, aI G (r 0) 256 ckS, aI G (r 2) 176 (bN f), aI G (r 3) 16 (bN g), aI G (r 4) 16 (bN m0)] := hD
  refine lv_iconst (v := nI 1) hx hb dMo_wrap_19 (by decide) ?_
  refine lv_istore (lv' := [(9, .int (nI 1)), (0, .ref oy), (1, .long kh), (3, .long kl), (5, .long h1), (7, .long l1)]) hx hb dMo_wrap_20 hl (by decide) rfl (fun ls hl => ?_)
  have loop : ∀ (k : Nat) (i : Nat) (a1 : Int64) (b1 : Int64) (c2 : Int64) (h2 : Int64) (l2 : Int64) (x1 : Nat → Nat) (x2 : Nat → Nat) (x3 : Nat → Nat) (H : Heap) (locs : List Loc) (ls : Array Slot), i + k = 12 → rWr kh kl (jSeal, h1, l1) i = (c2, h2, l2) → va_P G.1 vwCl [moC oy r th a1 b1 d sh sl az oh ol c2 h2 l2, aI G (r 0) 256 ckS, aI G (r 2) 176 (bN x1), aI G (r 3) 16 (bN x2), aI G (r 4) 16 (bN x3)] H → va_D A [moC oy r th a1 b1 d sh sl az oh ol c2 h2 l2, aI G (r 0) 256 ckS, aI G (r 2) 176 (bN x1), aI G (r 3) 16 (bN x2), aI G (r 4) 16 (bN x3)] → va_S A s.heap H locs → lv_has ls 10 [(0, .ref oy), (1, .long kh), (3, .long kl), (9, .int (nI (i + 1)))] → W p l e { frames := 3, cells := 0, slots := 0, locals := 81 } s m args below meth c H locs 0 0 (MQ below (cq_out G (S := (Nat → Nat) × (Nat → Nat) × (Nat → Nat) × Int64 × Int64) (fun _ => True) (fun u => none) (fun u => [moC oy r th u.2.2.2.1 u.2.2.2.2 d sh sl az oh ol ((rWr kh kl (jSeal, h1, l1) 12).1) ((rWr kh kl (jSeal, h1, l1) 12).2.1) ((rWr kh kl (jSeal, h1, l1) 12).2.2), aI G (r 0) 256 ckS, aI G (r 2) 176 (bN u.1), aI G (r 3) 16 (bN u.2.1), aI G (r 4) 16 (bN u.2.2.1)]) A) args s 0 0 A) (F0 m 22 ls []) := by
    intro k
    induction k with
    | zero =>
      intro i a1 b1 c2 h2 l2 x1 x2 x3 H locs ls hk hq hP hD hS hl
      obtain rfl : i = 12 := by omega
      refine lv_iload hx hb dMo_wrap_22 (lv_at hl 3 rfl) ?_
      refine lv_bipush (v := nI 12) hx hb dMo_wrap_24 (by decide) ?_
      refine lv_icmp_gt (tgt := 122) hx hb dMo_wrap_26 rfl (fun _ => ?_) (fun h => absurd (nI_lt (by omega) (by omega)) h)
      exact cq_vret (x1, x2, x3, a1, b1) (trivial) hx hb hr hlk hP hS rfl (by rw [hq]) dMo_wrap_122
    | succ k ih =>
      intro i a1 b1 c2 h2 l2 x1 x2 x3 H locs ls hk hq hP hD hS hl
      refine lv_iload hx hb dMo_wrap_22 (lv_at hl 3 rfl) ?_
      refine lv_bipush (v := nI 12) hx hb dMo_wrap_24 (by decide) ?_
      refine lv_icmp_gt (tgt := 122) hx hb dMo_wrap_26 rfl (fun h => absurd h (nI_nlt (by omega) (by omega))) (fun _ => ?_)
      refine lv_aload_n hx hb dMo_wrap_29 rfl (lv_at hl 0 rfl) ?_
      refine lv_lload_n hx hb dMo_wrap_30 rfl (lv_at hl 1 rfl) ?_
      refine lv_lload_n hx hb dMo_wrap_31 rfl (lv_at hl 2 rfl) ?_
      refine lv_aload_n hx hb dMo_wrap_32 rfl (lv_at hl 0 rfl) ?_
      refine gfMo_111 hx hb hts hown hG hP 0 rfl rfl dMo_wrap_33 ?_
      refine lv_iload hx hb dMo_wrap_36 (lv_at hl 3 rfl) ?_
      refine lv_iconst (v := nI 2) hx hb dMo_wrap_38 (by decide) ?_
      refine lv_irem hx hb dMo_wrap_39 (by decide) ?_
      refine ck_ri (y := nI ((i + 1) % 2)) (irm_nI (by omega) (by decide) (by decide)) ?_
      refine lv_iconst (v := nI 1) hx hb dMo_wrap_40 (by decide) ?_
      refine lv_icmp_ne (tgt := 51) hx hb dMo_wrap_41 rfl (fun h8 => ?_) (fun h8 => ?_)
      · have hm0 : ¬ (i + 1) % 2 = 1 := fun z => h8 (by rw [z])
        refine lv_aload_n hx hb dMo_wrap_51 rfl (lv_at hl 0 rfl) ?_
        refine gfMo_117 hx hb hts hown hG hP 0 rfl rfl dMo_wrap_52 ?_
        refine clMo_120 (As := [.long kh, .long kl, .long c2, .long l2]) (rest := []) hx hb hml hown hts (k_Mo_encrypt l G oy r th a1 b1 d sh sl az oh ol c2 h2 l2 x1 x2 x3 kh kl c2 l2) hG hA hP hD hS 0 rfl [0, 1, 2, 3, 4] rfl rfl (fun _ => rfl) rfl hl.1 rfl (Nat.le_of_ble_eq_true rfl) ⟨by decide, by decide⟩ ⟨by decide, by decide⟩ dMo_wrap_55 (fun u9 H locs _ hP hD hS => ?_)
        have hP : va_P G.1 vwCl [moC oy r th (rF kh kl c2 l2) (rS kh kl c2 l2) d sh sl az oh ol c2 h2 l2, aI G (r 0) 256 ckS, aI G (r 2) 176 (bN u9.1), aI G (r 3) 16 (bN u9.2.1), aI G (r 4) 16 (bN u9.2.2)] H := hP
        have hD : va_D A [moC oy r th (rF kh kl c2 l2) (rS kh kl c2 l2) d sh sl az oh ol c2 h2 l2, aI G (r 0) 256 ckS, aI G (r 2) 176 (bN u9.1), aI G (r 3) 16 (bN u9.2.1), aI G (r 4) 16 (bN u9.2.2)] := hD
        refine W.cs (cells' := 0) (slots' := 0) rfl rfl ?_
        refine W.eq (g2 := F0 m 58 ls []) rfl ?_
        refine lv_aload_n hx hb dMo_wrap_58 rfl (lv_at hl 0 rfl) ?_
        refine lv_aload_n hx hb dMo_wrap_59 rfl (lv_at hl 0 rfl) ?_
        refine gfMo_82 hx hb hts hown hG hP 0 rfl rfl dMo_wrap_60 ?_
        refine lv_iload hx hb dMo_wrap_63 (lv_at hl 3 rfl) ?_
        refine lv_i2l (v := (nI (i + 1)).toInt64) hx hb dMo_wrap_65 rfl ?_
        refine lv_lxor hx hb dMo_wrap_66 ?_
        refine pfMo_111 hx hb hts hown hG hP hD hS 0 rfl rfl rfl (Nat.le_of_ble_eq_true rfl) dMo_wrap_67 (fun H locs hP hD hS => ?_)
        have hP : va_P G.1 vwCl [moC oy r th (rF kh kl c2 l2) (rS kh kl c2 l2) d sh sl az oh ol ((rF kh kl c2 l2) ^^^ ((nI (i + 1)).toInt64)) h2 l2, aI G (r 0) 256 ckS, aI G (r 2) 176 (bN u9.1), aI G (r 3) 16 (bN u9.2.1), aI G (r 4) 16 (bN u9.2.2)] H := hP
        have hD : va_D A [moC oy r th (rF kh kl c2 l2) (rS kh kl c2 l2) d sh sl az oh ol ((rF kh kl c2 l2) ^^^ ((nI (i + 1)).toInt64)) h2 l2, aI G (r 0) 256 ckS, aI G (r 2) 176 (bN u9.1), aI G (r 3) 16 (bN u9.2.1), aI G (r 4) 16 (bN u9.2.2)] := hD
        refine lv_aload_n hx hb dMo_wrap_70 rfl (lv_at hl 0 rfl) ?_
        refine lv_iload hx hb dMo_wrap_71 (lv_at hl 3 rfl) ?_
        refine lv_iconst (v := nI 2) hx hb dMo_wrap_73 (by decide) ?_
        refine lv_irem hx hb dMo_wrap_74 (by decide) ?_
        refine ck_ri (y := nI ((i + 1) % 2)) (irm_nI (by omega) (by decide) (by decide)) ?_
        refine lv_iconst (v := nI 1) hx hb dMo_wrap_75 (by decide) ?_
        refine lv_icmp_ne (tgt := 86) hx hb dMo_wrap_76 rfl (fun _ => ?_) (fun h => absurd h (fun z => hm0 ((nI_eq (by omega) (by omega)).mp z)))
        refine lv_aload_n hx hb dMo_wrap_86 rfl (lv_at hl 0 rfl) ?_
        refine gfMo_114 hx hb hts hown hG hP 0 rfl rfl dMo_wrap_87 ?_
        refine pfMo_114 hx hb hts hown hG hP hD hS 0 rfl rfl rfl (Nat.le_of_ble_eq_true rfl) dMo_wrap_90 (fun H locs hP hD hS => ?_)
        have hP : va_P G.1 vwCl [moC oy r th (rF kh kl c2 l2) (rS kh kl c2 l2) d sh sl az oh ol ((rF kh kl c2 l2) ^^^ ((nI (i + 1)).toInt64)) h2 l2, aI G (r 0) 256 ckS, aI G (r 2) 176 (bN u9.1), aI G (r 3) 16 (bN u9.2.1), aI G (r 4) 16 (bN u9.2.2)] H := hP
        have hD : va_D A [moC oy r th (rF kh kl c2 l2) (rS kh kl c2 l2) d sh sl az oh ol ((rF kh kl c2 l2) ^^^ ((nI (i + 1)).toInt64)) h2 l2, aI G (r 0) 256 ckS, aI G (r 2) 176 (bN u9.1), aI G (r 3) 16 (bN u9.2.1), aI G (r 4) 16 (bN u9.2.2)] := hD
        refine lv_aload_n hx hb dMo_wrap_93 rfl (lv_at hl 0 rfl) ?_
        refine lv_iload hx hb dMo_wrap_94 (lv_at hl 3 rfl) ?_
        refine lv_iconst (v := nI 2) hx hb dMo_wrap_96 (by decide) ?_
        refine lv_irem hx hb dMo_wrap_97 (by decide) ?_
        refine ck_ri (y := nI ((i + 1) % 2)) (irm_nI (by omega) (by decide) (by decide)) ?_
        refine lv_iconst (v := nI 1) hx hb dMo_wrap_98 (by decide) ?_
        refine lv_icmp_ne (tgt := 109) hx hb dMo_wrap_99 rfl (fun _ => ?_) (fun h => absurd h (fun z => hm0 ((nI_eq (by omega) (by omega)).mp z)))
        refine lv_aload_n hx hb dMo_wrap_109 rfl (lv_at hl 0 rfl) ?_
        refine gfMo_86 hx hb hts hown hG hP 0 rfl rfl dMo_wrap_110 ?_
        refine pfMo_117 hx hb hts hown hG hP hD hS 0 rfl rfl rfl (Nat.le_of_ble_eq_true rfl) dMo_wrap_113 (fun H locs hP hD hS => ?_)
        have hP : va_P G.1 vwCl [moC oy r th (rF kh kl c2 l2) (rS kh kl c2 l2) d sh sl az oh ol ((rF kh kl c2 l2) ^^^ ((nI (i + 1)).toInt64)) h2 (rS kh kl c2 l2), aI G (r 0) 256 ckS, aI G (r 2) 176 (bN u9.1), aI G (r 3) 16 (bN u9.2.1), aI G (r 4) 16 (bN u9.2.2)] H := hP
        have hD : va_D A [moC oy r th (rF kh kl c2 l2) (rS kh kl c2 l2) d sh sl az oh ol ((rF kh kl c2 l2) ^^^ ((nI (i + 1)).toInt64)) h2 (rS kh kl c2 l2), aI G (r 0) 256 ckS, aI G (r 2) 176 (bN u9.1), aI G (r 3) 16 (bN u9.2.1), aI G (r 4) 16 (bN u9.2.2)] := hD
        refine lv_iinc (v := nI (i + 1 + 1)) (lv' := [(9, .int (nI (i + 1 + 1))), (0, .ref oy), (1, .long kh), (3, .long kl)]) hx hb dMo_wrap_116 hl (k := 3) rfl (nI_1 (i + 1)) (by decide) rfl (fun ls hl => ?_)
        refine lv_goto (tgt := 22) hx hb dMo_wrap_119 rfl ?_
        have e9 : rWr kh kl (jSeal, h1, l1) (i + 1) = ((rF kh kl c2 l2) ^^^ ((nI (i + 1)).toInt64), h2, rS kh kl c2 l2) := by
          rw [rWr, hq]
          show rWs kh kl (i + 1) c2 h2 l2 = _
          unfold rWs
          simp only [jSel, if_neg hm0]
        exact ih (i + 1) _ _ _ _ _ _ _ _ _ _ _ (by omega) e9 hP hD hS (lv_sub hl [1, 2, 3, 0] rfl)
      · have hm1 : (i + 1) % 2 = 1 := (nI_eq (by omega) (by omega)).mp h8
        refine lv_aload_n hx hb dMo_wrap_44 rfl (lv_at hl 0 rfl) ?_
        refine gfMo_114 hx hb hts hown hG hP 0 rfl rfl dMo_wrap_45 ?_
        refine lv_goto (tgt := 55) hx hb dMo_wrap_48 rfl ?_
        refine clMo_120 (As := [.long kh, .long kl, .long c2, .long h2]) (rest := []) hx hb hml hown hts (k_Mo_encrypt l G oy r th a1 b1 d sh sl az oh ol c2 h2 l2 x1 x2 x3 kh kl c2 h2) hG hA hP hD hS 0 rfl [0, 1, 2, 3, 4] rfl rfl (fun _ => rfl) rfl hl.1 rfl (Nat.le_of_ble_eq_true rfl) ⟨by decide, by decide⟩ ⟨by decide, by decide⟩ dMo_wrap_55 (fun u9 H locs _ hP hD hS => ?_)
        have hP : va_P G.1 vwCl [moC oy r th (rF kh kl c2 h2) (rS kh kl c2 h2) d sh sl az oh ol c2 h2 l2, aI G (r 0) 256 ckS, aI G (r 2) 176 (bN u9.1), aI G (r 3) 16 (bN u9.2.1), aI G (r 4) 16 (bN u9.2.2)] H := hP
        have hD : va_D A [moC oy r th (rF kh kl c2 h2) (rS kh kl c2 h2) d sh sl az oh ol c2 h2 l2, aI G (r 0) 256 ckS, aI G (r 2) 176 (bN u9.1), aI G (r 3) 16 (bN u9.2.1), aI G (r 4) 16 (bN u9.2.2)] := hD
        refine W.cs (cells' := 0) (slots' := 0) rfl rfl ?_
        refine W.eq (g2 := F0 m 58 ls []) rfl ?_
        refine lv_aload_n hx hb dMo_wrap_58 rfl (lv_at hl 0 rfl) ?_
        refine lv_aload_n hx hb dMo_wrap_59 rfl (lv_at hl 0 rfl) ?_
        refine gfMo_82 hx hb hts hown hG hP 0 rfl rfl dMo_wrap_60 ?_
        refine lv_iload hx hb dMo_wrap_63 (lv_at hl 3 rfl) ?_
        refine lv_i2l (v := (nI (i + 1)).toInt64) hx hb dMo_wrap_65 rfl ?_
        refine lv_lxor hx hb dMo_wrap_66 ?_
        refine pfMo_111 hx hb hts hown hG hP hD hS 0 rfl rfl rfl (Nat.le_of_ble_eq_true rfl) dMo_wrap_67 (fun H locs hP hD hS => ?_)
        have hP : va_P G.1 vwCl [moC oy r th (rF kh kl c2 h2) (rS kh kl c2 h2) d sh sl az oh ol ((rF kh kl c2 h2) ^^^ ((nI (i + 1)).toInt64)) h2 l2, aI G (r 0) 256 ckS, aI G (r 2) 176 (bN u9.1), aI G (r 3) 16 (bN u9.2.1), aI G (r 4) 16 (bN u9.2.2)] H := hP
        have hD : va_D A [moC oy r th (rF kh kl c2 h2) (rS kh kl c2 h2) d sh sl az oh ol ((rF kh kl c2 h2) ^^^ ((nI (i + 1)).toInt64)) h2 l2, aI G (r 0) 256 ckS, aI G (r 2) 176 (bN u9.1), aI G (r 3) 16 (bN u9.2.1), aI G (r 4) 16 (bN u9.2.2)] := hD
        refine lv_aload_n hx hb dMo_wrap_70 rfl (lv_at hl 0 rfl) ?_
        refine lv_iload hx hb dMo_wrap_71 (lv_at hl 3 rfl) ?_
        refine lv_iconst (v := nI 2) hx hb dMo_wrap_73 (by decide) ?_
        refine lv_irem hx hb dMo_wrap_74 (by decide) ?_
        refine ck_ri (y := nI ((i + 1) % 2)) (irm_nI (by omega) (by decide) (by decide)) ?_
        refine lv_iconst (v := nI 1) hx hb dMo_wrap_75 (by decide) ?_
        refine lv_icmp_ne (tgt := 86) hx hb dMo_wrap_76 rfl (fun h => absurd (by rw [hm1]) h) (fun _ => ?_)
        refine lv_aload_n hx hb dMo_wrap_79 rfl (lv_at hl 0 rfl) ?_
        refine gfMo_86 hx hb hts hown hG hP 0 rfl rfl dMo_wrap_80 ?_
        refine lv_goto (tgt := 90) hx hb dMo_wrap_83 rfl ?_
        refine pfMo_114 hx hb hts hown hG hP hD hS 0 rfl rfl rfl (Nat.le_of_ble_eq_true rfl) dMo_wrap_90 (fun H locs hP hD hS => ?_)
        have hP : va_P G.1 vwCl [moC oy r th (rF kh kl c2 h2) (rS kh kl c2 h2) d sh sl az oh ol ((rF kh kl c2 h2) ^^^ ((nI (i + 1)).toInt64)) (rS kh kl c2 h2) l2, aI G (r 0) 256 ckS, aI G (r 2) 176 (bN u9.1), aI G (r 3) 16 (bN u9.2.1), aI G (r 4) 16 (bN u9.2.2)] H := hP
        have hD : va_D A [moC oy r th (rF kh kl c2 h2) (rS kh kl c2 h2) d sh sl az oh ol ((rF kh kl c2 h2) ^^^ ((nI (i + 1)).toInt64)) (rS kh kl c2 h2) l2, aI G (r 0) 256 ckS, aI G (r 2) 176 (bN u9.1), aI G (r 3) 16 (bN u9.2.1), aI G (r 4) 16 (bN u9.2.2)] := hD
        refine lv_aload_n hx hb dMo_wrap_93 rfl (lv_at hl 0 rfl) ?_
        refine lv_iload hx hb dMo_wrap_94 (lv_at hl 3 rfl) ?_
        refine lv_iconst (v := nI 2) hx hb dMo_wrap_96 (by decide) ?_
        refine lv_irem hx hb dMo_wrap_97 (by decide) ?_
        refine ck_ri (y := nI ((i + 1) % 2)) (irm_nI (by omega) (by decide) (by decide)) ?_
        refine lv_iconst (v := nI 1) hx hb dMo_wrap_98 (by decide) ?_
        refine lv_icmp_ne (tgt := 109) hx hb dMo_wrap_99 rfl (fun h => absurd (by rw [hm1]) h) (fun _ => ?_)
        refine lv_aload_n hx hb dMo_wrap_102 rfl (lv_at hl 0 rfl) ?_
        refine gfMo_117 hx hb hts hown hG hP 0 rfl rfl dMo_wrap_103 ?_
        refine lv_goto (tgt := 113) hx hb dMo_wrap_106 rfl ?_
        refine pfMo_117 hx hb hts hown hG hP hD hS 0 rfl rfl rfl (Nat.le_of_ble_eq_true rfl) dMo_wrap_113 (fun H locs hP hD hS => ?_)
        have hP : va_P G.1 vwCl [moC oy r th (rF kh kl c2 h2) (rS kh kl c2 h2) d sh sl az oh ol ((rF kh kl c2 h2) ^^^ ((nI (i + 1)).toInt64)) (rS kh kl c2 h2) l2, aI G (r 0) 256 ckS, aI G (r 2) 176 (bN u9.1), aI G (r 3) 16 (bN u9.2.1), aI G (r 4) 16 (bN u9.2.2)] H := hP
        have hD : va_D A [moC oy r th (rF kh kl c2 h2) (rS kh kl c2 h2) d sh sl az oh ol ((rF kh kl c2 h2) ^^^ ((nI (i + 1)).toInt64)) (rS kh kl c2 h2) l2, aI G (r 0) 256 ckS, aI G (r 2) 176 (bN u9.1), aI G (r 3) 16 (bN u9.2.1), aI G (r 4) 16 (bN u9.2.2)] := hD
        refine lv_iinc (v := nI (i + 1 + 1)) (lv' := [(9, .int (nI (i + 1 + 1))), (0, .ref oy), (1, .long kh), (3, .long kl)]) hx hb dMo_wrap_116 hl (k := 3) rfl (nI_1 (i + 1)) (by decide) rfl (fun ls hl => ?_)
        refine lv_goto (tgt := 22) hx hb dMo_wrap_119 rfl ?_
        have e9 : rWr kh kl (jSeal, h1, l1) (i + 1) = ((rF kh kl c2 h2) ^^^ ((nI (i + 1)).toInt64), rS kh kl c2 h2, l2) := by
          rw [rWr, hq]
          show rWs kh kl (i + 1) c2 h2 l2 = _
          unfold rWs
          simp only [jSel, if_pos hm1]
        exact ih (i + 1) _ _ _ _ _ _ _ _ _ _ _ (by omega) e9 hP hD hS (lv_sub hl [1, 2, 3, 0] rfl)
  exact loop 12 0 _ _ _ _ _ _ _ _ _ _ _ (by omega) rfl hP hD hS (lv_sub hl [1, 2, 3, 0] rfl)
set_option maxHeartbeats 4000000 in
set_option maxRecDepth 100000 in
theorem k_Mo_unwrap (l : Launch) (G : gG) (oy : Nat) (r : Nat → Nat) (th : Int32) (fi se : Int64) (d : Int32) (sh sl : Int64) (az : Int32) (oh ol w0 w1 w2 : Int64) (f g m0 : Nat → Nat) (kh kl : Int64) : Cq l G yMo_unwrap cMo_unwrap 6 (some .boolean) { frames := 3, cells := 0, slots := 0, locals := 81 } [.ref oy, .long kh, .long kl] [moC oy r th fi se d sh sl az oh ol w0 w1 w2, aI G (r 0) 256 ckS, aI G (r 1) 256 ckU, aI G (r 2) 176 (bN f), aI G (r 3) 16 (bN g), aI G (r 4) 16 (bN m0)] (S := (Nat → Nat) × (Nat → Nat) × (Nat → Nat) × Int64 × Int64) (fun _ => True) (fun u => some (.int (jB (decide ((rUw kh kl (w0, w1, w2) 12).1 = jSeal))))) (fun u => [moC oy r th u.2.2.2.1 u.2.2.2.2 d sh sl az oh ol ((rUw kh kl (w0, w1, w2) 12).1) ((rUw kh kl (w0, w1, w2) 12).2.1) ((rUw kh kl (w0, w1, w2) 12).2.2), aI G (r 0) 256 ckS, aI G (r 1) 256 ckU, aI G (r 2) 176 (bN u.1), aI G (r 3) 16 (bN u.2.1), aI G (r 4) 16 (bN u.2.2.1)]) := by
  refine Cq.of (by decide) (Nat.le_of_ble_eq_true rfl) ?_
  intro p e s m args below meth c A ls hx hb hr hml hts hown hlk hA hP hD hG hS hl
  have hl : lv_has ls 6 [(0, .ref oy), (1, .long kh), (3, .long kl)] := hl
  refine lv_bipush (v := nI 12) hx hb dMo_unwrap_0 (by decide) ?_
  refine lv_istore (lv' := [(5, .int (nI 12)), (0, .ref oy), (1, .long kh), (3, .long kl)]) hx hb dMo_unwrap_2 hl (by decide) rfl (fun ls hl => ?_)
  have loop : ∀ (k : Nat) (i : Nat) (a1 : Int64) (b1 : Int64) (c2 : Int64) (h2 : Int64) (l2 : Int64) (x1 : Nat → Nat) (x2 : Nat → Nat) (x3 : Nat → Nat) (H : Heap) (locs : List Loc) (ls : Array Slot), i + k = 12 → rUw kh kl (w0, w1, w2) i = (c2, h2, l2) → va_P G.1 vwCl [moC oy r th a1 b1 d sh sl az oh ol c2 h2 l2, aI G (r 0) 256 ckS, aI G (r 1) 256 ckU, aI G (r 2) 176 (bN x1), aI G (r 3) 16 (bN x2), aI G (r 4) 16 (bN x3)] H → va_D A [moC oy r th a1 b1 d sh sl az oh ol c2 h2 l2, aI G (r 0) 256 ckS, aI G (r 1) 256 ckU, aI G (r 2) 176 (bN x1), aI G (r 3) 16 (bN x2), aI G (r 4) 16 (bN x3)] → va_S A s.heap H locs → lv_has ls 6 [(0, .ref oy), (1, .long kh), (3, .long kl), (5, .int (nI (12 - i)))] → W p l e { frames := 3, cells := 0, slots := 0, locals := 81 } s m args below meth c H locs 0 0 (MQ below (cq_out G (S := (Nat → Nat) × (Nat → Nat) × (Nat → Nat) × Int64 × Int64) (fun _ => True) (fun u => some (.int (jB (decide ((rUw kh kl (w0, w1, w2) 12).1 = jSeal))))) (fun u => [moC oy r th u.2.2.2.1 u.2.2.2.2 d sh sl az oh ol ((rUw kh kl (w0, w1, w2) 12).1) ((rUw kh kl (w0, w1, w2) 12).2.1) ((rUw kh kl (w0, w1, w2) 12).2.2), aI G (r 0) 256 ckS, aI G (r 1) 256 ckU, aI G (r 2) 176 (bN u.1), aI G (r 3) 16 (bN u.2.1), aI G (r 4) 16 (bN u.2.2.1)]) A) args s 0 0 A) (F0 m 4 ls []) := by
    intro k
    induction k with
    | zero =>
      intro i a1 b1 c2 h2 l2 x1 x2 x3 H locs ls hk hq hP hD hS hl
      obtain rfl : i = 12 := by omega
      refine lv_iload hx hb dMo_unwrap_4 (lv_at hl 3 rfl) ?_
      refine lv_iconst (v := nI 1) hx hb dMo_unwrap_6 (by decide) ?_
      refine lv_icmp_lt (tgt := 103) hx hb dMo_unwrap_7 rfl (fun _ => ?_) (fun h => absurd (nI_lt (a := 12 - 12) (b := 1) (by omega) (by omega)) h)
      refine lv_aload_n hx hb dMo_unwrap_103 rfl (lv_at hl 0 rfl) ?_
      refine gfMo_111 hx hb hts hown hG hP 0 rfl rfl dMo_unwrap_104 ?_
      refine lv_ldc2 (v := lN 12008468691120727718) hx hb hown (hts _ kkMo_109) dMo_unwrap_107 ?_
      refine W.lcmp hx hb dMo_unwrap_110 ?_
      refine lv_if_ne (tgt := 118) hx hb dMo_unwrap_111 rfl (fun h9 => ?_) (fun h9 => ?_)
      · have hm : ¬ c2 = jSeal := fun z => h9 ((lg_cmp_0 _ _).mpr z)
        refine lv_iconst (v := nI 0) hx hb dMo_unwrap_118 (by decide) ?_
        exact cq_zret (x1, x2, x3, a1, b1) (trivial) hx hb hr hlk hP hS (rfl) (by rw [hq]; show some (Value.int _) = some (Value.int (jB (decide (c2 = jSeal)))); first | (rw [decide_eq_true hm]; rfl) | (rw [decide_eq_false hm]; rfl)) (by rw [hq]) dMo_unwrap_119
      · have hm : c2 = jSeal := (lg_cmp_0 _ _).mp h9
        refine lv_iconst (v := nI 1) hx hb dMo_unwrap_114 (by decide) ?_
        refine lv_goto (tgt := 119) hx hb dMo_unwrap_115 rfl ?_
        exact cq_zret (x1, x2, x3, a1, b1) (trivial) hx hb hr hlk hP hS (rfl) (by rw [hq]; show some (Value.int _) = some (Value.int (jB (decide (c2 = jSeal)))); first | (rw [decide_eq_true hm]; rfl) | (rw [decide_eq_false hm]; rfl)) (by rw [hq]) dMo_unwrap_119
    | succ k ih =>
      intro i a1 b1 c2 h2 l2 x1 x2 x3 H locs ls hk hq hP hD hS hl
      refine lv_iload hx hb dMo_unwrap_4 (lv_at hl 3 rfl) ?_
      refine lv_iconst (v := nI 1) hx hb dMo_unwrap_6 (by decide) ?_
      refine lv_icmp_lt (tgt := 103) hx hb dMo_unwrap_7 rfl (fun h => absurd h (nI_nlt (a := 12 - i) (b := 1) (by omega) (by omega))) (fun _ => ?_)
      refine lv_aload_n hx hb dMo_unwrap_10 rfl (lv_at hl 0 rfl) ?_
      refine lv_lload_n hx hb dMo_unwrap_11 rfl (lv_at hl 1 rfl) ?_
      refine lv_lload_n hx hb dMo_unwrap_12 rfl (lv_at hl 2 rfl) ?_
      refine lv_aload_n hx hb dMo_unwrap_13 rfl (lv_at hl 0 rfl) ?_
      refine gfMo_111 hx hb hts hown hG hP 0 rfl rfl dMo_unwrap_14 ?_
      refine lv_iload hx hb dMo_unwrap_17 (lv_at hl 3 rfl) ?_
      refine lv_i2l (v := (nI (12 - i)).toInt64) hx hb dMo_unwrap_19 rfl ?_
      refine lv_lxor hx hb dMo_unwrap_20 ?_
      refine lv_iload hx hb dMo_unwrap_21 (lv_at hl 3 rfl) ?_
      refine lv_iconst (v := nI 2) hx hb dMo_unwrap_23 (by decide) ?_
      refine lv_irem hx hb dMo_unwrap_24 (by decide) ?_
      refine ck_ri (y := nI ((12 - i) % 2)) (irm_nI (by omega) (by decide) (by decide)) ?_
      refine lv_iconst (v := nI 1) hx hb dMo_unwrap_25 (by decide) ?_
      refine lv_icmp_ne (tgt := 36) hx hb dMo_unwrap_26 rfl (fun h8 => ?_) (fun h8 => ?_)
      · have hm0 : ¬ (12 - i) % 2 = 1 := fun z => h8 (by rw [z])
        refine lv_aload_n hx hb dMo_unwrap_36 rfl (lv_at hl 0 rfl) ?_
        refine gfMo_117 hx hb hts hown hG hP 0 rfl rfl dMo_unwrap_37 ?_
        refine clMo_124 (As := [.long kh, .long kl, .long (c2 ^^^ ((nI (12 - i)).toInt64)), .long l2]) (rest := []) hx hb hml hown hts (k_Mo_decrypt l G oy r th a1 b1 d sh sl az oh ol c2 h2 l2 x1 x2 x3 kh kl (c2 ^^^ ((nI (12 - i)).toInt64)) l2) hG hA hP hD hS 0 rfl [0, 1, 2, 3, 4, 5] rfl rfl (fun _ => rfl) rfl hl.1 rfl (Nat.le_of_ble_eq_true rfl) ⟨by decide, by decide⟩ ⟨by decide, by decide⟩ dMo_unwrap_40 (fun u9 H locs _ hP hD hS => ?_)
        have hP : va_P G.1 vwCl [moC oy r th (rG kh kl (c2 ^^^ ((nI (12 - i)).toInt64)) l2) (rH kh kl (c2 ^^^ ((nI (12 - i)).toInt64)) l2) d sh sl az oh ol c2 h2 l2, aI G (r 0) 256 ckS, aI G (r 1) 256 ckU, aI G (r 2) 176 (bN u9.1), aI G (r 3) 16 (bN u9.2.1), aI G (r 4) 16 (bN u9.2.2)] H := hP
        have hD : va_D A [moC oy r th (rG kh kl (c2 ^^^ ((nI (12 - i)).toInt64)) l2) (rH kh kl (c2 ^^^ ((nI (12 - i)).toInt64)) l2) d sh sl az oh ol c2 h2 l2, aI G (r 0) 256 ckS, aI G (r 1) 256 ckU, aI G (r 2) 176 (bN u9.1), aI G (r 3) 16 (bN u9.2.1), aI G (r 4) 16 (bN u9.2.2)] := hD
        refine W.cs (cells' := 0) (slots' := 0) rfl rfl ?_
        refine W.eq (g2 := F0 m 43 ls []) rfl ?_
        refine lv_aload_n hx hb dMo_unwrap_43 rfl (lv_at hl 0 rfl) ?_
        refine lv_aload_n hx hb dMo_unwrap_44 rfl (lv_at hl 0 rfl) ?_
        refine gfMo_82 hx hb hts hown hG hP 0 rfl rfl dMo_unwrap_45 ?_
        refine pfMo_111 hx hb hts hown hG hP hD hS 0 rfl rfl rfl (Nat.le_of_ble_eq_true rfl) dMo_unwrap_48 (fun H locs hP hD hS => ?_)
        have hP : va_P G.1 vwCl [moC oy r th (rG kh kl (c2 ^^^ ((nI (12 - i)).toInt64)) l2) (rH kh kl (c2 ^^^ ((nI (12 - i)).toInt64)) l2) d sh sl az oh ol (rG kh kl (c2 ^^^ ((nI (12 - i)).toInt64)) l2) h2 l2, aI G (r 0) 256 ckS, aI G (r 1) 256 ckU, aI G (r 2) 176 (bN u9.1), aI G (r 3) 16 (bN u9.2.1), aI G (r 4) 16 (bN u9.2.2)] H := hP
        have hD : va_D A [moC oy r th (rG kh kl (c2 ^^^ ((nI (12 - i)).toInt64)) l2) (rH kh kl (c2 ^^^ ((nI (12 - i)).toInt64)) l2) d sh sl az oh ol (rG kh kl (c2 ^^^ ((nI (12 - i)).toInt64)) l2) h2 l2, aI G (r 0) 256 ckS, aI G (r 1) 256 ckU, aI G (r 2) 176 (bN u9.1), aI G (r 3) 16 (bN u9.2.1), aI G (r 4) 16 (bN u9.2.2)] := hD
        refine lv_aload_n hx hb dMo_unwrap_51 rfl (lv_at hl 0 rfl) ?_
        refine lv_iload hx hb dMo_unwrap_52 (lv_at hl 3 rfl) ?_
        refine lv_iconst (v := nI 2) hx hb dMo_unwrap_54 (by decide) ?_
        refine lv_irem hx hb dMo_unwrap_55 (by decide) ?_
        refine ck_ri (y := nI ((12 - i) % 2)) (irm_nI (by omega) (by decide) (by decide)) ?_
        refine lv_iconst (v := nI 1) hx hb dMo_unwrap_56 (by decide) ?_
        refine lv_icmp_ne (tgt := 67) hx hb dMo_unwrap_57 rfl (fun _ => ?_) (fun h => absurd h (fun z => hm0 ((nI_eq (by omega) (by omega)).mp z)))
        refine lv_aload_n hx hb dMo_unwrap_67 rfl (lv_at hl 0 rfl) ?_
        refine gfMo_114 hx hb hts hown hG hP 0 rfl rfl dMo_unwrap_68 ?_
        refine pfMo_114 hx hb hts hown hG hP hD hS 0 rfl rfl rfl (Nat.le_of_ble_eq_true rfl) dMo_unwrap_71 (fun H locs hP hD hS => ?_)
        have hP : va_P G.1 vwCl [moC oy r th (rG kh kl (c2 ^^^ ((nI (12 - i)).toInt64)) l2) (rH kh kl (c2 ^^^ ((nI (12 - i)).toInt64)) l2) d sh sl az oh ol (rG kh kl (c2 ^^^ ((nI (12 - i)).toInt64)) l2) h2 l2, aI G (r 0) 256 ckS, aI G (r 1) 256 ckU, aI G (r 2) 176 (bN u9.1), aI G (r 3) 16 (bN u9.2.1), aI G (r 4) 16 (bN u9.2.2)] H := hP
        have hD : va_D A [moC oy r th (rG kh kl (c2 ^^^ ((nI (12 - i)).toInt64)) l2) (rH kh kl (c2 ^^^ ((nI (12 - i)).toInt64)) l2) d sh sl az oh ol (rG kh kl (c2 ^^^ ((nI (12 - i)).toInt64)) l2) h2 l2, aI G (r 0) 256 ckS, aI G (r 1) 256 ckU, aI G (r 2) 176 (bN u9.1), aI G (r 3) 16 (bN u9.2.1), aI G (r 4) 16 (bN u9.2.2)] := hD
        refine lv_aload_n hx hb dMo_unwrap_74 rfl (lv_at hl 0 rfl) ?_
        refine lv_iload hx hb dMo_unwrap_75 (lv_at hl 3 rfl) ?_
        refine lv_iconst (v := nI 2) hx hb dMo_unwrap_77 (by decide) ?_
        refine lv_irem hx hb dMo_unwrap_78 (by decide) ?_
        refine ck_ri (y := nI ((12 - i) % 2)) (irm_nI (by omega) (by decide) (by decide)) ?_
        refine lv_iconst (v := nI 1) hx hb dMo_unwrap_79 (by decide) ?_
        refine lv_icmp_ne (tgt := 90) hx hb dMo_unwrap_80 rfl (fun _ => ?_) (fun h => absurd h (fun z => hm0 ((nI_eq (by omega) (by omega)).mp z)))
        refine lv_aload_n hx hb dMo_unwrap_90 rfl (lv_at hl 0 rfl) ?_
        refine gfMo_86 hx hb hts hown hG hP 0 rfl rfl dMo_unwrap_91 ?_
        refine pfMo_117 hx hb hts hown hG hP hD hS 0 rfl rfl rfl (Nat.le_of_ble_eq_true rfl) dMo_unwrap_94 (fun H locs hP hD hS => ?_)
        have hP : va_P G.1 vwCl [moC oy r th (rG kh kl (c2 ^^^ ((nI (12 - i)).toInt64)) l2) (rH kh kl (c2 ^^^ ((nI (12 - i)).toInt64)) l2) d sh sl az oh ol (rG kh kl (c2 ^^^ ((nI (12 - i)).toInt64)) l2) h2 (rH kh kl (c2 ^^^ ((nI (12 - i)).toInt64)) l2), aI G (r 0) 256 ckS, aI G (r 1) 256 ckU, aI G (r 2) 176 (bN u9.1), aI G (r 3) 16 (bN u9.2.1), aI G (r 4) 16 (bN u9.2.2)] H := hP
        have hD : va_D A [moC oy r th (rG kh kl (c2 ^^^ ((nI (12 - i)).toInt64)) l2) (rH kh kl (c2 ^^^ ((nI (12 - i)).toInt64)) l2) d sh sl az oh ol (rG kh kl (c2 ^^^ ((nI (12 - i)).toInt64)) l2) h2 (rH kh kl (c2 ^^^ ((nI (12 - i)).toInt64)) l2), aI G (r 0) 256 ckS, aI G (r 1) 256 ckU, aI G (r 2) 176 (bN u9.1), aI G (r 3) 16 (bN u9.2.1), aI G (r 4) 16 (bN u9.2.2)] := hD
        refine lv_iinc (v := nI (12 - (i + 1))) (lv' := [(5, .int (nI (12 - (i + 1)))), (0, .ref oy), (1, .long kh), (3, .long kl)]) hx hb dMo_unwrap_97 hl (k := 3) rfl (by rw [show 12 - i = (12 - (i + 1)) + 1 by omega]; exact pk_m1 _) (by decide) rfl (fun ls hl => ?_)
        refine lv_goto (tgt := 4) hx hb dMo_unwrap_100 rfl ?_
        have e9 : rUw kh kl (w0, w1, w2) (i + 1) = (rG kh kl (c2 ^^^ ((nI (12 - i)).toInt64)) l2, h2, rH kh kl (c2 ^^^ ((nI (12 - i)).toInt64)) l2) := by
          rw [rUw, hq]
          show rUs kh kl (12 - i) c2 h2 l2 = _
          unfold rUs
          simp only [jSel, if_neg hm0]
        exact ih (i + 1) _ _ _ _ _ _ _ _ _ _ _ (by omega) e9 hP hD hS (lv_sub hl [1, 2, 3, 0] rfl)
      · have hm1 : (12 - i) % 2 = 1 := (nI_eq (by omega) (by omega)).mp h8
        refine lv_aload_n hx hb dMo_unwrap_29 rfl (lv_at hl 0 rfl) ?_
        refine gfMo_114 hx hb hts hown hG hP 0 rfl rfl dMo_unwrap_30 ?_
        refine lv_goto (tgt := 40) hx hb dMo_unwrap_33 rfl ?_
        refine clMo_124 (As := [.long kh, .long kl, .long (c2 ^^^ ((nI (12 - i)).toInt64)), .long h2]) (rest := []) hx hb hml hown hts (k_Mo_decrypt l G oy r th a1 b1 d sh sl az oh ol c2 h2 l2 x1 x2 x3 kh kl (c2 ^^^ ((nI (12 - i)).toInt64)) h2) hG hA hP hD hS 0 rfl [0, 1, 2, 3, 4, 5] rfl rfl (fun _ => rfl) rfl hl.1 rfl (Nat.le_of_ble_eq_true rfl) ⟨by decide, by decide⟩ ⟨by decide, by decide⟩ dMo_unwrap_40 (fun u9 H locs _ hP hD hS => ?_)
        have hP : va_P G.1 vwCl [moC oy r th (rG kh kl (c2 ^^^ ((nI (12 - i)).toInt64)) h2) (rH kh kl (c2 ^^^ ((nI (12 - i)).toInt64)) h2) d sh sl az oh ol c2 h2 l2, aI G (r 0) 256 ckS, aI G (r 1) 256 ckU, aI G (r 2) 176 (bN u9.1), aI G (r 3) 16 (bN u9.2.1), aI G (r 4) 16 (bN u9.2.2)] H := hP
        have hD : va_D A [moC oy r th (rG kh kl (c2 ^^^ ((nI (12 - i)).toInt64)) h2) (rH kh kl (c2 ^^^ ((nI (12 - i)).toInt64)) h2) d sh sl az oh ol c2 h2 l2, aI G (r 0) 256 ckS, aI G (r 1) 256 ckU, aI G (r 2) 176 (bN u9.1), aI G (r 3) 16 (bN u9.2.1), aI G (r 4) 16 (bN u9.2.2)] := hD
        refine W.cs (cells' := 0) (slots' := 0) rfl rfl ?_
        refine W.eq (g2 := F0 m 43 ls []) rfl ?_
        refine lv_aload_n hx hb dMo_unwrap_43 rfl (lv_at hl 0 rfl) ?_
        refine lv_aload_n hx hb dMo_unwrap_44 rfl (lv_at hl 0 rfl) ?_
        refine gfMo_82 hx hb hts hown hG hP 0 rfl rfl dMo_unwrap_45 ?_
        refine pfMo_111 hx hb hts hown hG hP hD hS 0 rfl rfl rfl (Nat.le_of_ble_eq_true rfl) dMo_unwrap_48 (fun H locs hP hD hS => ?_)
        have hP : va_P G.1 vwCl [moC oy r th (rG kh kl (c2 ^^^ ((nI (12 - i)).toInt64)) h2) (rH kh kl (c2 ^^^ ((nI (12 - i)).toInt64)) h2) d sh sl az oh ol (rG kh kl (c2 ^^^ ((nI (12 - i)).toInt64)) h2) h2 l2, aI G (r 0) 256 ckS, aI G (r 1) 256 ckU, aI G (r 2) 176 (bN u9.1), aI G (r 3) 16 (bN u9.2.1), aI G (r 4) 16 (bN u9.2.2)] H := hP
        have hD : va_D A [moC oy r th (rG kh kl (c2 ^^^ ((nI (12 - i)).toInt64)) h2) (rH kh kl (c2 ^^^ ((nI (12 - i)).toInt64)) h2) d sh sl az oh ol (rG kh kl (c2 ^^^ ((nI (12 - i)).toInt64)) h2) h2 l2, aI G (r 0) 256 ckS, aI G (r 1) 256 ckU, aI G (r 2) 176 (bN u9.1), aI G (r 3) 16 (bN u9.2.1), aI G (r 4) 16 (bN u9.2.2)] := hD
        refine lv_aload_n hx hb dMo_unwrap_51 rfl (lv_at hl 0 rfl) ?_
        refine lv_iload hx hb dMo_unwrap_52 (lv_at hl 3 rfl) ?_
        refine lv_iconst (v := nI 2) hx hb dMo_unwrap_54 (by decide) ?_
        refine lv_irem hx hb dMo_unwrap_55 (by decide) ?_
        refine ck_ri (y := nI ((12 - i) % 2)) (irm_nI (by omega) (by decide) (by decide)) ?_
        refine lv_iconst (v := nI 1) hx hb dMo_unwrap_56 (by decide) ?_
        refine lv_icmp_ne (tgt := 67) hx hb dMo_unwrap_57 rfl (fun h => absurd (by rw [hm1]) h) (fun _ => ?_)
        refine lv_aload_n hx hb dMo_unwrap_60 rfl (lv_at hl 0 rfl) ?_
        refine gfMo_86 hx hb hts hown hG hP 0 rfl rfl dMo_unwrap_61 ?_
        refine lv_goto (tgt := 71) hx hb dMo_unwrap_64 rfl ?_
        refine pfMo_114 hx hb hts hown hG hP hD hS 0 rfl rfl rfl (Nat.le_of_ble_eq_true rfl) dMo_unwrap_71 (fun H locs hP hD hS => ?_)
        have hP : va_P G.1 vwCl [moC oy r th (rG kh kl (c2 ^^^ ((nI (12 - i)).toInt64)) h2) (rH kh kl (c2 ^^^ ((nI (12 - i)).toInt64)) h2) d sh sl az oh ol (rG kh kl (c2 ^^^ ((nI (12 - i)).toInt64)) h2) (rH kh kl (c2 ^^^ ((nI (12 - i)).toInt64)) h2) l2, aI G (r 0) 256 ckS, aI G (r 1) 256 ckU, aI G (r 2) 176 (bN u9.1), aI G (r 3) 16 (bN u9.2.1), aI G (r 4) 16 (bN u9.2.2)] H := hP
        have hD : va_D A [moC oy r th (rG kh kl (c2 ^^^ ((nI (12 - i)).toInt64)) h2) (rH kh kl (c2 ^^^ ((nI (12 - i)).toInt64)) h2) d sh sl az oh ol (rG kh kl (c2 ^^^ ((nI (12 - i)).toInt64)) h2) (rH kh kl (c2 ^^^ ((nI (12 - i)).toInt64)) h2) l2, aI G (r 0) 256 ckS, aI G (r 1) 256 ckU, aI G (r 2) 176 (bN u9.1), aI G (r 3) 16 (bN u9.2.1), aI G (r 4) 16 (bN u9.2.2)] := hD
        refine lv_aload_n hx hb dMo_unwrap_74 rfl (lv_at hl 0 rfl) ?_
        refine lv_iload hx hb dMo_unwrap_75 (lv_at hl 3 rfl) ?_
        refine lv_iconst (v := nI 2) hx hb dMo_unwrap_77 (by decide) ?_
        refine lv_irem hx hb dMo_unwrap_78 (by decide) ?_
        refine ck_ri (y := nI ((12 - i) % 2)) (irm_nI (by omega) (by decide) (by decide)) ?_
        refine lv_iconst (v := nI 1) hx hb dMo_unwrap_79 (by decide) ?_
        refine lv_icmp_ne (tgt := 90) hx hb dMo_unwrap_80 rfl (fun h => absurd (by rw [hm1]) h) (fun _ => ?_)
        refine lv_aload_n hx hb dMo_unwrap_83 rfl (lv_at hl 0 rfl) ?_
        refine gfMo_117 hx hb hts hown hG hP 0 rfl rfl dMo_unwrap_84 ?_
        refine lv_goto (tgt := 94) hx hb dMo_unwrap_87 rfl ?_
        refine pfMo_117 hx hb hts hown hG hP hD hS 0 rfl rfl rfl (Nat.le_of_ble_eq_true rfl) dMo_unwrap_94 (fun H locs hP hD hS => ?_)
        have hP : va_P G.1 vwCl [moC oy r th (rG kh kl (c2 ^^^ ((nI (12 - i)).toInt64)) h2) (rH kh kl (c2 ^^^ ((nI (12 - i)).toInt64)) h2) d sh sl az oh ol (rG kh kl (c2 ^^^ ((nI (12 - i)).toInt64)) h2) (rH kh kl (c2 ^^^ ((nI (12 - i)).toInt64)) h2) l2, aI G (r 0) 256 ckS, aI G (r 1) 256 ckU, aI G (r 2) 176 (bN u9.1), aI G (r 3) 16 (bN u9.2.1), aI G (r 4) 16 (bN u9.2.2)] H := hP
        have hD : va_D A [moC oy r th (rG kh kl (c2 ^^^ ((nI (12 - i)).toInt64)) h2) (rH kh kl (c2 ^^^ ((nI (12 - i)).toInt64)) h2) d sh sl az oh ol (rG kh kl (c2 ^^^ ((nI (12 - i)).toInt64)) h2) (rH kh kl (c2 ^^^ ((nI (12 - i)).toInt64)) h2) l2, aI G (r 0) 256 ckS, aI G (r 1) 256 ckU, aI G (r 2) 176 (bN u9.1), aI G (r 3) 16 (bN u9.2.1), aI G (r 4) 16 (bN u9.2.2)] := hD
        refine lv_iinc (v := nI (12 - (i + 1))) (lv' := [(5, .int (nI (12 - (i + 1)))), (0, .ref oy), (1, .long kh), (3, .long kl)]) hx hb dMo_unwrap_97 hl (k := 3) rfl (by rw [show 12 - i = (12 - (i + 1)) + 1 by omega]; exact pk_m1 _) (by decide) rfl (fun ls hl => ?_)
        refine lv_goto (tgt := 4) hx hb dMo_unwrap_100 rfl ?_
        have e9 : rUw kh kl (w0, w1, w2) (i + 1) = (rG kh kl (c2 ^^^ ((nI (12 - i)).toInt64)) h2, rH kh kl (c2 ^^^ ((nI (12 - i)).toInt64)) h2, l2) := by
          rw [rUw, hq]
          show rUs kh kl (12 - i) c2 h2 l2 = _
          unfold rUs
          simp only [jSel, if_pos hm1]
        exact ih (i + 1) _ _ _ _ _ _ _ _ _ _ _ (by omega) e9 hP hD hS (lv_sub hl [1, 2, 3, 0] rfl)
  exact loop 12 0 _ _ _ _ _ _ _ _ _ _ _ (by omega) rfl hP hD hS (lv_sub hl [1, 2, 3, 0] rfl)
