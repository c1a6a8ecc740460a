/-! the law's loop -/
theorem lp_neg : ∀ n, n < 9 → nI n - nI 9 < 0 := by decide
theorem lp_cmp {n k : Nat} (hn : n ≤ 4608) (hk : k ≤ 4608) : nI n - nI 9 < nI k ↔ n < k + 9 := by
  by_cases h : 9 ≤ n
  · rw [pk_sub h]
    constructor
    · intro z
      have := (nI_ltI (by omega) (by omega)).mp z
      omega
    · intro z
      exact (nI_ltI (by omega) (by omega)).mpr (by omega)
  · constructor
    · intro _
      omega
    · intro _
      exact Int32.lt_of_lt_of_le (lp_neg n (by omega)) ((nI_leI (a := 0) (by omega) (by omega)).mpr (by omega))
set_option maxHeartbeats 4000000 in
set_option maxRecDepth 100000 in
theorem law_loop {p : Program} {l : Launch} {e : Env} {s : State} {m : MethodId} {below : List Frame} {meth : Method} {c : Code} {A : Nat → Prop} {G : gG} {b : Nat} {L : Nat} {xs : Nat → Int32} {ox oc owd ot oo om oe op ob ocs ods oq oy : Nat} {kk ks kv kw r : Nat → Nat} (hC0 : LC p l s m c A G b L xs) (hAs : ∀ q : Nat, A q → s.heap.size ≤ q) (hr : meth.sig.returnType = ret) (hlk : meth.locks = false) : ∀ k j : Nat, 9 * j ≤ L → L < 9 * (j + k) + 9 → LAp p l e s m below meth c A G b ox oc owd ot oo om oe op ob ocs ods oq oy kk ks kv kw r 23 j := by
  intro k
  induction k with
  | zero =>
    intro j hjL hk
    intro oh ol dp sh sl g e0 f0 mk c0 h0 l0 nq f dec q sz ch cl fs fv fw T fo th fi se w0 w1 w2 ff gg mm ins sb per ph pl ss sv sw mk2 hp hh hl9 H locs ls hdp1 hdp hR1 hR2 hR3 hR4 hP hD hS hl
    have hC1 := hC0
    obtain ⟨hx, hb, hml, hown, hts, hG, hA, hX, hbl, hbA, hl0, hLN⟩ := hC0
    have hcf : 60 + 4 * j + 4 ≤ 601024 ∧ 20000 + 20 * j + 20 ≤ 7293034 := ⟨by omega, by omega⟩
    have hl : lv_has ls 8 [(0, .ref b), (1, .ref ox), (2, .ref oy), (3, .ref oq), (4, .int (nI (9 * j)))] := hl
    refine lv_iload hx hb dLa_law_23 (lv_at hl 4 rfl) ?_
    refine lv_aload_n hx hb dLa_law_25 rfl (lv_at hl 0 rfl) ?_
    refine va_slen hx hb hX hbl hbA hS dLa_law_26 ?_
    refine lv_bipush (v := nI 9) hx hb dLa_law_27 (by decide) ?_
    refine lv_isub hx hb dLa_law_29 ?_
    refine lv_icmp_gt (tgt := 1647) hx hb dLa_law_30 rfl (fun h => ?_) (fun h => ?_)
    · refine lv_iconst (v := nI 1) hx hb dLa_law_1647 (by decide) ?_
      refine va_forget (fun q hq => hAs _ (hS.2.2 q hq)) ?_
      refine W.widen (k := 601024) (n := 7293034) (by omega) (by omega) ?_
      exact lw_ret hx hb hr hlk dLa_law_1648
    · have h9 : ¬ L < 9 * j + 9 := fun z => h ((lp_cmp (n := L) hLN (by omega)).mpr z)
      omega
  | succ k ih =>
    intro j hjL hk
    intro oh ol dp sh sl g e0 f0 mk c0 h0 l0 nq f dec q sz ch cl fs fv fw T fo th fi se w0 w1 w2 ff gg mm ins sb per ph pl ss sv sw mk2 hp hh hl9 H locs ls hdp1 hdp hR1 hR2 hR3 hR4 hP hD hS hl
    have hC1 := hC0
    obtain ⟨hx, hb, hml, hown, hts, hG, hA, hX, hbl, hbA, hl0, hLN⟩ := hC0
    have hcf : 60 + 4 * j + 4 ≤ 601024 ∧ 20000 + 20 * j + 20 ≤ 7293034 := ⟨by omega, by omega⟩
    have hl : lv_has ls 8 [(0, .ref b), (1, .ref ox), (2, .ref oy), (3, .ref oq), (4, .int (nI (9 * j)))] := hl
    refine lv_iload hx hb dLa_law_23 (lv_at hl 4 rfl) ?_
    refine lv_aload_n hx hb dLa_law_25 rfl (lv_at hl 0 rfl) ?_
    refine va_slen hx hb hX hbl hbA hS dLa_law_26 ?_
    refine lv_bipush (v := nI 9) hx hb dLa_law_27 (by decide) ?_
    refine lv_isub hx hb dLa_law_29 ?_
    refine lv_icmp_gt (tgt := 1647) hx hb dLa_law_30 rfl (fun h => ?_) (fun h => ?_)
    · refine lv_iconst (v := nI 1) hx hb dLa_law_1647 (by decide) ?_
      refine va_forget (fun q hq => hAs _ (hS.2.2 q hq)) ?_
      refine W.widen (k := 601024) (n := 7293034) (by omega) (by omega) ?_
      exact lw_ret hx hb hr hlk dLa_law_1648
    · have h9 : ¬ L < 9 * j + 9 := fun z => h ((lp_cmp (n := L) hLN (by omega)).mpr z)
      have hj : 9 * j + 9 ≤ L := by omega
      have ih1 := ih (j + 1) (by omega) (by omega)
      refine lv_aload_n hx hb dLa_law_33 rfl (lv_at hl 0 rfl) ?_
      refine lv_iload hx hb dLa_law_34 (lv_at hl 4 rfl) ?_
      refine ck_sld hx hb hX hbl hbA hS (9 * j) rfl (by omega) (by omega) rfl dLa_law_36 ?_
      refine lv_bipush (v := nI 31) hx hb dLa_law_37 (by decide) ?_
      refine lv_iand hx hb dLa_law_39 ?_
      refine ck_ri (and_nI _ 5 rfl (by decide)) ?_
      have ha : un (xs (9 * j)) % 2 ^ 5 < 32 := Nat.mod_lt _ (by decide)
      generalize un (xs (9 * j)) % 2 ^ 5 = a at ha ⊢
      rcases (show a = 0 ∨ a = 1 ∨ a = 2 ∨ a = 3 ∨ a = 4 ∨ a = 5 ∨ a = 6 ∨ a = 7 ∨ a = 8 ∨ a = 9 ∨ a = 10 ∨ a = 11 ∨ a = 12 ∨ a = 13 ∨ a = 14 ∨ a = 15 ∨ a = 16 ∨ 17 ≤ a by omega) with rfl | rfl | rfl | rfl | rfl | rfl | rfl | rfl | rfl | rfl | rfl | rfl | rfl | rfl | rfl | rfl | rfl | ha2
      · refine lv_tableIn (tgt := 124) hx hb dLa_law_40 (by decide) (by decide) rfl rfl ?_
        exact law_begin hC1 hj ih1 oh ol dp sh sl g e0 f0 mk c0 h0 l0 nq f dec q sz ch cl fs fv fw T fo th fi se w0 w1 w2 ff gg mm ins sb per ph pl ss sv sw mk2 hp hh hl9 H locs ls hdp1 hdp hR1 hR2 hR3 hR4 hP hD hS hl
      · refine lv_tableIn (tgt := 248) hx hb dLa_law_40 (by decide) (by decide) rfl rfl ?_
        exact law_install hC1 hj ih1 oh ol dp sh sl g e0 f0 mk c0 h0 l0 nq f dec q sz ch cl fs fv fw T fo th fi se w0 w1 w2 ff gg mm ins sb per ph pl ss sv sw mk2 hp hh hl9 H locs ls hdp1 hdp hR1 hR2 hR3 hR4 hP hD hS hl
      · refine lv_tableIn (tgt := 304) hx hb dLa_law_40 (by decide) (by decide) rfl rfl ?_
        exact law_subscribe hC1 hj ih1 oh ol dp sh sl g e0 f0 mk c0 h0 l0 nq f dec q sz ch cl fs fv fw T fo th fi se w0 w1 w2 ff gg mm ins sb per ph pl ss sv sw mk2 hp hh hl9 H locs ls hdp1 hdp hR1 hR2 hR3 hR4 hP hD hS hl
      · refine lv_tableIn (tgt := 407) hx hb dLa_law_40 (by decide) (by decide) rfl rfl ?_
        exact law_period hC1 hj ih1 oh ol dp sh sl g e0 f0 mk c0 h0 l0 nq f dec q sz ch cl fs fv fw T fo th fi se w0 w1 w2 ff gg mm ins sb per ph pl ss sv sw mk2 hp hh hl9 H locs ls hdp1 hdp hR1 hR2 hR3 hR4 hP hD hS hl
      · refine lv_tableIn (tgt := 551) hx hb dLa_law_40 (by decide) (by decide) rfl rfl ?_
        exact law_packet hC1 hj ih1 oh ol dp sh sl g e0 f0 mk c0 h0 l0 nq f dec q sz ch cl fs fv fw T fo th fi se w0 w1 w2 ff gg mm ins sb per ph pl ss sv sw mk2 hp hh hl9 H locs ls hdp1 hdp hR1 hR2 hR3 hR4 hP hD hS hl
      · refine lv_tableIn (tgt := 619) hx hb dLa_law_40 (by decide) (by decide) rfl rfl ?_
        exact law_air hC1 hj ih1 oh ol dp sh sl g e0 f0 mk c0 h0 l0 nq f dec q sz ch cl fs fv fw T fo th fi se w0 w1 w2 ff gg mm ins sb per ph pl ss sv sw mk2 hp hh hl9 H locs ls hdp1 hdp hR1 hR2 hR3 hR4 hP hD hS hl
      · refine lv_tableIn (tgt := 675) hx hb dLa_law_40 (by decide) (by decide) rfl rfl ?_
        exact law_flip hC1 hj ih1 oh ol dp sh sl g e0 f0 mk c0 h0 l0 nq f dec q sz ch cl fs fv fw T fo th fi se w0 w1 w2 ff gg mm ins sb per ph pl ss sv sw mk2 hp hh hl9 H locs ls hdp1 hdp hR1 hR2 hR3 hR4 hP hD hS hl
      · refine lv_tableIn (tgt := 723) hx hb dLa_law_40 (by decide) (by decide) rfl rfl ?_
        exact law_hear hC1 hj ih1 oh ol dp sh sl g e0 f0 mk c0 h0 l0 nq f dec q sz ch cl fs fv fw T fo th fi se w0 w1 w2 ff gg mm ins sb per ph pl ss sv sw mk2 hp hh hl9 H locs ls hdp1 hdp hR1 hR2 hR3 hR4 hP hD hS hl
      · refine lv_tableIn (tgt := 779) hx hb dLa_law_40 (by decide) (by decide) rfl rfl ?_
        exact law_has hC1 hj ih1 oh ol dp sh sl g e0 f0 mk c0 h0 l0 nq f dec q sz ch cl fs fv fw T fo th fi se w0 w1 w2 ff gg mm ins sb per ph pl ss sv sw mk2 hp hh hl9 H locs ls hdp1 hdp hR1 hR2 hR3 hR4 hP hD hS hl
      · refine lv_tableIn (tgt := 847) hx hb dLa_law_40 (by decide) (by decide) rfl rfl ?_
        exact law_seal hC1 hj ih1 oh ol dp sh sl g e0 f0 mk c0 h0 l0 nq f dec q sz ch cl fs fv fw T fo th fi se w0 w1 w2 ff gg mm ins sb per ph pl ss sv sw mk2 hp hh hl9 H locs ls hdp1 hdp hR1 hR2 hR3 hR4 hP hD hS hl
      · refine lv_tableIn (tgt := 1019) hx hb dLa_law_40 (by decide) (by decide) rfl rfl ?_
        exact law_opn hC1 hj ih1 oh ol dp sh sl g e0 f0 mk c0 h0 l0 nq f dec q sz ch cl fs fv fw T fo th fi se w0 w1 w2 ff gg mm ins sb per ph pl ss sv sw mk2 hp hh hl9 H locs ls hdp1 hdp hR1 hR2 hR3 hR4 hP hD hS hl
      · refine lv_tableIn (tgt := 1205) hx hb dLa_law_40 (by decide) (by decide) rfl rfl ?_
        exact law_out hC1 hj ih1 oh ol dp sh sl g e0 f0 mk c0 h0 l0 nq f dec q sz ch cl fs fv fw T fo th fi se w0 w1 w2 ff gg mm ins sb per ph pl ss sv sw mk2 hp hh hl9 H locs ls hdp1 hdp hR1 hR2 hR3 hR4 hP hD hS hl
      · refine lv_tableIn (tgt := 1247) hx hb dLa_law_40 (by decide) (by decide) rfl rfl ?_
        exact law_subset hC1 hj ih1 oh ol dp sh sl g e0 f0 mk c0 h0 l0 nq f dec q sz ch cl fs fv fw T fo th fi se w0 w1 w2 ff gg mm ins sb per ph pl ss sv sw mk2 hp hh hl9 H locs ls hdp1 hdp hR1 hR2 hR3 hR4 hP hD hS hl
      · refine lv_tableIn (tgt := 1343) hx hb dLa_law_40 (by decide) (by decide) rfl rfl ?_
        exact law_label hC1 hj ih1 oh ol dp sh sl g e0 f0 mk c0 h0 l0 nq f dec q sz ch cl fs fv fw T fo th fi se w0 w1 w2 ff gg mm ins sb per ph pl ss sv sw mk2 hp hh hl9 H locs ls hdp1 hdp hR1 hR2 hR3 hR4 hP hD hS hl
      · refine lv_tableIn (tgt := 1422) hx hb dLa_law_40 (by decide) (by decide) rfl rfl ?_
        exact law_reach hC1 hj ih1 oh ol dp sh sl g e0 f0 mk c0 h0 l0 nq f dec q sz ch cl fs fv fw T fo th fi se w0 w1 w2 ff gg mm ins sb per ph pl ss sv sw mk2 hp hh hl9 H locs ls hdp1 hdp hR1 hR2 hR3 hR4 hP hD hS hl
      · refine lv_tableIn (tgt := 1490) hx hb dLa_law_40 (by decide) (by decide) rfl rfl ?_
        exact law_key hC1 hj ih1 oh ol dp sh sl g e0 f0 mk c0 h0 l0 nq f dec q sz ch cl fs fv fw T fo th fi se w0 w1 w2 ff gg mm ins sb per ph pl ss sv sw mk2 hp hh hl9 H locs ls hdp1 hdp hR1 hR2 hR3 hR4 hP hD hS hl
      · refine lv_tableIn (tgt := 1585) hx hb dLa_law_40 (by decide) (by decide) rfl rfl ?_
        exact law_count hC1 hj ih1 oh ol dp sh sl g e0 f0 mk c0 h0 l0 nq f dec q sz ch cl fs fv fw T fo th fi se w0 w1 w2 ff gg mm ins sb per ph pl ss sv sw mk2 hp hh hl9 H locs ls hdp1 hdp hR1 hR2 hR3 hR4 hP hD hS hl
      · refine lv_tableOut (tgt := 1641) hx hb dLa_law_40 (Or.inr (by rw [nI_toInt (by omega)]; omega)) rfl ?_
        exact law_none hC1 hj ih1 oh ol dp sh sl g e0 f0 mk c0 h0 l0 nq f dec q sz ch cl fs fv fw T fo th fi se w0 w1 w2 ff gg mm ins sb per ph pl ss sv sw mk2 hp hh hl9 H locs ls hdp1 hdp hR1 hR2 hR3 hR4 hP hD hS hl
