/-! the law's entry: what holds of the start -/
def lF : List Cond := flatC (Jvm.Cond.and given_1 narrow_1)
set_option maxRecDepth 100000 in
theorem lF_sub : ∀ j, j < 256 → lF[9 + j]? = some (Cond.eq (.elem (.static "CoverKeys" "SUB" "[I") (.int (Int32.ofNat j))) (.int (ckS j))) := by decide +kernel
set_option maxRecDepth 100000 in
theorem lF_uns : ∀ j, j < 256 → lF[268 + j]? = some (Cond.eq (.elem (.static "CoverKeys" "UNSUB" "[I") (.int (Int32.ofNat j))) (.int (ckU j))) := by decide +kernel
set_option maxRecDepth 100000 in
theorem lF_nc : ∀ q ∈ ckNc, Cond.not (.castable q.1 q.2) ∈ lF := by decide +kernel
set_option maxRecDepth 100000 in
theorem lF_str : ∀ q ∈ ckStr, Cond.exactly (.string "CoverKeys" q.1) "java/lang/String" ∈ lF := by decide +kernel
set_option maxRecDepth 100000 in
theorem lF_ref : ∀ q ∈ ckStr, Cond.stringRef "CoverKeys" q.1 q.2 ∈ lw_tbl := by decide +kernel
set_option maxRecDepth 100000 in
theorem lF_nest : ∀ w ∈ ckNest, w ∈ lw_tbl := by decide +kernel
set_option maxRecDepth 100000 in
theorem lF_odd : ∀ w ∈ ckOdd, w ∈ lw_tbl := by decide +kernel
theorem eq_int {args : Array Value} {s : State} {t : Term} {v : Int32} (h : (Cond.eq t (.int v)).before args s = true) : t.eval args s none [] s = some (.int v) := by
  unfold Cond.before Cond.holds at h
  simp only [Cond.value, Term.eval] at h
  cases ht : t.eval args s none [] s with
  | none => rw [ht] at h; simp at h
  | some x =>
    rw [ht] at h
    cases x with
    | int y =>
      have e : y = v := by simpa using h
      rw [e]
    | _ => simp at h
set_option maxRecDepth 100000 in
set_option maxHeartbeats 4000000 in
theorem law_gk {args : Array Value} {s : State} {A : Nat → Prop} (hts : ∀ w ∈ lw_tbl, w.before args s = true) (hgv : (Jvm.Cond.and given_1 narrow_1).before args s = true) (hA : ∀ a : Nat, a < s.heap.size → ¬ A a) : ∃ G : gG, gk G A s s.heap ∧ jAO s := by
  have hT : ∀ w ∈ ckT, w.before args s = true := fun w hw => hts w (List.mem_filter.mp hw).1
  have hF : ∀ w ∈ lF, w.before args s = true := flat_of_before _ hgv
  have hI : ∀ (i : Nat) (w : Cond), lF[i]? = some w → w.before args s = true := fun i w h => hF w (List.mem_of_getElem? h)
  obtain ⟨c0, i0, k0⟩ := u_known (ws := ckT) (C := "CoverKeys$Channel") (T := TCh) (N := 7) hT inCh (hT _ kinCh)
  obtain ⟨c1, i1, k1⟩ := u_known (ws := ckT) (C := "CoverKeys$Cipher") (T := TCi) (N := 3) hT inCi (hT _ kinCi)
  obtain ⟨c2, i2, k2⟩ := u_known (ws := ckT) (C := "CoverKeys$Cover") (T := TCo) (N := 1) hT inCo (hT _ kinCo)
  obtain ⟨c3, i3, k3⟩ := u_known (ws := ckT) (C := "CoverKeys$Decoder") (T := TDe) (N := 3) hT inDe (hT _ kinDe)
  obtain ⟨c4, i4, k4⟩ := u_known (ws := ckT) (C := "CoverKeys$Envelope") (T := TEn) (N := 3) hT inEn (hT _ kinEn)
  obtain ⟨c5, i5, k5⟩ := u_known (ws := ckT) (C := "CoverKeys$Packet") (T := TPa) (N := 2) hT inPa (hT _ kinPa)
  obtain ⟨c6, i6, k6⟩ := u_known (ws := ckT) (C := "CoverKeys$Tree") (T := TTr) (N := 3) hT inTr (hT _ kinTr)
  obtain ⟨c7, i7, k7⟩ := u_known (ws := ckT) (C := "CoverKeys") (T := TCK) (N := 9) hT inCK (hT _ kinCK)
  obtain ⟨c8, i8, k8⟩ := u_known (ws := ckT) (C := "CoverKeysModel") (T := TMo) (N := 30) hT inMo (hT _ kinMo)
  obtain ⟨aI, bI, dI, eI, fI, gI⟩ := Cond.arrayClass_spec (hT _ karrI)
  obtain ⟨aZ, bZ, dZ, eZ, fZ, gZ⟩ := Cond.arrayClass_spec (hT _ karrZ)
  obtain ⟨aJ, bJ, dJ, eJ, fJ, gJ⟩ := Cond.arrayClass_spec (hT _ karrJ)
  have hoC : (Cond.arrayOver (.object "CoverKeys$Channel")).before args s = true := hts _ (List.mem_append_right _ (List.mem_append_left _ (List.mem_of_getElem? (i := 112) rfl)))
  have hoD : (Cond.arrayOver (.object "CoverKeys$Decoder")).before args s = true := hts _ (List.mem_append_right _ (List.mem_append_left _ (List.mem_of_getElem? (i := 114) rfl)))
  obtain ⟨dH, aH', bH, eH, _, fH, gH, hH⟩ := Cond.arrayOver_spec hoC
  obtain ⟨dQ, aQ', bQ, eQ, _, fQ, gQ, hQ⟩ := Cond.arrayOver_spec hoD
  obtain ⟨ts, vs, zs⟩ := va_Tof (args := args) (s := s) (tm := .static "CoverKeys" "SUB" "[I") (ty := .int) (N := 256) (f := fun j => .int (ckS j)) (A := A) (by decide) (hI 7 _ rfl) (eq_int (hI 8 _ rfl)) (fun j hj => eq_int (hI _ _ (lF_sub j hj))) hA
  obtain ⟨tu, vu, zu⟩ := va_Tof (args := args) (s := s) (tm := .static "CoverKeys" "UNSUB" "[I") (ty := .int) (N := 256) (f := fun j => .int (ckU j)) (A := A) (by decide) (hI 266 _ rfl) (eq_int (hI 267 _ rfl)) (fun j hj => eq_int (hI _ _ (lF_uns j hj))) hA
  refine ⟨((fun k => match k with | 0 => c0 | 1 => c1 | 2 => c2 | 3 => c3 | 4 => c4 | 5 => c5 | 6 => c6 | 7 => c7 | _ => c8, fun k => match k with | 0 => i0 | 1 => i1 | 2 => i2 | 3 => i3 | 4 => i4 | 5 => i5 | 6 => i6 | 7 => i7 | _ => i8), (aI, aZ, aJ, aH', aQ'), (ts, tu)), ⟨⟨fun c q hq => ?_, fun k q hk => ?_⟩, ⟨va_Zof (hts _ (List.mem_append_right _ (List.mem_append_right _ (List.mem_append_left _ (List.mem_of_getElem? (i := 206) rfl))))) (hT _ (ck_m1 (List.mem_of_getElem? (i := 1) rfl) rfl)) vs hA, zs⟩, ⟨va_Zof (hts _ (List.mem_append_right _ (List.mem_append_right _ (List.mem_append_right _ (List.mem_append_left _ (List.mem_of_getElem? (i := 62) rfl)))))) (hT _ (ck_m1 (List.mem_of_getElem? (i := 1) rfl) rfl)) vu hA, zu⟩, fun w hw => va_Nw.of (ckNest_tab w hw) (hts w (lF_nest w hw)), ⟨vx_Zqof (hts _ (List.mem_append_right _ (List.mem_append_left _ (List.mem_of_getElem? (i := 222) rfl)))) (hT _ (ck_m1 (List.mem_of_getElem? (i := 9) rfl) rfl)) (hI 4 _ rfl) hA, vx_Zqof (hts _ (List.mem_append_right _ (List.mem_append_left _ (List.mem_of_getElem? (i := 224) rfl)))) (hT _ (ck_m1 (List.mem_of_getElem? (i := 9) rfl) rfl)) (hI 5 _ rfl) hA⟩, fun q hq => ?_, fun w hw => va_Nw.of (ckOdd_tab w hw) (hts w (lF_odd w hw)), fun q hq => va_Nc.of (hF _ (lF_nc q hq))⟩, hoC, hoD⟩
  · have hc : c < 9 := (List.getElem?_eq_some_iff.mp hq).1
    by_cases h0 : c = 0
    · subst h0; cases hq; exact k0
    by_cases h1 : c = 1
    · subst h1; cases hq; exact k1
    by_cases h2 : c = 2
    · subst h2; cases hq; exact k2
    by_cases h3 : c = 3
    · subst h3; cases hq; exact k3
    by_cases h4 : c = 4
    · subst h4; cases hq; exact k4
    by_cases h5 : c = 5
    · subst h5; cases hq; exact k5
    by_cases h6 : c = 6
    · subst h6; cases hq; exact k6
    by_cases h7 : c = 7
    · subst h7; cases hq; exact k7
    by_cases h8 : c = 8
    · subst h8; cases hq; exact k8
    omega
  · have hc : k < 5 := (List.getElem?_eq_some_iff.mp hk).1
    by_cases h0 : k = 0
    · subst h0; cases hk; exact ⟨fun n z => ⟨fun k h => (by cases h), bI, fI, dI, gI⟩, eI⟩
    by_cases h1 : k = 1
    · subst h1; cases hk; exact ⟨fun n z => ⟨fun k h => (by cases h), bZ, fZ, dZ, gZ⟩, eZ⟩
    by_cases h2 : k = 2
    · subst h2; cases hk; exact ⟨fun n z => ⟨fun k h => (by cases h), bJ, fJ, dJ, gJ⟩, eJ⟩
    by_cases h3 : k = 3
    · subst h3; cases hk; exact ⟨fun n z => ⟨fun k h => (by cases h), bH, fH, dH, gH⟩, bH, dH, fH, gH, eH, hH⟩
    by_cases h4 : k = 4
    · subst h4; cases hk; exact ⟨fun n z => ⟨fun k h => (by cases h), bQ, fQ, dQ, gQ⟩, bQ, dQ, fQ, gQ, eQ, hQ⟩
    omega
  · obtain ⟨sa, _, _, _, hs, _⟩ := Cond.exactly_spec (hF _ (lF_str q hq))
    exact ⟨sa, vk_R.of (hts _ (lF_ref q hq)) hs⟩
