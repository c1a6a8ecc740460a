/-! above and below, in the class's words and in the reference's -/
theorem abF_iff {a : Nat} (ha : 1 ≤ a) : ∀ k n : Nat, n ≤ k → (abF a k n = true ↔ ∃ j : Nat, n / 2 ^ j = a)
  | 0, n, h => by
    obtain rfl : n = 0 := by omega
    unfold abF
    constructor
    · intro z
      have := of_decide_eq_true z
      omega
    · rintro ⟨j, z⟩
      rw [Nat.zero_div] at z
      omega
  | k + 1, n, h => by
    unfold abF
    by_cases h1 : a < n
    · rw [if_pos h1, abF_iff ha k (n / 2) (by omega)]
      constructor
      · rintro ⟨j, z⟩
        refine ⟨j + 1, ?_⟩
        rw [Nat.div_div_eq_div_mul] at z
        rw [Nat.pow_succ, Nat.mul_comm]
        exact z
      · rintro ⟨j, z⟩
        cases j with
        | zero => rw [Nat.pow_zero, Nat.div_one] at z; omega
        | succ j =>
          refine ⟨j, ?_⟩
          rw [Nat.div_div_eq_div_mul]
          rw [Nat.pow_succ, Nat.mul_comm] at z
          exact z
    · rw [if_neg h1]
      constructor
      · intro z
        exact ⟨0, by rw [Nat.pow_zero, Nat.div_one]; exact of_decide_eq_true z⟩
      · rintro ⟨j, z⟩
        have := Nat.div_le_self n (2 ^ j)
        exact decide_eq_true (by omega)
theorem rAb_iff {a : Nat} (ha : 1 ≤ a) (b : Nat) : rAb a b = true ↔ ∃ j : Nat, b / 2 ^ j = a := abF_iff ha b b (Nat.le_refl _)
theorem lbF_N {n a : Nat} (hn : n < 2 ^ 31) (ha : a < 2 ^ 31) : ∀ k i : Nat, i + k = 9 → (∃ j, i ≤ j ∧ j < 9 ∧ n / 2 ^ j = a ∧ lbF (nI n) (nI a) k i = nI j) ∨ ((∀ j, i ≤ j → j < 9 → ¬ n / 2 ^ j = a) ∧ lbF (nI n) (nI a) k i = -1)
  | 0, i, h => Or.inr ⟨fun j h1 h2 => by omega, rfl⟩
  | k + 1, i, h => by
    unfold lbF
    have hd : n / 2 ^ i < 2 ^ 31 := Nat.lt_of_le_of_lt (Nat.div_le_self _ _) hn
    rw [isr_nI hn (by omega)]
    by_cases h1 : n / 2 ^ i = a
    · rw [h1, if_pos rfl]
      exact Or.inl ⟨i, Nat.le_refl _, by omega, h1, rfl⟩
    · rw [if_neg (fun z => h1 ((nI_eq hd ha).mp z))]
      rcases lbF_N hn ha k (i + 1) (by omega) with ⟨j, z1, z2, z3, z4⟩ | ⟨z1, z2⟩
      · exact Or.inl ⟨j, by omega, z2, z3, z4⟩
      · refine Or.inr ⟨fun j y1 y2 y3 => ?_, z2⟩
        by_cases hj : j = i
        · rw [hj] at y3; exact h1 y3
        · exact z1 j (by omega) y2 y3
theorem div9 {n j : Nat} (hn : n < 512) (hj : 9 ≤ j) : n / 2 ^ j = 0 := Nat.div_eq_of_lt (Nat.lt_of_lt_of_le hn (by rw [show (512 : Nat) = 2 ^ 9 from rfl]; exact Nat.pow_le_pow_right (by decide) hj))
theorem jLb_none {n a : Nat} (hn : n < 512) (ha : 1 ≤ a) (ha2 : a < 2 ^ 31) : decide (jLb (nI n) (nI a) = -1) = !rAb a n := by
  unfold jLb
  rcases lbF_N (n := n) (a := a) (by omega) ha2 9 0 rfl with ⟨j, z1, z2, z3, z4⟩ | ⟨z1, z2⟩
  · rw [z4, (rAb_iff ha n).mpr ⟨j, z3⟩, show (-1 : Int32) = nI 4294967295 by decide]
    exact decide_eq_false (fun z => by have := (nI_inj32 (by omega) (by omega)).mp z; omega)
  · rw [z2, show rAb a n = false from Bool.eq_false_iff.mpr (fun z => by
      obtain ⟨j, y⟩ := (rAb_iff ha n).mp z
      by_cases hj : j < 9
      · exact z1 j (by omega) hj y
      · rw [div9 hn (by omega)] at y; omega)]
    decide
theorem jLb_some {n a : Nat} (hn : n < 512) (ha : 1 ≤ a) (ha2 : a < 2 ^ 31) : (!decide (jLb (nI n) (nI a) < nI 1)) = (decide (a < n) && rAb a n) := by
  unfold jLb
  rcases lbF_N (n := n) (a := a) (by omega) ha2 9 0 rfl with ⟨j, z1, z2, z3, z4⟩ | ⟨z1, z2⟩
  · rw [z4, (rAb_iff ha n).mpr ⟨j, z3⟩, Bool.and_true]
    by_cases h0 : j = 0
    · rw [h0] at z3 ⊢
      rw [Nat.pow_zero, Nat.div_one] at z3
      rw [z3, decide_eq_false (Nat.lt_irrefl a)]
      decide
    · have h1 : n / 2 ^ j ≤ n / 2 ^ 1 := Nat.div_le_div_left (Nat.pow_le_pow_right (by decide) (by omega)) (by decide)
      rw [decide_eq_true (show a < n by omega), decide_eq_false (fun z => by have := (nI_ltI (by omega) (by omega)).mp z; omega)]
      rfl
  · rw [z2, show rAb a n = false from Bool.eq_false_iff.mpr (fun z => by
      obtain ⟨j, y⟩ := (rAb_iff ha n).mp z
      by_cases hj : j < 9
      · exact z1 j (by omega) hj y
      · rw [div9 hn (by omega)] at y; omega), Bool.and_false]
    decide
theorem isr_neg {x : Int32} (hx : x < 0) {n : Nat} (hn : n < 32) : isr x (nI n) < 0 := by
  have h := s_l n hn
  rw [Int32.lt_iff_toInt_lt] at hx ⊢
  have e : (isr x (nI n)).toInt = (x.toBitVec.sshiftRight n).toInt := by
    show (x >>> (nI n &&& 31)).toBitVec.toInt = _
    rw [Int32.toBitVec_shiftRight, BitVec.sshiftRight_eq', h]
  rw [e, BitVec.toInt_sshiftRight, Int.shiftRight_eq_div_pow]
  have hx2 : x.toBitVec.toInt < 0 := hx
  exact Int.ediv_neg_of_neg_of_pos hx2 (by exact_mod_cast Nat.two_pow_pos n)
theorem lbF_neg {x : Int32} (hx : x < 0) {a : Nat} (ha2 : a < 2 ^ 31) : ∀ k i : Nat, i + k = 9 → lbF x (nI a) k i = -1
  | 0, i, h => rfl
  | k + 1, i, h => by
    unfold lbF
    have h1 := isr_neg hx (n := i) (by omega)
    rw [if_neg (fun z => by rw [z] at h1; exact absurd h1 (nI_pos ha2)), lbF_neg hx ha2 k (i + 1) (by omega)]
theorem rSub_eq {dp : Nat} (hdp : dp ≤ 8) (v w : Int32) : rSub dp v w = jSub dp v w := by
  have h2 := p2_le hdp
  unfold rSub jSub
  by_cases hv : v ≤ 0
  · have : v < nI 1 := Int32.lt_of_le_of_lt hv (by decide)
    rw [decide_eq_true hv, decide_eq_true this]
    simp
  · have h0 : (0 : Int32) < v := Int32.not_le.mp hv
    obtain ⟨a, ha1, ha2, rfl⟩ : ∃ a, 1 ≤ a ∧ a < 2 ^ 31 ∧ v = nI a := ⟨tn v, Nat.pos_of_ne_zero (fun z => by
      have e := nI_tn (x := v) (Int32.not_lt.mpr (Int32.le_of_lt h0))
      rw [z] at e
      rw [← e] at hv
      exact hv (by decide)), tn_lt v, (nI_tn (Int32.not_lt.mpr (Int32.le_of_lt h0))).symm⟩
    rw [decide_eq_false hv, decide_eq_false (fun z => by have := (nI_ltI (b := 1) ha2 (by decide)).mp z; omega : ¬ nI a < nI 1), decide_eq_false (fun z => by have := (nI_eq (b := 0) ha2 (by decide)).mp z; omega : ¬ nI a = 0), tn_nI ha2]
    simp only [Bool.false_and, Bool.false_or, Bool.not_false, Bool.true_and]
    by_cases hw : w < 0
    · rw [decide_eq_true (Int32.le_trans (Int32.le_of_lt hw) (Int32.le_of_lt h0) : w ≤ nI a), show jLb w (nI a) = -1 from lbF_neg hw ha2 9 0 rfl]
      simp
      intro _
      decide
    · obtain ⟨b, hb2, rfl⟩ : ∃ b, b < 2 ^ 31 ∧ w = nI b := ⟨tn w, tn_lt w, (nI_tn hw).symm⟩
      by_cases hn : nI (2 * 2 ^ dp) ≤ nI b
      · rw [decide_eq_true hn]
        simp
      · have hb3 : b < 2 * 2 ^ dp := Nat.not_le.mp (fun z => hn ((nI_leI (by omega) hb2).mpr z))
        rw [decide_eq_false hn, jLb_some (by omega) ha1 ha2, tn_nI hb2]
        by_cases hba : nI b ≤ nI a
        · rw [decide_eq_true hba, decide_eq_false (by have := (nI_leI hb2 ha2).mp hba; omega : ¬ a < b)]
          rfl
        · rw [decide_eq_false hba, decide_eq_true (Nat.not_le.mp (fun z => hba ((nI_leI hb2 ha2).mpr z)) : a < b)]
          simp
/-- of a subset: v above w -/
theorem jSub_N {dp a b : Nat} (hdp : dp ≤ 8) (ha2 : a < 2 ^ 31) (hb2 : b < 2 ^ 31) (h : jSub dp (nI a) (nI b) = true) : (a = 0 ∧ b = 0) ∨ (1 ≤ a ∧ a < b ∧ b < 2 * 2 ^ dp ∧ rAb a b = true) := by
  have h2 := p2_le hdp
  rw [← rSub_eq hdp] at h
  unfold rSub at h
  rw [tn_nI ha2, tn_nI hb2] at h
  simp only [Bool.or_eq_true, Bool.and_eq_true, decide_eq_true_eq, Bool.not_eq_true', decide_eq_false_iff_not] at h
  rcases h with ⟨h1, h3⟩ | ⟨h1, h3, h4, h5⟩
  · exact Or.inl ⟨(nI_eq (b := 0) ha2 (by decide)).mp h1, (nI_eq (b := 0) hb2 (by decide)).mp h3⟩
  · refine Or.inr ⟨?_, Nat.not_le.mp (fun z => h3 ((nI_leI hb2 ha2).mpr z)), Nat.not_le.mp (fun z => h4 ((nI_leI (by omega) hb2).mpr z)), h5⟩
    exact Nat.not_le.mp (fun z => h1 ((nI_leI (b := 0) ha2 (by decide)).mpr z))
theorem jSub_ex {dp : Nat} (hdp : dp ≤ 8) {v w : Int32} (h : jSub dp v w = true) : ∃ a b, a < 512 ∧ b < 512 ∧ v = nI a ∧ w = nI b := by
  have h2 := p2_le hdp
  have h9 := h
  rw [← rSub_eq hdp] at h
  unfold rSub at h
  simp only [Bool.or_eq_true, Bool.and_eq_true, decide_eq_true_eq, Bool.not_eq_true', decide_eq_false_iff_not] at h
  rcases h with ⟨h1, h3⟩ | ⟨h1, h3, h4, h5⟩
  · exact ⟨0, 0, by decide, by decide, h1, h3⟩
  · have p1 : (0 : Int32) < v := Int32.not_le.mp h1
    have p2 : v < w := Int32.not_le.mp h3
    have e1 := nI_tn (x := v) (Int32.not_lt.mpr (Int32.le_of_lt p1))
    have e2 := nI_tn (x := w) (Int32.not_lt.mpr (Int32.le_of_lt (Int32.lt_trans p1 p2)))
    rw [← e1, ← e2] at h9
    rcases jSub_N hdp (tn_lt v) (tn_lt w) h9 with ⟨q1, q2⟩ | ⟨q1, q2, q3, q4⟩
    · exact ⟨0, 0, by decide, by decide, by rw [← e1, q1], by rw [← e2, q2]⟩
    · exact ⟨tn v, tn w, by omega, by omega, e1.symm, e2.symm⟩
theorem rHl_eq {dp a b dd : Nat} (hdp : dp ≤ 8) (ha2 : a < 2 ^ 31) (hb2 : b < 2 ^ 31) (hd : dd < 2 ^ dp) (h : jSub dp (nI a) (nI b) = true) : rHl dp a b dd = jDer dp (nI dd) (nI a) (nI b) := by
  have h2 := p2_le hdp
  unfold rHl jDer
  rw [h, Bool.true_and, nI_add]
  rcases jSub_N hdp ha2 hb2 h with ⟨q1, q2⟩ | ⟨q1, q2, q3, q4⟩
  · rw [q1, q2, decide_eq_true (rfl : (0 : Nat) = 0), decide_eq_true (by decide : nI 0 = (0 : Int32))]
    rfl
  · have hlt : a < 2 ^ dp := by
      obtain ⟨j, hj⟩ := (rAb_iff q1 b).mp q4
      cases j with
      | zero => rw [Nat.pow_zero, Nat.div_one] at hj; omega
      | succ j =>
        have h1 : b / 2 ^ (j + 1) ≤ b / 2 ^ 1 := Nat.div_le_div_left (Nat.pow_le_pow_right (by decide) (by omega)) (by decide)
        omega
    rw [decide_eq_false (by omega : ¬ a = 0), decide_eq_false (fun z => by have := (nI_eq (b := 0) ha2 (by decide)).mp z; omega : ¬ nI a = 0), jLb_some (by omega) q1 ha2, jLb_none (by omega) (by omega) hb2, decide_eq_true (by omega : a < 2 ^ dp + dd), Bool.true_and]
