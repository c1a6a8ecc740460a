/-! marks and covers -/
/-- what marks are: at the leaves, and above them -/
def mkOk (M g : Nat → Int32) (n : Nat) : Prop := (∀ k, k < n → M (n + k) = jN (g k)) ∧ (∀ k, 1 ≤ k → k < n → M k = jOr (M (2 * k)) (M (2 * k + 1)))
theorem jMk1_at (f g : Nat → Int32) (n : Nat) : ∀ i k : Nat, k < i → jMk1 f g n i (n + k) = jN (g k)
  | 0, k, h => by omega
  | i + 1, k, h => by
    unfold jMk1 upd
    by_cases hk : k = i
    · rw [if_pos (by omega), hk]
    · rw [if_neg (by omega)]
      exact jMk1_at f g n i k (by omega)
theorem jMk2_st (F : Nat → Int32) (n : Nat) : ∀ m i j : Nat, n ≤ j + i → i + m ≤ n - 1 → jMk2 F n (i + m) j = jMk2 F n i j
  | 0, i, j, _, _ => rfl
  | m + 1, i, j, h, hm => by
    show upd (jMk2 F n (i + m)) (n - 1 - (i + m)) _ j = _
    unfold upd
    rw [if_neg (by omega)]
    exact jMk2_st F n m i j h (by omega)
theorem jMk_ok (f g : Nat → Int32) {n : Nat} (hn : 1 ≤ n) : mkOk (jMk f g n) g n := by
  refine ⟨fun k hk => ?_, fun k h1 h2 => ?_⟩
  · unfold jMk
    have := jMk2_st (jMk1 f g n n) n (n - 1) 0 (n + k) (by omega) (by omega)
    rw [Nat.zero_add] at this
    rw [this]
    exact jMk1_at f g n n k hk
  · unfold jMk
    have a := jMk2_st (jMk1 f g n n) n (k - 1) (n - 1 - k + 1) k (by omega) (by omega)
    have b := jMk2_st (jMk1 f g n n) n k (n - 1 - k) (2 * k) (by omega) (by omega)
    have c := jMk2_st (jMk1 f g n n) n k (n - 1 - k) (2 * k + 1) (by omega) (by omega)
    rw [show n - 1 - k + 1 + (k - 1) = n - 1 by omega] at a
    rw [show n - 1 - k + k = n - 1 by omega] at b c
    rw [a, b, c]
    show upd _ _ _ k = _
    unfold upd
    rw [if_pos (by omega), show n - 1 - (n - 1 - k) = k by omega]
theorem jOr_0 {x y : Int32} (h : jOr x y = 0) : x = 0 ∧ y = 0 := by
  unfold jOr at h
  by_cases hx : x = 0
  · rw [if_pos hx] at h
    by_cases hy : y = 0
    · exact ⟨hx, hy⟩
    · rw [if_neg hy] at h; exact absurd h (by decide)
  · rw [if_neg hx] at h; exact absurd h (by decide)
theorem jOr_01 (x y : Int32) : jOr x y = 0 ∨ jOr x y = nI 1 := by
  unfold jOr
  split
  · split
    · exact Or.inl rfl
    · exact Or.inr rfl
  · exact Or.inr rfl
theorem jN_01 (x : Int32) : jN x = 0 ∨ jN x = nI 1 := by
  unfold jN
  split
  · exact Or.inr rfl
  · exact Or.inl rfl
theorem mk_01 {M g : Nat → Int32} {n : Nat} (h : mkOk M g n) {k : Nat} (h1 : 1 ≤ k) (h2 : k < 2 * n) : M k = 0 ∨ M k = nI 1 := by
  by_cases hk : k < n
  · rw [h.2 k h1 hk]; exact jOr_01 _ _
  · have := h.1 (k - n) (by omega)
    rw [show n + (k - n) = k by omega] at this
    rw [this]; exact jN_01 _
theorem mk_zero {M g : Nat → Int32} {n : Nat} (h : mkOk M g n) (h0 : M 1 = 0) : ∀ k : Nat, 1 ≤ k → k < 2 * n → M k = 0 := by
  intro k
  induction k using Nat.strongRecOn with
  | ind k ih =>
    intro h1 h2
    by_cases hk : k = 1
    · rw [hk]; exact h0
    · have p := ih (k / 2) (by omega) (by omega) (by omega)
      rw [h.2 (k / 2) (by omega) (by omega)] at p
      obtain ⟨p1, p2⟩ := jOr_0 p
      by_cases hm : k % 2 = 0
      · rw [show 2 * (k / 2) = k by omega] at p1; exact p1
      · rw [show 2 * (k / 2) + 1 = k by omega] at p2; exact p2
/-- v begins a way down that ends elsewhere -/
abbrev cvB (M : Nat → Int32) (n v : Nat) : Prop := ¬ M v = 0 ∧ (v = 1 ∨ ¬ M (v ^^^ 1) = 0) ∧ ¬ jLast M n v = v
def cvN (M : Nat → Int32) (n a : Nat) : Nat → Nat
  | 0 => 0
  | k + 1 => cvN M n a k + (if cvB M n (a + k) then 1 else 0)
theorem cvN_add (M : Nat → Int32) (n a k : Nat) : ∀ m : Nat, cvN M n a (k + m) = cvN M n a k + cvN M n (a + k) m
  | 0 => rfl
  | m + 1 => by
    show cvN M n a (k + m) + (if cvB M n (a + (k + m)) then 1 else 0) = cvN M n a k + (cvN M n (a + k) m + (if cvB M n (a + k + m) then 1 else 0))
    rw [cvN_add M n a k m, Nat.add_assoc a k m, Nat.add_assoc]
theorem cvN_mono (M : Nat → Int32) (n a k : Nat) : ∀ m : Nat, cvN M n a k ≤ cvN M n a (k + m) := fun m => by rw [cvN_add]; exact Nat.le_add_right _ _
def cvT (M : Nat → Int32) (n : Nat) : Nat → Nat → Nat
  | 0, _ => 0
  | h + 1, x => (if cvB M n x then 1 else 0) + cvT M n h (2 * x) + cvT M n h (2 * x + 1)
theorem cvT_lev (M : Nat → Int32) (n : Nat) : ∀ h x : Nat, cvT M n (h + 1) x = cvT M n h x + cvN M n (x * 2 ^ h) (2 ^ h)
  | 0, x => by
    show (if cvB M n x then 1 else 0) + 0 + 0 = 0 + (0 + (if cvB M n (x * 1 + 0) then 1 else 0))
    rw [Nat.mul_one, Nat.add_zero, Nat.add_zero, Nat.zero_add, Nat.zero_add]
  | h + 1, x => by
    have a := cvT_lev M n h (2 * x)
    have b := cvT_lev M n h (2 * x + 1)
    have c := cvN_add M n (x * 2 ^ (h + 1)) (2 ^ h) (2 ^ h)
    rw [show x * 2 ^ (h + 1) = 2 * x * 2 ^ h by rw [Nat.pow_succ, Nat.mul_comm (2 ^ h) 2, ← Nat.mul_assoc, Nat.mul_comm x 2]] at c
    rw [show 2 ^ h + 2 ^ h = 2 ^ (h + 1) by rw [Nat.pow_succ]; omega, show 2 * x * 2 ^ h + 2 ^ h = (2 * x + 1) * 2 ^ h by rw [Nat.add_mul, Nat.one_mul]] at c
    show (if cvB M n x then 1 else 0) + cvT M n (h + 1) (2 * x) + cvT M n (h + 1) (2 * x + 1) = (if cvB M n x then 1 else 0) + cvT M n h (2 * x) + cvT M n h (2 * x + 1) + cvN M n (x * 2 ^ (h + 1)) (2 ^ (h + 1))
    rw [show x * 2 ^ (h + 1) = 2 * x * 2 ^ h by rw [Nat.pow_succ, Nat.mul_comm (2 ^ h) 2, ← Nat.mul_assoc, Nat.mul_comm x 2]]
    omega
theorem cvT_all (M : Nat → Int32) (n : Nat) : ∀ h : Nat, cvT M n h 1 = cvN M n 1 (2 ^ h - 1)
  | 0 => rfl
  | h + 1 => by
    have hp : 1 ≤ 2 ^ h := Nat.two_pow_pos h
    rw [cvT_lev, cvT_all M n h, Nat.one_mul, show 2 ^ (h + 1) - 1 = (2 ^ h - 1) + 2 ^ h by rw [Nat.pow_succ]; omega, cvN_add, show 1 + (2 ^ h - 1) = 2 ^ h by omega]
theorem cvB_ch {M : Nat → Int32} {n v : Nat} (h : cvB M n v) : v < n ∧ ¬ M (2 * v) = M (2 * v + 1) := by
  have h3 := h.2.2
  unfold jLast at h3
  rw [show (8 : Nat) = 7 + 1 from rfl, jLF] at h3
  by_cases hn : n ≤ v
  · rw [if_pos hn] at h3; exact absurd rfl h3
  · rw [if_neg hn] at h3
    refine ⟨by omega, fun z => ?_⟩
    rw [if_pos z] at h3
    exact h3 rfl
theorem cvT_zero {M g : Nat → Int32} {n : Nat} (hM : mkOk M g n) : ∀ h x : Nat, 1 ≤ x → (x + 1) * 2 ^ h ≤ 2 * n → M x = 0 → cvT M n h x = 0
  | 0, x, _, _, _ => rfl
  | h + 1, x, h1, h2, h0 => by
    have e2 : (x + 1) * 2 ^ (h + 1) = (2 * x + 1 + 1) * 2 ^ h := by rw [Nat.pow_succ, Nat.mul_comm (2 ^ h) 2, ← Nat.mul_assoc]; congr 1; omega
    have e3 : (2 * x + 1) * 2 ^ h ≤ (2 * x + 1 + 1) * 2 ^ h := Nat.mul_le_mul_right _ (by omega)
    have hx : x < n := by
      have hp : 1 ≤ 2 ^ h := Nat.two_pow_pos h
      have := Nat.mul_le_mul_left (2 * x + 1 + 1) hp
      omega
    have p := h0
    rw [hM.2 x h1 hx] at p
    obtain ⟨p1, p2⟩ := jOr_0 p
    show (if cvB M n x then 1 else 0) + cvT M n h (2 * x) + cvT M n h (2 * x + 1) = 0
    rw [if_neg (fun z => z.1 h0), cvT_zero hM h (2 * x) (by omega) (by omega) p1, cvT_zero hM h (2 * x + 1) (by omega) (by omega) p2]
theorem cvT_le {M g : Nat → Int32} {n : Nat} (hM : mkOk M g n) : ∀ h x : Nat, 1 ≤ x → (x + 1) * 2 ^ h ≤ 2 * n → 2 * cvT M n h x ≤ 2 ^ h
  | 0, x, _, _ => by show 2 * 0 ≤ 1; omega
  | h + 1, x, h1, h2 => by
    have hp : 1 ≤ 2 ^ h := Nat.two_pow_pos h
    have e2 : (x + 1) * 2 ^ (h + 1) = (2 * x + 1 + 1) * 2 ^ h := by rw [Nat.pow_succ, Nat.mul_comm (2 ^ h) 2, ← Nat.mul_assoc]; congr 1; omega
    have e3 : (2 * x + 1) * 2 ^ h ≤ (2 * x + 1 + 1) * 2 ^ h := Nat.mul_le_mul_right _ (by omega)
    have hx : x < n := by
      have := Nat.mul_le_mul_left (2 * x + 1 + 1) hp
      omega
    have a := cvT_le hM h (2 * x) (by omega) (by omega)
    have b := cvT_le hM h (2 * x + 1) (by omega) (by omega)
    have e : 2 ^ (h + 1) = 2 ^ h + 2 ^ h := by rw [Nat.pow_succ]; omega
    show 2 * ((if cvB M n x then 1 else 0) + cvT M n h (2 * x) + cvT M n h (2 * x + 1)) ≤ 2 ^ (h + 1)
    by_cases hB : cvB M n x
    · rw [if_pos hB]
      have hc := (cvB_ch hB).2
      have z : cvT M n h (2 * x) = 0 ∨ cvT M n h (2 * x + 1) = 0 := by
        rcases mk_01 hM (k := 2 * x) (by omega) (by omega) with q | q
        · exact Or.inl (cvT_zero hM h _ (by omega) (by omega) q)
        · rcases mk_01 hM (k := 2 * x + 1) (by omega) (by omega) with q2 | q2
          · exact Or.inr (cvT_zero hM h _ (by omega) (by omega) q2)
          · exact absurd (q.trans q2.symm) hc
      cases h with
      | zero =>
        show 2 * (1 + 0 + 0) ≤ 2 ^ (0 + 1)
        decide
      | succ h =>
        have hp2 : 2 ≤ 2 ^ (h + 1) := by rw [Nat.pow_succ]; have := Nat.two_pow_pos h; omega
        omega
    · rw [if_neg hB]
      omega
theorem cvN_le {M g : Nat → Int32} {dp : Nat} (hdp : dp ≤ 8) (hM : mkOk M g (2 ^ dp)) {i : Nat} (hi : i ≤ 2 ^ dp - 1) : cvN M (2 ^ dp) 1 i ≤ 128 := by
  have a := cvT_le hM dp 1 (Nat.le_refl _) (by omega)
  rw [cvT_all] at a
  have b := cvN_mono M (2 ^ dp) 1 i (2 ^ dp - 1 - i)
  rw [show i + (2 ^ dp - 1 - i) = 2 ^ dp - 1 by omega] at b
  have := p2_le hdp
  omega
theorem jFd_1 {M g : Nat → Int32} {dp : Nat} (hdp : dp ≤ 8) (hM : mkOk M g (2 ^ dp)) (fv fw : Nat → Int32) : ∀ i : Nat, i ≤ 2 ^ dp - 1 → (jFd M (2 ^ dp) fv fw i).1 = cvN M (2 ^ dp) 1 i
  | 0, _ => rfl
  | i + 1, hi => by
    have ih := jFd_1 hdp hM fv fw i (by omega)
    have b := cvN_le hdp hM hi
    show (jFdS M (2 ^ dp) (i + 1) (jFd M (2 ^ dp) fv fw i).1 (jFd M (2 ^ dp) fv fw i).2.1 (jFd M (2 ^ dp) fv fw i).2.2).1 = cvN M (2 ^ dp) 1 i + (if cvB M (2 ^ dp) (1 + i) then 1 else 0)
    have b2 : cvN M (2 ^ dp) 1 i + (if cvB M (2 ^ dp) (1 + i) then 1 else 0) ≤ 128 := b
    rw [Nat.add_comm 1 i] at b2 ⊢
    unfold jFdS
    by_cases hB : cvB M (2 ^ dp) (i + 1)
    · rw [if_pos hB] at b2
      rw [if_pos hB, if_pos hB, ih]
      show jAq _ = _
      unfold jAq
      rw [if_pos (by omega)]
    · rw [if_neg hB, if_neg hB, ih]
      rfl
/-- the cover as it grows: the nodes up to i are through -/
def cvI (M : Nat → Int32) (n : Nat) (fv fw : Nat → Int32) (i : Nat) : Cv := if M 1 = 0 then (1, upd fv 0 (nI 0), upd fw 0 (nI 0)) else jFd M n fv fw i
theorem cvI_end (M : Nat → Int32) (n : Nat) (fv fw : Nat → Int32) : cvI M n fv fw (n - 1) = jCov M n fv fw := rfl
theorem cvI_lt {M g : Nat → Int32} {dp : Nat} (hdp : dp ≤ 8) (hM : mkOk M g (2 ^ dp)) (fv fw : Nat → Int32) {i : Nat} (hi : i + 1 < 2 ^ dp) (hB : cvB M (2 ^ dp) (i + 1)) : (cvI M (2 ^ dp) fv fw i).1 < 128 := by
  have h0 : ¬ M 1 = 0 := fun z => hB.1 (mk_zero hM z _ (by omega) (by omega))
  unfold cvI
  rw [if_neg h0, jFd_1 hdp hM fv fw i (by omega)]
  have b : cvN M (2 ^ dp) 1 i + (if cvB M (2 ^ dp) (1 + i) then 1 else 0) ≤ 128 := cvN_le hdp hM (i := i + 1) (by omega)
  rw [Nat.add_comm 1 i, if_pos hB] at b
  omega
theorem cvI_t {M g : Nat → Int32} {dp : Nat} (hdp : dp ≤ 8) (hM : mkOk M g (2 ^ dp)) (fv fw : Nat → Int32) {i : Nat} (hi : i + 1 < 2 ^ dp) (hB : cvB M (2 ^ dp) (i + 1)) :
    cvI M (2 ^ dp) fv fw (i + 1) = ((cvI M (2 ^ dp) fv fw i).1 + 1, upd (cvI M (2 ^ dp) fv fw i).2.1 (cvI M (2 ^ dp) fv fw i).1 (nI (i + 1)), upd (cvI M (2 ^ dp) fv fw i).2.2 (cvI M (2 ^ dp) fv fw i).1 (nI (jLast M (2 ^ dp) (i + 1)))) := by
  have hl := cvI_lt hdp hM fv fw hi hB
  have h0 : ¬ M 1 = 0 := fun z => hB.1 (mk_zero hM z _ (by omega) (by omega))
  unfold cvI at hl ⊢
  rw [if_neg h0] at hl ⊢
  show jFdS M (2 ^ dp) (i + 1) (jFd M (2 ^ dp) fv fw i).1 (jFd M (2 ^ dp) fv fw i).2.1 (jFd M (2 ^ dp) fv fw i).2.2 = _
  unfold jFdS
  rw [if_pos hB]
  unfold jAq jAf
  rw [if_pos hl, if_pos hl, if_pos hl, if_neg h0]
theorem cvI_f {M : Nat → Int32} {n : Nat} (fv fw : Nat → Int32) {i : Nat} (hB : ¬ cvB M n (i + 1)) : cvI M n fv fw (i + 1) = cvI M n fv fw i := by
  unfold cvI
  by_cases h0 : M 1 = 0
  · rw [if_pos h0, if_pos h0]
  · rw [if_neg h0, if_neg h0]
    show jFdS M n (i + 1) (jFd M n fv fw i).1 (jFd M n fv fw i).2.1 (jFd M n fv fw i).2.2 = _
    unfold jFdS
    rw [if_neg hB]
/-- the reference's rows of subsets beside the class's -/
def cvR (c4 : Nat) (sv sw sv1 sw1 : Nat → Int32) (C : Cv) (q : Nat) : Prop := C.1 = q ∧ q ≤ 128 ∧ (∀ k, k < q → sv1 (256 * c4 + k) = C.2.1 k ∧ sw1 (256 * c4 + k) = C.2.2 k) ∧ (∀ j, (j < 256 * c4 ∨ 256 * c4 + 256 ≤ j) → sv1 j = sv j ∧ sw1 j = sw j)
theorem cvR_add {c4 q : Nat} {sv sw sv1 sw1 : Nat → Int32} {C : Cv} (h : cvR c4 sv sw sv1 sw1 C q) (hq : q < 128) (x y : Int32) : cvR c4 sv sw (upd sv1 (256 * c4 + q) x) (upd sw1 (256 * c4 + q) y) (C.1 + 1, upd C.2.1 C.1 x, upd C.2.2 C.1 y) (q + 1) := by
  obtain ⟨h1, h2, h3, h4⟩ := h
  rw [h1]
  refine ⟨rfl, by omega, fun k hk => ?_, fun j hj => ?_⟩
  · unfold upd
    dsimp only
    by_cases hkq : k = q
    · rw [hkq, if_pos rfl, if_pos rfl, if_pos rfl, if_pos rfl]
      exact ⟨rfl, rfl⟩
    · have hn : ¬ 256 * c4 + k = 256 * c4 + q := by omega
      rw [if_neg hn, if_neg hn, if_neg hkq, if_neg hkq]
      exact h3 k (by omega)
  · unfold upd
    rw [if_neg (by omega), if_neg (by omega)]
    exact h4 j hj
