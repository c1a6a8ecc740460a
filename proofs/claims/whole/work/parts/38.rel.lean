/-! what ties the class's state to the reference's: covers hold subsets, counts agree, bytes stay bytes -/
theorem jLF_up (M : Nat → Int32) {n : Nat} : ∀ k x : Nat, 1 ≤ x → x < 2 * n → ∃ j, jLF M n k x / 2 ^ j = x ∧ jLF M n k x < 2 * n ∧ x ≤ jLF M n k x
  | 0, x, _, h2 => ⟨0, by show x / 2 ^ 0 = x; rw [Nat.pow_zero, Nat.div_one], h2, Nat.le_refl _⟩
  | k + 1, x, h1, h2 => by
    unfold jLF
    by_cases hn : n ≤ x
    · rw [if_pos hn]
      exact ⟨0, by rw [Nat.pow_zero, Nat.div_one], h2, Nat.le_refl _⟩
    · rw [if_neg hn]
      by_cases he : M (2 * x) = M (2 * x + 1)
      · rw [if_pos he]
        exact ⟨0, by rw [Nat.pow_zero, Nat.div_one], h2, Nat.le_refl _⟩
      · rw [if_neg he]
        by_cases hz : M (2 * x) = 0
        · rw [if_pos hz]
          obtain ⟨j, a, b, c⟩ := jLF_up M (n := n) k (2 * x + 1) (by omega) (by omega)
          exact ⟨j + 1, by rw [Nat.pow_succ, ← Nat.div_div_eq_div_mul, a]; omega, b, by omega⟩
        · rw [if_neg hz]
          obtain ⟨j, a, b, c⟩ := jLF_up M (n := n) k (2 * x) (by omega) (by omega)
          exact ⟨j + 1, by rw [Nat.pow_succ, ← Nat.div_div_eq_div_mul, a]; omega, b, by omega⟩
theorem last_sub {M : Nat → Int32} {dp v : Nat} (hdp : dp ≤ 8) (h1 : 1 ≤ v) (h2 : v < 2 ^ dp) (h3 : ¬ jLast M (2 ^ dp) v = v) : jSub dp (nI v) (nI (jLast M (2 ^ dp) v)) = true := by
  obtain ⟨j, a, b, c⟩ := jLF_up M (n := 2 ^ dp) 8 v h1 (by omega)
  have hp := p2_le hdp
  have e : jLF M (2 ^ dp) 8 v = jLast M (2 ^ dp) v := rfl
  rw [e] at a b c
  generalize jLast M (2 ^ dp) v = w at a b c h3 ⊢
  rw [← rSub_eq hdp]
  unfold rSub
  rw [tn_nI (by omega), tn_nI (by omega), (rAb_iff h1 w).mpr ⟨j, a⟩, decide_eq_false (fun z : nI v ≤ 0 => by have := (nI_leI (b := 0) (by omega) (by omega)).mp z; omega), decide_eq_false (fun z : nI w ≤ nI v => by have := (nI_leI (by omega) (by omega)).mp z; omega), decide_eq_false (fun z : nI (2 * 2 ^ dp) ≤ nI w => by have := (nI_leI (by omega) (by omega)).mp z; omega)]
  simp only [Bool.not_false, Bool.and_true, Bool.or_true]
theorem cvI_sub {M g : Nat → Int32} {dp : Nat} (hdp : dp ≤ 8) (hM : mkOk M g (2 ^ dp)) (fv fw : Nat → Int32) : ∀ i : Nat, i ≤ 2 ^ dp - 1 → ∀ k, k < (cvI M (2 ^ dp) fv fw i).1 → jSub dp ((cvI M (2 ^ dp) fv fw i).2.1 k) ((cvI M (2 ^ dp) fv fw i).2.2 k) = true
  | 0, _, k, hk => by
    unfold cvI at hk ⊢
    by_cases h0 : M 1 = 0
    · rw [if_pos h0] at hk ⊢
      have hk1 : k < 1 := hk
      obtain rfl : k = 0 := by omega
      rfl
    · rw [if_neg h0] at hk
      exact absurd hk (Nat.not_lt_zero _)
  | i + 1, hi, k, hk => by
    have ih := cvI_sub hdp hM fv fw i (by omega)
    by_cases hB : cvB M (2 ^ dp) (i + 1)
    · have hv := (cvB_ch hB).1
      rw [cvI_t hdp hM fv fw hv hB] at hk ⊢
      dsimp only at hk ⊢
      unfold upd
      by_cases hkq : k = (cvI M (2 ^ dp) fv fw i).1
      · rw [if_pos hkq, if_pos hkq]
        exact last_sub hdp (by omega) hv hB.2.2
      · rw [if_neg hkq, if_neg hkq]
        exact ih k (by omega)
    · rw [cvI_f fv fw hB] at hk ⊢
      exact ih k hk
theorem cov_sub {M g : Nat → Int32} {dp : Nat} (hdp : dp ≤ 8) (hM : mkOk M g (2 ^ dp)) (fv fw : Nat → Int32) {k : Nat} (hk : k < (jCov M (2 ^ dp) fv fw).1) : jSub dp ((jCov M (2 ^ dp) fv fw).2.1 k) ((jCov M (2 ^ dp) fv fw).2.2 k) = true := by
  rw [← cvI_end] at hk ⊢
  exact cvI_sub hdp hM fv fw _ (Nat.le_refl _) k hk
theorem cntDZ {dec : Nat → Option Nat} {ins : Nat → Int32} : ∀ n : Nat, (∀ d, d < n → (dec d = none ↔ ins d = 0)) → cntD dec n = cntZ ins n
  | 0, _ => rfl
  | n + 1, h => by
    have ih := cntDZ (dec := dec) (ins := ins) n (fun d hd => h d (by omega))
    unfold cntD cntZ
    by_cases hn : dec n = none
    · rw [if_pos hn, if_pos ((h n (by omega)).mp hn), ih]
    · rw [if_neg hn, if_neg (fun z => hn ((h n (by omega)).mpr z)), ih]
theorem cntZ_cg {f g : Nat → Int32} : ∀ n : Nat, (∀ j, j < n → f j = g j) → cntZ f n = cntZ g n
  | 0, _ => rfl
  | n + 1, h => by
    have ih := cntZ_cg (f := f) (g := g) n (fun d hd => h d (by omega))
    unfold cntZ
    rw [h n (by omega), ih]
theorem cntZ_add (f : Nat → Int32) (a : Nat) : ∀ b : Nat, cntZ f (a + b) = cntZ f a + cntZ (fun j => f (a + j)) b
  | 0 => rfl
  | b + 1 => by
    have ih := cntZ_add f a b
    show (if f (a + b) = 0 then cntZ f (a + b) else cntZ f (a + b) + 1) = cntZ f a + (if f (a + b) = 0 then cntZ (fun j => f (a + j)) b else cntZ (fun j => f (a + j)) b + 1)
    rw [ih]
    split <;> omega
theorem cntZ_4 {sb : Nat → Int32} {fs : Nat → Nat → Int32} (h : ∀ c, c < 4 → ∀ j, j < 256 → sb (256 * c + j) = fs c j) : cntZ (fs 0) 256 + cntZ (fs 1) 256 + cntZ (fs 2) 256 + cntZ (fs 3) 256 = cntZ sb 1024 := by
  rw [show (1024 : Nat) = 256 + 256 + 256 + 256 from rfl, cntZ_add, cntZ_add, cntZ_add]
  rw [cntZ_cg (f := sb) (g := fs 0) 256 (fun j hj => by have := h 0 (by omega) j hj; rw [← this]; congr 1; omega),
    cntZ_cg (f := fun j => sb (256 + j)) (g := fs 1) 256 (fun j hj => by have := h 1 (by omega) j hj; rw [← this]),
    cntZ_cg (f := fun j => sb (256 + 256 + j)) (g := fs 2) 256 (fun j hj => by have := h 2 (by omega) j hj; rw [← this]),
    cntZ_cg (f := fun j => sb (256 + 256 + 256 + j)) (g := fs 3) 256 (fun j hj => by have := h 3 (by omega) j hj; rw [← this])]
/-- every element is a byte -/
def by8 (f : Nat → Int32) : Prop := ∀ j, f j &&& nI 255 = f j
theorem by8_upd {f : Nat → Int32} (h : by8 f) (k : Nat) {x : Int32} (hx : x &&& nI 255 = x) : by8 (upd f k x) := fun j => by
  unfold upd
  split
  · exact hx
  · exact h j
theorem m255 (x : Int32) : (x &&& nI 255) &&& nI 255 = x &&& nI 255 := by rw [Int32.and_assoc, Int32.and_self]
theorem by8_put {f : Nat → Int32} (h : by8 f) (v : Int64) (z q : Nat) : ∀ n : Nat, by8 (jPut v z q f n)
  | 0 => h
  | n + 1 => by8_upd (by8_put h v z q n) _ (m255 _)
theorem by8_ent {f : Nat → Int32} (h : by8 f) (n : Nat) (v w : Int32) (q : Q3) : by8 (jEnt n f v w q) := by8_put (by8_put (by8_put (by8_put (by8_put h _ _ _ _) _ _ _ _) _ _ _ _) _ _ _ _) _ _ _ _
theorem by8_hd {f : Nat → Int32} (h : by8 f) (c q n pk : Nat) : by8 (jHd f c q n pk) := by8_put (by8_put (by8_put (by8_put h _ _ _ _) _ _ _ _) _ _ _ _) _ _ _ _
theorem by8_ets {f : Nat → Int32} (h : by8 f) (fv fw : Nat → Int32) (b : Nat) (sh sl h1 l1 : Int64) : ∀ i : Nat, by8 (jEts f fv fw b sh sl h1 l1 i)
  | 0 => h
  | i + 1 => by8_ent (by8_ets h fv fw b sh sl h1 l1 i) _ _ _ _
theorem by8_ex {x : Int32} (h : x &&& nI 255 = x) : ∃ a, a < 256 ∧ x = nI a := by
  have e := congrArg un h
  rw [un_and, un_nI (by decide)] at e
  refine ⟨un x, ?_, (nI_un x).symm⟩
  rw [← e]
  exact Nat.lt_of_le_of_lt Nat.and_le_right (by decide)
theorem sh8_all : ∀ a, a < 256 → (lsh (lsh (lN 0) (nI 8) ||| (nI a).toInt64) (nI 8)).toInt32 = nI (256 * a) := by decide +kernel
/-- a period that was heard is none below 0 -/
theorem rd_pos {f : Nat → Int32} (h : by8 f) : ¬ (jRd f 1 2).toInt32 < 0 := by
  obtain ⟨a, ha, ea⟩ := by8_ex (h 1)
  obtain ⟨b, hb, eb⟩ := by8_ex (h 2)
  show ¬ (lsh (lsh (lN 0) (nI 8) ||| (f 1).toInt64) (nI 8) ||| (f 2).toInt64).toInt32 < 0
  rw [Int64.toInt32_or, ea, eb, sh8_all a ha, Int32.toInt32_toInt64]
  have e : nI (256 * a) ||| nI b = nI (256 * a ||| b) := by
    apply un_inj
    rw [un_or, un_nI (by omega), un_nI (by omega), un_nI (Nat.lt_of_lt_of_le (Nat.or_lt_two_pow (n := 16) (by omega) (by omega)) (by decide))]
  rw [e]
  exact nI_pos (Nat.lt_of_lt_of_le (Nat.or_lt_two_pow (n := 16) (by omega) (by omega)) (by decide))
