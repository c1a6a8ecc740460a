/-! columns of four bytes: the class's words and the reference's bytes -/
def pw (a b c d : Nat) : Nat := ((a * 256 + b) * 256 + c) * 256 + d
theorem pw_lt {a b c d : Nat} (ha : a < 256) (hb : b < 256) (hc : c < 256) (hd : d < 256) : pw a b c d < 4294967296 := by unfold pw; omega
theorem x_256 {x y b d : Nat} (hb : b < 256) (hd : d < 256) : (x * 256 + b) ^^^ (y * 256 + d) = (x ^^^ y) * 256 + (b ^^^ d) := by
  have h1 : ((x * 256 + b) ^^^ (y * 256 + d)) / 2 ^ 8 = (x * 256 + b) / 2 ^ 8 ^^^ (y * 256 + d) / 2 ^ 8 := Nat.xor_div_two_pow
  have h2 : ((x * 256 + b) ^^^ (y * 256 + d)) % 2 ^ 8 = (x * 256 + b) % 2 ^ 8 ^^^ (y * 256 + d) % 2 ^ 8 := Nat.xor_mod_two_pow
  rw [show (x * 256 + b) / 2 ^ 8 = x by omega, show (y * 256 + d) / 2 ^ 8 = y by omega] at h1
  rw [show (x * 256 + b) % 2 ^ 8 = b by omega, show (y * 256 + d) % 2 ^ 8 = d by omega] at h2
  omega
theorem a_256 {x y b d : Nat} (hb : b < 256) (hd : d < 256) : (x * 256 + b) &&& (y * 256 + d) = (x &&& y) * 256 + (b &&& d) := by
  have h1 : ((x * 256 + b) &&& (y * 256 + d)) / 2 ^ 8 = (x * 256 + b) / 2 ^ 8 &&& (y * 256 + d) / 2 ^ 8 := Nat.and_div_two_pow
  have h2 : ((x * 256 + b) &&& (y * 256 + d)) % 2 ^ 8 = (x * 256 + b) % 2 ^ 8 &&& (y * 256 + d) % 2 ^ 8 := Nat.and_mod_two_pow
  rw [show (x * 256 + b) / 2 ^ 8 = x by omega, show (y * 256 + d) / 2 ^ 8 = y by omega] at h1
  rw [show (x * 256 + b) % 2 ^ 8 = b by omega, show (y * 256 + d) % 2 ^ 8 = d by omega] at h2
  omega
theorem o_256 {x y b d : Nat} (hb : b < 256) (hd : d < 256) : (x * 256 + b) ||| (y * 256 + d) = (x ||| y) * 256 + (b ||| d) := by
  have h1 : ((x * 256 + b) ||| (y * 256 + d)) / 2 ^ 8 = (x * 256 + b) / 2 ^ 8 ||| (y * 256 + d) / 2 ^ 8 := Nat.or_div_two_pow
  have h2 : ((x * 256 + b) ||| (y * 256 + d)) % 2 ^ 8 = (x * 256 + b) % 2 ^ 8 ||| (y * 256 + d) % 2 ^ 8 := Nat.or_mod_two_pow
  rw [show (x * 256 + b) / 2 ^ 8 = x by omega, show (y * 256 + d) / 2 ^ 8 = y by omega] at h1
  rw [show (x * 256 + b) % 2 ^ 8 = b by omega, show (y * 256 + d) % 2 ^ 8 = d by omega] at h2
  omega
theorem pw_xor {a b c d a' b' c' d' : Nat} (hb : b < 256) (hc : c < 256) (hd : d < 256) (hb' : b' < 256) (hc' : c' < 256) (hd' : d' < 256) : pw a b c d ^^^ pw a' b' c' d' = pw (a ^^^ a') (b ^^^ b') (c ^^^ c') (d ^^^ d') := by
  unfold pw
  rw [x_256 hd hd', x_256 hc hc', x_256 hb hb']
theorem pw_and {a b c d a' b' c' d' : Nat} (hb : b < 256) (hc : c < 256) (hd : d < 256) (hb' : b' < 256) (hc' : c' < 256) (hd' : d' < 256) : pw a b c d &&& pw a' b' c' d' = pw (a &&& a') (b &&& b') (c &&& c') (d &&& d') := by
  unfold pw
  rw [a_256 hd hd', a_256 hc hc', a_256 hb hb']
theorem pw_or {a b c d a' b' c' d' : Nat} (hb : b < 256) (hc : c < 256) (hd : d < 256) (hb' : b' < 256) (hc' : c' < 256) (hd' : d' < 256) : pw a b c d ||| pw a' b' c' d' = pw (a ||| a') (b ||| b') (c ||| c') (d ||| d') := by
  unfold pw
  rw [o_256 hd hd', o_256 hc hc', o_256 hb hb']
/-- a column -/
def pI (a b c d : Nat) : Int32 := nI (pw a b c d)
theorem un_pI {a b c d : Nat} (ha : a < 256) (hb : b < 256) (hc : c < 256) (hd : d < 256) : un (pI a b c d) = pw a b c d := un_nI (pw_lt ha hb hc hd)
theorem pI_xor {a b c d a' b' c' d' : Nat} (ha : a < 256) (hb : b < 256) (hc : c < 256) (hd : d < 256) (ha' : a' < 256) (hb' : b' < 256) (hc' : c' < 256) (hd' : d' < 256) : pI a b c d ^^^ pI a' b' c' d' = pI (a ^^^ a') (b ^^^ b') (c ^^^ c') (d ^^^ d') := by
  have x8 : ∀ {u v : Nat}, u < 256 → v < 256 → u ^^^ v < 256 := fun hu hv => Nat.xor_lt_two_pow (n := 8) hu hv
  apply un_inj
  rw [un_xor, un_pI ha hb hc hd, un_pI ha' hb' hc' hd', un_pI (x8 ha ha') (x8 hb hb') (x8 hc hc') (x8 hd hd'), pw_xor hb hc hd hb' hc' hd']
theorem xor_b {u v : Nat} (hu : u < 256) (hv : v < 256) : u ^^^ v < 256 := Nat.xor_lt_two_pow (n := 8) hu hv
/-- twice a byte -/
def xt (b : Nat) : Nat := (b % 128 * 2) ^^^ (b / 128 * 27)
theorem xt_lt {b : Nat} (h : b < 256) : xt b < 256 := by
  unfold xt
  exact xor_b (by omega) (by omega)
theorem pI_twice {a b c d : Nat} (ha : a < 256) (hb : b < 256) (hc : c < 256) (hd : d < 256) : jTwice (pI a b c d) = pI (xt a) (xt b) (xt c) (xt d) := by
  apply un_inj
  have m7 : ∀ x : Nat, x &&& 127 = x % 128 := fun x => Nat.and_two_pow_sub_one_eq_mod x 7
  have m1 : ∀ x : Nat, x &&& 1 = x % 2 := fun x => Nat.and_two_pow_sub_one_eq_mod x 1
  have e1 : un (pI a b c d &&& nI 2139062143) = pw (a % 128) (b % 128) (c % 128) (d % 128) := by
    rw [un_and, un_pI ha hb hc hd, un_nI (by decide), show (2139062143 : Nat) = pw 127 127 127 127 from rfl, pw_and hb hc hd (by decide) (by decide) (by decide), m7, m7, m7, m7]
  have e2 : un (ish (pI a b c d &&& nI 2139062143) (nI 1)) = pw (a % 128 * 2) (b % 128 * 2) (c % 128 * 2) (d % 128 * 2) := by
    rw [un_ish _ (by decide), e1]
    unfold pw
    omega
  have e3 : un (ush (pI a b c d) (nI 7)) = pw (a / 128) (a % 128 * 2 + b / 128) (b % 128 * 2 + c / 128) (c % 128 * 2 + d / 128) := by
    rw [un_ush _ (by decide), un_pI ha hb hc hd]
    unfold pw
    omega
  have e4 : un (ush (pI a b c d) (nI 7) &&& nI 16843009) = pw (a / 128) (b / 128) (c / 128) (d / 128) := by
    rw [un_and, e3, un_nI (by decide), show (16843009 : Nat) = pw 1 1 1 1 from rfl, pw_and (by omega) (by omega) (by omega) (by decide) (by decide) (by decide), m1, m1, m1, m1]
    unfold pw
    omega
  have e5 : un ((ush (pI a b c d) (nI 7) &&& nI 16843009) * nI 27) = pw (a / 128 * 27) (b / 128 * 27) (c / 128 * 27) (d / 128 * 27) := by
    rw [un_mul, e4, un_nI (by decide)]
    unfold pw
    omega
  unfold jTwice
  rw [un_xor, e2, e5, pw_xor (by omega) (by omega) (by omega) (by omega) (by omega) (by omega), un_pI (xt_lt ha) (xt_lt hb) (xt_lt hc) (xt_lt hd)]
  rfl
theorem pI_turn8 {a b c d : Nat} (ha : a < 256) (hb : b < 256) (hc : c < 256) (hd : d < 256) : jTurn (pI a b c d) (nI 8) = pI b c d a := by
  apply un_inj
  have e0 : nI 32 - nI 8 = nI 24 := by decide
  have e1 : un (ish (pI a b c d) (nI 8)) = pw b c d 0 := by
    rw [un_ish _ (by decide), un_pI ha hb hc hd]; unfold pw; omega
  have e2 : un (ush (pI a b c d) (nI 24)) = pw 0 0 0 a := by
    rw [un_ush _ (by decide), un_pI ha hb hc hd]; unfold pw; omega
  unfold jTurn
  rw [e0, un_or, e1, e2, pw_or hc hd (by decide) (by decide) (by decide) ha, un_pI hb hc hd ha, Nat.or_zero, Nat.or_zero, Nat.or_zero, Nat.zero_or]
theorem pI_turn16 {a b c d : Nat} (ha : a < 256) (hb : b < 256) (hc : c < 256) (hd : d < 256) : jTurn (pI a b c d) (nI 16) = pI c d a b := by
  apply un_inj
  have e0 : nI 32 - nI 16 = nI 16 := by decide
  have e1 : un (ish (pI a b c d) (nI 16)) = pw c d 0 0 := by
    rw [un_ish _ (by decide), un_pI ha hb hc hd]; unfold pw; omega
  have e2 : un (ush (pI a b c d) (nI 16)) = pw 0 0 a b := by
    rw [un_ush _ (by decide), un_pI ha hb hc hd]; unfold pw; omega
  unfold jTurn
  rw [e0, un_or, e1, e2, pw_or hd (by decide) (by decide) (by decide) ha hb, un_pI hc hd ha hb, Nat.or_zero, Nat.or_zero, Nat.zero_or, Nat.zero_or]
theorem pI_turn24 {a b c d : Nat} (ha : a < 256) (hb : b < 256) (hc : c < 256) (hd : d < 256) : jTurn (pI a b c d) (nI 24) = pI d a b c := by
  apply un_inj
  have e0 : nI 32 - nI 24 = nI 8 := by decide
  have e1 : un (ish (pI a b c d) (nI 24)) = pw d 0 0 0 := by
    rw [un_ish _ (by decide), un_pI ha hb hc hd]; unfold pw; omega
  have e2 : un (ush (pI a b c d) (nI 8)) = pw 0 a b c := by
    rw [un_ush _ (by decide), un_pI ha hb hc hd]; unfold pw; omega
  unfold jTurn
  rw [e0, un_or, e1, e2, pw_or (by decide) (by decide) (by decide) ha hb hc, un_pI hd ha hb hc, Nat.or_zero, Nat.zero_or, Nat.zero_or, Nat.zero_or]
/-- a byte of a mixed column -/
def mb (a b c d : Nat) : Nat := xt a ^^^ (xt b ^^^ b) ^^^ c ^^^ d
theorem mb_lt {a b c d : Nat} (ha : a < 256) (hb : b < 256) (hc : c < 256) (hd : d < 256) : mb a b c d < 256 := xor_b (xor_b (xor_b (xt_lt ha) (xor_b (xt_lt hb) hb)) hc) hd
theorem pI_mix {a b c d : Nat} (ha : a < 256) (hb : b < 256) (hc : c < 256) (hd : d < 256) : jMix (pI a b c d) = pI (mb a b c d) (mb b c d a) (mb c d a b) (mb d a b c) := by
  have ta := xt_lt ha
  have tb := xt_lt hb
  have tc := xt_lt hc
  have td := xt_lt hd
  unfold jMix
  rw [pI_twice ha hb hc hd, pI_xor ta tb tc td ha hb hc hd, pI_turn8 (xor_b ta ha) (xor_b tb hb) (xor_b tc hc) (xor_b td hd), pI_turn16 ha hb hc hd, pI_turn24 ha hb hc hd,
    pI_xor ta tb tc td (xor_b tb hb) (xor_b tc hc) (xor_b td hd) (xor_b ta ha), pI_xor (xor_b ta (xor_b tb hb)) (xor_b tb (xor_b tc hc)) (xor_b tc (xor_b td hd)) (xor_b td (xor_b ta ha)) hc hd ha hb,
    pI_xor (xor_b (xor_b ta (xor_b tb hb)) hc) (xor_b (xor_b tb (xor_b tc hc)) hd) (xor_b (xor_b tc (xor_b td hd)) ha) (xor_b (xor_b td (xor_b ta ha)) hb) hd ha hb hc]
  rfl
theorem xt_xor {a b : Nat} (ha : a < 256) (hb : b < 256) : xt (a ^^^ b) = xt a ^^^ xt b := by
  have h2 : ∀ x y : Nat, (x ^^^ y) * 2 = x * 2 ^^^ y * 2 := by
    intro x y
    apply Nat.eq_of_testBit_eq
    intro i
    rw [Nat.testBit_xor, Nat.mul_comm _ 2, Nat.mul_comm x 2, Nat.mul_comm y 2, show (2 : Nat) = 2 ^ 1 from rfl, Nat.testBit_two_pow_mul, Nat.testBit_two_pow_mul, Nat.testBit_two_pow_mul, Nat.testBit_xor]
    cases decide (1 ≤ i) <;> simp
  have m : (a ^^^ b) % 128 = a % 128 ^^^ b % 128 := Nat.xor_mod_two_pow (n := 7)
  have v : (a ^^^ b) / 128 = a / 128 ^^^ b / 128 := Nat.xor_div_two_pow (n := 7)
  have h27 : ∀ x : Nat, x < 2 → ∀ y : Nat, y < 2 → (x ^^^ y) * 27 = x * 27 ^^^ y * 27 := by decide
  unfold xt
  rw [m, v, h2, h27 _ (by omega) _ (by omega)]
  apply Nat.eq_of_testBit_eq
  intro i
  simp only [Nat.testBit_xor]
  generalize Nat.testBit (a % 128 * 2) i = p
  generalize Nat.testBit (b % 128 * 2) i = q
  generalize Nat.testBit (a / 128 * 27) i = r
  generalize Nat.testBit (b / 128 * 27) i = t
  revert p q r t
  decide
theorem mb_2 {a b c d : Nat} (ha : a < 256) (hb : b < 256) (hc : c < 256) (hd : d < 256) : mb (mb a b c d) (mb b c d a) (mb c d a b) (mb d a b c) = a ^^^ xt (xt (a ^^^ c)) := by
  have ta := xt_lt ha
  have tb := xt_lt hb
  have tc := xt_lt hc
  have td := xt_lt hd
  have l4 : ∀ {a b c d : Nat}, a < 256 → b < 256 → c < 256 → d < 256 → xt (mb a b c d) = xt (xt a) ^^^ (xt (xt b) ^^^ xt b) ^^^ xt c ^^^ xt d := by
    intro a b c d ha hb hc hd
    unfold mb
    rw [xt_xor (xor_b (xor_b (xt_lt ha) (xor_b (xt_lt hb) hb)) hc) hd, xt_xor (xor_b (xt_lt ha) (xor_b (xt_lt hb) hb)) hc, xt_xor (xt_lt ha) (xor_b (xt_lt hb) hb), xt_xor (xt_lt hb) hb]
  rw [xt_xor ha hc, xt_xor ta tc, mb, l4 ha hb hc hd, l4 hb hc hd ha]
  unfold mb
  generalize xt (xt a) = a2
  generalize xt (xt b) = b2
  generalize xt (xt c) = c2
  generalize xt (xt d) = d2
  generalize xt a = a1
  generalize xt b = b1
  generalize xt c = c1
  generalize xt d = d1
  apply Nat.eq_of_testBit_eq
  intro i
  simp only [Nat.testBit_xor]
  generalize a.testBit i = p0
  generalize b.testBit i = p1
  generalize c.testBit i = p2
  generalize d.testBit i = p3
  generalize a1.testBit i = p4
  generalize b1.testBit i = p5
  generalize c1.testBit i = p6
  generalize d1.testBit i = p7
  generalize a2.testBit i = p8
  generalize b2.testBit i = p9
  generalize c2.testBit i = p10
  generalize d2.testBit i = p11
  revert p0 p1 p2 p3 p4 p5 p6 p7 p8 p9 p10 p11
  decide +kernel
/-- unmix is mix three times -/
theorem pI_unmix {a b c d : Nat} (ha : a < 256) (hb : b < 256) (hc : c < 256) (hd : d < 256) : jUnmix (pI a b c d) = jMix (jMix (jMix (pI a b c d))) := by
  have e : ∀ {a c : Nat}, a < 256 → c < 256 → xt (xt (a ^^^ c)) < 256 := fun h1 h2 => xt_lt (xt_lt (xor_b h1 h2))
  rw [pI_mix ha hb hc hd, pI_mix (mb_lt ha hb hc hd) (mb_lt hb hc hd ha) (mb_lt hc hd ha hb) (mb_lt hd ha hb hc), mb_2 ha hb hc hd, mb_2 hb hc hd ha, mb_2 hc hd ha hb, mb_2 hd ha hb hc]
  unfold jUnmix
  rw [pI_turn16 ha hb hc hd, pI_xor ha hb hc hd hc hd ha hb, pI_twice (xor_b ha hc) (xor_b hb hd) (xor_b hc ha) (xor_b hd hb), pI_twice (xt_lt (xor_b ha hc)) (xt_lt (xor_b hb hd)) (xt_lt (xor_b hc ha)) (xt_lt (xor_b hd hb)),
    pI_xor ha hb hc hd (e ha hc) (e hb hd) (e hc ha) (e hd hb)]
theorem pI_gat {f : Nat → Int32} {S : Nat → Nat} (hf : ∀ j, f j = nI (S j)) (hS : ∀ j, S j < 256) {a0 a1 a2 a3 b0 b1 b2 b3 c0 c1 c2 c3 d0 d1 d2 d3 : Nat} (ha0 : a0 < 256) (ha1 : a1 < 256) (ha2 : a2 < 256) (ha3 : a3 < 256)
    (hb0 : b0 < 256) (hb1 : b1 < 256) (hb2 : b2 < 256) (hb3 : b3 < 256) (hc0 : c0 < 256) (hc1 : c1 < 256) (hc2 : c2 < 256) (hc3 : c3 < 256) (hd0 : d0 < 256) (hd1 : d1 < 256) (hd2 : d2 < 256) (hd3 : d3 < 256) :
    jGat f (pI a0 a1 a2 a3) (pI b0 b1 b2 b3) (pI c0 c1 c2 c3) (pI d0 d1 d2 d3) = pI (S a0) (S b1) (S c2) (S d3) := by
  have s0 := hS a0
  have s1 := hS b1
  have s2 := hS c2
  have s3 := hS d3
  have i0 : pw a0 a1 a2 a3 / 16777216 = a0 := by unfold pw; omega
  have i1 : pw b0 b1 b2 b3 / 65536 % 256 = b1 := by unfold pw; omega
  have i2 : pw c0 c1 c2 c3 / 256 % 256 = c2 := by unfold pw; omega
  have i3 : pw d0 d1 d2 d3 % 256 = d3 := by unfold pw; omega
  apply un_inj
  unfold jGat
  rw [un_pI ha0 ha1 ha2 ha3, un_pI hb0 hb1 hb2 hb3, un_pI hc0 hc1 hc2 hc3, un_pI hd0 hd1 hd2 hd3, i0, i1, i2, i3, hf, hf, hf, hf, un_or, un_or, un_or, un_ish _ (by decide), un_ish _ (by decide), un_ish _ (by decide),
    un_nI (by omega), un_nI (by omega), un_nI (by omega), un_nI (by omega), un_pI s0 s1 s2 s3,
    show S a0 * 2 ^ 24 % 4294967296 = pw (S a0) 0 0 0 by (unfold pw; omega), show S b1 * 2 ^ 16 % 4294967296 = pw 0 (S b1) 0 0 by (unfold pw; omega), show S c2 * 2 ^ 8 % 4294967296 = pw 0 0 (S c2) 0 by (unfold pw; omega)]
  rw [pw_or (by decide) (by decide) (by decide) s1 (by decide) (by decide), pw_or (by simpa using s1) (by decide) (by decide) (by decide) s2 (by decide)]
  have h3 : S d3 = pw 0 0 0 (S d3) := by unfold pw; omega
  rw [h3, pw_or (by simpa using s1) (by simpa using s2) (by decide) (by decide) (by decide) s3]
  simp
  exact congrArg (pw (S a0) (S b1) (S c2)) h3
