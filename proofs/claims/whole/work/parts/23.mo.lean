/-! the reference's object: its arrays by number, its numbers; bytes -/
abbrev moC (y : Nat) (r : Nat → Nat) (th : Int32) (fi se : Int64) (d : Int32) (sh sl : Int64) (az : Int32) (oh ol w0 w1 w2 : Int64) : Nat × va_E := oC y 8 [.int th, .ref (r 0), .ref (r 1), .ref (r 2), .ref (r 3), .ref (r 4), .long fi, .long se, .int d, .long sh, .long sl, .ref (r 5), .ref (r 6), .ref (r 7), .ref (r 8), .ref (r 9), .ref (r 10), .ref (r 11), .ref (r 12), .ref (r 13), .ref (r 14), .int az, .ref (r 15), .ref (r 16), .ref (r 17), .long oh, .long ol, .long w0, .long w1, .long w2]
/-- the first n places are g's, the others f's -/
def pN (n : Nat) (g f : Nat → Nat) : Nat → Int32 := fun j => nI (if j < n then g j else f j)
theorem pN_at (n : Nat) (g f : Nat → Nat) : pN n g f n = nI (f n) := by
  unfold pN
  rw [if_neg (Nat.lt_irrefl n)]
theorem pN_lo {n j : Nat} (g f : Nat → Nat) (h : j < n) : pN n g f j = nI (g j) := by
  unfold pN
  rw [if_pos h]
theorem pN_hi {n j : Nat} (g f : Nat → Nat) (h : n ≤ j) : pN n g f j = nI (f j) := by
  unfold pN
  rw [if_neg (by omega)]
theorem pN_upd (n : Nat) (g f : Nat → Nat) : upd (pN n g f) n (nI (g n)) = pN (n + 1) g f := by
  funext j
  unfold upd pN
  by_cases h : j = n
  · rw [if_pos h, if_pos (by omega), h]
  · rw [if_neg h]
    by_cases h2 : j < n
    · rw [if_pos h2, if_pos (by omega)]
    · rw [if_neg h2, if_neg (by omega)]
def bN (f : Nat → Nat) : Nat → Int32 := fun j => nI (f j)
theorem bN_0 (g f : Nat → Nat) : bN f = pN 0 g f := by
  funext j
  unfold bN pN
  rw [if_neg (Nat.not_lt_zero j)]
theorem irm_nI {a d : Nat} (ha : a < 2 ^ 31) (h0 : 0 < d) (hd : d < 2 ^ 31) : irm (nI a) (nI d) = nI (a % d) := pk_rem ha h0 hd
theorem isr_nI {n k : Nat} (h : n < 2 ^ 31) (hk : k < 32) : isr (nI n) (nI k) = nI (n / 2 ^ k) := pk_shrN h _ k (s_l k hk)
theorem ish_nI {n k : Nat} (hk : k < 32) (h : n * 2 ^ k < 2 ^ 32) : ish (nI n) (nI k) = nI (n * 2 ^ k) := pk_shlN _ k (s_l k hk) h
/-- the product of two bytes: its steps, from the highest bit of b -/
def rPs (a b i p : Nat) : Nat := (if b / 2 ^ i % 2 = 1 then (if 255 < p * 2 then (p * 2) ^^^ 283 else p * 2) ^^^ a else (if 255 < p * 2 then (p * 2) ^^^ 283 else p * 2))
def rPr (a b : Nat) : Nat → Nat
  | 0 => 0
  | n + 1 => rPs a b (7 - n) (rPr a b n)
def rPd (a b : Nat) : Nat := rPr a b 8
theorem rPs_red : ∀ p, p < 256 → (if 255 < p * 2 then (p * 2) ^^^ 283 else p * 2) < 256 := by decide +kernel
theorem rPs_lt {a b i p : Nat} (ha : a < 256) (hp : p < 256) : rPs a b i p < 256 := by
  unfold rPs
  have h := rPs_red p hp
  split
  · exact xor_b h ha
  · exact h
theorem rPr_lt {a b : Nat} (ha : a < 256) : ∀ n, rPr a b n < 256
  | 0 => by show 0 < 256; decide
  | n + 1 => rPs_lt ha (rPr_lt ha n)
theorem rPd_lt {a b : Nat} (ha : a < 256) : rPd a b < 256 := rPr_lt ha 8
def rIv (b : Nat) : Nat → Nat
  | 0 => 1
  | n + 1 => rPd (rIv b n) b
theorem rIv_lt (b : Nat) : ∀ n, rIv b n < 256
  | 0 => by show 1 < 256; decide
  | n + 1 => rPd_lt (rIv_lt b n)
def rInv (b : Nat) : Nat := if b = 0 then 0 else rIv b 254
/-- byte k of two longs -/
def rBy (h l : Int64) (k : Nat) : Nat := un ((lsr (if k < 8 then h else l) (nI (56 - 8 * (k % 8)))).toInt32 &&& nI 255)
theorem rBy_lt (h l : Int64) (k : Nat) : rBy h l k < 256 := by
  unfold rBy
  rw [and_nI _ 8 rfl (by decide), un_nI (Nat.lt_trans (Nat.mod_lt _ (by decide)) (by decide))]
  exact Nat.mod_lt _ (by decide)
