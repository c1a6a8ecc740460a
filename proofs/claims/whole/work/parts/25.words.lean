/-! the key's words as columns of bytes -/
def sB (j : Nat) : Nat := ckSL.getD j 0
def sV (j : Nat) : Nat := ckUL.getD j 0
theorem sB_all : ∀ j, j < 256 → ckSL.getD j 0 < 256 := by decide +kernel
theorem sV_all : ∀ j, j < 256 → ckUL.getD j 0 < 256 := by decide +kernel
theorem ckSL_len : ckSL.length = 256 := by decide +kernel
theorem ckUL_len : ckUL.length = 256 := by decide +kernel
theorem sB_lt (j : Nat) : sB j < 256 := by
  by_cases h : j < 256
  · exact sB_all j h
  · unfold sB
    rw [List.getD_eq_getElem?_getD, List.getElem?_eq_none (by rw [ckSL_len]; omega)]
    decide
theorem sV_lt (j : Nat) : sV j < 256 := by
  by_cases h : j < 256
  · exact sV_all j h
  · unfold sV
    rw [List.getD_eq_getElem?_getD, List.getElem?_eq_none (by rw [ckUL_len]; omega)]
    decide
abbrev Co : Type := Nat × Nat × Nat × Nat
def coOk (c : Co) : Prop := c.1 < 256 ∧ c.2.1 < 256 ∧ c.2.2.1 < 256 ∧ c.2.2.2 < 256
def cX (c d : Co) : Co := (c.1 ^^^ d.1, c.2.1 ^^^ d.2.1, c.2.2.1 ^^^ d.2.2.1, c.2.2.2 ^^^ d.2.2.2)
theorem cX_ok {c d : Co} (hc : coOk c) (hd : coOk d) : coOk (cX c d) := ⟨xor_b hc.1 hd.1, xor_b hc.2.1 hd.2.1, xor_b hc.2.2.1 hd.2.2.1, xor_b hc.2.2.2 hd.2.2.2⟩
def kPw : Nat → Nat
  | 0 => 1
  | n + 1 => if n % 4 = 0 then rPd (kPw n) 2 else kPw n
theorem kPw_lt : ∀ n, kPw n < 256
  | 0 => by show 1 < 256; decide
  | n + 1 => by
    unfold kPw
    split
    · exact rPd_lt (kPw_lt n)
    · exact kPw_lt n
/-- what the column before gives to the next: every fourth time turned, looked up, and with the power -/
def kG (n : Nat) (c : Co) : Co := if n % 4 = 0 then (sB c.2.1 ^^^ kPw n, sB c.2.2.1 ^^^ 0, sB c.2.2.2 ^^^ 0, sB c.1 ^^^ 0) else c
theorem kG_ok {n : Nat} {c : Co} (hc : coOk c) : coOk (kG n c) := by
  unfold kG
  split
  · exact ⟨xor_b (sB_lt _) (kPw_lt n), xor_b (sB_lt _) (by decide), xor_b (sB_lt _) (by decide), xor_b (sB_lt _) (by decide)⟩
  · exact hc
/-- four columns; at n: the columns n, n+1, n+2, n+3 -/
def kS (c0 c1 c2 c3 : Co) : Nat → Co × Co × Co × Co
  | 0 => (c0, c1, c2, c3)
  | n + 1 => ((kS c0 c1 c2 c3 n).2.1, (kS c0 c1 c2 c3 n).2.2.1, (kS c0 c1 c2 c3 n).2.2.2, cX (kS c0 c1 c2 c3 n).1 (kG n (kS c0 c1 c2 c3 n).2.2.2))
def rC (kh kl : Int64) (i : Nat) : Co := (rBy kh kl (4 * i), rBy kh kl (4 * i + 1), rBy kh kl (4 * i + 2), rBy kh kl (4 * i + 3))
/-- column n of the key's words -/
def col (kh kl : Int64) (n : Nat) : Co := (kS (rC kh kl 0) (rC kh kl 1) (rC kh kl 2) (rC kh kl 3) n).1
theorem col_3 (kh kl : Int64) (n : Nat) : col kh kl (n + 3) = (kS (rC kh kl 0) (rC kh kl 1) (rC kh kl 2) (rC kh kl 3) n).2.2.2 := rfl
theorem col_4 (kh kl : Int64) (n : Nat) : col kh kl (n + 4) = cX (col kh kl n) (kG n (col kh kl (n + 3))) := rfl
theorem kS_ok (kh kl : Int64) : ∀ n, coOk (kS (rC kh kl 0) (rC kh kl 1) (rC kh kl 2) (rC kh kl 3) n).1 ∧ coOk (kS (rC kh kl 0) (rC kh kl 1) (rC kh kl 2) (rC kh kl 3) n).2.1 ∧ coOk (kS (rC kh kl 0) (rC kh kl 1) (rC kh kl 2) (rC kh kl 3) n).2.2.1 ∧ coOk (kS (rC kh kl 0) (rC kh kl 1) (rC kh kl 2) (rC kh kl 3) n).2.2.2
  | 0 => ⟨⟨rBy_lt _ _ _, rBy_lt _ _ _, rBy_lt _ _ _, rBy_lt _ _ _⟩, ⟨rBy_lt _ _ _, rBy_lt _ _ _, rBy_lt _ _ _, rBy_lt _ _ _⟩, ⟨rBy_lt _ _ _, rBy_lt _ _ _, rBy_lt _ _ _, rBy_lt _ _ _⟩, ⟨rBy_lt _ _ _, rBy_lt _ _ _, rBy_lt _ _ _, rBy_lt _ _ _⟩⟩
  | n + 1 => by
    obtain ⟨h1, h2, h3, h4⟩ := kS_ok kh kl n
    exact ⟨h2, h3, h4, cX_ok h1 (kG_ok h4)⟩
theorem col_ok (kh kl : Int64) (n : Nat) : coOk (col kh kl n) := (kS_ok kh kl n).1
def cAt (c : Co) : Nat → Nat
  | 0 => c.1
  | 1 => c.2.1
  | 2 => c.2.2.1
  | _ => c.2.2.2
theorem cAt_lt {c : Co} (h : coOk c) : ∀ k, cAt c k < 256
  | 0 => h.1
  | 1 => h.2.1
  | 2 => h.2.2.1
  | _ + 3 => h.2.2.2
/-- byte j of the key's words -/
def rW (kh kl : Int64) (j : Nat) : Nat := cAt (col kh kl (j / 4)) (j % 4)
theorem rW_lt (kh kl : Int64) (j : Nat) : rW kh kl j < 256 := cAt_lt (col_ok kh kl _) _
theorem rW_at (kh kl : Int64) (n k : Nat) (hk : k < 4) : rW kh kl (4 * n + k) = cAt (col kh kl n) k := by
  unfold rW
  rw [show (4 * n + k) / 4 = n by omega, show (4 * n + k) % 4 = k by omega]
theorem rW_lo (kh kl : Int64) : ∀ j, j < 16 → rW kh kl j = rBy kh kl j
  | 0, _ => rfl
  | 1, _ => rfl
  | 2, _ => rfl
  | 3, _ => rfl
  | 4, _ => rfl
  | 5, _ => rfl
  | 6, _ => rfl
  | 7, _ => rfl
  | 8, _ => rfl
  | 9, _ => rfl
  | 10, _ => rfl
  | 11, _ => rfl
  | 12, _ => rfl
  | 13, _ => rfl
  | 14, _ => rfl
  | 15, _ => rfl
  | _ + 16, h => by omega
theorem rW_n (kh kl : Int64) {n k : Nat} (hm : ¬ n % 4 = 0) (hk : k < 4) : rW kh kl (4 * (n + 4) + k) = rW kh kl (4 * n + k) ^^^ rW kh kl (4 * (n + 3) + k) := by
  rw [rW_at _ _ _ _ hk, rW_at _ _ _ _ hk, rW_at _ _ _ _ hk, col_4, kG, if_neg hm]
  match k, hk with
  | 0, _ => rfl
  | 1, _ => rfl
  | 2, _ => rfl
  | 3, _ => rfl
theorem rW_p0 (kh kl : Int64) {n : Nat} (hm : n % 4 = 0) : rW kh kl (4 * (n + 4) + 0) = rW kh kl (4 * n + 0) ^^^ (sB (rW kh kl (4 * (n + 3) + 1)) ^^^ kPw n) := by
  rw [rW_at _ _ _ _ (by decide), rW_at _ _ _ _ (by decide), rW_at _ _ _ _ (by decide), col_4, kG, if_pos hm]
  rfl
theorem rW_p1 (kh kl : Int64) {n : Nat} (hm : n % 4 = 0) : rW kh kl (4 * (n + 4) + 1) = rW kh kl (4 * n + 1) ^^^ (sB (rW kh kl (4 * (n + 3) + 2)) ^^^ 0) := by
  rw [rW_at _ _ _ _ (by decide), rW_at _ _ _ _ (by decide), rW_at _ _ _ _ (by decide), col_4, kG, if_pos hm]
  rfl
theorem rW_p2 (kh kl : Int64) {n : Nat} (hm : n % 4 = 0) : rW kh kl (4 * (n + 4) + 2) = rW kh kl (4 * n + 2) ^^^ (sB (rW kh kl (4 * (n + 3) + 3)) ^^^ 0) := by
  rw [rW_at _ _ _ _ (by decide), rW_at _ _ _ _ (by decide), rW_at _ _ _ _ (by decide), col_4, kG, if_pos hm]
  rfl
theorem rW_p3 (kh kl : Int64) {n : Nat} (hm : n % 4 = 0) : rW kh kl (4 * (n + 4) + 3) = rW kh kl (4 * n + 3) ^^^ (sB (rW kh kl (4 * (n + 3) + 0)) ^^^ 0) := by
  rw [rW_at _ _ _ _ (by decide), rW_at _ _ _ _ (by decide), rW_at _ _ _ _ (by decide), col_4, kG, if_pos hm]
  rfl
/-! the rounds, byte by byte -/
def rSb (f : Nat → Nat) : Nat → Nat := fun j => sB (f j)
def rUb (f : Nat → Nat) : Nat → Nat := fun j => sV (f j)
def rTu (t : Nat) (f : Nat → Nat) : Nat → Nat := fun j => f ((j + 4 * t * (j % 4)) % 16)
def rMx (f : Nat → Nat) : Nat → Nat := fun j => rPd (f j) 2 ^^^ rPd (f (j - j % 4 + (j + 1) % 4)) 3 ^^^ f (j - j % 4 + (j + 2) % 4) ^^^ f (j - j % 4 + (j + 3) % 4)
def rAd (wd : Nat → Nat) (rd : Nat) (f : Nat → Nat) : Nat → Nat := fun j => f j ^^^ wd (16 * rd + j)
theorem rSb_lt (f : Nat → Nat) : ∀ j, rSb f j < 256 := fun _ => sB_lt _
theorem rUb_lt (f : Nat → Nat) : ∀ j, rUb f j < 256 := fun _ => sV_lt _
theorem rTu_lt {t : Nat} {f : Nat → Nat} (h : ∀ j, f j < 256) : ∀ j, rTu t f j < 256 := fun _ => h _
theorem rMx_lt {f : Nat → Nat} (h : ∀ j, f j < 256) : ∀ j, rMx f j < 256 := fun _ => xor_b (xor_b (xor_b (rPd_lt (h _)) (rPd_lt (h _))) (h _)) (h _)
theorem rAd_lt {wd : Nat → Nat} {rd : Nat} {f : Nat → Nat} (hw : ∀ j, wd j < 256) (h : ∀ j, f j < 256) : ∀ j, rAd wd rd f j < 256 := fun _ => xor_b (h _) (hw _)
def rEn (wd f : Nat → Nat) : Nat → (Nat → Nat)
  | 0 => rAd wd 0 f
  | n + 1 => if n + 1 < 10 then rAd wd (n + 1) (rMx (rTu 1 (rSb (rEn wd f n)))) else rAd wd (n + 1) (rTu 1 (rSb (rEn wd f n)))
def rDn (wd f : Nat → Nat) : Nat → (Nat → Nat)
  | 0 => f
  | n + 1 => if 10 - n < 10 then rUb (rTu 3 (rMx (rMx (rMx (rAd wd (10 - n) (rDn wd f n)))))) else rUb (rTu 3 (rAd wd (10 - n) (rDn wd f n)))
def rE (kh kl h l : Int64) : Nat → Nat := rEn (rW kh kl) (rBy h l) 10
def rD (kh kl h l : Int64) : Nat → Nat := rAd (rW kh kl) 0 (rDn (rW kh kl) (rBy h l) 10)
/-- the reference's cipher: first and second -/
def rF (kh kl h l : Int64) : Int64 := jRd (bN (rE kh kl h l)) 0 8
def rS (kh kl h l : Int64) : Int64 := jRd (bN (rE kh kl h l)) 8 8
def rG (kh kl h l : Int64) : Int64 := jRd (bN (rD kh kl h l)) 0 8
def rH (kh kl h l : Int64) : Int64 := jRd (bN (rD kh kl h l)) 8 8
def rWs (kh kl : Int64) (t : Nat) (c h l : Int64) : Q3 := (rF kh kl c (jSel t h l) ^^^ (nI t).toInt64, jSel t (rS kh kl c (jSel t h l)) h, jSel t l (rS kh kl c (jSel t h l)))
def rWr (kh kl : Int64) (q : Q3) : Nat → Q3
  | 0 => q
  | n + 1 => rWs kh kl (n + 1) (rWr kh kl q n).1 (rWr kh kl q n).2.1 (rWr kh kl q n).2.2
def rUs (kh kl : Int64) (t : Nat) (c h l : Int64) : Q3 := (rG kh kl (c ^^^ (nI t).toInt64) (jSel t h l), jSel t (rH kh kl (c ^^^ (nI t).toInt64) (jSel t h l)) h, jSel t l (rH kh kl (c ^^^ (nI t).toInt64) (jSel t h l)))
def rUw (kh kl : Int64) (q : Q3) : Nat → Q3
  | 0 => q
  | n + 1 => rUs kh kl (12 - n) (rUw kh kl q n).1 (rUw kh kl q n).2.1 (rUw kh kl q n).2.2
