/-! the cipher of the class and the reference's are one -/
def lu (x : Int64) : Nat := x.toBitVec.toNat
theorem lu_lt (x : Int64) : lu x < 18446744073709551616 := x.toBitVec.isLt
theorem lu_inj {x y : Int64} (h : lu x = lu y) : x = y := Int64.toBitVec_inj.mp (BitVec.eq_of_toNat_eq h)
theorem lu_or (x y : Int64) : lu (x ||| y) = lu x ||| lu y := by simp [lu]
theorem lu_and (x y : Int64) : lu (x &&& y) = lu x &&& lu y := by simp [lu]
theorem lu_xor (x y : Int64) : lu (x ^^^ y) = lu x ^^^ lu y := by simp [lu]
theorem un_l2i (x : Int64) : un x.toInt32 = lu x % 4294967296 := by
  show (x.toInt32).toBitVec.toNat = _
  rw [Int64.toBitVec_toInt32, BitVec.signExtend_eq_setWidth_of_le _ (by decide), BitVec.toNat_setWidth]
  rfl
theorem sl_l : ∀ n, n < 64 → (((nI n).toInt64 &&& 63).toBitVec.smod 64).toNat = n := by decide +kernel
theorem sl_u : ∀ n, n < 64 → (((nI n).toInt64.toUInt64 &&& Int64.toUInt64 63).toBitVec % 64).toNat = n := by decide +kernel
theorem lu_lush (x : Int64) {n : Nat} (hn : n < 64) : lu (lush x (nI n)) = lu x / 2 ^ n := by
  show ((x.toUInt64 >>> ((nI n).toInt64.toUInt64 &&& Int64.toUInt64 63)).toInt64).toBitVec.toNat = _
  have h := sl_u n hn
  show ((x.toUInt64 >>> ((nI n).toInt64.toUInt64 &&& Int64.toUInt64 63))).toBitVec.toNat = _
  rw [UInt64.toBitVec_shiftRight, BitVec.ushiftRight_eq', BitVec.toNat_ushiftRight, h, Nat.shiftRight_eq_div_pow]
  rfl
theorem lu_lsh (x : Int64) {n : Nat} (hn : n < 64) : lu (lsh x (nI n)) = lu x * 2 ^ n % 18446744073709551616 := by
  show ((x <<< ((nI n).toInt64 &&& 63))).toBitVec.toNat = _
  have h := sl_l n hn
  rw [Int64.toBitVec_shiftLeft, BitVec.shiftLeft_eq', BitVec.toNat_shiftLeft, h, Nat.shiftLeft_eq]
  rfl
theorem un_lsr8 (x : Int64) {n : Nat} (hn : n ≤ 56) : un ((lsr x (nI n)).toInt32 &&& nI 255) = lu x / 2 ^ n % 256 := by
  have h := sl_l n (by omega)
  rw [un_and, un_l2i, un_nI (by decide), show (255 : Nat) = 2 ^ 8 - 1 from rfl, Nat.and_two_pow_sub_one_eq_mod]
  have e : lu (lsr x (nI n)) = (x.toBitVec.sshiftRight n).toNat := by
    show ((x >>> ((nI n).toInt64 &&& 63))).toBitVec.toNat = _
    rw [Int64.toBitVec_shiftRight, BitVec.sshiftRight_eq', h]
  rw [e]
  apply Nat.eq_of_testBit_eq
  intro i
  rw [show (256 : Nat) = 2 ^ 8 from rfl, show (4294967296 : Nat) = 2 ^ 32 from rfl, Nat.testBit_mod_two_pow, Nat.testBit_mod_two_pow, Nat.testBit_mod_two_pow, Nat.testBit_div_two_pow]
  by_cases hi : i < 8
  · have h1 : (x.toBitVec.sshiftRight n).getLsbD i = x.toBitVec.getLsbD (n + i) := by
      rw [BitVec.getLsbD_sshiftRight, decide_eq_false (by omega : ¬ 64 ≤ i), if_pos (by omega)]
      rfl
    simp only [hi, show i < 32 by omega, decide_true, Bool.true_and]
    show (x.toBitVec.sshiftRight n).getLsbD i = _
    rw [h1, Nat.add_comm]
    rfl
  · simp only [hi, decide_false, Bool.false_and]
theorem un_lush8 (x : Int64) {n : Nat} (hn : n ≤ 56) : un ((lush x (nI n)).toInt32 &&& nI 255) = lu x / 2 ^ n % 256 := by
  rw [un_and, un_l2i, un_nI (by decide), show (255 : Nat) = 2 ^ 8 - 1 from rfl, Nat.and_two_pow_sub_one_eq_mod, lu_lush x (by omega)]
  omega
/-- a byte of a long: shifted with its sign or without -/
theorem lsr_lush8 (x : Int64) {n : Nat} (hn : n ≤ 56) : (lsr x (nI n)).toInt32 &&& nI 255 = (lush x (nI n)).toInt32 &&& nI 255 := un_inj (by rw [un_lsr8 x hn, un_lush8 x hn])
/-- column c of a block -/
def cw (f : Nat → Nat) (c : Nat) : Int32 := pI (f (4 * c)) (f (4 * c + 1)) (f (4 * c + 2)) (f (4 * c + 3))
theorem rBy_h (h l : Int64) {k : Nat} (hk : k < 8) : rBy h l k = lu h / 2 ^ (56 - 8 * k) % 256 := by
  unfold rBy
  rw [if_pos hk, show k % 8 = k by omega, un_lsr8 _ (by omega)]
theorem rBy_l (h l : Int64) {k : Nat} (hk : k < 8) : rBy h l (8 + k) = lu l / 2 ^ (56 - 8 * k) % 256 := by
  unfold rBy
  rw [if_neg (by omega), show (8 + k) % 8 = k by omega, un_lsr8 _ (by omega)]
theorem pw_64 (x : Nat) (hx : x < 18446744073709551616) : pw (x / 2 ^ 56 % 256) (x / 2 ^ 48 % 256) (x / 2 ^ 40 % 256) (x / 2 ^ 32 % 256) = x / 2 ^ 32 % 4294967296 := by unfold pw; omega
theorem pw_32 (x : Nat) : pw (x / 2 ^ 24 % 256) (x / 2 ^ 16 % 256) (x / 2 ^ 8 % 256) (x / 2 ^ 0 % 256) = x % 4294967296 := by unfold pw; omega
theorem cw_by (h l : Int64) : jD0 h l = (cw (rBy h l) 0, cw (rBy h l) 1, cw (rBy h l) 2, cw (rBy h l) 3) := by
  have e : ∀ x : Int64, (lush x (nI 32)).toInt32 = pI (lu x / 2 ^ 56 % 256) (lu x / 2 ^ 48 % 256) (lu x / 2 ^ 40 % 256) (lu x / 2 ^ 32 % 256) := fun x => un_inj (by
    rw [un_pI (Nat.mod_lt _ (by decide)) (Nat.mod_lt _ (by decide)) (Nat.mod_lt _ (by decide)) (Nat.mod_lt _ (by decide)), pw_64 _ (lu_lt x), un_l2i, lu_lush x (by decide)])
  have e2 : ∀ x : Int64, x.toInt32 = pI (lu x / 2 ^ 24 % 256) (lu x / 2 ^ 16 % 256) (lu x / 2 ^ 8 % 256) (lu x / 2 ^ 0 % 256) := fun x => un_inj (by
    rw [un_pI (Nat.mod_lt _ (by decide)) (Nat.mod_lt _ (by decide)) (Nat.mod_lt _ (by decide)) (Nat.mod_lt _ (by decide)), pw_32, un_l2i])
  unfold jD0
  rw [e, e, e2 h, e2 l]
  unfold cw
  have a0 : rBy h l (4 * 0) = _ := rBy_h h l (k := 0) (by decide)
  have a1 : rBy h l (4 * 0 + 1) = _ := rBy_h h l (k := 1) (by decide)
  have a2 : rBy h l (4 * 0 + 2) = _ := rBy_h h l (k := 2) (by decide)
  have a3 : rBy h l (4 * 0 + 3) = _ := rBy_h h l (k := 3) (by decide)
  have a4 : rBy h l (4 * 1) = _ := rBy_h h l (k := 4) (by decide)
  have a5 : rBy h l (4 * 1 + 1) = _ := rBy_h h l (k := 5) (by decide)
  have a6 : rBy h l (4 * 1 + 2) = _ := rBy_h h l (k := 6) (by decide)
  have a7 : rBy h l (4 * 1 + 3) = _ := rBy_h h l (k := 7) (by decide)
  have b0 : rBy h l (4 * 2) = _ := rBy_l h l (k := 0) (by decide)
  have b1 : rBy h l (4 * 2 + 1) = _ := rBy_l h l (k := 1) (by decide)
  have b2 : rBy h l (4 * 2 + 2) = _ := rBy_l h l (k := 2) (by decide)
  have b3 : rBy h l (4 * 2 + 3) = _ := rBy_l h l (k := 3) (by decide)
  have b4 : rBy h l (4 * 3) = _ := rBy_l h l (k := 4) (by decide)
  have b5 : rBy h l (4 * 3 + 1) = _ := rBy_l h l (k := 5) (by decide)
  have b6 : rBy h l (4 * 3 + 2) = _ := rBy_l h l (k := 6) (by decide)
  have b7 : rBy h l (4 * 3 + 3) = _ := rBy_l h l (k := 7) (by decide)
  rw [a0, a1, a2, a3, a4, a5, a6, a7, b0, b1, b2, b3, b4, b5, b6, b7]
theorem rPd_2 : ∀ a, a < 256 → rPd a 2 = xt a := by decide +kernel
theorem rPd_3 : ∀ a, a < 256 → rPd a 3 = xt a ^^^ a := by decide +kernel
theorem cw_mix {f : Nat → Nat} (hf : ∀ j, f j < 256) (c : Nat) : cw (rMx f) c = jMix (cw f c) := by
  unfold cw
  rw [pI_mix (hf _) (hf _) (hf _) (hf _)]
  unfold rMx mb
  rw [rPd_2 _ (hf _), rPd_2 _ (hf _), rPd_2 _ (hf _), rPd_2 _ (hf _), rPd_3 _ (hf _), rPd_3 _ (hf _), rPd_3 _ (hf _), rPd_3 _ (hf _)]
  rw [show 4 * c - 4 * c % 4 + (4 * c + 1) % 4 = 4 * c + 1 by omega, show 4 * c - 4 * c % 4 + (4 * c + 2) % 4 = 4 * c + 2 by omega, show 4 * c - 4 * c % 4 + (4 * c + 3) % 4 = 4 * c + 3 by omega,
    show 4 * c + 1 - (4 * c + 1) % 4 + (4 * c + 1 + 1) % 4 = 4 * c + 2 by omega, show 4 * c + 1 - (4 * c + 1) % 4 + (4 * c + 1 + 2) % 4 = 4 * c + 3 by omega, show 4 * c + 1 - (4 * c + 1) % 4 + (4 * c + 1 + 3) % 4 = 4 * c by omega,
    show 4 * c + 2 - (4 * c + 2) % 4 + (4 * c + 2 + 1) % 4 = 4 * c + 3 by omega, show 4 * c + 2 - (4 * c + 2) % 4 + (4 * c + 2 + 2) % 4 = 4 * c by omega, show 4 * c + 2 - (4 * c + 2) % 4 + (4 * c + 2 + 3) % 4 = 4 * c + 1 by omega,
    show 4 * c + 3 - (4 * c + 3) % 4 + (4 * c + 3 + 1) % 4 = 4 * c by omega, show 4 * c + 3 - (4 * c + 3) % 4 + (4 * c + 3 + 2) % 4 = 4 * c + 1 by omega, show 4 * c + 3 - (4 * c + 3) % 4 + (4 * c + 3 + 3) % 4 = 4 * c + 2 by omega]
theorem cw_unmix {f : Nat → Nat} (hf : ∀ j, f j < 256) (c : Nat) : cw (rMx (rMx (rMx f))) c = jUnmix (cw f c) := by
  rw [cw_mix (rMx_lt (rMx_lt hf)), cw_mix (rMx_lt hf), cw_mix hf]
  exact (pI_unmix (hf _) (hf _) (hf _) (hf _)).symm
theorem cw_sub {f : Nat → Nat} (hf : ∀ j, f j < 256) {c c1 c2 c3 : Nat} (h0 : c < 4) (h1 : c1 = (c + 1) % 4) (h2 : c2 = (c + 2) % 4) (h3 : c3 = (c + 3) % 4) : cw (rTu 1 (rSb f)) c = jGat ckS (cw f c) (cw f c1) (cw f c2) (cw f c3) := by
  unfold cw
  rw [pI_gat (f := ckS) (S := sB) (fun _ => rfl) sB_lt (hf _) (hf _) (hf _) (hf _) (hf _) (hf _) (hf _) (hf _) (hf _) (hf _) (hf _) (hf _) (hf _) (hf _) (hf _) (hf _)]
  unfold rTu rSb
  rw [show (4 * c + 4 * 1 * (4 * c % 4)) % 16 = 4 * c by omega, show (4 * c + 1 + 4 * 1 * ((4 * c + 1) % 4)) % 16 = 4 * c1 + 1 by omega, show (4 * c + 2 + 4 * 1 * ((4 * c + 2) % 4)) % 16 = 4 * c2 + 2 by omega, show (4 * c + 3 + 4 * 1 * ((4 * c + 3) % 4)) % 16 = 4 * c3 + 3 by omega]
theorem cw_usub {f : Nat → Nat} (hf : ∀ j, f j < 256) {c c1 c2 c3 : Nat} (h0 : c < 4) (h1 : c1 = (c + 3) % 4) (h2 : c2 = (c + 2) % 4) (h3 : c3 = (c + 1) % 4) : cw (rUb (rTu 3 f)) c = jGat ckU (cw f c) (cw f c1) (cw f c2) (cw f c3) := by
  unfold cw
  rw [pI_gat (f := ckU) (S := sV) (fun _ => rfl) sV_lt (hf _) (hf _) (hf _) (hf _) (hf _) (hf _) (hf _) (hf _) (hf _) (hf _) (hf _) (hf _) (hf _) (hf _) (hf _) (hf _)]
  unfold rTu rUb
  dsimp only
  rw [show (4 * c + 4 * 3 * (4 * c % 4)) % 16 = 4 * c by omega, show (4 * c + 1 + 4 * 3 * ((4 * c + 1) % 4)) % 16 = 4 * c1 + 1 by omega, show (4 * c + 2 + 4 * 3 * ((4 * c + 2) % 4)) % 16 = 4 * c2 + 2 by omega, show (4 * c + 3 + 4 * 3 * ((4 * c + 3) % 4)) % 16 = 4 * c3 + 3 by omega]
theorem cw_add {wd f : Nat → Nat} (hw : ∀ j, wd j < 256) (hf : ∀ j, f j < 256) (r c : Nat) : cw (rAd wd r f) c = cw f c ^^^ cw wd (4 * r + c) := by
  unfold cw rAd
  rw [pI_xor (hf _) (hf _) (hf _) (hf _) (hw _) (hw _) (hw _) (hw _), show 4 * (4 * r + c) = 16 * r + 4 * c by omega]
  rfl
/-! the key's words -/
theorem nI_pI {p : Nat} : nI p = pI 0 0 0 p := by unfold pI pw; rw [show ((0 * 256 + 0) * 256 + 0) * 256 + p = p by omega]
theorem ish24 {p : Nat} (hp : p < 256) : ish (nI p) (nI 24) = pI p 0 0 0 := by
  apply un_inj
  rw [un_ish _ (by decide), un_nI (by omega), un_pI hp (by decide) (by decide) (by decide)]
  unfold pw
  omega
theorem cw_W (kh kl : Int64) (n : Nat) : cw (rW kh kl) n = pI (col kh kl n).1 (col kh kl n).2.1 (col kh kl n).2.2.1 (col kh kl n).2.2.2 := by
  unfold cw
  have h0 : rW kh kl (4 * n) = cAt (col kh kl n) 0 := rW_at kh kl n 0 (by decide)
  rw [h0, rW_at _ _ _ _ (by decide), rW_at _ _ _ _ (by decide), rW_at _ _ _ _ (by decide)]
  rfl
theorem jKs_cw (kh kl : Int64) : ∀ n, (jKs (jKw kh kl (fun _ => 0)) n).2 = nI (kPw n) ∧ ∀ j, j < n + 4 → (jKs (jKw kh kl (fun _ => 0)) n).1 j = cw (rW kh kl) j
  | 0 => by
    refine ⟨rfl, fun j hj => ?_⟩
    have e := cw_by kh kl
    have e0 : (lush kh (nI 32)).toInt32 = cw (rBy kh kl) 0 := congrArg (·.1) e
    have e1 : kh.toInt32 = cw (rBy kh kl) 1 := congrArg (·.2.1) e
    have e2 : (lush kl (nI 32)).toInt32 = cw (rBy kh kl) 2 := congrArg (·.2.2.1) e
    have e3 : kl.toInt32 = cw (rBy kh kl) 3 := congrArg (·.2.2.2) e
    have lo : ∀ c, c < 4 → cw (rW kh kl) c = cw (rBy kh kl) c := by
      intro c hc
      unfold cw
      rw [rW_lo _ _ _ (by omega), rW_lo _ _ _ (by omega), rW_lo _ _ _ (by omega), rW_lo _ _ _ (by omega)]
    rw [lo j (by omega)]
    show jKw kh kl (fun _ => 0) j = _
    unfold jKw upd
    by_cases h3 : j = 3
    · rw [h3]; simp [e3]
    by_cases h2 : j = 2
    · rw [h2]; simp [e2]
    by_cases h1 : j = 1
    · rw [h1]; simp [e1]
    by_cases h0 : j = 0
    · rw [h0]; simp [e0]
    omega
  | n + 1 => by
    obtain ⟨h1, h2⟩ := jKs_cw kh kl n
    have c0 := col_ok kh kl n
    have c3 := col_ok kh kl (n + 3)
    show (jKst n (jKs (jKw kh kl (fun _ => 0)) n)).2 = _ ∧ ∀ j, j < n + 1 + 4 → (jKst n (jKs (jKw kh kl (fun _ => 0)) n)).1 j = _
    unfold jKst
    by_cases hm : n % 4 = 0
    · rw [if_pos hm]
      refine ⟨?_, fun j hj => ?_⟩
      · show jTwice _ = _
        rw [h1, nI_pI, pI_twice (by decide) (by decide) (by decide) (kPw_lt n), show kPw (n + 1) = rPd (kPw n) 2 from if_pos hm, rPd_2 _ (kPw_lt n), nI_pI]
        rfl
      · show upd _ _ _ j = _
        unfold upd
        by_cases hj2 : j = n + 4
        · rw [if_pos hj2, hj2, h2 n (by omega), h2 (n + 3) (by omega), h1, cw_W, cw_W, cw_W, pI_turn8 c3.1 c3.2.1 c3.2.2.1 c3.2.2.2,
            pI_gat (f := ckS) (S := sB) (fun _ => rfl) sB_lt c3.2.1 c3.2.2.1 c3.2.2.2 c3.1 c3.2.1 c3.2.2.1 c3.2.2.2 c3.1 c3.2.1 c3.2.2.1 c3.2.2.2 c3.1 c3.2.1 c3.2.2.1 c3.2.2.2 c3.1,
            ish24 (kPw_lt n), pI_xor (sB_lt _) (sB_lt _) (sB_lt _) (sB_lt _) (kPw_lt n) (by decide) (by decide) (by decide),
            pI_xor c0.1 c0.2.1 c0.2.2.1 c0.2.2.2 (xor_b (sB_lt _) (kPw_lt n)) (xor_b (sB_lt _) (by decide)) (xor_b (sB_lt _) (by decide)) (xor_b (sB_lt _) (by decide)), col_4, kG, if_pos hm]
          rfl
        · rw [if_neg hj2]; exact h2 j (by omega)
    · rw [if_neg hm]
      refine ⟨?_, fun j hj => ?_⟩
      · rw [show kPw (n + 1) = kPw n from if_neg hm]; exact h1
      · show upd _ _ _ j = _
        unfold upd
        by_cases hj2 : j = n + 4
        · rw [if_pos hj2, hj2, h2 n (by omega), h2 (n + 3) (by omega), cw_W, cw_W, cw_W, pI_xor c0.1 c0.2.1 c0.2.2.1 c0.2.2.2 c3.1 c3.2.1 c3.2.2.1 c3.2.2.2, col_4, kG, if_neg hm]
          rfl
        · rw [if_neg hj2]; exact h2 j (by omega)
theorem jKey_cw (kh kl : Int64) {j : Nat} (hj : j < 44) : jKey kh kl j = cw (rW kh kl) j := (jKs_cw kh kl 40).2 j hj
/-! the rounds -/
def q4 (f : Nat → Nat) : Q4 := (cw f 0, cw f 1, cw f 2, cw f 3)
theorem rEn_lt (kh kl h l : Int64) : ∀ n j, rEn (rW kh kl) (rBy h l) n j < 256
  | 0 => rAd_lt (rW_lt kh kl) (rBy_lt h l)
  | n + 1 => by
    unfold rEn
    split
    · exact rAd_lt (rW_lt kh kl) (rMx_lt (rTu_lt (rSb_lt _)))
    · exact rAd_lt (rW_lt kh kl) (rTu_lt (rSb_lt _))
theorem jEn_q4 (kh kl h l : Int64) : ∀ n, n ≤ 10 → jEn (jKey kh kl) (jE0 (jKey kh kl) h l) n = q4 (rEn (rW kh kl) (rBy h l) n)
  | 0, _ => by
    have e := cw_by h l
    have e0 : (lush h (nI 32)).toInt32 = cw (rBy h l) 0 := congrArg (·.1) e
    have e1 : h.toInt32 = cw (rBy h l) 1 := congrArg (·.2.1) e
    have e2 : (lush l (nI 32)).toInt32 = cw (rBy h l) 2 := congrArg (·.2.2.1) e
    have e3 : l.toInt32 = cw (rBy h l) 3 := congrArg (·.2.2.2) e
    have a : ∀ c, cw (rAd (rW kh kl) 0 (rBy h l)) c = cw (rBy h l) c ^^^ cw (rW kh kl) (4 * 0 + c) := cw_add (rW_lt kh kl) (rBy_lt h l) 0
    show jE0 (jKey kh kl) h l = q4 (rAd (rW kh kl) 0 (rBy h l))
    unfold jE0 q4
    rw [a 0, a 1, a 2, a 3, e0, e1, e2, e3, jKey_cw kh kl (by decide), jKey_cw kh kl (by decide), jKey_cw kh kl (by decide), jKey_cw kh kl (by decide)]
  | n + 1, hn => by
    have ih := jEn_q4 kh kl h l n (by omega)
    have hb := rEn_lt kh kl h l n
    show jEr (jKey kh kl) (n + 1) (jEn (jKey kh kl) (jE0 (jKey kh kl) h l) n) = _
    rw [ih]
    rw [rEn]
    unfold jEr q4
    rw [jKey_cw kh kl (by omega), jKey_cw kh kl (by omega), jKey_cw kh kl (by omega), jKey_cw kh kl (by omega)]
    have g0 := cw_sub hb (c := 0) (c1 := 1) (c2 := 2) (c3 := 3) (by decide) rfl rfl rfl
    have g1 := cw_sub hb (c := 1) (c1 := 2) (c2 := 3) (c3 := 0) (by decide) rfl rfl rfl
    have g2 := cw_sub hb (c := 2) (c1 := 3) (c2 := 0) (c3 := 1) (by decide) rfl rfl rfl
    have g3 := cw_sub hb (c := 3) (c1 := 0) (c2 := 1) (c3 := 2) (by decide) rfl rfl rfl
    by_cases hm : n + 1 < 10
    · rw [if_pos hm, if_pos hm]
      have a : ∀ c, cw (rAd (rW kh kl) (n + 1) (rMx (rTu 1 (rSb (rEn (rW kh kl) (rBy h l) n))))) c = _ ^^^ cw (rW kh kl) (4 * (n + 1) + c) := cw_add (rW_lt kh kl) (rMx_lt (rTu_lt (rSb_lt _))) (n + 1)
      rw [a 0, a 1, a 2, a 3, cw_mix (rTu_lt (rSb_lt _)), cw_mix (rTu_lt (rSb_lt _)), cw_mix (rTu_lt (rSb_lt _)), cw_mix (rTu_lt (rSb_lt _)), g0, g1, g2, g3]
      simp only [Nat.add_zero]
    · rw [if_neg hm, if_neg hm]
      have a : ∀ c, cw (rAd (rW kh kl) (n + 1) (rTu 1 (rSb (rEn (rW kh kl) (rBy h l) n)))) c = _ ^^^ cw (rW kh kl) (4 * (n + 1) + c) := cw_add (rW_lt kh kl) (rTu_lt (rSb_lt _)) (n + 1)
      rw [a 0, a 1, a 2, a 3, g0, g1, g2, g3]
      simp only [Nat.add_zero]
theorem rDn_lt (kh kl h l : Int64) : ∀ n j, rDn (rW kh kl) (rBy h l) n j < 256
  | 0 => rBy_lt h l
  | n + 1 => by
    unfold rDn
    split
    · exact rUb_lt _
    · exact rUb_lt _
theorem jDn_q4 (kh kl h l : Int64) : ∀ n, n ≤ 10 → jDn (jKey kh kl) (jD0 h l) n = q4 (rDn (rW kh kl) (rBy h l) n)
  | 0, _ => cw_by h l
  | n + 1, hn => by
    have ih := jDn_q4 kh kl h l n (by omega)
    have hb := rDn_lt kh kl h l n
    have hA := rAd_lt (rd := 10 - n) (rW_lt kh kl) hb
    show jDr (jKey kh kl) (10 - n) (jDn (jKey kh kl) (jD0 h l) n) = _
    rw [ih]
    rw [rDn]
    unfold jDr q4
    rw [jKey_cw kh kl (by omega), jKey_cw kh kl (by omega), jKey_cw kh kl (by omega), jKey_cw kh kl (by omega)]
    have a : ∀ c, cw (rAd (rW kh kl) (10 - n) (rDn (rW kh kl) (rBy h l) n)) c = _ ^^^ cw (rW kh kl) (4 * (10 - n) + c) := cw_add (rW_lt kh kl) hb (10 - n)
    by_cases hm : 10 - n < 10
    · rw [if_pos hm, if_pos hm]
      have hM := rMx_lt (rMx_lt (rMx_lt hA))
      rw [cw_usub hM (c := 0) (c1 := 3) (c2 := 2) (c3 := 1) (by decide) rfl rfl rfl, cw_usub hM (c := 1) (c1 := 0) (c2 := 3) (c3 := 2) (by decide) rfl rfl rfl, cw_usub hM (c := 2) (c1 := 1) (c2 := 0) (c3 := 3) (by decide) rfl rfl rfl,
        cw_usub hM (c := 3) (c1 := 2) (c2 := 1) (c3 := 0) (by decide) rfl rfl rfl, cw_unmix hA, cw_unmix hA, cw_unmix hA, cw_unmix hA, a 0, a 1, a 2, a 3]
      simp only [jDg, Nat.add_zero]
    · rw [if_neg hm, if_neg hm]
      rw [cw_usub hA (c := 0) (c1 := 3) (c2 := 2) (c3 := 1) (by decide) rfl rfl rfl, cw_usub hA (c := 1) (c1 := 0) (c2 := 3) (c3 := 2) (by decide) rfl rfl rfl, cw_usub hA (c := 2) (c1 := 1) (c2 := 0) (c3 := 3) (by decide) rfl rfl rfl,
        cw_usub hA (c := 3) (c1 := 2) (c2 := 1) (c3 := 0) (by decide) rfl rfl rfl, a 0, a 1, a 2, a 3]
      simp only [jDg, Nat.add_zero]
/-! from bytes to a long -/
theorem lu_i2l {n : Nat} (h : n < 2 ^ 31) : lu (nI n).toInt64 = n := by
  have e : (nI n).toInt64 = lN n := by
    apply Int64.toInt_inj.mp
    rw [Int32.toInt_toInt64]
    have a1 : (nI n).toInt = n := by
      exact Int32.toInt_ofNat_of_lt h
    have a2 : (lN n).toInt = n := by
      exact Int64.toInt_ofNat_of_lt (by omega)
    rw [a1, a2]
  rw [e]
  show (BitVec.ofNat 64 n).toNat = n
  rw [BitVec.toNat_ofNat]
  omega
theorem or_256 {x b : Nat} (hb : b < 256) : x * 256 ||| b = x * 256 + b := by
  have h := o_256 (x := x) (y := 0) (b := 0) (d := b) (by decide) hb
  rw [Nat.add_zero, Nat.zero_mul, Nat.zero_add, Nat.or_zero, Nat.zero_or] at h
  exact h
theorem lu_rd (f : Nat → Nat) (hf : ∀ j, f j < 256) (a n : Nat) : lu (jRd (bN f) a (n + 1)) = lu (jRd (bN f) a n) % 72057594037927936 * 256 + f (a + n) := by
  show lu (lsh (jRd (bN f) a n) (nI 8) ||| (nI (f (a + n))).toInt64) = _
  have hb := hf (a + n)
  rw [lu_or, lu_lsh _ (by decide), lu_i2l (by omega), show lu (jRd (bN f) a n) * 2 ^ 8 % 18446744073709551616 = lu (jRd (bN f) a n) % 72057594037927936 * 256 by omega, or_256 hb]
theorem lu_8 (f : Nat → Nat) (hf : ∀ j, f j < 256) (a : Nat) : lu (jRd (bN f) a 8) = pw (f a) (f (a + 1)) (f (a + 2)) (f (a + 3)) * 4294967296 + pw (f (a + 4)) (f (a + 5)) (f (a + 6)) (f (a + 7)) := by
  have h0 := hf a
  have h1 := hf (a + 1)
  have h2 := hf (a + 2)
  have h3 := hf (a + 3)
  have h4 := hf (a + 4)
  have h5 := hf (a + 5)
  have h6 := hf (a + 6)
  have h7 := hf (a + 7)
  have z : lu (jRd (bN f) a 0) = 0 := rfl
  have e1 : lu (jRd (bN f) a 1) = f a := by
    have := lu_rd f hf a 0
    rw [z] at this
    exact this.trans (by rw [Nat.add_zero]; omega)
  have e2 := lu_rd f hf a 1
  rw [e1, Nat.mod_eq_of_lt (by omega)] at e2
  have e3 := lu_rd f hf a 2
  rw [e2, Nat.mod_eq_of_lt (by omega)] at e3
  have e4 := lu_rd f hf a 3
  rw [e3, Nat.mod_eq_of_lt (by omega)] at e4
  have e5 := lu_rd f hf a 4
  rw [e4, Nat.mod_eq_of_lt (by omega)] at e5
  have e6 := lu_rd f hf a 5
  rw [e5, Nat.mod_eq_of_lt (by omega)] at e6
  have e7 := lu_rd f hf a 6
  rw [e6, Nat.mod_eq_of_lt (by omega)] at e7
  have e8 := lu_rd f hf a 7
  rw [e7, Nat.mod_eq_of_lt (by omega)] at e8
  rw [e8]
  unfold pw
  omega
theorem lu_jLg {a b : Nat} (ha : a < 4294967296) (hb : b < 4294967296) : lu (jLg (nI a) (nI b)) = a * 4294967296 + b := by
  have s1 : ∀ x : Nat, x < 4294967296 → lu (nI x).toInt64 % 4294967296 = x := by
    intro x hx
    have h := un_l2i (nI x).toInt64
    rw [show (nI x).toInt64.toInt32 = nI x from Int32.toInt32_toInt64 _, un_nI hx] at h
    exact h.symm
  unfold jLg
  rw [lu_or, lu_and, lu_lsh _ (by decide), show lu (lN 4294967295) = 2 ^ 32 - 1 from rfl, Nat.and_two_pow_sub_one_eq_mod, show (2 : Nat) ^ 32 = 4294967296 from rfl, s1 b hb]
  have h1 : lu (nI a).toInt64 * 4294967296 % 18446744073709551616 = a * 4294967296 := by
    have := s1 a ha
    omega
  rw [h1]
  apply Nat.eq_of_testBit_eq
  intro i
  rw [Nat.testBit_or, Nat.mul_comm a, show (4294967296 : Nat) = 2 ^ 32 from rfl, Nat.testBit_two_pow_mul_add _ (by omega : b < 2 ^ 32), Nat.testBit_two_pow_mul]
  by_cases hi : i < 32
  · rw [if_pos hi, decide_eq_false (by omega : ¬ 32 ≤ i)]
    simp
  · rw [if_neg hi, decide_eq_true (by omega : 32 ≤ i), Nat.testBit_lt_two_pow (Nat.lt_of_lt_of_le hb (by rw [show (4294967296 : Nat) = 2 ^ 32 from rfl]; exact Nat.pow_le_pow_right (by decide) (by omega)))]
    simp
theorem rd_lg (f : Nat → Nat) (hf : ∀ j, f j < 256) : jRd (bN f) 0 8 = jLg (cw f 0) (cw f 1) ∧ jRd (bN f) 8 8 = jLg (cw f 2) (cw f 3) := by
  constructor
  · apply lu_inj
    rw [lu_8 f hf]
    unfold cw pI
    rw [lu_jLg (pw_lt (hf _) (hf _) (hf _) (hf _)) (pw_lt (hf _) (hf _) (hf _) (hf _))]
  · apply lu_inj
    rw [lu_8 f hf]
    unfold cw pI
    rw [lu_jLg (pw_lt (hf _) (hf _) (hf _) (hf _)) (pw_lt (hf _) (hf _) (hf _) (hf _))]
/-! the two ciphers are one -/
theorem rF_eq (kh kl h l : Int64) : rF kh kl h l = jEH (jKey kh kl) h l := by
  unfold rF jEH rE
  rw [(rd_lg _ (rEn_lt kh kl h l 10)).1, jEn_q4 kh kl h l 10 (Nat.le_refl _)]
  rfl
theorem rS_eq (kh kl h l : Int64) : rS kh kl h l = jEL (jKey kh kl) h l := by
  unfold rS jEL rE
  rw [(rd_lg _ (rEn_lt kh kl h l 10)).2, jEn_q4 kh kl h l 10 (Nat.le_refl _)]
  rfl
theorem rD_lt (kh kl h l : Int64) : ∀ j, rD kh kl h l j < 256 := rAd_lt (rW_lt kh kl) (rDn_lt kh kl h l 10)
theorem rG_eq (kh kl h l : Int64) : rG kh kl h l = jDH (jKey kh kl) h l := by
  have a : ∀ c, cw (rAd (rW kh kl) 0 (rDn (rW kh kl) (rBy h l) 10)) c = _ ^^^ cw (rW kh kl) (4 * 0 + c) := cw_add (rW_lt kh kl) (rDn_lt kh kl h l 10) 0
  unfold rG jDH
  rw [(rd_lg _ (rD_lt kh kl h l)).1, jDn_q4 kh kl h l 10 (Nat.le_refl _), jKey_cw kh kl (by decide), jKey_cw kh kl (by decide)]
  unfold rD
  rw [a 0, a 1]
  rfl
theorem rH_eq (kh kl h l : Int64) : rH kh kl h l = jDL (jKey kh kl) h l := by
  have a : ∀ c, cw (rAd (rW kh kl) 0 (rDn (rW kh kl) (rBy h l) 10)) c = _ ^^^ cw (rW kh kl) (4 * 0 + c) := cw_add (rW_lt kh kl) (rDn_lt kh kl h l 10) 0
  unfold rH jDL
  rw [(rd_lg _ (rD_lt kh kl h l)).2, jDn_q4 kh kl h l 10 (Nat.le_refl _), jKey_cw kh kl (by decide), jKey_cw kh kl (by decide)]
  unfold rD
  rw [a 2, a 3]
  rfl
theorem rWr_eq (kh kl : Int64) (q : Q3) : ∀ n, rWr kh kl q n = jWr (jKey kh kl) q n
  | 0 => rfl
  | n + 1 => by
    unfold rWr jWr
    rw [rWr_eq kh kl q n]
    unfold rWs jWs
    rw [rF_eq, rS_eq]
theorem rUw_eq (kh kl : Int64) (q : Q3) : ∀ n, rUw kh kl q n = jUw (jKey kh kl) q n
  | 0 => rfl
  | n + 1 => by
    unfold rUw jUw
    rw [rUw_eq kh kl q n]
    unfold rUs jUs
    rw [rG_eq, rH_eq]
