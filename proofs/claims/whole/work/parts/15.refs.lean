/-! arrays of references -/
section CK3
variable {p : Program} {l : Launch} {e : Env} {R : Room} {s : State} {m : MethodId} {args : Array Value} {below : List Frame} {meth : Method} {c : Code} {H : Heap} {locs : List Loc} {cells slots : Nat} {Q : State → Prop}
variable {cc : ByteArray} {pc : Nat} {ls : Array Slot} {rest : List Value} {G : gG} {A : Nat → Prop} {ws : va_W} {a : Nat}
theorem ck_hald {v : Value} (hx : p.tables.exec = Jvm.exec) (hb : c.code = cc) (hG : gk G A s s.heap) (hP : va_P G.1 vwCl ws H) (q0 : Nat) {n : Nat} {f : Nat → Option Nat} (ha : ws[q0]? = some (aH G a n f)) (hn : n < 2 ^ 31) {i : Int32} (k : Nat) (hi : i = nI k) (hk : k < n) (hv : va_rf (f k) = v) (hdg : decode cc pc = .ok (.aaload, 1))
    (kk : W p l e R s m args below meth c H locs cells slots Q (F0 m (pc + 1) ls (v :: rest))) : W p l e R s m args below meth c H locs cells slots Q (F0 m pc ls (.int i :: .ref a :: rest)) := by
  obtain ⟨h1, h2⟩ := ck_vin hi hk hn
  subst hv
  exact va_aldq hx hb hG.1 hP q0 3 ha rfl h1 hdg (by rw [h2]; exact kk)
theorem ck_qald {v : Value} (hx : p.tables.exec = Jvm.exec) (hb : c.code = cc) (hG : gk G A s s.heap) (hP : va_P G.1 vwCl ws H) (q0 : Nat) {n : Nat} {f : Nat → Option Nat} (ha : ws[q0]? = some (aQ G a n f)) (hn : n < 2 ^ 31) {i : Int32} (k : Nat) (hi : i = nI k) (hk : k < n) (hv : va_rf (f k) = v) (hdg : decode cc pc = .ok (.aaload, 1))
    (kk : W p l e R s m args below meth c H locs cells slots Q (F0 m (pc + 1) ls (v :: rest))) : W p l e R s m args below meth c H locs cells slots Q (F0 m pc ls (.int i :: .ref a :: rest)) := by
  obtain ⟨h1, h2⟩ := ck_vin hi hk hn
  subst hv
  exact va_aldq hx hb hG.1 hP q0 4 ha rfl h1 hdg (by rw [h2]; exact kk)
theorem ck_qnul (hx : p.tables.exec = Jvm.exec) (hb : c.code = cc) (hG : gk G A s s.heap) (hP : va_P G.1 vwCl ws H) (hD : va_D A ws) (hS : va_S A s.heap H locs) (q0 : Nat) {n : Nat} {f : Nat → Option Nat} (ha : ws[q0]? = some (aQ G a n f)) (hn : n < 2 ^ 31) {i : Int32} (k : Nat) (hi : i = nI k) (hk : k < n) (hdg : decode cc pc = .ok (.aastore, 1))
    (kk : ∀ (H1 : Heap) (locs1 : List Loc), va_P G.1 vwCl (ws.set q0 (aQ G a n (va_up f k none))) H1 → va_D A (ws.set q0 (aQ G a n (va_up f k none))) → va_S A s.heap H1 locs1 → W p l e R s m args below meth c H1 locs1 cells slots Q (F0 m (pc + 1) ls rest)) : W p l e R s m args below meth c H locs cells slots Q (F0 m pc ls (.null :: .int i :: .ref a :: rest)) := by
  obtain ⟨h1, h2⟩ := ck_vin hi hk hn
  exact va_astqN hx hb hG.1 hP hD hS q0 4 ha rfl h1 hdg (by rw [h2]; exact kk)
end CK3
theorem arrQ_cg {cA : ClassId} {n : Nat} {f g : Nat → Option Nat} (h : ∀ j, j < n → f j = g j) : vp_cell cA (n, .inr (.inr (.inr (.inr f)))) = vp_cell cA (n, .inr (.inr (.inr (.inr g)))) := by
  rw [vp_cell_q, vp_cell_q]
  unfold arrV
  congr 2
  funext j
  show _ = _
  exact congrArg _ (h j.val j.isLt)
theorem ck_cgQ {D : va_G} {cl : List vw_C} {ws : va_W} {H : Heap} (hP : va_P D cl ws H) (q0 : Nat) {a n : Nat} {cA : ClassId} {f g : Nat → Option Nat} (h : ws[q0]? = some (a, .inl (cA, n, .inr (.inr (.inr (.inr f)))))) (hfg : ∀ j, j < n → f j = g j) : va_P D cl (ws.set q0 (a, .inl (cA, n, .inr (.inr (.inr (.inr g)))))) H :=
  ck_at hP q0 h (fun z => by show H[a]? = some (vp_cell _ _); rw [← arrQ_cg hfg]; exact z)
def jIn (n : Nat) (x : Int32) : Bool := !decide (x < 0) && decide (x < nI n)
theorem jIn_nI {n : Nat} (hn : n < 2 ^ 31) {k : Nat} (h : k < n) : jIn n (nI k) = true := by
  unfold jIn
  rw [decide_eq_false (nI_pos (by omega)), decide_eq_true (nI_lt h hn)]
  rfl
theorem jIn_t {n : Nat} (hn : n < 2 ^ 31) {x : Int32} (h : jIn n x = true) : ∃ k : Nat, k < n ∧ x = nI k := by
  unfold jIn at h
  simp only [Bool.and_eq_true, Bool.not_eq_true', decide_eq_false_iff_not, decide_eq_true_eq] at h
  obtain ⟨j, hj, rfl⟩ := nI_of h.1
  exact ⟨j, (nI_ltI hj hn).mp h.2, rfl⟩
theorem jIn_lt {n : Nat} {x : Int32} (h : jIn n x = false) (h0 : ¬ x < 0) : ¬ x < nI n := by
  intro h1
  unfold jIn at h
  rw [decide_eq_false h0, decide_eq_true h1] at h
  cases h
def jFillQ (f : Nat → Option Nat) : Nat → (Nat → Option Nat)
  | 0 => f
  | n + 1 => va_up (jFillQ f n) n none
theorem jFillQ_lt (f : Nat → Option Nat) : ∀ (n j : Nat), j < n → jFillQ f n j = none
  | 0, j, h => by omega
  | n + 1, j, h => by
    unfold jFillQ va_up
    by_cases hj : j = n
    · rw [if_pos hj]
    · rw [if_neg hj]; exact jFillQ_lt f n j (by omega)
