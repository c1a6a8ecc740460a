/-! more of the frame: weaker contracts, arrays that agree, booleans, counting down -/
theorem Met_mono {l : Launch} {y : MethodName} {w : List Cond} {rm : Room} {Pc : Array Value → State → Prop} {Qc Qc' : Array Value → State → Outcome → State → Prop} {mc ms : Nat} {free : Addr → Prop}
    (h : Met l y w rm Pc Qc mc ms free) (hq : ∀ a st o t, Qc a st o t → Qc' a st o t) : Met l y w rm Pc Qc' mc ms free := by
  intro p e ha hc hk s m args below hf happ hP hK
  obtain ⟨n, o, h1, h2, h3, h4, h5⟩ := h p e ha hc hk s m args below hf happ hP hK
  exact ⟨n, o, h1, h2, h3, hq _ _ _ _ h4, h5⟩
theorem Cq.imp {l : Launch} {G : gG} {y : MethodName} {cc : ByteArray} {maxL : Nat} {rt : Option FieldType} {rm : Room} {av : List Value} {wi : va_W} {S S' : Type} {φ : S → Prop} {φ' : S' → Prop} {r : S → Option Value} {r' : S' → Option Value} {wo : S → va_W} {wo' : S' → va_W}
    (h : Cq l G y cc maxL rt rm av wi φ r wo) (k : S → S') (hφ : ∀ u, φ u → φ' (k u)) (hr : ∀ u, φ u → r u = r' (k u)) (hw : ∀ u H, φ u → va_P G.1 vwCl (wo u) H → va_P G.1 vwCl (wo' (k u)) H) : Cq l G y cc maxL rt rm av wi φ' r' wo' := by
  intro sz
  refine Met_mono (h sz) ?_
  rintro a st o t ⟨⟨u, h1, h2, h3⟩, h4⟩
  exact ⟨⟨k u, hφ u h1, by rw [h2, hr u h1], hw u _ h1 h3⟩, h4⟩
theorem arr_cg {cA : ClassId} {n : Nat} {f g : Nat → Int32} (h : ∀ j, j < n → f j = g j) : vp_cell cA (n, .inl f) = vp_cell cA (n, .inl g) := by
  rw [vp_cell_i, vp_cell_i]
  unfold arrV
  congr 2
  funext j
  show _ = _
  exact congrArg _ (h j.val j.isLt)
theorem arrL_cg {cA : ClassId} {n : Nat} {f g : Nat → Int64} (h : ∀ j, j < n → f j = g j) : vp_cell cA (n, .inr (.inl f)) = vp_cell cA (n, .inr (.inl g)) := by
  rw [vp_cell_l, vp_cell_l]
  unfold arrV
  congr 2
  funext j
  show _ = _
  exact congrArg _ (h j.val j.isLt)
theorem ck_at {D : va_G} {cl : List vw_C} {ws : va_W} {H : Heap} (hP : va_P D cl ws H) (q0 : Nat) {e e' : Nat × va_E} (h : ws[q0]? = some e) (he : va_at D cl e H → va_at D cl e' H) : va_P D cl (ws.set q0 e') H := by
  intro k q hk
  by_cases hkq : q0 = k
  · subst hkq
    rw [List.getElem?_set_self', h] at hk
    rw [← Option.some.inj hk]
    exact he (hP q0 _ h)
  · rw [List.getElem?_set_ne hkq] at hk
    exact hP k q hk
/-- an array's contents may be said otherwise, where they agree on its places -/
theorem ck_cg {D : va_G} {cl : List vw_C} {ws : va_W} {H : Heap} (hP : va_P D cl ws H) (q0 : Nat) {a n : Nat} {cA : ClassId} {f g : Nat → Int32} (h : ws[q0]? = some (a, .inl (cA, n, .inl f))) (hfg : ∀ j, j < n → f j = g j) : va_P D cl (ws.set q0 (a, .inl (cA, n, .inl g))) H :=
  ck_at hP q0 h (fun z => by show H[a]? = some (vp_cell _ _); rw [← arr_cg hfg]; exact z)
theorem ck_cgL {D : va_G} {cl : List vw_C} {ws : va_W} {H : Heap} (hP : va_P D cl ws H) (q0 : Nat) {a n : Nat} {cA : ClassId} {f g : Nat → Int64} (h : ws[q0]? = some (a, .inl (cA, n, .inr (.inl f)))) (hfg : ∀ j, j < n → f j = g j) : va_P D cl (ws.set q0 (a, .inl (cA, n, .inr (.inl g)))) H :=
  ck_at hP q0 h (fun z => by show H[a]? = some (vp_cell _ _); rw [← arrL_cg hfg]; exact z)
def jB (b : Bool) : Int32 := if b then nI 1 else nI 0
theorem jB_nar (b : Bool) : narrow .boolean (.int (jB b)) = .int (jB b) := by cases b <;> rfl
theorem jB_vp (b : Bool) : vp_nar .boolean (jB b) = jB b := by cases b <;> rfl
theorem jB_0 (b : Bool) : jB b = 0 ↔ b = false := by cases b <;> decide
theorem jB_n0 (b : Bool) : ¬ jB b = 0 ↔ b = true := by cases b <;> decide
theorem jB_eq (a b : Bool) : jB a = jB b ↔ a = b := by cases a <;> cases b <;> decide
/-- k - 1 for a count k -/
def jm1 : Nat → Int32
  | 0 => -1
  | k + 1 => nI k
def jFill (f : Nat → Int32) (x : Int32) : Nat → (Nat → Int32)
  | 0 => f
  | n + 1 => upd (jFill f x n) n x
theorem jFill_lt (f : Nat → Int32) (x : Int32) : ∀ (n j : Nat), j < n → jFill f x n j = x
  | 0, j, h => by omega
  | n + 1, j, h => by
    unfold jFill upd
    by_cases hj : j = n
    · rw [if_pos hj]
    · rw [if_neg hj]; exact jFill_lt f x n j (by omega)
theorem lg_cmp_0 (x y : Int64) : lg_cmp x y = 0 ↔ x = y := by
  unfold lg_cmp
  by_cases h : y < x
  · rw [if_pos h]
    constructor
    · intro z; exact absurd z (by decide)
    · intro z; subst z; exact absurd h (by rw [Int64.lt_iff_toInt_lt]; omega)
  · rw [if_neg h]
    by_cases h2 : x = y
    · rw [if_pos h2]; exact ⟨fun _ => h2, fun _ => rfl⟩
    · rw [if_neg h2]; exact ⟨fun z => absurd z (by decide), fun z => absurd z h2⟩
