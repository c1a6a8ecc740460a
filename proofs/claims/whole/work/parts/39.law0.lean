/-! the law's wrappers: methods with handlers that always return; what is thrown is caught -/
def Cqw (l : Launch) (G : gG) (y : MethodName) (cc : ByteArray) (maxL : Nat) (rt : Option FieldType) (hh : List (Nat × Nat × Nat × Nat)) (rm : Room) (av : List Value) (wi : va_W) {S : Type} (φ : S → Prop) (r : S → Option Value) (wo : S → va_W) : Prop :=
  ∀ sz : Nat, Met l y (Cond.codeWith y cc maxL rt hh :: ckT) rm (va_Pc av (ck_in G wi sz)) (cq_out G φ r wo (va_A wi sz)) rm.cells rm.slots (va_A wi sz)
def Crw (l : Launch) (G : gG) (y : MethodName) (cc : ByteArray) (maxL : Nat) (rt : Option FieldType) (hh : List (Nat × Nat × Nat × Nat)) (rm : Room) (av : List Value) (wi : va_W) {S : Type} (φ : S → Prop) (r : S → Option Value) (wo : S → va_W) : Prop :=
  ∀ sz : Nat, Met l y (Cond.codeWith y cc maxL rt hh :: ckT) rm (va_Pc av (ck_in G wi sz)) (cr_out G φ r wo (va_A wi sz)) rm.cells rm.slots (va_A wi sz)
theorem nd_app : ∀ (a b : List Nat), va_nd a = true → va_nd b = true → (∀ i ∈ a, i ∉ b) → va_nd (a ++ b) = true
  | [], _, _, h, _ => h
  | x :: a, b, h1, h2, h3 => by
    simp only [va_nd, Bool.and_eq_true, decide_eq_true_eq, List.cons_append] at h1 ⊢
    refine ⟨fun z => ?_, nd_app a b h1.2 h2 (fun i hi => h3 i (List.mem_cons_of_mem _ hi))⟩
    rcases List.mem_append.mp z with q | q
    · exact h1.1 q
    · exact h3 x List.mem_cons_self q
theorem nd_range : ∀ (n s : Nat), va_nd (List.range' s n) = true
  | 0, _ => rfl
  | n + 1, s => by
    rw [List.range'_succ]
    simp only [va_nd, Bool.and_eq_true, decide_eq_true_eq]
    exact ⟨fun z => by have := (List.mem_range'_1.mp z).1; omega, nd_range n (s + 1)⟩
section CW1
variable {p : Program} {l : Launch} {e : Env} {R : Room} {s : State} {m : MethodId} {args : Array Value} {below : List Frame} {meth : Method} {c : Code} {H : Heap} {locs : List Loc} {cells slots : Nat} {Q : State → Prop}
variable {cc bytes : ByteArray} {pc nL maxL n index : Nat} {ls : Array Slot} {rest st0 As : List Value} {G : gG} {A : Nat → Prop} {ws wi wr pl : va_W} {S : Type} {φ : S → Prop} {r : S → Option Value} {wo : S → va_W} {y : MethodName} {Ts : List Cond} {rm : Room} {own C E : String} {rt : Option FieldType} {hh : List (Nat × Nat × Nat × Nat)}
theorem Cqw.of {av : List Value} (hy : plainName y.cls = true) (hav : (lg_sl av).length ≤ maxL)
    (body : ∀ (p : Program) (e : Env) (s : State) (m : MethodId) (args : Array Value) (below : List Frame) (meth : Method) (c : Code) (A : Nat → Prop) (ls : Array Slot), p.tables.exec = Jvm.exec → c.code = cc → meth.sig.returnType = rt → c.maxLocals = maxL →
      (∀ x ∈ ckT, x.before args s = true) → s.vm.findClass y.cls = some m.cls → meth.locks = false → c.exceptionTable.toList = tableOf hh → (∀ q : Nat, s.heap.size ≤ q → A q) → va_P G.1 vwCl wi s.heap → va_D A wi → gk G A s s.heap → va_S A s.heap s.heap [] → lv_has ls maxL (lv_args 0 av) →
      W p l e rm s m args below meth c s.heap [] 0 0 (MQ below (cq_out G φ r wo A) args s rm.cells rm.slots A) (F0 m 0 ls [])) : Cqw l G y cc maxL rt hh rm av wi φ r wo := by
  intro sz
  refine va_MetW (cc := cc) (maxL := maxL) (ret := rt) (hh := hh) hy rfl ?_
  intro p e s m args below meth c s₁ B hml hv
  obtain ⟨rfl, hsz, hP, hD0, hG⟩ := hv
  subst hsz
  have hD := hD0.self (sz := s.heap.size)
  have hl := lv_entry av (n := maxL) hav
  rw [lg_entry_eq]
  exact body p e s m _ below meth c _ _ B.exec B.bytes B.returns hml (fun x hx => atoms_spec (ws := Cond.codeWith y cc maxL rt hh :: ckT) B.pre x (List.mem_cons_of_mem _ hx)) (findClass_of_methodNamed B.named) B.notSynchronized
    (vx_table (x := y) B (atoms_spec (ws := Cond.codeWith y cc maxL rt hh :: ckT) B.pre _ List.mem_cons_self)) (fun q h => Or.inr h) hP hD hG va_S.rf hl
theorem Crw.of {av : List Value} (hy : plainName y.cls = true) (hav : (lg_sl av).length ≤ maxL)
    (body : ∀ (p : Program) (e : Env) (s : State) (m : MethodId) (args : Array Value) (below : List Frame) (meth : Method) (c : Code) (A : Nat → Prop) (ls : Array Slot), p.tables.exec = Jvm.exec → c.code = cc → meth.sig.returnType = rt → c.maxLocals = maxL →
      (∀ x ∈ ckT, x.before args s = true) → s.vm.findClass y.cls = some m.cls → meth.locks = false → c.exceptionTable.toList = tableOf hh → (∀ q : Nat, s.heap.size ≤ q → A q) → va_P G.1 vwCl wi s.heap → va_D A wi → gk G A s s.heap → va_S A s.heap s.heap [] → lv_has ls maxL (lv_args 0 av) →
      W p l e rm s m args below meth c s.heap [] 0 0 (MQ below (cr_out G φ r wo A) args s rm.cells rm.slots A) (F0 m 0 ls [])) : Crw l G y cc maxL rt hh rm av wi φ r wo := by
  intro sz
  refine va_MetW (cc := cc) (maxL := maxL) (ret := rt) (hh := hh) hy rfl ?_
  intro p e s m args below meth c s₁ B hml hv
  obtain ⟨rfl, hsz, hP, hD0, hG⟩ := hv
  subst hsz
  have hD := hD0.self (sz := s.heap.size)
  have hl := lv_entry av (n := maxL) hav
  rw [lg_entry_eq]
  exact body p e s m _ below meth c _ _ B.exec B.bytes B.returns hml (fun x hx => atoms_spec (ws := Cond.codeWith y cc maxL rt hh :: ckT) B.pre x (List.mem_cons_of_mem _ hx)) (findClass_of_methodNamed B.named) B.notSynchronized
    (vx_table (x := y) B (atoms_spec (ws := Cond.codeWith y cc maxL rt hh :: ckT) B.pre _ List.mem_cons_self)) (fun q h => Or.inr h) hP hD hG va_S.rf hl
/-- a call that throws, caught here -/
theorem cw_V {wc : va_W} {b ci q0 : Nat} {T : u_T} {N : Nat} {fs : List Value} {name : String} (S0 : CallFix p m c cc nL s args Ts own) (hM : Cx l G y bytes maxL rt rm (.ref b :: As) wc E wc) (cw : CallW R s args own C index y bytes maxL rt (Cond.code y bytes maxL rt :: ckT) rm rm.cells rm.slots n)
    (hG : gk G A s s.heap) (hA : ∀ q : Nat, s.heap.size ≤ q → A q) (hP : va_P G.1 vwCl ws H) (hD : va_D A ws) (hS : va_S A s.heap H locs) (hq : ws[q0]? = some (b, .inr (ci, fs))) (hci : vwCl[ci]? = some (C, T, N)) (is : List Nat) (hC : is.map (fun i => ws[i]?) = wc.map some) (hnd : va_nd is = true) (hset : ck_set ws is wc = ws)
    (hn : As.length = n) (hsize : ls.size = nL) (hst : st0 = As.reverse ++ .ref b :: rest) (hrm : (rest.map fun v => v.category).sum ≤ 8) (hdg : decode cc pc = .ok (.invokevirtual index, 3)) (hf : cells + rm.cells ≤ R.cells ∧ slots + rm.slots ≤ R.slots)
    (pre : List ExceptionTableEntry) (x : ExceptionTableEntry) (suf : List ExceptionTableEntry) (hsplit : c.exceptionTable.toList = pre ++ x :: suf) (hpass : ∀ z ∈ pre, covers z pc = false ∨ (z.catchType ≠ 0 ∧ ∃ nm : String, (Cond.classLink own z.catchType nm).before args s = true ∧ va_Nc E nm s)) (hx9 : covers x pc = true) (h09 : x.catchType ≠ 0)
    (hlink : (Cond.classLink own x.catchType name).before args s = true) (hcast : (Cond.castable E name).before args s = true)
    (kk : ∀ (q : Nat) (H1 : Heap) (locs1 : List Loc), va_P G.1 vwCl ws H1 → va_D A ws → va_S A s.heap H1 locs1 → W p l e R s m args below meth c H1 locs1 (cells + rm.cells) (slots + rm.slots) Q (F0 m x.handlerPc ls [.ref q])) :
    W p l e R s m args below meth c H locs cells slots Q (F0 m pc ls st0) := by
  intro T hT X
  have hr := vx_runV (locs := locs) (cells := cells) (slots := slots) (g := F0 m pc ls st0) (e := e) (below := below) (meth := meth) S0 (hM H.size) cw ⟨ck_blind, va_recv hG.1 hP hci hq, fun U hU hW => ⟨rfl, ck_pre hG hA hP hD hS hC hnd U hU hW⟩⟩ rfl hn hsize hst (lv_room hrm) hdg hf
  rcases hr T hT X with ⟨v, st₀, t, T', L, h0, X', hL, e1, e2, hf, st⟩ | ⟨q, st₀, t, T', L, E', ce, h0, X', hL, e1, e2, ⟨rfl, hp, hz, hk⟩, hce, hcv, hcl, st⟩
  · exact hf.elim
  · rw [h0] at hz hk
    have hF := va_free hD hS hA is hC
    obtain ⟨hP1, -⟩ := ck_join (H1 := T'.heap) hP hD is hC rfl (fun q h1 h2 => by rw [e1]; exact hk q h1 h2) (by rw [e1]; exact hp)
    rw [hset] at hP1
    have hS1 : va_S A s.heap T'.heap (locs ++ L) := ⟨Nat.le_trans hS.1 (by rw [e1]; exact hz), fun q h1 h2 => by rw [e1, hk q (Nat.lt_of_lt_of_le h1 hS.1) (fun z => h2 (hF q z))]; exact hS.2.1 q h1 h2, fun q hq => by
      rcases List.mem_append.mp hq with h | h
      · exact hS.2.2 q h
      · exact hF _ (hL q h)⟩
    obtain ⟨t2, a1, b1⟩ := vx_catch (rest := rest) S0.2.2.2.1 pre x suf hsplit hpass hx9 h09 hlink hcast (by rw [e1]; exact hce) hcv hcl (kk q T'.heap (locs ++ L) hP1 hD hS1) T' rfl X'
    exact ⟨t2, st.trans a1, b1⟩
/-- a wrapper's call -/
theorem cw_S (S0 : CallFix p m c cc nL s args Ts own) (hM : Cqw l G y bytes maxL rt hh rm As wi φ r wo) (cw : vx_CSW R s args own index y bytes maxL rt hh (Cond.codeWith y bytes maxL rt hh :: ckT) rm rm.cells rm.slots n)
    (hG : gk G A s s.heap) (hA : ∀ q : Nat, s.heap.size ≤ q → A q) (hP : va_P G.1 vwCl ws H) (hD : va_D A ws) (hS : va_S A s.heap H locs) (is : List Nat) (hC : is.map (fun i => ws[i]?) = wi.map some) (hnd : va_nd is = true) (ha : ∀ u, (wo u).map (·.1) = wi.map (·.1))
    (hn : As.length = n) (hsize : ls.size = nL) (hst : st0 = As.reverse ++ rest) (hrm : (rest.map fun v => v.category).sum ≤ 8) (hdg : decode cc pc = .ok (.invokestatic index, 3)) (hf : cells + rm.cells ≤ R.cells ∧ slots + rm.slots ≤ R.slots)
    (kk : ∀ (u : S) (H1 : Heap) (locs1 : List Loc), φ u → va_P G.1 vwCl (ck_set ws is (wo u)) H1 → va_D A (ck_set ws is (wo u)) → va_S A s.heap H1 locs1 → W p l e R s m args below meth c H1 locs1 (cells + rm.cells) (slots + rm.slots) Q (F0 m (pc + 3) ls ((r u).toList ++ rest))) :
    W p l e R s m args below meth c H locs cells slots Q (F0 m pc ls st0) :=
  cq_after rfl (vx_runSW S0 (hM H.size) cw ⟨ck_blind, fun U hU hW => ⟨rfl, ck_pre hG hA hP hD hS hC hnd U hU hW⟩⟩ rfl hn hsize hst (lv_room hrm) hdg hf) hA hP hD hS is hC ha kk
theorem rng_map (X pl : va_W) : (List.range' X.length pl.length).map (fun i => (X ++ pl)[i]?) = pl.map some := by
  apply List.ext_getElem?
  intro k
  rw [List.getElem?_map, List.getElem?_map]
  by_cases hk : k < pl.length
  · rw [List.getElem?_range' hk, Option.map_some, List.getElem?_append_right (by omega)]
    rw [show X.length + 1 * k - X.length = k by omega, List.getElem?_eq_getElem hk]
    rfl
  · rw [List.getElem?_eq_none (by rw [List.length_range']; omega), List.getElem?_eq_none (by omega)]
    rfl
/-- a wrapper's call that makes cells; behind the world's own part stands a row of others -/
theorem cw_SR {X : va_W} (S0 : CallFix p m c cc nL s args Ts own) (hM : Crw l G y bytes maxL rt hh rm As wi φ r wo) (cw : vx_CSW R s args own index y bytes maxL rt hh (Cond.codeWith y bytes maxL rt hh :: ckT) rm rm.cells rm.slots n)
    (hG : gk G A s s.heap) (hA : ∀ q : Nat, s.heap.size ≤ q → A q) (hP : va_P G.1 vwCl (X ++ pl) H) (hD : va_D A (X ++ pl)) (hS : va_S A s.heap H locs) (is isR : List Nat) (hC : is.map (fun i => X[i]?) = wi.map some) (hnd : va_nd is = true) (hR : isR.map (fun i => X[i]?) = wr.map some) (hnR : va_nd isR = true) (hdis : ∀ i ∈ isR, i ∉ is)
    (hn : As.length = n) (hsize : ls.size = nL) (hst : st0 = As.reverse ++ rest) (hrm : (rest.map fun v => v.category).sum ≤ 8) (hdg : decode cc pc = .ok (.invokestatic index, 3)) (hf : cells + rm.cells ≤ R.cells ∧ slots + rm.slots ≤ R.slots)
    (kk : ∀ (u : S) (H1 : Heap) (locs1 : List Loc), φ u → va_P G.1 vwCl ((wr ++ wo u) ++ pl) H1 → va_D A ((wr ++ wo u) ++ pl) → va_S A s.heap H1 locs1 → W p l e R s m args below meth c H1 locs1 (cells + rm.cells) (slots + rm.slots) Q (F0 m (pc + 3) ls ((r u).toList ++ rest))) :
    W p l e R s m args below meth c H locs cells slots Q (F0 m pc ls st0) := by
  have lt : ∀ {js : List Nat} {w : va_W}, js.map (fun i => X[i]?) = w.map some → (∀ i ∈ js, i < X.length) ∧ js.map (fun i => (X ++ pl)[i]?) = w.map some := by
    intro js w hj
    have h1 : ∀ i ∈ js, i < X.length := by
      intro i hi
      have h2 : X[i]? ∈ js.map (fun i => X[i]?) := List.mem_map.mpr ⟨i, hi, rfl⟩
      rw [hj] at h2
      obtain ⟨z, -, hz⟩ := List.mem_map.mp h2
      exact (List.getElem?_eq_some_iff.mp hz.symm).1
    refine ⟨h1, ?_⟩
    rw [← hj]
    apply List.map_congr_left
    intro i hi
    rw [List.getElem?_append_left (h1 i hi)]
  obtain ⟨c1, c2⟩ := lt hC
  obtain ⟨d1, d2⟩ := lt hR
  have hrng : ∀ i ∈ List.range' X.length pl.length, X.length ≤ i := fun i hi => (List.mem_range'_1.mp hi).1
  refine cr_after (wi := wi) (is := is) (isR := isR ++ List.range' X.length pl.length) (wr := wr ++ pl) rfl (vx_runSW S0 (hM H.size) cw ⟨ck_blind, fun U hU hW => ⟨rfl, ck_pre hG hA hP hD hS c2 hnd U hU hW⟩⟩ rfl hn hsize hst (lv_room hrm) hdg hf) hA hP hD hS c2 ?_ ?_ ?_ (fun u H1 locs1 hu hP1 hD1 hS1 => kk u H1 locs1 hu hP1.swap hD1.swap hS1)
  · rw [List.map_append, d2, rng_map, List.map_append]
  · exact nd_app _ _ hnR (nd_range _ _) (fun i hi z => Nat.lt_irrefl _ (Nat.lt_of_lt_of_le (d1 i hi) (hrng i z)))
  · intro i hi
    rcases List.mem_append.mp hi with h | h
    · exact hdis i h
    · exact fun z => Nat.lt_irrefl _ (Nat.lt_of_lt_of_le (c1 i z) (hrng i h))
end CW1
theorem ck_g1 {w : Cond} (hm : w ∈ ckT) : w ∈ ckT ∧ ((w.onTables && w.keeps) = true ∨ ∃ ty, w = .arrayClass ty) := ⟨hm, good_of_word (List.mem_filter.mp hm).2⟩
def jZl (x : Int32) : Int64 := if x = 0 then lN 0 else lN 1
theorem set_rng : ∀ (X wi w : va_W), w.length = wi.length → ck_set (X ++ wi) (List.range' X.length wi.length) w = X ++ w
  | X, [], [], _ => by show X ++ [] = X ++ []; rfl
  | X, a :: wi, b :: w, h => by
    have ih := set_rng (X ++ [b]) wi w (by simpa using h)
    rw [List.length_cons, List.range'_succ]
    show ck_set ((X ++ a :: wi).set X.length b) (List.range' (X.length + 1) wi.length) w = X ++ b :: w
    rw [List.set_append_right _ _ (Nat.le_refl _), Nat.sub_self]
    rw [List.append_assoc, List.append_assoc, List.length_append] at ih
    exact ih
theorem ha_len {a b : va_W} (h : a.map (·.1) = b.map (·.1)) : a.length = b.length := by
  have := congrArg List.length h
  simpa using this
theorem kLaIAE : Cond.classLink "CoverKeysLaw" 13 "java/lang/IllegalArgumentException" ∈ ckT := ck_m1 (List.mem_of_getElem? (i := 190) rfl) rfl
theorem kLaIOB : Cond.classLink "CoverKeysLaw" 19 "java/lang/IndexOutOfBoundsException" ∈ ckT := ck_m2 (List.mem_of_getElem? (i := 35) rfl) rfl
theorem kLaISE : Cond.classLink "CoverKeysLaw" 21 "java/lang/IllegalStateException" ∈ ckT := ck_m2 (List.mem_of_getElem? (i := 36) rfl) rfl
theorem kLaUOE : Cond.classLink "CoverKeysLaw" 31 "java/lang/UnsupportedOperationException" ∈ ckT := ck_m2 (List.mem_of_getElem? (i := 121) rfl) rfl
theorem knLa : Cond.initialized "CoverKeysLaw" ∈ ckT := ck_m1 (List.mem_of_getElem? (i := 0) rfl) rfl
theorem kLcIAE : Cond.castable "java/lang/IllegalArgumentException" "java/lang/IllegalArgumentException" ∈ ckOdd := by decide +kernel
theorem kLcISE : Cond.castable "java/lang/IllegalStateException" "java/lang/IllegalStateException" ∈ ckOdd := by decide +kernel
theorem kLcIOB : Cond.castable "java/lang/IndexOutOfBoundsException" "java/lang/IndexOutOfBoundsException" ∈ ckOdd := by decide +kernel
theorem kLcUOE : Cond.castable "java/lang/UnsupportedOperationException" "java/lang/UnsupportedOperationException" ∈ ckOdd := by decide +kernel
theorem kLnIAE_ISE : ("java/lang/IllegalArgumentException", "java/lang/IllegalStateException") ∈ ckNc := by decide +kernel
theorem kLnIAE_IOB : ("java/lang/IllegalArgumentException", "java/lang/IndexOutOfBoundsException") ∈ ckNc := by decide +kernel
theorem kLnIAE_UOE : ("java/lang/IllegalArgumentException", "java/lang/UnsupportedOperationException") ∈ ckNc := by decide +kernel
theorem kLnISE_IAE : ("java/lang/IllegalStateException", "java/lang/IllegalArgumentException") ∈ ckNc := by decide +kernel
theorem kLnISE_IOB : ("java/lang/IllegalStateException", "java/lang/IndexOutOfBoundsException") ∈ ckNc := by decide +kernel
theorem kLnISE_UOE : ("java/lang/IllegalStateException", "java/lang/UnsupportedOperationException") ∈ ckNc := by decide +kernel
theorem kLnIOB_IAE : ("java/lang/IndexOutOfBoundsException", "java/lang/IllegalArgumentException") ∈ ckNc := by decide +kernel
theorem kLnIOB_ISE : ("java/lang/IndexOutOfBoundsException", "java/lang/IllegalStateException") ∈ ckNc := by decide +kernel
theorem kLnIOB_UOE : ("java/lang/IndexOutOfBoundsException", "java/lang/UnsupportedOperationException") ∈ ckNc := by decide +kernel
theorem kLnUOE_IAE : ("java/lang/UnsupportedOperationException", "java/lang/IllegalArgumentException") ∈ ckNc := by decide +kernel
theorem kLnUOE_ISE : ("java/lang/UnsupportedOperationException", "java/lang/IllegalStateException") ∈ ckNc := by decide +kernel
theorem kLnUOE_IOB : ("java/lang/UnsupportedOperationException", "java/lang/IndexOutOfBoundsException") ∈ ckNc := by decide +kernel
theorem dLa_begin_0 : decode cLa_begin 0 = .ok (.aload_n 0, 1) := by decide +kernel
theorem dLa_begin_1 : decode cLa_begin 1 = .ok (.iload_n 1, 1) := by decide +kernel
theorem dLa_begin_2 : decode cLa_begin 2 = .ok (.lload_n 2, 1) := by decide +kernel
theorem dLa_begin_3 : decode cLa_begin 3 = .ok (.lload 4, 2) := by decide +kernel
theorem dLa_begin_5 : decode cLa_begin 5 = .ok (.invokevirtual 7, 3) := by decide +kernel
theorem dLa_begin_8 : decode cLa_begin 8 = .ok (.goto 7, 3) := by decide +kernel
theorem dLa_begin_11 : decode cLa_begin 11 = .ok (.astore 6, 2) := by decide +kernel
theorem dLa_begin_13 : decode cLa_begin 13 = .ok (.iconst 1, 1) := by decide +kernel
theorem dLa_begin_14 : decode cLa_begin 14 = .ok (.ireturn, 1) := by decide +kernel
theorem dLa_begin_15 : decode cLa_begin 15 = .ok (.iconst 0, 1) := by decide +kernel
theorem dLa_begin_16 : decode cLa_begin 16 = .ok (.ireturn, 1) := by decide +kernel
theorem dLa_install_0 : decode cLa_install 0 = .ok (.aload_n 2, 1) := by decide +kernel
theorem dLa_install_1 : decode cLa_install 1 = .ok (.iconst 0, 1) := by decide +kernel
theorem dLa_install_2 : decode cLa_install 2 = .ok (.aload_n 0, 1) := by decide +kernel
theorem dLa_install_3 : decode cLa_install 3 = .ok (.iload_n 1, 1) := by decide +kernel
theorem dLa_install_4 : decode cLa_install 4 = .ok (.invokevirtual 15, 3) := by decide +kernel
theorem dLa_install_7 : decode cLa_install 7 = .ok (.i2l, 1) := by decide +kernel
theorem dLa_install_8 : decode cLa_install 8 = .ok (.lastore, 1) := by decide +kernel
theorem dLa_install_9 : decode cLa_install 9 = .ok (.goto 9, 3) := by decide +kernel
theorem dLa_install_12 : decode cLa_install 12 = .ok (.astore_n 3, 1) := by decide +kernel
theorem dLa_install_13 : decode cLa_install 13 = .ok (.iconst 1, 1) := by decide +kernel
theorem dLa_install_14 : decode cLa_install 14 = .ok (.ireturn, 1) := by decide +kernel
theorem dLa_install_15 : decode cLa_install 15 = .ok (.astore_n 3, 1) := by decide +kernel
theorem dLa_install_16 : decode cLa_install 16 = .ok (.iconst 2, 1) := by decide +kernel
theorem dLa_install_17 : decode cLa_install 17 = .ok (.ireturn, 1) := by decide +kernel
theorem dLa_install_18 : decode cLa_install 18 = .ok (.iconst 0, 1) := by decide +kernel
theorem dLa_install_19 : decode cLa_install 19 = .ok (.ireturn, 1) := by decide +kernel
theorem dLa_subscribe_0 : decode cLa_subscribe 0 = .ok (.aload 4, 2) := by decide +kernel
theorem dLa_subscribe_2 : decode cLa_subscribe 2 = .ok (.iconst 0, 1) := by decide +kernel
theorem dLa_subscribe_3 : decode cLa_subscribe 3 = .ok (.aload_n 0, 1) := by decide +kernel
theorem dLa_subscribe_4 : decode cLa_subscribe 4 = .ok (.iload_n 1, 1) := by decide +kernel
theorem dLa_subscribe_5 : decode cLa_subscribe 5 = .ok (.iload_n 2, 1) := by decide +kernel
theorem dLa_subscribe_6 : decode cLa_subscribe 6 = .ok (.iload_n 3, 1) := by decide +kernel
theorem dLa_subscribe_7 : decode cLa_subscribe 7 = .ok (.invokevirtual 23, 3) := by decide +kernel
theorem dLa_subscribe_10 : decode cLa_subscribe 10 = .ok (.ifCond .eq 7, 3) := by decide +kernel
theorem dLa_subscribe_13 : decode cLa_subscribe 13 = .ok (.lconst 1, 1) := by decide +kernel
theorem dLa_subscribe_14 : decode cLa_subscribe 14 = .ok (.goto 4, 3) := by decide +kernel
theorem dLa_subscribe_17 : decode cLa_subscribe 17 = .ok (.lconst 0, 1) := by decide +kernel
theorem dLa_subscribe_18 : decode cLa_subscribe 18 = .ok (.lastore, 1) := by decide +kernel
theorem dLa_subscribe_19 : decode cLa_subscribe 19 = .ok (.goto 7, 3) := by decide +kernel
theorem dLa_subscribe_22 : decode cLa_subscribe 22 = .ok (.astore 5, 2) := by decide +kernel
theorem dLa_subscribe_24 : decode cLa_subscribe 24 = .ok (.iconst 1, 1) := by decide +kernel
theorem dLa_subscribe_25 : decode cLa_subscribe 25 = .ok (.ireturn, 1) := by decide +kernel
theorem dLa_subscribe_26 : decode cLa_subscribe 26 = .ok (.iconst 0, 1) := by decide +kernel
theorem dLa_subscribe_27 : decode cLa_subscribe 27 = .ok (.ireturn, 1) := by decide +kernel
theorem dLa_period_0 : decode cLa_period 0 = .ok (.aload 6, 2) := by decide +kernel
theorem dLa_period_2 : decode cLa_period 2 = .ok (.iconst 0, 1) := by decide +kernel
theorem dLa_period_3 : decode cLa_period 3 = .ok (.aload_n 0, 1) := by decide +kernel
theorem dLa_period_4 : decode cLa_period 4 = .ok (.iload_n 1, 1) := by decide +kernel
theorem dLa_period_5 : decode cLa_period 5 = .ok (.lload_n 2, 1) := by decide +kernel
theorem dLa_period_6 : decode cLa_period 6 = .ok (.lload 4, 2) := by decide +kernel
theorem dLa_period_8 : decode cLa_period 8 = .ok (.invokevirtual 27, 3) := by decide +kernel
theorem dLa_period_11 : decode cLa_period 11 = .ok (.i2l, 1) := by decide +kernel
theorem dLa_period_12 : decode cLa_period 12 = .ok (.lastore, 1) := by decide +kernel
theorem dLa_period_13 : decode cLa_period 13 = .ok (.goto 11, 3) := by decide +kernel
theorem dLa_period_16 : decode cLa_period 16 = .ok (.astore 7, 2) := by decide +kernel
theorem dLa_period_18 : decode cLa_period 18 = .ok (.iconst 1, 1) := by decide +kernel
theorem dLa_period_19 : decode cLa_period 19 = .ok (.ireturn, 1) := by decide +kernel
theorem dLa_period_20 : decode cLa_period 20 = .ok (.astore 7, 2) := by decide +kernel
theorem dLa_period_22 : decode cLa_period 22 = .ok (.iconst 2, 1) := by decide +kernel
theorem dLa_period_23 : decode cLa_period 23 = .ok (.ireturn, 1) := by decide +kernel
theorem dLa_period_24 : decode cLa_period 24 = .ok (.iconst 0, 1) := by decide +kernel
theorem dLa_period_25 : decode cLa_period 25 = .ok (.ireturn, 1) := by decide +kernel
theorem dLa_packet_0 : decode cLa_packet 0 = .ok (.aload_n 3, 1) := by decide +kernel
theorem dLa_packet_1 : decode cLa_packet 1 = .ok (.iconst 0, 1) := by decide +kernel
theorem dLa_packet_2 : decode cLa_packet 2 = .ok (.aload_n 0, 1) := by decide +kernel
theorem dLa_packet_3 : decode cLa_packet 3 = .ok (.iload_n 1, 1) := by decide +kernel
theorem dLa_packet_4 : decode cLa_packet 4 = .ok (.iload_n 2, 1) := by decide +kernel
theorem dLa_packet_5 : decode cLa_packet 5 = .ok (.invokevirtual 33, 3) := by decide +kernel
theorem dLa_packet_8 : decode cLa_packet 8 = .ok (.i2l, 1) := by decide +kernel
theorem dLa_packet_9 : decode cLa_packet 9 = .ok (.lastore, 1) := by decide +kernel
theorem dLa_packet_10 : decode cLa_packet 10 = .ok (.goto 15, 3) := by decide +kernel
theorem dLa_packet_13 : decode cLa_packet 13 = .ok (.astore 4, 2) := by decide +kernel
theorem dLa_packet_15 : decode cLa_packet 15 = .ok (.iconst 1, 1) := by decide +kernel
theorem dLa_packet_16 : decode cLa_packet 16 = .ok (.ireturn, 1) := by decide +kernel
theorem dLa_packet_17 : decode cLa_packet 17 = .ok (.astore 4, 2) := by decide +kernel
theorem dLa_packet_19 : decode cLa_packet 19 = .ok (.iconst 2, 1) := by decide +kernel
theorem dLa_packet_20 : decode cLa_packet 20 = .ok (.ireturn, 1) := by decide +kernel
theorem dLa_packet_21 : decode cLa_packet 21 = .ok (.astore 4, 2) := by decide +kernel
theorem dLa_packet_23 : decode cLa_packet 23 = .ok (.iconst 3, 1) := by decide +kernel
theorem dLa_packet_24 : decode cLa_packet 24 = .ok (.ireturn, 1) := by decide +kernel
theorem dLa_packet_25 : decode cLa_packet 25 = .ok (.iconst 0, 1) := by decide +kernel
theorem dLa_packet_26 : decode cLa_packet 26 = .ok (.ireturn, 1) := by decide +kernel
theorem dLa_air_0 : decode cLa_air 0 = .ok (.aload_n 2, 1) := by decide +kernel
theorem dLa_air_1 : decode cLa_air 1 = .ok (.iconst 0, 1) := by decide +kernel
theorem dLa_air_2 : decode cLa_air 2 = .ok (.aload_n 0, 1) := by decide +kernel
theorem dLa_air_3 : decode cLa_air 3 = .ok (.iload_n 1, 1) := by decide +kernel
theorem dLa_air_4 : decode cLa_air 4 = .ok (.invokevirtual 37, 3) := by decide +kernel
theorem dLa_air_7 : decode cLa_air 7 = .ok (.i2l, 1) := by decide +kernel
theorem dLa_air_8 : decode cLa_air 8 = .ok (.lastore, 1) := by decide +kernel
theorem dLa_air_9 : decode cLa_air 9 = .ok (.goto 6, 3) := by decide +kernel
theorem dLa_air_12 : decode cLa_air 12 = .ok (.astore_n 3, 1) := by decide +kernel
theorem dLa_air_13 : decode cLa_air 13 = .ok (.iconst 1, 1) := by decide +kernel
theorem dLa_air_14 : decode cLa_air 14 = .ok (.ireturn, 1) := by decide +kernel
theorem dLa_air_15 : decode cLa_air 15 = .ok (.iconst 0, 1) := by decide +kernel
theorem dLa_air_16 : decode cLa_air 16 = .ok (.ireturn, 1) := by decide +kernel
theorem dLa_flip_0 : decode cLa_flip 0 = .ok (.aload_n 0, 1) := by decide +kernel
theorem dLa_flip_1 : decode cLa_flip 1 = .ok (.iload_n 1, 1) := by decide +kernel
theorem dLa_flip_2 : decode cLa_flip 2 = .ok (.iload_n 2, 1) := by decide +kernel
theorem dLa_flip_3 : decode cLa_flip 3 = .ok (.invokevirtual 40, 3) := by decide +kernel
theorem dLa_flip_6 : decode cLa_flip 6 = .ok (.goto 6, 3) := by decide +kernel
theorem dLa_flip_9 : decode cLa_flip 9 = .ok (.astore_n 3, 1) := by decide +kernel
theorem dLa_flip_10 : decode cLa_flip 10 = .ok (.iconst 1, 1) := by decide +kernel
theorem dLa_flip_11 : decode cLa_flip 11 = .ok (.ireturn, 1) := by decide +kernel
theorem dLa_flip_12 : decode cLa_flip 12 = .ok (.iconst 0, 1) := by decide +kernel
theorem dLa_flip_13 : decode cLa_flip 13 = .ok (.ireturn, 1) := by decide +kernel
theorem dLa_hear_0 : decode cLa_hear 0 = .ok (.aload_n 2, 1) := by decide +kernel
theorem dLa_hear_1 : decode cLa_hear 1 = .ok (.iconst 0, 1) := by decide +kernel
theorem dLa_hear_2 : decode cLa_hear 2 = .ok (.aload_n 0, 1) := by decide +kernel
theorem dLa_hear_3 : decode cLa_hear 3 = .ok (.iload_n 1, 1) := by decide +kernel
theorem dLa_hear_4 : decode cLa_hear 4 = .ok (.invokevirtual 44, 3) := by decide +kernel
theorem dLa_hear_7 : decode cLa_hear 7 = .ok (.i2l, 1) := by decide +kernel
theorem dLa_hear_8 : decode cLa_hear 8 = .ok (.lastore, 1) := by decide +kernel
theorem dLa_hear_9 : decode cLa_hear 9 = .ok (.goto 9, 3) := by decide +kernel
theorem dLa_hear_12 : decode cLa_hear 12 = .ok (.astore_n 3, 1) := by decide +kernel
theorem dLa_hear_13 : decode cLa_hear 13 = .ok (.iconst 1, 1) := by decide +kernel
theorem dLa_hear_14 : decode cLa_hear 14 = .ok (.ireturn, 1) := by decide +kernel
theorem dLa_hear_15 : decode cLa_hear 15 = .ok (.astore_n 3, 1) := by decide +kernel
theorem dLa_hear_16 : decode cLa_hear 16 = .ok (.iconst 2, 1) := by decide +kernel
theorem dLa_hear_17 : decode cLa_hear 17 = .ok (.ireturn, 1) := by decide +kernel
theorem dLa_hear_18 : decode cLa_hear 18 = .ok (.iconst 0, 1) := by decide +kernel
theorem dLa_hear_19 : decode cLa_hear 19 = .ok (.ireturn, 1) := by decide +kernel
theorem dLa_has_0 : decode cLa_has 0 = .ok (.aload_n 3, 1) := by decide +kernel
theorem dLa_has_1 : decode cLa_has 1 = .ok (.iconst 0, 1) := by decide +kernel
theorem dLa_has_2 : decode cLa_has 2 = .ok (.aload_n 0, 1) := by decide +kernel
theorem dLa_has_3 : decode cLa_has 3 = .ok (.iload_n 1, 1) := by decide +kernel
theorem dLa_has_4 : decode cLa_has 4 = .ok (.iload_n 2, 1) := by decide +kernel
theorem dLa_has_5 : decode cLa_has 5 = .ok (.invokevirtual 47, 3) := by decide +kernel
theorem dLa_has_8 : decode cLa_has 8 = .ok (.i2l, 1) := by decide +kernel
theorem dLa_has_9 : decode cLa_has 9 = .ok (.lastore, 1) := by decide +kernel
theorem dLa_has_10 : decode cLa_has 10 = .ok (.goto 7, 3) := by decide +kernel
theorem dLa_has_13 : decode cLa_has 13 = .ok (.astore 4, 2) := by decide +kernel
theorem dLa_has_15 : decode cLa_has 15 = .ok (.iconst 1, 1) := by decide +kernel
theorem dLa_has_16 : decode cLa_has 16 = .ok (.ireturn, 1) := by decide +kernel
theorem dLa_has_17 : decode cLa_has 17 = .ok (.iconst 0, 1) := by decide +kernel
theorem dLa_has_18 : decode cLa_has 18 = .ok (.ireturn, 1) := by decide +kernel
theorem dLa_seal_0 : decode cLa_seal 0 = .ok (.aload_n 0, 1) := by decide +kernel
theorem dLa_seal_1 : decode cLa_seal 1 = .ok (.iload_n 1, 1) := by decide +kernel
theorem dLa_seal_2 : decode cLa_seal 2 = .ok (.lload_n 2, 1) := by decide +kernel
theorem dLa_seal_3 : decode cLa_seal 3 = .ok (.lload 4, 2) := by decide +kernel
theorem dLa_seal_5 : decode cLa_seal 5 = .ok (.lload 6, 2) := by decide +kernel
theorem dLa_seal_7 : decode cLa_seal 7 = .ok (.invokevirtual 50, 3) := by decide +kernel
theorem dLa_seal_10 : decode cLa_seal 10 = .ok (.goto 11, 3) := by decide +kernel
theorem dLa_seal_13 : decode cLa_seal 13 = .ok (.astore 8, 2) := by decide +kernel
theorem dLa_seal_15 : decode cLa_seal 15 = .ok (.iconst 1, 1) := by decide +kernel
theorem dLa_seal_16 : decode cLa_seal 16 = .ok (.ireturn, 1) := by decide +kernel
theorem dLa_seal_17 : decode cLa_seal 17 = .ok (.astore 8, 2) := by decide +kernel
theorem dLa_seal_19 : decode cLa_seal 19 = .ok (.iconst 2, 1) := by decide +kernel
theorem dLa_seal_20 : decode cLa_seal 20 = .ok (.ireturn, 1) := by decide +kernel
theorem dLa_seal_21 : decode cLa_seal 21 = .ok (.iconst 0, 1) := by decide +kernel
theorem dLa_seal_22 : decode cLa_seal 22 = .ok (.ireturn, 1) := by decide +kernel
theorem dLa_open_0 : decode cLa_open 0 = .ok (.aload_n 0, 1) := by decide +kernel
theorem dLa_open_1 : decode cLa_open 1 = .ok (.iload_n 1, 1) := by decide +kernel
theorem dLa_open_2 : decode cLa_open 2 = .ok (.iload_n 2, 1) := by decide +kernel
theorem dLa_open_3 : decode cLa_open 3 = .ok (.lload_n 3, 1) := by decide +kernel
theorem dLa_open_4 : decode cLa_open 4 = .ok (.lload 5, 2) := by decide +kernel
theorem dLa_open_6 : decode cLa_open 6 = .ok (.lload 7, 2) := by decide +kernel
theorem dLa_open_8 : decode cLa_open 8 = .ok (.invokevirtual 54, 3) := by decide +kernel
theorem dLa_open_11 : decode cLa_open 11 = .ok (.goto 11, 3) := by decide +kernel
theorem dLa_open_14 : decode cLa_open 14 = .ok (.astore 9, 2) := by decide +kernel
theorem dLa_open_16 : decode cLa_open 16 = .ok (.iconst 1, 1) := by decide +kernel
theorem dLa_open_17 : decode cLa_open 17 = .ok (.ireturn, 1) := by decide +kernel
theorem dLa_open_18 : decode cLa_open 18 = .ok (.astore 9, 2) := by decide +kernel
theorem dLa_open_20 : decode cLa_open 20 = .ok (.iconst 2, 1) := by decide +kernel
theorem dLa_open_21 : decode cLa_open 21 = .ok (.ireturn, 1) := by decide +kernel
theorem dLa_open_22 : decode cLa_open 22 = .ok (.iconst 0, 1) := by decide +kernel
theorem dLa_open_23 : decode cLa_open 23 = .ok (.ireturn, 1) := by decide +kernel
theorem dLa_subset_0 : decode cLa_subset 0 = .ok (.aload 4, 2) := by decide +kernel
theorem dLa_subset_2 : decode cLa_subset 2 = .ok (.iconst 0, 1) := by decide +kernel
theorem dLa_subset_3 : decode cLa_subset 3 = .ok (.aload_n 0, 1) := by decide +kernel
theorem dLa_subset_4 : decode cLa_subset 4 = .ok (.iload_n 1, 1) := by decide +kernel
theorem dLa_subset_5 : decode cLa_subset 5 = .ok (.iload_n 2, 1) := by decide +kernel
theorem dLa_subset_6 : decode cLa_subset 6 = .ok (.iload_n 3, 1) := by decide +kernel
theorem dLa_subset_7 : decode cLa_subset 7 = .ok (.invokevirtual 58, 3) := by decide +kernel
theorem dLa_subset_10 : decode cLa_subset 10 = .ok (.i2l, 1) := by decide +kernel
theorem dLa_subset_11 : decode cLa_subset 11 = .ok (.lastore, 1) := by decide +kernel
theorem dLa_subset_12 : decode cLa_subset 12 = .ok (.goto 11, 3) := by decide +kernel
theorem dLa_subset_15 : decode cLa_subset 15 = .ok (.astore 5, 2) := by decide +kernel
theorem dLa_subset_17 : decode cLa_subset 17 = .ok (.iconst 1, 1) := by decide +kernel
theorem dLa_subset_18 : decode cLa_subset 18 = .ok (.ireturn, 1) := by decide +kernel
theorem dLa_subset_19 : decode cLa_subset 19 = .ok (.astore 5, 2) := by decide +kernel
theorem dLa_subset_21 : decode cLa_subset 21 = .ok (.iconst 2, 1) := by decide +kernel
theorem dLa_subset_22 : decode cLa_subset 22 = .ok (.ireturn, 1) := by decide +kernel
theorem dLa_subset_23 : decode cLa_subset 23 = .ok (.iconst 0, 1) := by decide +kernel
theorem dLa_subset_24 : decode cLa_subset 24 = .ok (.ireturn, 1) := by decide +kernel
theorem dLa_label_0 : decode cLa_label 0 = .ok (.aload 4, 2) := by decide +kernel
theorem dLa_label_2 : decode cLa_label 2 = .ok (.iconst 0, 1) := by decide +kernel
theorem dLa_label_3 : decode cLa_label 3 = .ok (.aload_n 0, 1) := by decide +kernel
theorem dLa_label_4 : decode cLa_label 4 = .ok (.iload_n 1, 1) := by decide +kernel
theorem dLa_label_5 : decode cLa_label 5 = .ok (.iload_n 2, 1) := by decide +kernel
theorem dLa_label_6 : decode cLa_label 6 = .ok (.iload_n 3, 1) := by decide +kernel
theorem dLa_label_7 : decode cLa_label 7 = .ok (.invokevirtual 62, 3) := by decide +kernel
theorem dLa_label_10 : decode cLa_label 10 = .ok (.lastore, 1) := by decide +kernel
theorem dLa_label_11 : decode cLa_label 11 = .ok (.goto 15, 3) := by decide +kernel
theorem dLa_label_14 : decode cLa_label 14 = .ok (.astore 5, 2) := by decide +kernel
theorem dLa_label_16 : decode cLa_label 16 = .ok (.iconst 1, 1) := by decide +kernel
theorem dLa_label_17 : decode cLa_label 17 = .ok (.ireturn, 1) := by decide +kernel
theorem dLa_label_18 : decode cLa_label 18 = .ok (.astore 5, 2) := by decide +kernel
theorem dLa_label_20 : decode cLa_label 20 = .ok (.iconst 2, 1) := by decide +kernel
theorem dLa_label_21 : decode cLa_label 21 = .ok (.ireturn, 1) := by decide +kernel
theorem dLa_label_22 : decode cLa_label 22 = .ok (.astore 5, 2) := by decide +kernel
theorem dLa_label_24 : decode cLa_label 24 = .ok (.iconst 3, 1) := by decide +kernel
theorem dLa_label_25 : decode cLa_label 25 = .ok (.ireturn, 1) := by decide +kernel
theorem dLa_label_26 : decode cLa_label 26 = .ok (.iconst 0, 1) := by decide +kernel
theorem dLa_label_27 : decode cLa_label 27 = .ok (.ireturn, 1) := by decide +kernel
theorem dLa_reach_0 : decode cLa_reach 0 = .ok (.aload_n 3, 1) := by decide +kernel
theorem dLa_reach_1 : decode cLa_reach 1 = .ok (.iconst 0, 1) := by decide +kernel
theorem dLa_reach_2 : decode cLa_reach 2 = .ok (.aload_n 0, 1) := by decide +kernel
theorem dLa_reach_3 : decode cLa_reach 3 = .ok (.iload_n 1, 1) := by decide +kernel
theorem dLa_reach_4 : decode cLa_reach 4 = .ok (.iload_n 2, 1) := by decide +kernel
theorem dLa_reach_5 : decode cLa_reach 5 = .ok (.invokevirtual 66, 3) := by decide +kernel
theorem dLa_reach_8 : decode cLa_reach 8 = .ok (.i2l, 1) := by decide +kernel
theorem dLa_reach_9 : decode cLa_reach 9 = .ok (.lastore, 1) := by decide +kernel
theorem dLa_reach_10 : decode cLa_reach 10 = .ok (.goto 11, 3) := by decide +kernel
theorem dLa_reach_13 : decode cLa_reach 13 = .ok (.astore 4, 2) := by decide +kernel
theorem dLa_reach_15 : decode cLa_reach 15 = .ok (.iconst 1, 1) := by decide +kernel
theorem dLa_reach_16 : decode cLa_reach 16 = .ok (.ireturn, 1) := by decide +kernel
theorem dLa_reach_17 : decode cLa_reach 17 = .ok (.astore 4, 2) := by decide +kernel
theorem dLa_reach_19 : decode cLa_reach 19 = .ok (.iconst 2, 1) := by decide +kernel
theorem dLa_reach_20 : decode cLa_reach 20 = .ok (.ireturn, 1) := by decide +kernel
theorem dLa_reach_21 : decode cLa_reach 21 = .ok (.iconst 0, 1) := by decide +kernel
theorem dLa_reach_22 : decode cLa_reach 22 = .ok (.ireturn, 1) := by decide +kernel
theorem dLa_key_0 : decode cLa_key 0 = .ok (.aload 4, 2) := by decide +kernel
theorem dLa_key_2 : decode cLa_key 2 = .ok (.iconst 0, 1) := by decide +kernel
theorem dLa_key_3 : decode cLa_key 3 = .ok (.aload_n 0, 1) := by decide +kernel
theorem dLa_key_4 : decode cLa_key 4 = .ok (.iload_n 1, 1) := by decide +kernel
theorem dLa_key_5 : decode cLa_key 5 = .ok (.iload_n 2, 1) := by decide +kernel
theorem dLa_key_6 : decode cLa_key 6 = .ok (.iload_n 3, 1) := by decide +kernel
theorem dLa_key_7 : decode cLa_key 7 = .ok (.invokevirtual 69, 3) := by decide +kernel
theorem dLa_key_10 : decode cLa_key 10 = .ok (.lastore, 1) := by decide +kernel
theorem dLa_key_11 : decode cLa_key 11 = .ok (.goto 7, 3) := by decide +kernel
theorem dLa_key_14 : decode cLa_key 14 = .ok (.astore 5, 2) := by decide +kernel
theorem dLa_key_16 : decode cLa_key 16 = .ok (.iconst 1, 1) := by decide +kernel
theorem dLa_key_17 : decode cLa_key 17 = .ok (.ireturn, 1) := by decide +kernel
theorem dLa_key_18 : decode cLa_key 18 = .ok (.iconst 0, 1) := by decide +kernel
theorem dLa_key_19 : decode cLa_key 19 = .ok (.ireturn, 1) := by decide +kernel
theorem dLa_count_0 : decode cLa_count 0 = .ok (.aload_n 2, 1) := by decide +kernel
theorem dLa_count_1 : decode cLa_count 1 = .ok (.iconst 0, 1) := by decide +kernel
theorem dLa_count_2 : decode cLa_count 2 = .ok (.aload_n 0, 1) := by decide +kernel
theorem dLa_count_3 : decode cLa_count 3 = .ok (.iload_n 1, 1) := by decide +kernel
theorem dLa_count_4 : decode cLa_count 4 = .ok (.invokevirtual 73, 3) := by decide +kernel
theorem dLa_count_7 : decode cLa_count 7 = .ok (.i2l, 1) := by decide +kernel
theorem dLa_count_8 : decode cLa_count 8 = .ok (.lastore, 1) := by decide +kernel
theorem dLa_count_9 : decode cLa_count 9 = .ok (.goto 6, 3) := by decide +kernel
theorem dLa_count_12 : decode cLa_count 12 = .ok (.astore_n 3, 1) := by decide +kernel
theorem dLa_count_13 : decode cLa_count 13 = .ok (.iconst 1, 1) := by decide +kernel
theorem dLa_count_14 : decode cLa_count 14 = .ok (.ireturn, 1) := by decide +kernel
theorem dLa_count_15 : decode cLa_count 15 = .ok (.iconst 0, 1) := by decide +kernel
theorem dLa_count_16 : decode cLa_count 16 = .ok (.ireturn, 1) := by decide +kernel
section CLL
variable {p : Program} {l : Launch} {e : Env} {R : Room} {s : State} {m : MethodId} {args : Array Value} {below : List Frame} {meth : Method} {c : Code} {H : Heap} {locs : List Loc} {cells slots : Nat} {Q : State → Prop}
variable {cc : ByteArray} {pc nL n : Nat} {ls : Array Slot} {rest st0 As : List Value} {G : gG} {A : Nat → Prop} {ws wi : va_W} {S : Type} {φ : S → Prop} {r : S → Option Value} {wo : S → va_W} {rm : Room} {b : Nat} {fs : List Value}
theorem kcCK_out : Cond.code yCK_out cCK_out 2 (some .long) ∈ ckT := ck_m1 (List.mem_of_getElem? (i := 186) rfl) rfl
theorem kiCK_out : Cond.instanceMethod yCK_out ∈ ckT := ck_m1 (List.mem_of_getElem? (i := 184) rfl) rfl
theorem keCK_out : Cond.selects "CoverKeys" yCK_out yCK_out ∈ ckT := ck_m1 (List.mem_of_getElem? (i := 185) rfl) rfl
theorem kmLa_129 : Cond.methodLink "CoverKeysLaw" 129 yCK_out ∈ ckT := ck_m1 (List.mem_of_getElem? (i := 183) rfl) rfl
theorem clLa_129 (hx : p.tables.exec = Jvm.exec) (hb : c.code = cc) (hml : c.maxLocals = nL) (hown : s.vm.findClass "CoverKeysLaw" = some m.cls) (hts : ∀ w ∈ ckT, w.before args s = true) (hM : Cq l G yCK_out cCK_out 2 (some .long) rm (.ref b :: As) wi φ r wo) (hG : gk G A s s.heap) (hA : ∀ q : Nat, s.heap.size ≤ q → A q) (hP : va_P G.1 vwCl ws H) (hD : va_D A ws) (hS : va_S A s.heap H locs) (q0 : Nat) (hq : ws[q0]? = some (oC b 7 fs)) (is : List Nat) (hC : is.map (fun i => ws[i]?) = wi.map some) (hnd : va_nd is = true) (ha : ∀ u, (wo u).map (·.1) = wi.map (·.1)) (hn : As.length = 1) (hsize : ls.size = nL) (hst : st0 = As.reverse ++ .ref b :: rest) (hrm : (rest.map fun v => v.category).sum ≤ 8) (hR : rm.frames + 1 ≤ R.frames ∧ 8 + (2 + 11) + rm.locals ≤ R.locals) (hf : cells + rm.cells ≤ R.cells ∧ slots + rm.slots ≤ R.slots) (hdg : decode cc pc = .ok (.invokevirtual 129, 3)) (kk : ∀ (u : S) (H1 : Heap) (locs1 : List Loc), φ u → va_P G.1 vwCl (ck_set ws is (wo u)) H1 → va_D A (ck_set ws is (wo u)) → va_S A s.heap H1 locs1 → W p l e R s m args below meth c H1 locs1 (cells + rm.cells) (slots + rm.slots) Q (F0 m (pc + 3) ls ((r u).toList ++ rest))) :
    W p l e R s m args below meth c H locs cells slots Q (F0 m pc ls st0) :=
  cq_V (T := TCK) (N := 9) ⟨hx, hb, hml, hown, hts⟩ hM ⟨callB_of 1 hts (ck_gd0 kcCK_out) rfl rfl rfl (hts _ knCK) (hts _ kmLa_129) ⟨by decide, by decide, by decide +kernel⟩ hR, hts _ kiCK_out, hts _ keCK_out⟩ hG hA hP hD hS hq rfl is hC hnd ha hn hsize hst hrm hdg hf kk
theorem kcCK_begin : Cond.code yCK_begin cCK_begin 7 none ∈ ckT := ck_m1 (List.mem_of_getElem? (i := 194) rfl) rfl
theorem kiCK_begin : Cond.instanceMethod yCK_begin ∈ ckT := ck_m1 (List.mem_of_getElem? (i := 192) rfl) rfl
theorem keCK_begin : Cond.selects "CoverKeys" yCK_begin yCK_begin ∈ ckT := ck_m1 (List.mem_of_getElem? (i := 193) rfl) rfl
theorem kmLa_7 : Cond.methodLink "CoverKeysLaw" 7 yCK_begin ∈ ckT := ck_m1 (List.mem_of_getElem? (i := 191) rfl) rfl
theorem clLa_7 (hx : p.tables.exec = Jvm.exec) (hb : c.code = cc) (hml : c.maxLocals = nL) (hown : s.vm.findClass "CoverKeysLaw" = some m.cls) (hts : ∀ w ∈ ckT, w.before args s = true) (hM : Cq l G yCK_begin cCK_begin 7 none rm (.ref b :: As) wi φ r wo) (hG : gk G A s s.heap) (hA : ∀ q : Nat, s.heap.size ≤ q → A q) (hP : va_P G.1 vwCl ws H) (hD : va_D A ws) (hS : va_S A s.heap H locs) (q0 : Nat) (hq : ws[q0]? = some (oC b 7 fs)) (is : List Nat) (hC : is.map (fun i => ws[i]?) = wi.map some) (hnd : va_nd is = true) (ha : ∀ u, (wo u).map (·.1) = wi.map (·.1)) (hn : As.length = 3) (hsize : ls.size = nL) (hst : st0 = As.reverse ++ .ref b :: rest) (hrm : (rest.map fun v => v.category).sum ≤ 8) (hR : rm.frames + 1 ≤ R.frames ∧ 8 + (7 + 11) + rm.locals ≤ R.locals) (hf : cells + rm.cells ≤ R.cells ∧ slots + rm.slots ≤ R.slots) (hdg : decode cc pc = .ok (.invokevirtual 7, 3)) (kk : ∀ (u : S) (H1 : Heap) (locs1 : List Loc), φ u → va_P G.1 vwCl (ck_set ws is (wo u)) H1 → va_D A (ck_set ws is (wo u)) → va_S A s.heap H1 locs1 → W p l e R s m args below meth c H1 locs1 (cells + rm.cells) (slots + rm.slots) Q (F0 m (pc + 3) ls ((r u).toList ++ rest))) :
    W p l e R s m args below meth c H locs cells slots Q (F0 m pc ls st0) :=
  cq_V (T := TCK) (N := 9) ⟨hx, hb, hml, hown, hts⟩ hM ⟨callB_of 3 hts (ck_gd0 kcCK_begin) rfl rfl rfl (hts _ knCK) (hts _ kmLa_7) ⟨by decide, by decide, by decide +kernel⟩ hR, hts _ kiCK_begin, hts _ keCK_begin⟩ hG hA hP hD hS hq rfl is hC hnd ha hn hsize hst hrm hdg hf kk
theorem kcCK_install : Cond.code yCK_install cCK_install 2 (some .int) ∈ ckT := ck_m2 (List.mem_of_getElem? (i := 40) rfl) rfl
theorem kiCK_install : Cond.instanceMethod yCK_install ∈ ckT := ck_m2 (List.mem_of_getElem? (i := 38) rfl) rfl
theorem keCK_install : Cond.selects "CoverKeys" yCK_install yCK_install ∈ ckT := ck_m2 (List.mem_of_getElem? (i := 39) rfl) rfl
theorem kmLa_15 : Cond.methodLink "CoverKeysLaw" 15 yCK_install ∈ ckT := ck_m2 (List.mem_of_getElem? (i := 37) rfl) rfl
theorem clLa_15 (hx : p.tables.exec = Jvm.exec) (hb : c.code = cc) (hml : c.maxLocals = nL) (hown : s.vm.findClass "CoverKeysLaw" = some m.cls) (hts : ∀ w ∈ ckT, w.before args s = true) (hM : Cq l G yCK_install cCK_install 2 (some .int) rm (.ref b :: As) wi φ r wo) (hG : gk G A s s.heap) (hA : ∀ q : Nat, s.heap.size ≤ q → A q) (hP : va_P G.1 vwCl ws H) (hD : va_D A ws) (hS : va_S A s.heap H locs) (q0 : Nat) (hq : ws[q0]? = some (oC b 7 fs)) (is : List Nat) (hC : is.map (fun i => ws[i]?) = wi.map some) (hnd : va_nd is = true) (ha : ∀ u, (wo u).map (·.1) = wi.map (·.1)) (hn : As.length = 1) (hsize : ls.size = nL) (hst : st0 = As.reverse ++ .ref b :: rest) (hrm : (rest.map fun v => v.category).sum ≤ 8) (hR : rm.frames + 1 ≤ R.frames ∧ 8 + (2 + 11) + rm.locals ≤ R.locals) (hf : cells + rm.cells ≤ R.cells ∧ slots + rm.slots ≤ R.slots) (hdg : decode cc pc = .ok (.invokevirtual 15, 3)) (kk : ∀ (u : S) (H1 : Heap) (locs1 : List Loc), φ u → va_P G.1 vwCl (ck_set ws is (wo u)) H1 → va_D A (ck_set ws is (wo u)) → va_S A s.heap H1 locs1 → W p l e R s m args below meth c H1 locs1 (cells + rm.cells) (slots + rm.slots) Q (F0 m (pc + 3) ls ((r u).toList ++ rest))) :
    W p l e R s m args below meth c H locs cells slots Q (F0 m pc ls st0) :=
  cq_V (T := TCK) (N := 9) ⟨hx, hb, hml, hown, hts⟩ hM ⟨callB_of 1 hts (ck_gd0 kcCK_install) rfl rfl rfl (hts _ knCK) (hts _ kmLa_15) ⟨by decide, by decide, by decide +kernel⟩ hR, hts _ kiCK_install, hts _ keCK_install⟩ hG hA hP hD hS hq rfl is hC hnd ha hn hsize hst hrm hdg hf kk
theorem kcCK_subscribe : Cond.code yCK_subscribe cCK_subscribe 6 (some .boolean) ∈ ckT := ck_m2 (List.mem_of_getElem? (i := 110) rfl) rfl
theorem kiCK_subscribe : Cond.instanceMethod yCK_subscribe ∈ ckT := ck_m2 (List.mem_of_getElem? (i := 108) rfl) rfl
theorem keCK_subscribe : Cond.selects "CoverKeys" yCK_subscribe yCK_subscribe ∈ ckT := ck_m2 (List.mem_of_getElem? (i := 109) rfl) rfl
theorem kmLa_23 : Cond.methodLink "CoverKeysLaw" 23 yCK_subscribe ∈ ckT := ck_m2 (List.mem_of_getElem? (i := 107) rfl) rfl
theorem clLa_23 (hx : p.tables.exec = Jvm.exec) (hb : c.code = cc) (hml : c.maxLocals = nL) (hown : s.vm.findClass "CoverKeysLaw" = some m.cls) (hts : ∀ w ∈ ckT, w.before args s = true) (hM : Cq l G yCK_subscribe cCK_subscribe 6 (some .boolean) rm (.ref b :: As) wi φ r wo) (hG : gk G A s s.heap) (hA : ∀ q : Nat, s.heap.size ≤ q → A q) (hP : va_P G.1 vwCl ws H) (hD : va_D A ws) (hS : va_S A s.heap H locs) (q0 : Nat) (hq : ws[q0]? = some (oC b 7 fs)) (is : List Nat) (hC : is.map (fun i => ws[i]?) = wi.map some) (hnd : va_nd is = true) (ha : ∀ u, (wo u).map (·.1) = wi.map (·.1)) (hn : As.length = 3) (hsize : ls.size = nL) (hst : st0 = As.reverse ++ .ref b :: rest) (hrm : (rest.map fun v => v.category).sum ≤ 8) (hR : rm.frames + 1 ≤ R.frames ∧ 8 + (6 + 11) + rm.locals ≤ R.locals) (hf : cells + rm.cells ≤ R.cells ∧ slots + rm.slots ≤ R.slots) (hdg : decode cc pc = .ok (.invokevirtual 23, 3)) (kk : ∀ (u : S) (H1 : Heap) (locs1 : List Loc), φ u → va_P G.1 vwCl (ck_set ws is (wo u)) H1 → va_D A (ck_set ws is (wo u)) → va_S A s.heap H1 locs1 → W p l e R s m args below meth c H1 locs1 (cells + rm.cells) (slots + rm.slots) Q (F0 m (pc + 3) ls ((r u).toList ++ rest))) :
    W p l e R s m args below meth c H locs cells slots Q (F0 m pc ls st0) :=
  cq_V (T := TCK) (N := 9) ⟨hx, hb, hml, hown, hts⟩ hM ⟨callB_of 3 hts (ck_gd0 kcCK_subscribe) rfl rfl rfl (hts _ knCK) (hts _ kmLa_23) ⟨by decide, by decide, by decide +kernel⟩ hR, hts _ kiCK_subscribe, hts _ keCK_subscribe⟩ hG hA hP hD hS hq rfl is hC hnd ha hn hsize hst hrm hdg hf kk
theorem kcCK_period : Cond.code yCK_period cCK_period 7 (some .int) ∈ ckT := ck_m2 (List.mem_of_getElem? (i := 125) rfl) rfl
theorem kiCK_period : Cond.instanceMethod yCK_period ∈ ckT := ck_m2 (List.mem_of_getElem? (i := 123) rfl) rfl
theorem keCK_period : Cond.selects "CoverKeys" yCK_period yCK_period ∈ ckT := ck_m2 (List.mem_of_getElem? (i := 124) rfl) rfl
theorem kmLa_27 : Cond.methodLink "CoverKeysLaw" 27 yCK_period ∈ ckT := ck_m2 (List.mem_of_getElem? (i := 122) rfl) rfl
theorem clLa_27 (hx : p.tables.exec = Jvm.exec) (hb : c.code = cc) (hml : c.maxLocals = nL) (hown : s.vm.findClass "CoverKeysLaw" = some m.cls) (hts : ∀ w ∈ ckT, w.before args s = true) (hM : Cq l G yCK_period cCK_period 7 (some .int) rm (.ref b :: As) wi φ r wo) (hG : gk G A s s.heap) (hA : ∀ q : Nat, s.heap.size ≤ q → A q) (hP : va_P G.1 vwCl ws H) (hD : va_D A ws) (hS : va_S A s.heap H locs) (q0 : Nat) (hq : ws[q0]? = some (oC b 7 fs)) (is : List Nat) (hC : is.map (fun i => ws[i]?) = wi.map some) (hnd : va_nd is = true) (ha : ∀ u, (wo u).map (·.1) = wi.map (·.1)) (hn : As.length = 3) (hsize : ls.size = nL) (hst : st0 = As.reverse ++ .ref b :: rest) (hrm : (rest.map fun v => v.category).sum ≤ 8) (hR : rm.frames + 1 ≤ R.frames ∧ 8 + (7 + 11) + rm.locals ≤ R.locals) (hf : cells + rm.cells ≤ R.cells ∧ slots + rm.slots ≤ R.slots) (hdg : decode cc pc = .ok (.invokevirtual 27, 3)) (kk : ∀ (u : S) (H1 : Heap) (locs1 : List Loc), φ u → va_P G.1 vwCl (ck_set ws is (wo u)) H1 → va_D A (ck_set ws is (wo u)) → va_S A s.heap H1 locs1 → W p l e R s m args below meth c H1 locs1 (cells + rm.cells) (slots + rm.slots) Q (F0 m (pc + 3) ls ((r u).toList ++ rest))) :
    W p l e R s m args below meth c H locs cells slots Q (F0 m pc ls st0) :=
  cq_V (T := TCK) (N := 9) ⟨hx, hb, hml, hown, hts⟩ hM ⟨callB_of 3 hts (ck_gd0 kcCK_period) rfl rfl rfl (hts _ knCK) (hts _ kmLa_27) ⟨by decide, by decide, by decide +kernel⟩ hR, hts _ kiCK_period, hts _ keCK_period⟩ hG hA hP hD hS hq rfl is hC hnd ha hn hsize hst hrm hdg hf kk
theorem kcCK_packet : Cond.code yCK_packet cCK_packet 6 (some .int) ∈ ckT := ck_m2 (List.mem_of_getElem? (i := 169) rfl) rfl
theorem kiCK_packet : Cond.instanceMethod yCK_packet ∈ ckT := ck_m2 (List.mem_of_getElem? (i := 167) rfl) rfl
theorem keCK_packet : Cond.selects "CoverKeys" yCK_packet yCK_packet ∈ ckT := ck_m2 (List.mem_of_getElem? (i := 168) rfl) rfl
theorem kmLa_33 : Cond.methodLink "CoverKeysLaw" 33 yCK_packet ∈ ckT := ck_m2 (List.mem_of_getElem? (i := 166) rfl) rfl
theorem clLa_33 (hx : p.tables.exec = Jvm.exec) (hb : c.code = cc) (hml : c.maxLocals = nL) (hown : s.vm.findClass "CoverKeysLaw" = some m.cls) (hts : ∀ w ∈ ckT, w.before args s = true) (hM : Cq l G yCK_packet cCK_packet 6 (some .int) rm (.ref b :: As) wi φ r wo) (hG : gk G A s s.heap) (hA : ∀ q : Nat, s.heap.size ≤ q → A q) (hP : va_P G.1 vwCl ws H) (hD : va_D A ws) (hS : va_S A s.heap H locs) (q0 : Nat) (hq : ws[q0]? = some (oC b 7 fs)) (is : List Nat) (hC : is.map (fun i => ws[i]?) = wi.map some) (hnd : va_nd is = true) (ha : ∀ u, (wo u).map (·.1) = wi.map (·.1)) (hn : As.length = 2) (hsize : ls.size = nL) (hst : st0 = As.reverse ++ .ref b :: rest) (hrm : (rest.map fun v => v.category).sum ≤ 8) (hR : rm.frames + 1 ≤ R.frames ∧ 8 + (6 + 11) + rm.locals ≤ R.locals) (hf : cells + rm.cells ≤ R.cells ∧ slots + rm.slots ≤ R.slots) (hdg : decode cc pc = .ok (.invokevirtual 33, 3)) (kk : ∀ (u : S) (H1 : Heap) (locs1 : List Loc), φ u → va_P G.1 vwCl (ck_set ws is (wo u)) H1 → va_D A (ck_set ws is (wo u)) → va_S A s.heap H1 locs1 → W p l e R s m args below meth c H1 locs1 (cells + rm.cells) (slots + rm.slots) Q (F0 m (pc + 3) ls ((r u).toList ++ rest))) :
    W p l e R s m args below meth c H locs cells slots Q (F0 m pc ls st0) :=
  cq_V (T := TCK) (N := 9) ⟨hx, hb, hml, hown, hts⟩ hM ⟨callB_of 2 hts (ck_gd0 kcCK_packet) rfl rfl rfl (hts _ knCK) (hts _ kmLa_33) ⟨by decide, by decide, by decide +kernel⟩ hR, hts _ kiCK_packet, hts _ keCK_packet⟩ hG hA hP hD hS hq rfl is hC hnd ha hn hsize hst hrm hdg hf kk
theorem kcCK_air : Cond.code yCK_air cCK_air 2 (some .int) ∈ ckT := ck_m3 (List.mem_of_getElem? (i := 12) rfl) rfl
theorem kiCK_air : Cond.instanceMethod yCK_air ∈ ckT := ck_m3 (List.mem_of_getElem? (i := 10) rfl) rfl
theorem keCK_air : Cond.selects "CoverKeys" yCK_air yCK_air ∈ ckT := ck_m3 (List.mem_of_getElem? (i := 11) rfl) rfl
theorem kmLa_37 : Cond.methodLink "CoverKeysLaw" 37 yCK_air ∈ ckT := ck_m3 (List.mem_of_getElem? (i := 9) rfl) rfl
theorem clLa_37 (hx : p.tables.exec = Jvm.exec) (hb : c.code = cc) (hml : c.maxLocals = nL) (hown : s.vm.findClass "CoverKeysLaw" = some m.cls) (hts : ∀ w ∈ ckT, w.before args s = true) (hM : Cq l G yCK_air cCK_air 2 (some .int) rm (.ref b :: As) wi φ r wo) (hG : gk G A s s.heap) (hA : ∀ q : Nat, s.heap.size ≤ q → A q) (hP : va_P G.1 vwCl ws H) (hD : va_D A ws) (hS : va_S A s.heap H locs) (q0 : Nat) (hq : ws[q0]? = some (oC b 7 fs)) (is : List Nat) (hC : is.map (fun i => ws[i]?) = wi.map some) (hnd : va_nd is = true) (ha : ∀ u, (wo u).map (·.1) = wi.map (·.1)) (hn : As.length = 1) (hsize : ls.size = nL) (hst : st0 = As.reverse ++ .ref b :: rest) (hrm : (rest.map fun v => v.category).sum ≤ 8) (hR : rm.frames + 1 ≤ R.frames ∧ 8 + (2 + 11) + rm.locals ≤ R.locals) (hf : cells + rm.cells ≤ R.cells ∧ slots + rm.slots ≤ R.slots) (hdg : decode cc pc = .ok (.invokevirtual 37, 3)) (kk : ∀ (u : S) (H1 : Heap) (locs1 : List Loc), φ u → va_P G.1 vwCl (ck_set ws is (wo u)) H1 → va_D A (ck_set ws is (wo u)) → va_S A s.heap H1 locs1 → W p l e R s m args below meth c H1 locs1 (cells + rm.cells) (slots + rm.slots) Q (F0 m (pc + 3) ls ((r u).toList ++ rest))) :
    W p l e R s m args below meth c H locs cells slots Q (F0 m pc ls st0) :=
  cq_V (T := TCK) (N := 9) ⟨hx, hb, hml, hown, hts⟩ hM ⟨callB_of 1 hts (ck_gd0 kcCK_air) rfl rfl rfl (hts _ knCK) (hts _ kmLa_37) ⟨by decide, by decide, by decide +kernel⟩ hR, hts _ kiCK_air, hts _ keCK_air⟩ hG hA hP hD hS hq rfl is hC hnd ha hn hsize hst hrm hdg hf kk
theorem kcCK_flip : Cond.code yCK_flip cCK_flip 3 none ∈ ckT := ck_m3 (List.mem_of_getElem? (i := 24) rfl) rfl
theorem kiCK_flip : Cond.instanceMethod yCK_flip ∈ ckT := ck_m3 (List.mem_of_getElem? (i := 22) rfl) rfl
theorem keCK_flip : Cond.selects "CoverKeys" yCK_flip yCK_flip ∈ ckT := ck_m3 (List.mem_of_getElem? (i := 23) rfl) rfl
theorem kmLa_40 : Cond.methodLink "CoverKeysLaw" 40 yCK_flip ∈ ckT := ck_m3 (List.mem_of_getElem? (i := 21) rfl) rfl
theorem clLa_40 (hx : p.tables.exec = Jvm.exec) (hb : c.code = cc) (hml : c.maxLocals = nL) (hown : s.vm.findClass "CoverKeysLaw" = some m.cls) (hts : ∀ w ∈ ckT, w.before args s = true) (hM : Cq l G yCK_flip cCK_flip 3 none rm (.ref b :: As) wi φ r wo) (hG : gk G A s s.heap) (hA : ∀ q : Nat, s.heap.size ≤ q → A q) (hP : va_P G.1 vwCl ws H) (hD : va_D A ws) (hS : va_S A s.heap H locs) (q0 : Nat) (hq : ws[q0]? = some (oC b 7 fs)) (is : List Nat) (hC : is.map (fun i => ws[i]?) = wi.map some) (hnd : va_nd is = true) (ha : ∀ u, (wo u).map (·.1) = wi.map (·.1)) (hn : As.length = 2) (hsize : ls.size = nL) (hst : st0 = As.reverse ++ .ref b :: rest) (hrm : (rest.map fun v => v.category).sum ≤ 8) (hR : rm.frames + 1 ≤ R.frames ∧ 8 + (3 + 11) + rm.locals ≤ R.locals) (hf : cells + rm.cells ≤ R.cells ∧ slots + rm.slots ≤ R.slots) (hdg : decode cc pc = .ok (.invokevirtual 40, 3)) (kk : ∀ (u : S) (H1 : Heap) (locs1 : List Loc), φ u → va_P G.1 vwCl (ck_set ws is (wo u)) H1 → va_D A (ck_set ws is (wo u)) → va_S A s.heap H1 locs1 → W p l e R s m args below meth c H1 locs1 (cells + rm.cells) (slots + rm.slots) Q (F0 m (pc + 3) ls ((r u).toList ++ rest))) :
    W p l e R s m args below meth c H locs cells slots Q (F0 m pc ls st0) :=
  cq_V (T := TCK) (N := 9) ⟨hx, hb, hml, hown, hts⟩ hM ⟨callB_of 2 hts (ck_gd0 kcCK_flip) rfl rfl rfl (hts _ knCK) (hts _ kmLa_40) ⟨by decide, by decide, by decide +kernel⟩ hR, hts _ kiCK_flip, hts _ keCK_flip⟩ hG hA hP hD hS hq rfl is hC hnd ha hn hsize hst hrm hdg hf kk
theorem kcCK_hear : Cond.code yCK_hear cCK_hear 8 (some .int) ∈ ckT := ck_m3 (List.mem_of_getElem? (i := 31) rfl) rfl
theorem kiCK_hear : Cond.instanceMethod yCK_hear ∈ ckT := ck_m3 (List.mem_of_getElem? (i := 29) rfl) rfl
theorem keCK_hear : Cond.selects "CoverKeys" yCK_hear yCK_hear ∈ ckT := ck_m3 (List.mem_of_getElem? (i := 30) rfl) rfl
theorem kmLa_44 : Cond.methodLink "CoverKeysLaw" 44 yCK_hear ∈ ckT := ck_m3 (List.mem_of_getElem? (i := 28) rfl) rfl
theorem clLa_44 (hx : p.tables.exec = Jvm.exec) (hb : c.code = cc) (hml : c.maxLocals = nL) (hown : s.vm.findClass "CoverKeysLaw" = some m.cls) (hts : ∀ w ∈ ckT, w.before args s = true) (hM : Cq l G yCK_hear cCK_hear 8 (some .int) rm (.ref b :: As) wi φ r wo) (hG : gk G A s s.heap) (hA : ∀ q : Nat, s.heap.size ≤ q → A q) (hP : va_P G.1 vwCl ws H) (hD : va_D A ws) (hS : va_S A s.heap H locs) (q0 : Nat) (hq : ws[q0]? = some (oC b 7 fs)) (is : List Nat) (hC : is.map (fun i => ws[i]?) = wi.map some) (hnd : va_nd is = true) (ha : ∀ u, (wo u).map (·.1) = wi.map (·.1)) (hn : As.length = 1) (hsize : ls.size = nL) (hst : st0 = As.reverse ++ .ref b :: rest) (hrm : (rest.map fun v => v.category).sum ≤ 8) (hR : rm.frames + 1 ≤ R.frames ∧ 8 + (8 + 11) + rm.locals ≤ R.locals) (hf : cells + rm.cells ≤ R.cells ∧ slots + rm.slots ≤ R.slots) (hdg : decode cc pc = .ok (.invokevirtual 44, 3)) (kk : ∀ (u : S) (H1 : Heap) (locs1 : List Loc), φ u → va_P G.1 vwCl (ck_set ws is (wo u)) H1 → va_D A (ck_set ws is (wo u)) → va_S A s.heap H1 locs1 → W p l e R s m args below meth c H1 locs1 (cells + rm.cells) (slots + rm.slots) Q (F0 m (pc + 3) ls ((r u).toList ++ rest))) :
    W p l e R s m args below meth c H locs cells slots Q (F0 m pc ls st0) :=
  cq_V (T := TCK) (N := 9) ⟨hx, hb, hml, hown, hts⟩ hM ⟨callB_of 1 hts (ck_gd0 kcCK_hear) rfl rfl rfl (hts _ knCK) (hts _ kmLa_44) ⟨by decide, by decide, by decide +kernel⟩ hR, hts _ kiCK_hear, hts _ keCK_hear⟩ hG hA hP hD hS hq rfl is hC hnd ha hn hsize hst hrm hdg hf kk
theorem kcCK_has : Cond.code yCK_has cCK_has 4 (some .int) ∈ ckT := ck_m3 (List.mem_of_getElem? (i := 73) rfl) rfl
theorem kiCK_has : Cond.instanceMethod yCK_has ∈ ckT := ck_m3 (List.mem_of_getElem? (i := 71) rfl) rfl
theorem keCK_has : Cond.selects "CoverKeys" yCK_has yCK_has ∈ ckT := ck_m3 (List.mem_of_getElem? (i := 72) rfl) rfl
theorem kmLa_47 : Cond.methodLink "CoverKeysLaw" 47 yCK_has ∈ ckT := ck_m3 (List.mem_of_getElem? (i := 70) rfl) rfl
theorem clLa_47 (hx : p.tables.exec = Jvm.exec) (hb : c.code = cc) (hml : c.maxLocals = nL) (hown : s.vm.findClass "CoverKeysLaw" = some m.cls) (hts : ∀ w ∈ ckT, w.before args s = true) (hM : Cq l G yCK_has cCK_has 4 (some .int) rm (.ref b :: As) wi φ r wo) (hG : gk G A s s.heap) (hA : ∀ q : Nat, s.heap.size ≤ q → A q) (hP : va_P G.1 vwCl ws H) (hD : va_D A ws) (hS : va_S A s.heap H locs) (q0 : Nat) (hq : ws[q0]? = some (oC b 7 fs)) (is : List Nat) (hC : is.map (fun i => ws[i]?) = wi.map some) (hnd : va_nd is = true) (ha : ∀ u, (wo u).map (·.1) = wi.map (·.1)) (hn : As.length = 2) (hsize : ls.size = nL) (hst : st0 = As.reverse ++ .ref b :: rest) (hrm : (rest.map fun v => v.category).sum ≤ 8) (hR : rm.frames + 1 ≤ R.frames ∧ 8 + (4 + 11) + rm.locals ≤ R.locals) (hf : cells + rm.cells ≤ R.cells ∧ slots + rm.slots ≤ R.slots) (hdg : decode cc pc = .ok (.invokevirtual 47, 3)) (kk : ∀ (u : S) (H1 : Heap) (locs1 : List Loc), φ u → va_P G.1 vwCl (ck_set ws is (wo u)) H1 → va_D A (ck_set ws is (wo u)) → va_S A s.heap H1 locs1 → W p l e R s m args below meth c H1 locs1 (cells + rm.cells) (slots + rm.slots) Q (F0 m (pc + 3) ls ((r u).toList ++ rest))) :
    W p l e R s m args below meth c H locs cells slots Q (F0 m pc ls st0) :=
  cq_V (T := TCK) (N := 9) ⟨hx, hb, hml, hown, hts⟩ hM ⟨callB_of 2 hts (ck_gd0 kcCK_has) rfl rfl rfl (hts _ knCK) (hts _ kmLa_47) ⟨by decide, by decide, by decide +kernel⟩ hR, hts _ kiCK_has, hts _ keCK_has⟩ hG hA hP hD hS hq rfl is hC hnd ha hn hsize hst hrm hdg hf kk
theorem kcCK_seal : Cond.code yCK_seal cCK_seal 9 none ∈ ckT := ck_m3 (List.mem_of_getElem? (i := 80) rfl) rfl
theorem kiCK_seal : Cond.instanceMethod yCK_seal ∈ ckT := ck_m3 (List.mem_of_getElem? (i := 78) rfl) rfl
theorem keCK_seal : Cond.selects "CoverKeys" yCK_seal yCK_seal ∈ ckT := ck_m3 (List.mem_of_getElem? (i := 79) rfl) rfl
theorem kmLa_50 : Cond.methodLink "CoverKeysLaw" 50 yCK_seal ∈ ckT := ck_m3 (List.mem_of_getElem? (i := 77) rfl) rfl
theorem clLa_50 (hx : p.tables.exec = Jvm.exec) (hb : c.code = cc) (hml : c.maxLocals = nL) (hown : s.vm.findClass "CoverKeysLaw" = some m.cls) (hts : ∀ w ∈ ckT, w.before args s = true) (hM : Cq l G yCK_seal cCK_seal 9 none rm (.ref b :: As) wi φ r wo) (hG : gk G A s s.heap) (hA : ∀ q : Nat, s.heap.size ≤ q → A q) (hP : va_P G.1 vwCl ws H) (hD : va_D A ws) (hS : va_S A s.heap H locs) (q0 : Nat) (hq : ws[q0]? = some (oC b 7 fs)) (is : List Nat) (hC : is.map (fun i => ws[i]?) = wi.map some) (hnd : va_nd is = true) (ha : ∀ u, (wo u).map (·.1) = wi.map (·.1)) (hn : As.length = 4) (hsize : ls.size = nL) (hst : st0 = As.reverse ++ .ref b :: rest) (hrm : (rest.map fun v => v.category).sum ≤ 8) (hR : rm.frames + 1 ≤ R.frames ∧ 8 + (9 + 11) + rm.locals ≤ R.locals) (hf : cells + rm.cells ≤ R.cells ∧ slots + rm.slots ≤ R.slots) (hdg : decode cc pc = .ok (.invokevirtual 50, 3)) (kk : ∀ (u : S) (H1 : Heap) (locs1 : List Loc), φ u → va_P G.1 vwCl (ck_set ws is (wo u)) H1 → va_D A (ck_set ws is (wo u)) → va_S A s.heap H1 locs1 → W p l e R s m args below meth c H1 locs1 (cells + rm.cells) (slots + rm.slots) Q (F0 m (pc + 3) ls ((r u).toList ++ rest))) :
    W p l e R s m args below meth c H locs cells slots Q (F0 m pc ls st0) :=
  cq_V (T := TCK) (N := 9) ⟨hx, hb, hml, hown, hts⟩ hM ⟨callB_of 4 hts (ck_gd0 kcCK_seal) rfl rfl rfl (hts _ knCK) (hts _ kmLa_50) ⟨by decide, by decide, by decide +kernel⟩ hR, hts _ kiCK_seal, hts _ keCK_seal⟩ hG hA hP hD hS hq rfl is hC hnd ha hn hsize hst hrm hdg hf kk
theorem kcCK_open : Cond.code yCK_open cCK_open 10 none ∈ ckT := ck_m3 (List.mem_of_getElem? (i := 93) rfl) rfl
theorem kiCK_open : Cond.instanceMethod yCK_open ∈ ckT := ck_m3 (List.mem_of_getElem? (i := 91) rfl) rfl
theorem keCK_open : Cond.selects "CoverKeys" yCK_open yCK_open ∈ ckT := ck_m3 (List.mem_of_getElem? (i := 92) rfl) rfl
theorem kmLa_54 : Cond.methodLink "CoverKeysLaw" 54 yCK_open ∈ ckT := ck_m3 (List.mem_of_getElem? (i := 90) rfl) rfl
theorem clLa_54 (hx : p.tables.exec = Jvm.exec) (hb : c.code = cc) (hml : c.maxLocals = nL) (hown : s.vm.findClass "CoverKeysLaw" = some m.cls) (hts : ∀ w ∈ ckT, w.before args s = true) (hM : Cq l G yCK_open cCK_open 10 none rm (.ref b :: As) wi φ r wo) (hG : gk G A s s.heap) (hA : ∀ q : Nat, s.heap.size ≤ q → A q) (hP : va_P G.1 vwCl ws H) (hD : va_D A ws) (hS : va_S A s.heap H locs) (q0 : Nat) (hq : ws[q0]? = some (oC b 7 fs)) (is : List Nat) (hC : is.map (fun i => ws[i]?) = wi.map some) (hnd : va_nd is = true) (ha : ∀ u, (wo u).map (·.1) = wi.map (·.1)) (hn : As.length = 5) (hsize : ls.size = nL) (hst : st0 = As.reverse ++ .ref b :: rest) (hrm : (rest.map fun v => v.category).sum ≤ 8) (hR : rm.frames + 1 ≤ R.frames ∧ 8 + (10 + 11) + rm.locals ≤ R.locals) (hf : cells + rm.cells ≤ R.cells ∧ slots + rm.slots ≤ R.slots) (hdg : decode cc pc = .ok (.invokevirtual 54, 3)) (kk : ∀ (u : S) (H1 : Heap) (locs1 : List Loc), φ u → va_P G.1 vwCl (ck_set ws is (wo u)) H1 → va_D A (ck_set ws is (wo u)) → va_S A s.heap H1 locs1 → W p l e R s m args below meth c H1 locs1 (cells + rm.cells) (slots + rm.slots) Q (F0 m (pc + 3) ls ((r u).toList ++ rest))) :
    W p l e R s m args below meth c H locs cells slots Q (F0 m pc ls st0) :=
  cq_V (T := TCK) (N := 9) ⟨hx, hb, hml, hown, hts⟩ hM ⟨callB_of 5 hts (ck_gd0 kcCK_open) rfl rfl rfl (hts _ knCK) (hts _ kmLa_54) ⟨by decide, by decide, by decide +kernel⟩ hR, hts _ kiCK_open, hts _ keCK_open⟩ hG hA hP hD hS hq rfl is hC hnd ha hn hsize hst hrm hdg hf kk
theorem kcCK_subset : Cond.code yCK_subset cCK_subset 5 (some .int) ∈ ckT := ck_m3 (List.mem_of_getElem? (i := 101) rfl) rfl
theorem kiCK_subset : Cond.instanceMethod yCK_subset ∈ ckT := ck_m3 (List.mem_of_getElem? (i := 99) rfl) rfl
theorem keCK_subset : Cond.selects "CoverKeys" yCK_subset yCK_subset ∈ ckT := ck_m3 (List.mem_of_getElem? (i := 100) rfl) rfl
theorem kmLa_58 : Cond.methodLink "CoverKeysLaw" 58 yCK_subset ∈ ckT := ck_m3 (List.mem_of_getElem? (i := 98) rfl) rfl
theorem clLa_58 (hx : p.tables.exec = Jvm.exec) (hb : c.code = cc) (hml : c.maxLocals = nL) (hown : s.vm.findClass "CoverKeysLaw" = some m.cls) (hts : ∀ w ∈ ckT, w.before args s = true) (hM : Cq l G yCK_subset cCK_subset 5 (some .int) rm (.ref b :: As) wi φ r wo) (hG : gk G A s s.heap) (hA : ∀ q : Nat, s.heap.size ≤ q → A q) (hP : va_P G.1 vwCl ws H) (hD : va_D A ws) (hS : va_S A s.heap H locs) (q0 : Nat) (hq : ws[q0]? = some (oC b 7 fs)) (is : List Nat) (hC : is.map (fun i => ws[i]?) = wi.map some) (hnd : va_nd is = true) (ha : ∀ u, (wo u).map (·.1) = wi.map (·.1)) (hn : As.length = 3) (hsize : ls.size = nL) (hst : st0 = As.reverse ++ .ref b :: rest) (hrm : (rest.map fun v => v.category).sum ≤ 8) (hR : rm.frames + 1 ≤ R.frames ∧ 8 + (5 + 11) + rm.locals ≤ R.locals) (hf : cells + rm.cells ≤ R.cells ∧ slots + rm.slots ≤ R.slots) (hdg : decode cc pc = .ok (.invokevirtual 58, 3)) (kk : ∀ (u : S) (H1 : Heap) (locs1 : List Loc), φ u → va_P G.1 vwCl (ck_set ws is (wo u)) H1 → va_D A (ck_set ws is (wo u)) → va_S A s.heap H1 locs1 → W p l e R s m args below meth c H1 locs1 (cells + rm.cells) (slots + rm.slots) Q (F0 m (pc + 3) ls ((r u).toList ++ rest))) :
    W p l e R s m args below meth c H locs cells slots Q (F0 m pc ls st0) :=
  cq_V (T := TCK) (N := 9) ⟨hx, hb, hml, hown, hts⟩ hM ⟨callB_of 3 hts (ck_gd0 kcCK_subset) rfl rfl rfl (hts _ knCK) (hts _ kmLa_58) ⟨by decide, by decide, by decide +kernel⟩ hR, hts _ kiCK_subset, hts _ keCK_subset⟩ hG hA hP hD hS hq rfl is hC hnd ha hn hsize hst hrm hdg hf kk
theorem kcCK_label : Cond.code yCK_label cCK_label 6 (some .long) ∈ ckT := ck_m3 (List.mem_of_getElem? (i := 110) rfl) rfl
theorem kiCK_label : Cond.instanceMethod yCK_label ∈ ckT := ck_m3 (List.mem_of_getElem? (i := 108) rfl) rfl
theorem keCK_label : Cond.selects "CoverKeys" yCK_label yCK_label ∈ ckT := ck_m3 (List.mem_of_getElem? (i := 109) rfl) rfl
theorem kmLa_62 : Cond.methodLink "CoverKeysLaw" 62 yCK_label ∈ ckT := ck_m3 (List.mem_of_getElem? (i := 107) rfl) rfl
theorem clLa_62 (hx : p.tables.exec = Jvm.exec) (hb : c.code = cc) (hml : c.maxLocals = nL) (hown : s.vm.findClass "CoverKeysLaw" = some m.cls) (hts : ∀ w ∈ ckT, w.before args s = true) (hM : Cq l G yCK_label cCK_label 6 (some .long) rm (.ref b :: As) wi φ r wo) (hG : gk G A s s.heap) (hA : ∀ q : Nat, s.heap.size ≤ q → A q) (hP : va_P G.1 vwCl ws H) (hD : va_D A ws) (hS : va_S A s.heap H locs) (q0 : Nat) (hq : ws[q0]? = some (oC b 7 fs)) (is : List Nat) (hC : is.map (fun i => ws[i]?) = wi.map some) (hnd : va_nd is = true) (ha : ∀ u, (wo u).map (·.1) = wi.map (·.1)) (hn : As.length = 3) (hsize : ls.size = nL) (hst : st0 = As.reverse ++ .ref b :: rest) (hrm : (rest.map fun v => v.category).sum ≤ 8) (hR : rm.frames + 1 ≤ R.frames ∧ 8 + (6 + 11) + rm.locals ≤ R.locals) (hf : cells + rm.cells ≤ R.cells ∧ slots + rm.slots ≤ R.slots) (hdg : decode cc pc = .ok (.invokevirtual 62, 3)) (kk : ∀ (u : S) (H1 : Heap) (locs1 : List Loc), φ u → va_P G.1 vwCl (ck_set ws is (wo u)) H1 → va_D A (ck_set ws is (wo u)) → va_S A s.heap H1 locs1 → W p l e R s m args below meth c H1 locs1 (cells + rm.cells) (slots + rm.slots) Q (F0 m (pc + 3) ls ((r u).toList ++ rest))) :
    W p l e R s m args below meth c H locs cells slots Q (F0 m pc ls st0) :=
  cq_V (T := TCK) (N := 9) ⟨hx, hb, hml, hown, hts⟩ hM ⟨callB_of 3 hts (ck_gd0 kcCK_label) rfl rfl rfl (hts _ knCK) (hts _ kmLa_62) ⟨by decide, by decide, by decide +kernel⟩ hR, hts _ kiCK_label, hts _ keCK_label⟩ hG hA hP hD hS hq rfl is hC hnd ha hn hsize hst hrm hdg hf kk
theorem kcCK_reach : Cond.code yCK_reach cCK_reach 6 (some .int) ∈ ckT := ck_m3 (List.mem_of_getElem? (i := 140) rfl) rfl
theorem kiCK_reach : Cond.instanceMethod yCK_reach ∈ ckT := ck_m3 (List.mem_of_getElem? (i := 138) rfl) rfl
theorem keCK_reach : Cond.selects "CoverKeys" yCK_reach yCK_reach ∈ ckT := ck_m3 (List.mem_of_getElem? (i := 139) rfl) rfl
theorem kmLa_66 : Cond.methodLink "CoverKeysLaw" 66 yCK_reach ∈ ckT := ck_m3 (List.mem_of_getElem? (i := 137) rfl) rfl
theorem clLa_66 (hx : p.tables.exec = Jvm.exec) (hb : c.code = cc) (hml : c.maxLocals = nL) (hown : s.vm.findClass "CoverKeysLaw" = some m.cls) (hts : ∀ w ∈ ckT, w.before args s = true) (hM : Cq l G yCK_reach cCK_reach 6 (some .int) rm (.ref b :: As) wi φ r wo) (hG : gk G A s s.heap) (hA : ∀ q : Nat, s.heap.size ≤ q → A q) (hP : va_P G.1 vwCl ws H) (hD : va_D A ws) (hS : va_S A s.heap H locs) (q0 : Nat) (hq : ws[q0]? = some (oC b 7 fs)) (is : List Nat) (hC : is.map (fun i => ws[i]?) = wi.map some) (hnd : va_nd is = true) (ha : ∀ u, (wo u).map (·.1) = wi.map (·.1)) (hn : As.length = 2) (hsize : ls.size = nL) (hst : st0 = As.reverse ++ .ref b :: rest) (hrm : (rest.map fun v => v.category).sum ≤ 8) (hR : rm.frames + 1 ≤ R.frames ∧ 8 + (6 + 11) + rm.locals ≤ R.locals) (hf : cells + rm.cells ≤ R.cells ∧ slots + rm.slots ≤ R.slots) (hdg : decode cc pc = .ok (.invokevirtual 66, 3)) (kk : ∀ (u : S) (H1 : Heap) (locs1 : List Loc), φ u → va_P G.1 vwCl (ck_set ws is (wo u)) H1 → va_D A (ck_set ws is (wo u)) → va_S A s.heap H1 locs1 → W p l e R s m args below meth c H1 locs1 (cells + rm.cells) (slots + rm.slots) Q (F0 m (pc + 3) ls ((r u).toList ++ rest))) :
    W p l e R s m args below meth c H locs cells slots Q (F0 m pc ls st0) :=
  cq_V (T := TCK) (N := 9) ⟨hx, hb, hml, hown, hts⟩ hM ⟨callB_of 2 hts (ck_gd0 kcCK_reach) rfl rfl rfl (hts _ knCK) (hts _ kmLa_66) ⟨by decide, by decide, by decide +kernel⟩ hR, hts _ kiCK_reach, hts _ keCK_reach⟩ hG hA hP hD hS hq rfl is hC hnd ha hn hsize hst hrm hdg hf kk
theorem kcCK_key : Cond.code yCK_key cCK_key 4 (some .long) ∈ ckT := ck_m3 (List.mem_of_getElem? (i := 147) rfl) rfl
theorem kiCK_key : Cond.instanceMethod yCK_key ∈ ckT := ck_m3 (List.mem_of_getElem? (i := 145) rfl) rfl
theorem keCK_key : Cond.selects "CoverKeys" yCK_key yCK_key ∈ ckT := ck_m3 (List.mem_of_getElem? (i := 146) rfl) rfl
theorem kmLa_69 : Cond.methodLink "CoverKeysLaw" 69 yCK_key ∈ ckT := ck_m3 (List.mem_of_getElem? (i := 144) rfl) rfl
theorem clLa_69 (hx : p.tables.exec = Jvm.exec) (hb : c.code = cc) (hml : c.maxLocals = nL) (hown : s.vm.findClass "CoverKeysLaw" = some m.cls) (hts : ∀ w ∈ ckT, w.before args s = true) (hM : Cq l G yCK_key cCK_key 4 (some .long) rm (.ref b :: As) wi φ r wo) (hG : gk G A s s.heap) (hA : ∀ q : Nat, s.heap.size ≤ q → A q) (hP : va_P G.1 vwCl ws H) (hD : va_D A ws) (hS : va_S A s.heap H locs) (q0 : Nat) (hq : ws[q0]? = some (oC b 7 fs)) (is : List Nat) (hC : is.map (fun i => ws[i]?) = wi.map some) (hnd : va_nd is = true) (ha : ∀ u, (wo u).map (·.1) = wi.map (·.1)) (hn : As.length = 3) (hsize : ls.size = nL) (hst : st0 = As.reverse ++ .ref b :: rest) (hrm : (rest.map fun v => v.category).sum ≤ 8) (hR : rm.frames + 1 ≤ R.frames ∧ 8 + (4 + 11) + rm.locals ≤ R.locals) (hf : cells + rm.cells ≤ R.cells ∧ slots + rm.slots ≤ R.slots) (hdg : decode cc pc = .ok (.invokevirtual 69, 3)) (kk : ∀ (u : S) (H1 : Heap) (locs1 : List Loc), φ u → va_P G.1 vwCl (ck_set ws is (wo u)) H1 → va_D A (ck_set ws is (wo u)) → va_S A s.heap H1 locs1 → W p l e R s m args below meth c H1 locs1 (cells + rm.cells) (slots + rm.slots) Q (F0 m (pc + 3) ls ((r u).toList ++ rest))) :
    W p l e R s m args below meth c H locs cells slots Q (F0 m pc ls st0) :=
  cq_V (T := TCK) (N := 9) ⟨hx, hb, hml, hown, hts⟩ hM ⟨callB_of 3 hts (ck_gd0 kcCK_key) rfl rfl rfl (hts _ knCK) (hts _ kmLa_69) ⟨by decide, by decide, by decide +kernel⟩ hR, hts _ kiCK_key, hts _ keCK_key⟩ hG hA hP hD hS hq rfl is hC hnd ha hn hsize hst hrm hdg hf kk
theorem kcCK_count : Cond.code yCK_count cCK_count 2 (some .int) ∈ ckT := ck_m3 (List.mem_of_getElem? (i := 156) rfl) rfl
theorem kiCK_count : Cond.instanceMethod yCK_count ∈ ckT := ck_m3 (List.mem_of_getElem? (i := 154) rfl) rfl
theorem keCK_count : Cond.selects "CoverKeys" yCK_count yCK_count ∈ ckT := ck_m3 (List.mem_of_getElem? (i := 155) rfl) rfl
theorem kmLa_73 : Cond.methodLink "CoverKeysLaw" 73 yCK_count ∈ ckT := ck_m3 (List.mem_of_getElem? (i := 153) rfl) rfl
theorem clLa_73 (hx : p.tables.exec = Jvm.exec) (hb : c.code = cc) (hml : c.maxLocals = nL) (hown : s.vm.findClass "CoverKeysLaw" = some m.cls) (hts : ∀ w ∈ ckT, w.before args s = true) (hM : Cq l G yCK_count cCK_count 2 (some .int) rm (.ref b :: As) wi φ r wo) (hG : gk G A s s.heap) (hA : ∀ q : Nat, s.heap.size ≤ q → A q) (hP : va_P G.1 vwCl ws H) (hD : va_D A ws) (hS : va_S A s.heap H locs) (q0 : Nat) (hq : ws[q0]? = some (oC b 7 fs)) (is : List Nat) (hC : is.map (fun i => ws[i]?) = wi.map some) (hnd : va_nd is = true) (ha : ∀ u, (wo u).map (·.1) = wi.map (·.1)) (hn : As.length = 1) (hsize : ls.size = nL) (hst : st0 = As.reverse ++ .ref b :: rest) (hrm : (rest.map fun v => v.category).sum ≤ 8) (hR : rm.frames + 1 ≤ R.frames ∧ 8 + (2 + 11) + rm.locals ≤ R.locals) (hf : cells + rm.cells ≤ R.cells ∧ slots + rm.slots ≤ R.slots) (hdg : decode cc pc = .ok (.invokevirtual 73, 3)) (kk : ∀ (u : S) (H1 : Heap) (locs1 : List Loc), φ u → va_P G.1 vwCl (ck_set ws is (wo u)) H1 → va_D A (ck_set ws is (wo u)) → va_S A s.heap H1 locs1 → W p l e R s m args below meth c H1 locs1 (cells + rm.cells) (slots + rm.slots) Q (F0 m (pc + 3) ls ((r u).toList ++ rest))) :
    W p l e R s m args below meth c H locs cells slots Q (F0 m pc ls st0) :=
  cq_V (T := TCK) (N := 9) ⟨hx, hb, hml, hown, hts⟩ hM ⟨callB_of 1 hts (ck_gd0 kcCK_count) rfl rfl rfl (hts _ knCK) (hts _ kmLa_73) ⟨by decide, by decide, by decide +kernel⟩ hR, hts _ kiCK_count, hts _ keCK_count⟩ hG hA hP hD hS hq rfl is hC hnd ha hn hsize hst hrm hdg hf kk
theorem kcMo_thrown : Cond.code yMo_thrown cMo_thrown 1 (some .int) ∈ ckT := ck_m4 (List.mem_of_getElem? (i := 36) rfl) rfl
theorem kiMo_thrown : Cond.instanceMethod yMo_thrown ∈ ckT := ck_m4 (List.mem_of_getElem? (i := 34) rfl) rfl
theorem keMo_thrown : Cond.selects "CoverKeysModel" yMo_thrown yMo_thrown ∈ ckT := ck_m4 (List.mem_of_getElem? (i := 35) rfl) rfl
theorem kmLa_88 : Cond.methodLink "CoverKeysLaw" 88 yMo_thrown ∈ ckT := ck_m4 (List.mem_of_getElem? (i := 33) rfl) rfl
theorem clLa_88 (hx : p.tables.exec = Jvm.exec) (hb : c.code = cc) (hml : c.maxLocals = nL) (hown : s.vm.findClass "CoverKeysLaw" = some m.cls) (hts : ∀ w ∈ ckT, w.before args s = true) (hM : Cq l G yMo_thrown cMo_thrown 1 (some .int) rm (.ref b :: As) wi φ r wo) (hG : gk G A s s.heap) (hA : ∀ q : Nat, s.heap.size ≤ q → A q) (hP : va_P G.1 vwCl ws H) (hD : va_D A ws) (hS : va_S A s.heap H locs) (q0 : Nat) (hq : ws[q0]? = some (oC b 8 fs)) (is : List Nat) (hC : is.map (fun i => ws[i]?) = wi.map some) (hnd : va_nd is = true) (ha : ∀ u, (wo u).map (·.1) = wi.map (·.1)) (hn : As.length = 0) (hsize : ls.size = nL) (hst : st0 = As.reverse ++ .ref b :: rest) (hrm : (rest.map fun v => v.category).sum ≤ 8) (hR : rm.frames + 1 ≤ R.frames ∧ 8 + (1 + 11) + rm.locals ≤ R.locals) (hf : cells + rm.cells ≤ R.cells ∧ slots + rm.slots ≤ R.slots) (hdg : decode cc pc = .ok (.invokevirtual 88, 3)) (kk : ∀ (u : S) (H1 : Heap) (locs1 : List Loc), φ u → va_P G.1 vwCl (ck_set ws is (wo u)) H1 → va_D A (ck_set ws is (wo u)) → va_S A s.heap H1 locs1 → W p l e R s m args below meth c H1 locs1 (cells + rm.cells) (slots + rm.slots) Q (F0 m (pc + 3) ls ((r u).toList ++ rest))) :
    W p l e R s m args below meth c H locs cells slots Q (F0 m pc ls st0) :=
  cq_V (T := TMo) (N := 30) ⟨hx, hb, hml, hown, hts⟩ hM ⟨callB_of 0 hts (ck_gd0 kcMo_thrown) rfl rfl rfl (hts _ knMo) (hts _ kmLa_88) ⟨by decide, by decide, by decide +kernel⟩ hR, hts _ kiMo_thrown, hts _ keMo_thrown⟩ hG hA hP hD hS hq rfl is hC hnd ha hn hsize hst hrm hdg hf kk
theorem kcMo_begin : Cond.code yMo_begin cMo_begin 6 none ∈ ckT := ck_m4 (List.mem_of_getElem? (i := 40) rfl) rfl
theorem kiMo_begin : Cond.instanceMethod yMo_begin ∈ ckT := ck_m4 (List.mem_of_getElem? (i := 38) rfl) rfl
theorem keMo_begin : Cond.selects "CoverKeysModel" yMo_begin yMo_begin ∈ ckT := ck_m4 (List.mem_of_getElem? (i := 39) rfl) rfl
theorem kmLa_87 : Cond.methodLink "CoverKeysLaw" 87 yMo_begin ∈ ckT := ck_m4 (List.mem_of_getElem? (i := 37) rfl) rfl
theorem clLa_87 (hx : p.tables.exec = Jvm.exec) (hb : c.code = cc) (hml : c.maxLocals = nL) (hown : s.vm.findClass "CoverKeysLaw" = some m.cls) (hts : ∀ w ∈ ckT, w.before args s = true) (hM : Cq l G yMo_begin cMo_begin 6 none rm (.ref b :: As) wi φ r wo) (hG : gk G A s s.heap) (hA : ∀ q : Nat, s.heap.size ≤ q → A q) (hP : va_P G.1 vwCl ws H) (hD : va_D A ws) (hS : va_S A s.heap H locs) (q0 : Nat) (hq : ws[q0]? = some (oC b 8 fs)) (is : List Nat) (hC : is.map (fun i => ws[i]?) = wi.map some) (hnd : va_nd is = true) (ha : ∀ u, (wo u).map (·.1) = wi.map (·.1)) (hn : As.length = 3) (hsize : ls.size = nL) (hst : st0 = As.reverse ++ .ref b :: rest) (hrm : (rest.map fun v => v.category).sum ≤ 8) (hR : rm.frames + 1 ≤ R.frames ∧ 8 + (6 + 11) + rm.locals ≤ R.locals) (hf : cells + rm.cells ≤ R.cells ∧ slots + rm.slots ≤ R.slots) (hdg : decode cc pc = .ok (.invokevirtual 87, 3)) (kk : ∀ (u : S) (H1 : Heap) (locs1 : List Loc), φ u → va_P G.1 vwCl (ck_set ws is (wo u)) H1 → va_D A (ck_set ws is (wo u)) → va_S A s.heap H1 locs1 → W p l e R s m args below meth c H1 locs1 (cells + rm.cells) (slots + rm.slots) Q (F0 m (pc + 3) ls ((r u).toList ++ rest))) :
    W p l e R s m args below meth c H locs cells slots Q (F0 m pc ls st0) :=
  cq_V (T := TMo) (N := 30) ⟨hx, hb, hml, hown, hts⟩ hM ⟨callB_of 3 hts (ck_gd0 kcMo_begin) rfl rfl rfl (hts _ knMo) (hts _ kmLa_87) ⟨by decide, by decide, by decide +kernel⟩ hR, hts _ kiMo_begin, hts _ keMo_begin⟩ hG hA hP hD hS hq rfl is hC hnd ha hn hsize hst hrm hdg hf kk
theorem kcMo_install : Cond.code yMo_install cMo_install 2 (some .int) ∈ ckT := ck_m4 (List.mem_of_getElem? (i := 44) rfl) rfl
theorem kiMo_install : Cond.instanceMethod yMo_install ∈ ckT := ck_m4 (List.mem_of_getElem? (i := 42) rfl) rfl
theorem keMo_install : Cond.selects "CoverKeysModel" yMo_install yMo_install ∈ ckT := ck_m4 (List.mem_of_getElem? (i := 43) rfl) rfl
theorem kmLa_95 : Cond.methodLink "CoverKeysLaw" 95 yMo_install ∈ ckT := ck_m4 (List.mem_of_getElem? (i := 41) rfl) rfl
theorem clLa_95 (hx : p.tables.exec = Jvm.exec) (hb : c.code = cc) (hml : c.maxLocals = nL) (hown : s.vm.findClass "CoverKeysLaw" = some m.cls) (hts : ∀ w ∈ ckT, w.before args s = true) (hM : Cq l G yMo_install cMo_install 2 (some .int) rm (.ref b :: As) wi φ r wo) (hG : gk G A s s.heap) (hA : ∀ q : Nat, s.heap.size ≤ q → A q) (hP : va_P G.1 vwCl ws H) (hD : va_D A ws) (hS : va_S A s.heap H locs) (q0 : Nat) (hq : ws[q0]? = some (oC b 8 fs)) (is : List Nat) (hC : is.map (fun i => ws[i]?) = wi.map some) (hnd : va_nd is = true) (ha : ∀ u, (wo u).map (·.1) = wi.map (·.1)) (hn : As.length = 1) (hsize : ls.size = nL) (hst : st0 = As.reverse ++ .ref b :: rest) (hrm : (rest.map fun v => v.category).sum ≤ 8) (hR : rm.frames + 1 ≤ R.frames ∧ 8 + (2 + 11) + rm.locals ≤ R.locals) (hf : cells + rm.cells ≤ R.cells ∧ slots + rm.slots ≤ R.slots) (hdg : decode cc pc = .ok (.invokevirtual 95, 3)) (kk : ∀ (u : S) (H1 : Heap) (locs1 : List Loc), φ u → va_P G.1 vwCl (ck_set ws is (wo u)) H1 → va_D A (ck_set ws is (wo u)) → va_S A s.heap H1 locs1 → W p l e R s m args below meth c H1 locs1 (cells + rm.cells) (slots + rm.slots) Q (F0 m (pc + 3) ls ((r u).toList ++ rest))) :
    W p l e R s m args below meth c H locs cells slots Q (F0 m pc ls st0) :=
  cq_V (T := TMo) (N := 30) ⟨hx, hb, hml, hown, hts⟩ hM ⟨callB_of 1 hts (ck_gd0 kcMo_install) rfl rfl rfl (hts _ knMo) (hts _ kmLa_95) ⟨by decide, by decide, by decide +kernel⟩ hR, hts _ kiMo_install, hts _ keMo_install⟩ hG hA hP hD hS hq rfl is hC hnd ha hn hsize hst hrm hdg hf kk
theorem kcMo_subscribe : Cond.code yMo_subscribe cMo_subscribe 5 (some .boolean) ∈ ckT := ck_m4 (List.mem_of_getElem? (i := 56) rfl) rfl
theorem kiMo_subscribe : Cond.instanceMethod yMo_subscribe ∈ ckT := ck_m4 (List.mem_of_getElem? (i := 54) rfl) rfl
theorem keMo_subscribe : Cond.selects "CoverKeysModel" yMo_subscribe yMo_subscribe ∈ ckT := ck_m4 (List.mem_of_getElem? (i := 55) rfl) rfl
theorem kmLa_99 : Cond.methodLink "CoverKeysLaw" 99 yMo_subscribe ∈ ckT := ck_m4 (List.mem_of_getElem? (i := 53) rfl) rfl
theorem clLa_99 (hx : p.tables.exec = Jvm.exec) (hb : c.code = cc) (hml : c.maxLocals = nL) (hown : s.vm.findClass "CoverKeysLaw" = some m.cls) (hts : ∀ w ∈ ckT, w.before args s = true) (hM : Cq l G yMo_subscribe cMo_subscribe 5 (some .boolean) rm (.ref b :: As) wi φ r wo) (hG : gk G A s s.heap) (hA : ∀ q : Nat, s.heap.size ≤ q → A q) (hP : va_P G.1 vwCl ws H) (hD : va_D A ws) (hS : va_S A s.heap H locs) (q0 : Nat) (hq : ws[q0]? = some (oC b 8 fs)) (is : List Nat) (hC : is.map (fun i => ws[i]?) = wi.map some) (hnd : va_nd is = true) (ha : ∀ u, (wo u).map (·.1) = wi.map (·.1)) (hn : As.length = 3) (hsize : ls.size = nL) (hst : st0 = As.reverse ++ .ref b :: rest) (hrm : (rest.map fun v => v.category).sum ≤ 8) (hR : rm.frames + 1 ≤ R.frames ∧ 8 + (5 + 11) + rm.locals ≤ R.locals) (hf : cells + rm.cells ≤ R.cells ∧ slots + rm.slots ≤ R.slots) (hdg : decode cc pc = .ok (.invokevirtual 99, 3)) (kk : ∀ (u : S) (H1 : Heap) (locs1 : List Loc), φ u → va_P G.1 vwCl (ck_set ws is (wo u)) H1 → va_D A (ck_set ws is (wo u)) → va_S A s.heap H1 locs1 → W p l e R s m args below meth c H1 locs1 (cells + rm.cells) (slots + rm.slots) Q (F0 m (pc + 3) ls ((r u).toList ++ rest))) :
    W p l e R s m args below meth c H locs cells slots Q (F0 m pc ls st0) :=
  cq_V (T := TMo) (N := 30) ⟨hx, hb, hml, hown, hts⟩ hM ⟨callB_of 3 hts (ck_gd0 kcMo_subscribe) rfl rfl rfl (hts _ knMo) (hts _ kmLa_99) ⟨by decide, by decide, by decide +kernel⟩ hR, hts _ kiMo_subscribe, hts _ keMo_subscribe⟩ hG hA hP hD hS hq rfl is hC hnd ha hn hsize hst hrm hdg hf kk
theorem kcMo_period : Cond.code yMo_period cMo_period 6 (some .int) ∈ ckT := ck_m4 (List.mem_of_getElem? (i := 63) rfl) rfl
theorem kiMo_period : Cond.instanceMethod yMo_period ∈ ckT := ck_m4 (List.mem_of_getElem? (i := 61) rfl) rfl
theorem keMo_period : Cond.selects "CoverKeysModel" yMo_period yMo_period ∈ ckT := ck_m4 (List.mem_of_getElem? (i := 62) rfl) rfl
theorem kmLa_103 : Cond.methodLink "CoverKeysLaw" 103 yMo_period ∈ ckT := ck_m4 (List.mem_of_getElem? (i := 60) rfl) rfl
theorem clLa_103 (hx : p.tables.exec = Jvm.exec) (hb : c.code = cc) (hml : c.maxLocals = nL) (hown : s.vm.findClass "CoverKeysLaw" = some m.cls) (hts : ∀ w ∈ ckT, w.before args s = true) (hM : Cq l G yMo_period cMo_period 6 (some .int) rm (.ref b :: As) wi φ r wo) (hG : gk G A s s.heap) (hA : ∀ q : Nat, s.heap.size ≤ q → A q) (hP : va_P G.1 vwCl ws H) (hD : va_D A ws) (hS : va_S A s.heap H locs) (q0 : Nat) (hq : ws[q0]? = some (oC b 8 fs)) (is : List Nat) (hC : is.map (fun i => ws[i]?) = wi.map some) (hnd : va_nd is = true) (ha : ∀ u, (wo u).map (·.1) = wi.map (·.1)) (hn : As.length = 3) (hsize : ls.size = nL) (hst : st0 = As.reverse ++ .ref b :: rest) (hrm : (rest.map fun v => v.category).sum ≤ 8) (hR : rm.frames + 1 ≤ R.frames ∧ 8 + (6 + 11) + rm.locals ≤ R.locals) (hf : cells + rm.cells ≤ R.cells ∧ slots + rm.slots ≤ R.slots) (hdg : decode cc pc = .ok (.invokevirtual 103, 3)) (kk : ∀ (u : S) (H1 : Heap) (locs1 : List Loc), φ u → va_P G.1 vwCl (ck_set ws is (wo u)) H1 → va_D A (ck_set ws is (wo u)) → va_S A s.heap H1 locs1 → W p l e R s m args below meth c H1 locs1 (cells + rm.cells) (slots + rm.slots) Q (F0 m (pc + 3) ls ((r u).toList ++ rest))) :
    W p l e R s m args below meth c H locs cells slots Q (F0 m pc ls st0) :=
  cq_V (T := TMo) (N := 30) ⟨hx, hb, hml, hown, hts⟩ hM ⟨callB_of 3 hts (ck_gd0 kcMo_period) rfl rfl rfl (hts _ knMo) (hts _ kmLa_103) ⟨by decide, by decide, by decide +kernel⟩ hR, hts _ kiMo_period, hts _ keMo_period⟩ hG hA hP hD hS hq rfl is hC hnd ha hn hsize hst hrm hdg hf kk
theorem kcMo_packet : Cond.code yMo_packet cMo_packet 8 (some .int) ∈ ckT := ck_m4 (List.mem_of_getElem? (i := 71) rfl) rfl
theorem kiMo_packet : Cond.instanceMethod yMo_packet ∈ ckT := ck_m4 (List.mem_of_getElem? (i := 69) rfl) rfl
theorem keMo_packet : Cond.selects "CoverKeysModel" yMo_packet yMo_packet ∈ ckT := ck_m4 (List.mem_of_getElem? (i := 70) rfl) rfl
theorem kmLa_107 : Cond.methodLink "CoverKeysLaw" 107 yMo_packet ∈ ckT := ck_m4 (List.mem_of_getElem? (i := 68) rfl) rfl
theorem clLa_107 (hx : p.tables.exec = Jvm.exec) (hb : c.code = cc) (hml : c.maxLocals = nL) (hown : s.vm.findClass "CoverKeysLaw" = some m.cls) (hts : ∀ w ∈ ckT, w.before args s = true) (hM : Cq l G yMo_packet cMo_packet 8 (some .int) rm (.ref b :: As) wi φ r wo) (hG : gk G A s s.heap) (hA : ∀ q : Nat, s.heap.size ≤ q → A q) (hP : va_P G.1 vwCl ws H) (hD : va_D A ws) (hS : va_S A s.heap H locs) (q0 : Nat) (hq : ws[q0]? = some (oC b 8 fs)) (is : List Nat) (hC : is.map (fun i => ws[i]?) = wi.map some) (hnd : va_nd is = true) (ha : ∀ u, (wo u).map (·.1) = wi.map (·.1)) (hn : As.length = 2) (hsize : ls.size = nL) (hst : st0 = As.reverse ++ .ref b :: rest) (hrm : (rest.map fun v => v.category).sum ≤ 8) (hR : rm.frames + 1 ≤ R.frames ∧ 8 + (8 + 11) + rm.locals ≤ R.locals) (hf : cells + rm.cells ≤ R.cells ∧ slots + rm.slots ≤ R.slots) (hdg : decode cc pc = .ok (.invokevirtual 107, 3)) (kk : ∀ (u : S) (H1 : Heap) (locs1 : List Loc), φ u → va_P G.1 vwCl (ck_set ws is (wo u)) H1 → va_D A (ck_set ws is (wo u)) → va_S A s.heap H1 locs1 → W p l e R s m args below meth c H1 locs1 (cells + rm.cells) (slots + rm.slots) Q (F0 m (pc + 3) ls ((r u).toList ++ rest))) :
    W p l e R s m args below meth c H locs cells slots Q (F0 m pc ls st0) :=
  cq_V (T := TMo) (N := 30) ⟨hx, hb, hml, hown, hts⟩ hM ⟨callB_of 2 hts (ck_gd0 kcMo_packet) rfl rfl rfl (hts _ knMo) (hts _ kmLa_107) ⟨by decide, by decide, by decide +kernel⟩ hR, hts _ kiMo_packet, hts _ keMo_packet⟩ hG hA hP hD hS hq rfl is hC hnd ha hn hsize hst hrm hdg hf kk
theorem kcMo_air : Cond.code yMo_air cMo_air 2 (some .int) ∈ ckT := ck_m4 (List.mem_of_getElem? (i := 122) rfl) rfl
theorem kiMo_air : Cond.instanceMethod yMo_air ∈ ckT := ck_m4 (List.mem_of_getElem? (i := 120) rfl) rfl
theorem keMo_air : Cond.selects "CoverKeysModel" yMo_air yMo_air ∈ ckT := ck_m4 (List.mem_of_getElem? (i := 121) rfl) rfl
theorem kmLa_110 : Cond.methodLink "CoverKeysLaw" 110 yMo_air ∈ ckT := ck_m4 (List.mem_of_getElem? (i := 119) rfl) rfl
theorem clLa_110 (hx : p.tables.exec = Jvm.exec) (hb : c.code = cc) (hml : c.maxLocals = nL) (hown : s.vm.findClass "CoverKeysLaw" = some m.cls) (hts : ∀ w ∈ ckT, w.before args s = true) (hM : Cq l G yMo_air cMo_air 2 (some .int) rm (.ref b :: As) wi φ r wo) (hG : gk G A s s.heap) (hA : ∀ q : Nat, s.heap.size ≤ q → A q) (hP : va_P G.1 vwCl ws H) (hD : va_D A ws) (hS : va_S A s.heap H locs) (q0 : Nat) (hq : ws[q0]? = some (oC b 8 fs)) (is : List Nat) (hC : is.map (fun i => ws[i]?) = wi.map some) (hnd : va_nd is = true) (ha : ∀ u, (wo u).map (·.1) = wi.map (·.1)) (hn : As.length = 1) (hsize : ls.size = nL) (hst : st0 = As.reverse ++ .ref b :: rest) (hrm : (rest.map fun v => v.category).sum ≤ 8) (hR : rm.frames + 1 ≤ R.frames ∧ 8 + (2 + 11) + rm.locals ≤ R.locals) (hf : cells + rm.cells ≤ R.cells ∧ slots + rm.slots ≤ R.slots) (hdg : decode cc pc = .ok (.invokevirtual 110, 3)) (kk : ∀ (u : S) (H1 : Heap) (locs1 : List Loc), φ u → va_P G.1 vwCl (ck_set ws is (wo u)) H1 → va_D A (ck_set ws is (wo u)) → va_S A s.heap H1 locs1 → W p l e R s m args below meth c H1 locs1 (cells + rm.cells) (slots + rm.slots) Q (F0 m (pc + 3) ls ((r u).toList ++ rest))) :
    W p l e R s m args below meth c H locs cells slots Q (F0 m pc ls st0) :=
  cq_V (T := TMo) (N := 30) ⟨hx, hb, hml, hown, hts⟩ hM ⟨callB_of 1 hts (ck_gd0 kcMo_air) rfl rfl rfl (hts _ knMo) (hts _ kmLa_110) ⟨by decide, by decide, by decide +kernel⟩ hR, hts _ kiMo_air, hts _ keMo_air⟩ hG hA hP hD hS hq rfl is hC hnd ha hn hsize hst hrm hdg hf kk
theorem kcMo_flip : Cond.code yMo_flip cMo_flip 3 none ∈ ckT := ck_m4 (List.mem_of_getElem? (i := 126) rfl) rfl
theorem kiMo_flip : Cond.instanceMethod yMo_flip ∈ ckT := ck_m4 (List.mem_of_getElem? (i := 124) rfl) rfl
theorem keMo_flip : Cond.selects "CoverKeysModel" yMo_flip yMo_flip ∈ ckT := ck_m4 (List.mem_of_getElem? (i := 125) rfl) rfl
theorem kmLa_114 : Cond.methodLink "CoverKeysLaw" 114 yMo_flip ∈ ckT := ck_m4 (List.mem_of_getElem? (i := 123) rfl) rfl
theorem clLa_114 (hx : p.tables.exec = Jvm.exec) (hb : c.code = cc) (hml : c.maxLocals = nL) (hown : s.vm.findClass "CoverKeysLaw" = some m.cls) (hts : ∀ w ∈ ckT, w.before args s = true) (hM : Cq l G yMo_flip cMo_flip 3 none rm (.ref b :: As) wi φ r wo) (hG : gk G A s s.heap) (hA : ∀ q : Nat, s.heap.size ≤ q → A q) (hP : va_P G.1 vwCl ws H) (hD : va_D A ws) (hS : va_S A s.heap H locs) (q0 : Nat) (hq : ws[q0]? = some (oC b 8 fs)) (is : List Nat) (hC : is.map (fun i => ws[i]?) = wi.map some) (hnd : va_nd is = true) (ha : ∀ u, (wo u).map (·.1) = wi.map (·.1)) (hn : As.length = 2) (hsize : ls.size = nL) (hst : st0 = As.reverse ++ .ref b :: rest) (hrm : (rest.map fun v => v.category).sum ≤ 8) (hR : rm.frames + 1 ≤ R.frames ∧ 8 + (3 + 11) + rm.locals ≤ R.locals) (hf : cells + rm.cells ≤ R.cells ∧ slots + rm.slots ≤ R.slots) (hdg : decode cc pc = .ok (.invokevirtual 114, 3)) (kk : ∀ (u : S) (H1 : Heap) (locs1 : List Loc), φ u → va_P G.1 vwCl (ck_set ws is (wo u)) H1 → va_D A (ck_set ws is (wo u)) → va_S A s.heap H1 locs1 → W p l e R s m args below meth c H1 locs1 (cells + rm.cells) (slots + rm.slots) Q (F0 m (pc + 3) ls ((r u).toList ++ rest))) :
    W p l e R s m args below meth c H locs cells slots Q (F0 m pc ls st0) :=
  cq_V (T := TMo) (N := 30) ⟨hx, hb, hml, hown, hts⟩ hM ⟨callB_of 2 hts (ck_gd0 kcMo_flip) rfl rfl rfl (hts _ knMo) (hts _ kmLa_114) ⟨by decide, by decide, by decide +kernel⟩ hR, hts _ kiMo_flip, hts _ keMo_flip⟩ hG hA hP hD hS hq rfl is hC hnd ha hn hsize hst hrm hdg hf kk
theorem kcMo_hear : Cond.code yMo_hear cMo_hear 6 (some .int) ∈ ckT := ck_m4 (List.mem_of_getElem? (i := 130) rfl) rfl
theorem kiMo_hear : Cond.instanceMethod yMo_hear ∈ ckT := ck_m4 (List.mem_of_getElem? (i := 128) rfl) rfl
theorem keMo_hear : Cond.selects "CoverKeysModel" yMo_hear yMo_hear ∈ ckT := ck_m4 (List.mem_of_getElem? (i := 129) rfl) rfl
theorem kmLa_117 : Cond.methodLink "CoverKeysLaw" 117 yMo_hear ∈ ckT := ck_m4 (List.mem_of_getElem? (i := 127) rfl) rfl
theorem clLa_117 (hx : p.tables.exec = Jvm.exec) (hb : c.code = cc) (hml : c.maxLocals = nL) (hown : s.vm.findClass "CoverKeysLaw" = some m.cls) (hts : ∀ w ∈ ckT, w.before args s = true) (hM : Cq l G yMo_hear cMo_hear 6 (some .int) rm (.ref b :: As) wi φ r wo) (hG : gk G A s s.heap) (hA : ∀ q : Nat, s.heap.size ≤ q → A q) (hP : va_P G.1 vwCl ws H) (hD : va_D A ws) (hS : va_S A s.heap H locs) (q0 : Nat) (hq : ws[q0]? = some (oC b 8 fs)) (is : List Nat) (hC : is.map (fun i => ws[i]?) = wi.map some) (hnd : va_nd is = true) (ha : ∀ u, (wo u).map (·.1) = wi.map (·.1)) (hn : As.length = 1) (hsize : ls.size = nL) (hst : st0 = As.reverse ++ .ref b :: rest) (hrm : (rest.map fun v => v.category).sum ≤ 8) (hR : rm.frames + 1 ≤ R.frames ∧ 8 + (6 + 11) + rm.locals ≤ R.locals) (hf : cells + rm.cells ≤ R.cells ∧ slots + rm.slots ≤ R.slots) (hdg : decode cc pc = .ok (.invokevirtual 117, 3)) (kk : ∀ (u : S) (H1 : Heap) (locs1 : List Loc), φ u → va_P G.1 vwCl (ck_set ws is (wo u)) H1 → va_D A (ck_set ws is (wo u)) → va_S A s.heap H1 locs1 → W p l e R s m args below meth c H1 locs1 (cells + rm.cells) (slots + rm.slots) Q (F0 m (pc + 3) ls ((r u).toList ++ rest))) :
    W p l e R s m args below meth c H locs cells slots Q (F0 m pc ls st0) :=
  cq_V (T := TMo) (N := 30) ⟨hx, hb, hml, hown, hts⟩ hM ⟨callB_of 1 hts (ck_gd0 kcMo_hear) rfl rfl rfl (hts _ knMo) (hts _ kmLa_117) ⟨by decide, by decide, by decide +kernel⟩ hR, hts _ kiMo_hear, hts _ keMo_hear⟩ hG hA hP hD hS hq rfl is hC hnd ha hn hsize hst hrm hdg hf kk
theorem kcMo_has : Cond.code yMo_has cMo_has 3 (some .int) ∈ ckT := ck_m4 (List.mem_of_getElem? (i := 161) rfl) rfl
theorem kiMo_has : Cond.instanceMethod yMo_has ∈ ckT := ck_m4 (List.mem_of_getElem? (i := 159) rfl) rfl
theorem keMo_has : Cond.selects "CoverKeysModel" yMo_has yMo_has ∈ ckT := ck_m4 (List.mem_of_getElem? (i := 160) rfl) rfl
theorem kmLa_120 : Cond.methodLink "CoverKeysLaw" 120 yMo_has ∈ ckT := ck_m4 (List.mem_of_getElem? (i := 158) rfl) rfl
theorem clLa_120 (hx : p.tables.exec = Jvm.exec) (hb : c.code = cc) (hml : c.maxLocals = nL) (hown : s.vm.findClass "CoverKeysLaw" = some m.cls) (hts : ∀ w ∈ ckT, w.before args s = true) (hM : Cq l G yMo_has cMo_has 3 (some .int) rm (.ref b :: As) wi φ r wo) (hG : gk G A s s.heap) (hA : ∀ q : Nat, s.heap.size ≤ q → A q) (hP : va_P G.1 vwCl ws H) (hD : va_D A ws) (hS : va_S A s.heap H locs) (q0 : Nat) (hq : ws[q0]? = some (oC b 8 fs)) (is : List Nat) (hC : is.map (fun i => ws[i]?) = wi.map some) (hnd : va_nd is = true) (ha : ∀ u, (wo u).map (·.1) = wi.map (·.1)) (hn : As.length = 2) (hsize : ls.size = nL) (hst : st0 = As.reverse ++ .ref b :: rest) (hrm : (rest.map fun v => v.category).sum ≤ 8) (hR : rm.frames + 1 ≤ R.frames ∧ 8 + (3 + 11) + rm.locals ≤ R.locals) (hf : cells + rm.cells ≤ R.cells ∧ slots + rm.slots ≤ R.slots) (hdg : decode cc pc = .ok (.invokevirtual 120, 3)) (kk : ∀ (u : S) (H1 : Heap) (locs1 : List Loc), φ u → va_P G.1 vwCl (ck_set ws is (wo u)) H1 → va_D A (ck_set ws is (wo u)) → va_S A s.heap H1 locs1 → W p l e R s m args below meth c H1 locs1 (cells + rm.cells) (slots + rm.slots) Q (F0 m (pc + 3) ls ((r u).toList ++ rest))) :
    W p l e R s m args below meth c H locs cells slots Q (F0 m pc ls st0) :=
  cq_V (T := TMo) (N := 30) ⟨hx, hb, hml, hown, hts⟩ hM ⟨callB_of 2 hts (ck_gd0 kcMo_has) rfl rfl rfl (hts _ knMo) (hts _ kmLa_120) ⟨by decide, by decide, by decide +kernel⟩ hR, hts _ kiMo_has, hts _ keMo_has⟩ hG hA hP hD hS hq rfl is hC hnd ha hn hsize hst hrm hdg hf kk
theorem kcMo_seal : Cond.code yMo_seal cMo_seal 8 none ∈ ckT := ck_m4 (List.mem_of_getElem? (i := 165) rfl) rfl
theorem kiMo_seal : Cond.instanceMethod yMo_seal ∈ ckT := ck_m4 (List.mem_of_getElem? (i := 163) rfl) rfl
theorem keMo_seal : Cond.selects "CoverKeysModel" yMo_seal yMo_seal ∈ ckT := ck_m4 (List.mem_of_getElem? (i := 164) rfl) rfl
theorem kmLa_124 : Cond.methodLink "CoverKeysLaw" 124 yMo_seal ∈ ckT := ck_m4 (List.mem_of_getElem? (i := 162) rfl) rfl
theorem clLa_124 (hx : p.tables.exec = Jvm.exec) (hb : c.code = cc) (hml : c.maxLocals = nL) (hown : s.vm.findClass "CoverKeysLaw" = some m.cls) (hts : ∀ w ∈ ckT, w.before args s = true) (hM : Cq l G yMo_seal cMo_seal 8 none rm (.ref b :: As) wi φ r wo) (hG : gk G A s s.heap) (hA : ∀ q : Nat, s.heap.size ≤ q → A q) (hP : va_P G.1 vwCl ws H) (hD : va_D A ws) (hS : va_S A s.heap H locs) (q0 : Nat) (hq : ws[q0]? = some (oC b 8 fs)) (is : List Nat) (hC : is.map (fun i => ws[i]?) = wi.map some) (hnd : va_nd is = true) (ha : ∀ u, (wo u).map (·.1) = wi.map (·.1)) (hn : As.length = 4) (hsize : ls.size = nL) (hst : st0 = As.reverse ++ .ref b :: rest) (hrm : (rest.map fun v => v.category).sum ≤ 8) (hR : rm.frames + 1 ≤ R.frames ∧ 8 + (8 + 11) + rm.locals ≤ R.locals) (hf : cells + rm.cells ≤ R.cells ∧ slots + rm.slots ≤ R.slots) (hdg : decode cc pc = .ok (.invokevirtual 124, 3)) (kk : ∀ (u : S) (H1 : Heap) (locs1 : List Loc), φ u → va_P G.1 vwCl (ck_set ws is (wo u)) H1 → va_D A (ck_set ws is (wo u)) → va_S A s.heap H1 locs1 → W p l e R s m args below meth c H1 locs1 (cells + rm.cells) (slots + rm.slots) Q (F0 m (pc + 3) ls ((r u).toList ++ rest))) :
    W p l e R s m args below meth c H locs cells slots Q (F0 m pc ls st0) :=
  cq_V (T := TMo) (N := 30) ⟨hx, hb, hml, hown, hts⟩ hM ⟨callB_of 4 hts (ck_gd0 kcMo_seal) rfl rfl rfl (hts _ knMo) (hts _ kmLa_124) ⟨by decide, by decide, by decide +kernel⟩ hR, hts _ kiMo_seal, hts _ keMo_seal⟩ hG hA hP hD hS hq rfl is hC hnd ha hn hsize hst hrm hdg hf kk
theorem kcMo_open : Cond.code yMo_open cMo_open 10 none ∈ ckT := ck_m4 (List.mem_of_getElem? (i := 174) rfl) rfl
theorem kiMo_open : Cond.instanceMethod yMo_open ∈ ckT := ck_m4 (List.mem_of_getElem? (i := 172) rfl) rfl
theorem keMo_open : Cond.selects "CoverKeysModel" yMo_open yMo_open ∈ ckT := ck_m4 (List.mem_of_getElem? (i := 173) rfl) rfl
theorem kmLa_128 : Cond.methodLink "CoverKeysLaw" 128 yMo_open ∈ ckT := ck_m4 (List.mem_of_getElem? (i := 171) rfl) rfl
theorem clLa_128 (hx : p.tables.exec = Jvm.exec) (hb : c.code = cc) (hml : c.maxLocals = nL) (hown : s.vm.findClass "CoverKeysLaw" = some m.cls) (hts : ∀ w ∈ ckT, w.before args s = true) (hM : Cq l G yMo_open cMo_open 10 none rm (.ref b :: As) wi φ r wo) (hG : gk G A s s.heap) (hA : ∀ q : Nat, s.heap.size ≤ q → A q) (hP : va_P G.1 vwCl ws H) (hD : va_D A ws) (hS : va_S A s.heap H locs) (q0 : Nat) (hq : ws[q0]? = some (oC b 8 fs)) (is : List Nat) (hC : is.map (fun i => ws[i]?) = wi.map some) (hnd : va_nd is = true) (ha : ∀ u, (wo u).map (·.1) = wi.map (·.1)) (hn : As.length = 5) (hsize : ls.size = nL) (hst : st0 = As.reverse ++ .ref b :: rest) (hrm : (rest.map fun v => v.category).sum ≤ 8) (hR : rm.frames + 1 ≤ R.frames ∧ 8 + (10 + 11) + rm.locals ≤ R.locals) (hf : cells + rm.cells ≤ R.cells ∧ slots + rm.slots ≤ R.slots) (hdg : decode cc pc = .ok (.invokevirtual 128, 3)) (kk : ∀ (u : S) (H1 : Heap) (locs1 : List Loc), φ u → va_P G.1 vwCl (ck_set ws is (wo u)) H1 → va_D A (ck_set ws is (wo u)) → va_S A s.heap H1 locs1 → W p l e R s m args below meth c H1 locs1 (cells + rm.cells) (slots + rm.slots) Q (F0 m (pc + 3) ls ((r u).toList ++ rest))) :
    W p l e R s m args below meth c H locs cells slots Q (F0 m pc ls st0) :=
  cq_V (T := TMo) (N := 30) ⟨hx, hb, hml, hown, hts⟩ hM ⟨callB_of 5 hts (ck_gd0 kcMo_open) rfl rfl rfl (hts _ knMo) (hts _ kmLa_128) ⟨by decide, by decide, by decide +kernel⟩ hR, hts _ kiMo_open, hts _ keMo_open⟩ hG hA hP hD hS hq rfl is hC hnd ha hn hsize hst hrm hdg hf kk
theorem kcMo_out : Cond.code yMo_out cMo_out 2 (some .long) ∈ ckT := ck_m4 (List.mem_of_getElem? (i := 178) rfl) rfl
theorem kiMo_out : Cond.instanceMethod yMo_out ∈ ckT := ck_m4 (List.mem_of_getElem? (i := 176) rfl) rfl
theorem keMo_out : Cond.selects "CoverKeysModel" yMo_out yMo_out ∈ ckT := ck_m4 (List.mem_of_getElem? (i := 177) rfl) rfl
theorem kmLa_133 : Cond.methodLink "CoverKeysLaw" 133 yMo_out ∈ ckT := ck_m4 (List.mem_of_getElem? (i := 175) rfl) rfl
theorem clLa_133 (hx : p.tables.exec = Jvm.exec) (hb : c.code = cc) (hml : c.maxLocals = nL) (hown : s.vm.findClass "CoverKeysLaw" = some m.cls) (hts : ∀ w ∈ ckT, w.before args s = true) (hM : Cq l G yMo_out cMo_out 2 (some .long) rm (.ref b :: As) wi φ r wo) (hG : gk G A s s.heap) (hA : ∀ q : Nat, s.heap.size ≤ q → A q) (hP : va_P G.1 vwCl ws H) (hD : va_D A ws) (hS : va_S A s.heap H locs) (q0 : Nat) (hq : ws[q0]? = some (oC b 8 fs)) (is : List Nat) (hC : is.map (fun i => ws[i]?) = wi.map some) (hnd : va_nd is = true) (ha : ∀ u, (wo u).map (·.1) = wi.map (·.1)) (hn : As.length = 1) (hsize : ls.size = nL) (hst : st0 = As.reverse ++ .ref b :: rest) (hrm : (rest.map fun v => v.category).sum ≤ 8) (hR : rm.frames + 1 ≤ R.frames ∧ 8 + (2 + 11) + rm.locals ≤ R.locals) (hf : cells + rm.cells ≤ R.cells ∧ slots + rm.slots ≤ R.slots) (hdg : decode cc pc = .ok (.invokevirtual 133, 3)) (kk : ∀ (u : S) (H1 : Heap) (locs1 : List Loc), φ u → va_P G.1 vwCl (ck_set ws is (wo u)) H1 → va_D A (ck_set ws is (wo u)) → va_S A s.heap H1 locs1 → W p l e R s m args below meth c H1 locs1 (cells + rm.cells) (slots + rm.slots) Q (F0 m (pc + 3) ls ((r u).toList ++ rest))) :
    W p l e R s m args below meth c H locs cells slots Q (F0 m pc ls st0) :=
  cq_V (T := TMo) (N := 30) ⟨hx, hb, hml, hown, hts⟩ hM ⟨callB_of 1 hts (ck_gd0 kcMo_out) rfl rfl rfl (hts _ knMo) (hts _ kmLa_133) ⟨by decide, by decide, by decide +kernel⟩ hR, hts _ kiMo_out, hts _ keMo_out⟩ hG hA hP hD hS hq rfl is hC hnd ha hn hsize hst hrm hdg hf kk
theorem kcMo_subset : Cond.code yMo_subset cMo_subset 5 (some .int) ∈ ckT := ck_m4 (List.mem_of_getElem? (i := 182) rfl) rfl
theorem kiMo_subset : Cond.instanceMethod yMo_subset ∈ ckT := ck_m4 (List.mem_of_getElem? (i := 180) rfl) rfl
theorem keMo_subset : Cond.selects "CoverKeysModel" yMo_subset yMo_subset ∈ ckT := ck_m4 (List.mem_of_getElem? (i := 181) rfl) rfl
theorem kmLa_136 : Cond.methodLink "CoverKeysLaw" 136 yMo_subset ∈ ckT := ck_m4 (List.mem_of_getElem? (i := 179) rfl) rfl
theorem clLa_136 (hx : p.tables.exec = Jvm.exec) (hb : c.code = cc) (hml : c.maxLocals = nL) (hown : s.vm.findClass "CoverKeysLaw" = some m.cls) (hts : ∀ w ∈ ckT, w.before args s = true) (hM : Cq l G yMo_subset cMo_subset 5 (some .int) rm (.ref b :: As) wi φ r wo) (hG : gk G A s s.heap) (hA : ∀ q : Nat, s.heap.size ≤ q → A q) (hP : va_P G.1 vwCl ws H) (hD : va_D A ws) (hS : va_S A s.heap H locs) (q0 : Nat) (hq : ws[q0]? = some (oC b 8 fs)) (is : List Nat) (hC : is.map (fun i => ws[i]?) = wi.map some) (hnd : va_nd is = true) (ha : ∀ u, (wo u).map (·.1) = wi.map (·.1)) (hn : As.length = 3) (hsize : ls.size = nL) (hst : st0 = As.reverse ++ .ref b :: rest) (hrm : (rest.map fun v => v.category).sum ≤ 8) (hR : rm.frames + 1 ≤ R.frames ∧ 8 + (5 + 11) + rm.locals ≤ R.locals) (hf : cells + rm.cells ≤ R.cells ∧ slots + rm.slots ≤ R.slots) (hdg : decode cc pc = .ok (.invokevirtual 136, 3)) (kk : ∀ (u : S) (H1 : Heap) (locs1 : List Loc), φ u → va_P G.1 vwCl (ck_set ws is (wo u)) H1 → va_D A (ck_set ws is (wo u)) → va_S A s.heap H1 locs1 → W p l e R s m args below meth c H1 locs1 (cells + rm.cells) (slots + rm.slots) Q (F0 m (pc + 3) ls ((r u).toList ++ rest))) :
    W p l e R s m args below meth c H locs cells slots Q (F0 m pc ls st0) :=
  cq_V (T := TMo) (N := 30) ⟨hx, hb, hml, hown, hts⟩ hM ⟨callB_of 3 hts (ck_gd0 kcMo_subset) rfl rfl rfl (hts _ knMo) (hts _ kmLa_136) ⟨by decide, by decide, by decide +kernel⟩ hR, hts _ kiMo_subset, hts _ keMo_subset⟩ hG hA hP hD hS hq rfl is hC hnd ha hn hsize hst hrm hdg hf kk
theorem kcMo_label : Cond.code yMo_label cMo_label 10 (some .long) ∈ ckT := ck_m4 (List.mem_of_getElem? (i := 186) rfl) rfl
theorem kiMo_label : Cond.instanceMethod yMo_label ∈ ckT := ck_m4 (List.mem_of_getElem? (i := 184) rfl) rfl
theorem keMo_label : Cond.selects "CoverKeysModel" yMo_label yMo_label ∈ ckT := ck_m4 (List.mem_of_getElem? (i := 185) rfl) rfl
theorem kmLa_140 : Cond.methodLink "CoverKeysLaw" 140 yMo_label ∈ ckT := ck_m4 (List.mem_of_getElem? (i := 183) rfl) rfl
theorem clLa_140 (hx : p.tables.exec = Jvm.exec) (hb : c.code = cc) (hml : c.maxLocals = nL) (hown : s.vm.findClass "CoverKeysLaw" = some m.cls) (hts : ∀ w ∈ ckT, w.before args s = true) (hM : Cq l G yMo_label cMo_label 10 (some .long) rm (.ref b :: As) wi φ r wo) (hG : gk G A s s.heap) (hA : ∀ q : Nat, s.heap.size ≤ q → A q) (hP : va_P G.1 vwCl ws H) (hD : va_D A ws) (hS : va_S A s.heap H locs) (q0 : Nat) (hq : ws[q0]? = some (oC b 8 fs)) (is : List Nat) (hC : is.map (fun i => ws[i]?) = wi.map some) (hnd : va_nd is = true) (ha : ∀ u, (wo u).map (·.1) = wi.map (·.1)) (hn : As.length = 3) (hsize : ls.size = nL) (hst : st0 = As.reverse ++ .ref b :: rest) (hrm : (rest.map fun v => v.category).sum ≤ 8) (hR : rm.frames + 1 ≤ R.frames ∧ 8 + (10 + 11) + rm.locals ≤ R.locals) (hf : cells + rm.cells ≤ R.cells ∧ slots + rm.slots ≤ R.slots) (hdg : decode cc pc = .ok (.invokevirtual 140, 3)) (kk : ∀ (u : S) (H1 : Heap) (locs1 : List Loc), φ u → va_P G.1 vwCl (ck_set ws is (wo u)) H1 → va_D A (ck_set ws is (wo u)) → va_S A s.heap H1 locs1 → W p l e R s m args below meth c H1 locs1 (cells + rm.cells) (slots + rm.slots) Q (F0 m (pc + 3) ls ((r u).toList ++ rest))) :
    W p l e R s m args below meth c H locs cells slots Q (F0 m pc ls st0) :=
  cq_V (T := TMo) (N := 30) ⟨hx, hb, hml, hown, hts⟩ hM ⟨callB_of 3 hts (ck_gd0 kcMo_label) rfl rfl rfl (hts _ knMo) (hts _ kmLa_140) ⟨by decide, by decide, by decide +kernel⟩ hR, hts _ kiMo_label, hts _ keMo_label⟩ hG hA hP hD hS hq rfl is hC hnd ha hn hsize hst hrm hdg hf kk
theorem kcMo_reach : Cond.code yMo_reach cMo_reach 5 (some .int) ∈ ckT := ck_m4 (List.mem_of_getElem? (i := 190) rfl) rfl
theorem kiMo_reach : Cond.instanceMethod yMo_reach ∈ ckT := ck_m4 (List.mem_of_getElem? (i := 188) rfl) rfl
theorem keMo_reach : Cond.selects "CoverKeysModel" yMo_reach yMo_reach ∈ ckT := ck_m4 (List.mem_of_getElem? (i := 189) rfl) rfl
theorem kmLa_143 : Cond.methodLink "CoverKeysLaw" 143 yMo_reach ∈ ckT := ck_m4 (List.mem_of_getElem? (i := 187) rfl) rfl
theorem clLa_143 (hx : p.tables.exec = Jvm.exec) (hb : c.code = cc) (hml : c.maxLocals = nL) (hown : s.vm.findClass "CoverKeysLaw" = some m.cls) (hts : ∀ w ∈ ckT, w.before args s = true) (hM : Cq l G yMo_reach cMo_reach 5 (some .int) rm (.ref b :: As) wi φ r wo) (hG : gk G A s s.heap) (hA : ∀ q : Nat, s.heap.size ≤ q → A q) (hP : va_P G.1 vwCl ws H) (hD : va_D A ws) (hS : va_S A s.heap H locs) (q0 : Nat) (hq : ws[q0]? = some (oC b 8 fs)) (is : List Nat) (hC : is.map (fun i => ws[i]?) = wi.map some) (hnd : va_nd is = true) (ha : ∀ u, (wo u).map (·.1) = wi.map (·.1)) (hn : As.length = 2) (hsize : ls.size = nL) (hst : st0 = As.reverse ++ .ref b :: rest) (hrm : (rest.map fun v => v.category).sum ≤ 8) (hR : rm.frames + 1 ≤ R.frames ∧ 8 + (5 + 11) + rm.locals ≤ R.locals) (hf : cells + rm.cells ≤ R.cells ∧ slots + rm.slots ≤ R.slots) (hdg : decode cc pc = .ok (.invokevirtual 143, 3)) (kk : ∀ (u : S) (H1 : Heap) (locs1 : List Loc), φ u → va_P G.1 vwCl (ck_set ws is (wo u)) H1 → va_D A (ck_set ws is (wo u)) → va_S A s.heap H1 locs1 → W p l e R s m args below meth c H1 locs1 (cells + rm.cells) (slots + rm.slots) Q (F0 m (pc + 3) ls ((r u).toList ++ rest))) :
    W p l e R s m args below meth c H locs cells slots Q (F0 m pc ls st0) :=
  cq_V (T := TMo) (N := 30) ⟨hx, hb, hml, hown, hts⟩ hM ⟨callB_of 2 hts (ck_gd0 kcMo_reach) rfl rfl rfl (hts _ knMo) (hts _ kmLa_143) ⟨by decide, by decide, by decide +kernel⟩ hR, hts _ kiMo_reach, hts _ keMo_reach⟩ hG hA hP hD hS hq rfl is hC hnd ha hn hsize hst hrm hdg hf kk
theorem kcMo_key : Cond.code yMo_key cMo_key 4 (some .long) ∈ ckT := ck_m4 (List.mem_of_getElem? (i := 194) rfl) rfl
theorem kiMo_key : Cond.instanceMethod yMo_key ∈ ckT := ck_m4 (List.mem_of_getElem? (i := 192) rfl) rfl
theorem keMo_key : Cond.selects "CoverKeysModel" yMo_key yMo_key ∈ ckT := ck_m4 (List.mem_of_getElem? (i := 193) rfl) rfl
theorem kmLa_146 : Cond.methodLink "CoverKeysLaw" 146 yMo_key ∈ ckT := ck_m4 (List.mem_of_getElem? (i := 191) rfl) rfl
theorem clLa_146 (hx : p.tables.exec = Jvm.exec) (hb : c.code = cc) (hml : c.maxLocals = nL) (hown : s.vm.findClass "CoverKeysLaw" = some m.cls) (hts : ∀ w ∈ ckT, w.before args s = true) (hM : Cq l G yMo_key cMo_key 4 (some .long) rm (.ref b :: As) wi φ r wo) (hG : gk G A s s.heap) (hA : ∀ q : Nat, s.heap.size ≤ q → A q) (hP : va_P G.1 vwCl ws H) (hD : va_D A ws) (hS : va_S A s.heap H locs) (q0 : Nat) (hq : ws[q0]? = some (oC b 8 fs)) (is : List Nat) (hC : is.map (fun i => ws[i]?) = wi.map some) (hnd : va_nd is = true) (ha : ∀ u, (wo u).map (·.1) = wi.map (·.1)) (hn : As.length = 3) (hsize : ls.size = nL) (hst : st0 = As.reverse ++ .ref b :: rest) (hrm : (rest.map fun v => v.category).sum ≤ 8) (hR : rm.frames + 1 ≤ R.frames ∧ 8 + (4 + 11) + rm.locals ≤ R.locals) (hf : cells + rm.cells ≤ R.cells ∧ slots + rm.slots ≤ R.slots) (hdg : decode cc pc = .ok (.invokevirtual 146, 3)) (kk : ∀ (u : S) (H1 : Heap) (locs1 : List Loc), φ u → va_P G.1 vwCl (ck_set ws is (wo u)) H1 → va_D A (ck_set ws is (wo u)) → va_S A s.heap H1 locs1 → W p l e R s m args below meth c H1 locs1 (cells + rm.cells) (slots + rm.slots) Q (F0 m (pc + 3) ls ((r u).toList ++ rest))) :
    W p l e R s m args below meth c H locs cells slots Q (F0 m pc ls st0) :=
  cq_V (T := TMo) (N := 30) ⟨hx, hb, hml, hown, hts⟩ hM ⟨callB_of 3 hts (ck_gd0 kcMo_key) rfl rfl rfl (hts _ knMo) (hts _ kmLa_146) ⟨by decide, by decide, by decide +kernel⟩ hR, hts _ kiMo_key, hts _ keMo_key⟩ hG hA hP hD hS hq rfl is hC hnd ha hn hsize hst hrm hdg hf kk
theorem kcMo_count : Cond.code yMo_count cMo_count 5 (some .int) ∈ ckT := ck_m4 (List.mem_of_getElem? (i := 198) rfl) rfl
theorem kiMo_count : Cond.instanceMethod yMo_count ∈ ckT := ck_m4 (List.mem_of_getElem? (i := 196) rfl) rfl
theorem keMo_count : Cond.selects "CoverKeysModel" yMo_count yMo_count ∈ ckT := ck_m4 (List.mem_of_getElem? (i := 197) rfl) rfl
theorem kmLa_149 : Cond.methodLink "CoverKeysLaw" 149 yMo_count ∈ ckT := ck_m4 (List.mem_of_getElem? (i := 195) rfl) rfl
theorem clLa_149 (hx : p.tables.exec = Jvm.exec) (hb : c.code = cc) (hml : c.maxLocals = nL) (hown : s.vm.findClass "CoverKeysLaw" = some m.cls) (hts : ∀ w ∈ ckT, w.before args s = true) (hM : Cq l G yMo_count cMo_count 5 (some .int) rm (.ref b :: As) wi φ r wo) (hG : gk G A s s.heap) (hA : ∀ q : Nat, s.heap.size ≤ q → A q) (hP : va_P G.1 vwCl ws H) (hD : va_D A ws) (hS : va_S A s.heap H locs) (q0 : Nat) (hq : ws[q0]? = some (oC b 8 fs)) (is : List Nat) (hC : is.map (fun i => ws[i]?) = wi.map some) (hnd : va_nd is = true) (ha : ∀ u, (wo u).map (·.1) = wi.map (·.1)) (hn : As.length = 1) (hsize : ls.size = nL) (hst : st0 = As.reverse ++ .ref b :: rest) (hrm : (rest.map fun v => v.category).sum ≤ 8) (hR : rm.frames + 1 ≤ R.frames ∧ 8 + (5 + 11) + rm.locals ≤ R.locals) (hf : cells + rm.cells ≤ R.cells ∧ slots + rm.slots ≤ R.slots) (hdg : decode cc pc = .ok (.invokevirtual 149, 3)) (kk : ∀ (u : S) (H1 : Heap) (locs1 : List Loc), φ u → va_P G.1 vwCl (ck_set ws is (wo u)) H1 → va_D A (ck_set ws is (wo u)) → va_S A s.heap H1 locs1 → W p l e R s m args below meth c H1 locs1 (cells + rm.cells) (slots + rm.slots) Q (F0 m (pc + 3) ls ((r u).toList ++ rest))) :
    W p l e R s m args below meth c H locs cells slots Q (F0 m pc ls st0) :=
  cq_V (T := TMo) (N := 30) ⟨hx, hb, hml, hown, hts⟩ hM ⟨callB_of 1 hts (ck_gd0 kcMo_count) rfl rfl rfl (hts _ knMo) (hts _ kmLa_149) ⟨by decide, by decide, by decide +kernel⟩ hR, hts _ kiMo_count, hts _ keMo_count⟩ hG hA hP hD hS hq rfl is hC hnd ha hn hsize hst hrm hdg hf kk
end CLL
section LWC
variable {p : Program} {l : Launch} {e : Env} {R : Room} {s : State} {m : MethodId} {args : Array Value} {below : List Frame} {meth : Method} {c : Code} {H : Heap} {locs : List Loc} {cells slots : Nat} {Q : State → Prop}
variable {cc : ByteArray} {pc nL n : Nat} {ls : Array Slot} {rest st0 As : List Value} {G : gG} {A : Nat → Prop} {ws wi wr wc pl X : va_W} {E name : String} {J : State → Prop} {hh : List (Nat × Nat × Nat × Nat)} {S : Type} {φ : S → Prop} {r : S → Option Value} {wo : S → va_W} {rm : Room} {b : Nat} {fs : List Value}
theorem kwLa_begin : Cond.codeWith yLa_begin cLa_begin 7 (some .int) [(0, 8, 11, 13)] ∈ ckT := ck_m1 (List.mem_of_getElem? (i := 189) rfl) rfl
theorem ksLa_begin : Cond.static yLa_begin ∈ ckT := ck_m1 (List.mem_of_getElem? (i := 188) rfl) rfl
theorem kmLa_82 : Cond.methodLink "CoverKeysLaw" 82 yLa_begin ∈ ckT := ck_m1 (List.mem_of_getElem? (i := 187) rfl) rfl
theorem csLa_begin (hts : ∀ w ∈ ckT, w.before args s = true) (hR : rm.frames + 1 ≤ R.frames ∧ 8 + (7 + 11) + rm.locals ≤ R.locals) : vx_CSW R s args "CoverKeysLaw" 82 yLa_begin cLa_begin 7 (some .int) [(0, 8, 11, 13)] (Cond.codeWith yLa_begin cLa_begin 7 (some .int) [(0, 8, 11, 13)] :: ckT) rm rm.cells rm.slots 4 :=
  vx_cwSW 4 hts (fun w hw => ck_g1 (by
    simp only [va_wsS, List.mem_append, List.mem_cons, List.not_mem_nil, or_false] at hw
    rcases hw with (rfl | rfl | rfl) | rfl | hw
    · exact kmLa_82
    · exact ksLa_begin
    · exact knLa
    · exact kwLa_begin
    · exact hw)) rfl rfl rfl ⟨by decide, by decide, by decide +kernel⟩ hR
theorem clLa_82 (hx : p.tables.exec = Jvm.exec) (hb : c.code = cc) (hml : c.maxLocals = nL) (hown : s.vm.findClass "CoverKeysLaw" = some m.cls) (hts : ∀ w ∈ ckT, w.before args s = true) (hM : Cqw l G yLa_begin cLa_begin 7 (some .int) [(0, 8, 11, 13)] rm As wi φ r wo) (hG : gk G A s s.heap) (hA : ∀ q : Nat, s.heap.size ≤ q → A q) (hP : va_P G.1 vwCl ws H) (hD : va_D A ws) (hS : va_S A s.heap H locs) (is : List Nat) (hC : is.map (fun i => ws[i]?) = wi.map some) (hnd : va_nd is = true) (ha : ∀ u, (wo u).map (·.1) = wi.map (·.1)) (hn : As.length = 4) (hsize : ls.size = nL) (hst : st0 = As.reverse ++ rest) (hrm : (rest.map fun v => v.category).sum ≤ 8) (hR : rm.frames + 1 ≤ R.frames ∧ 8 + (7 + 11) + rm.locals ≤ R.locals) (hf : cells + rm.cells ≤ R.cells ∧ slots + rm.slots ≤ R.slots) (hdg : decode cc pc = .ok (.invokestatic 82, 3))
    (kk : ∀ (u : S) (H1 : Heap) (locs1 : List Loc), φ u → va_P G.1 vwCl (ck_set ws is (wo u)) H1 → va_D A (ck_set ws is (wo u)) → va_S A s.heap H1 locs1 → W p l e R s m args below meth c H1 locs1 (cells + rm.cells) (slots + rm.slots) Q (F0 m (pc + 3) ls ((r u).toList ++ rest))) : W p l e R s m args below meth c H locs cells slots Q (F0 m pc ls st0) :=
  cw_S ⟨hx, hb, hml, hown, hts⟩ hM (csLa_begin hts hR) hG hA hP hD hS is hC hnd ha hn hsize hst hrm hdg hf kk
theorem cxLa_7 (hx : p.tables.exec = Jvm.exec) (hb : c.code = cc) (hml : c.maxLocals = nL) (hown : s.vm.findClass "CoverKeysLaw" = some m.cls) (hts : ∀ w ∈ ckT, w.before args s = true) (hM : Cx l G yCK_begin cCK_begin 7 none rm (.ref b :: As) wc E wc) (hG : gk G A s s.heap) (hA : ∀ q : Nat, s.heap.size ≤ q → A q) (hP : va_P G.1 vwCl ws H) (hD : va_D A ws) (hS : va_S A s.heap H locs) (q0 : Nat) (hq : ws[q0]? = some (oC b 7 fs)) (is : List Nat) (hC : is.map (fun i => ws[i]?) = wc.map some) (hnd : va_nd is = true) (hset : ck_set ws is wc = ws) (hn : As.length = 3) (hsize : ls.size = nL) (hst : st0 = As.reverse ++ .ref b :: rest) (hrm : (rest.map fun v => v.category).sum ≤ 8) (hR : rm.frames + 1 ≤ R.frames ∧ 8 + (7 + 11) + rm.locals ≤ R.locals) (hf : cells + rm.cells ≤ R.cells ∧ slots + rm.slots ≤ R.slots) (hdg : decode cc pc = .ok (.invokevirtual 7, 3))
    (pre : List ExceptionTableEntry) (x : ExceptionTableEntry) (suf : List ExceptionTableEntry) (hsplit : c.exceptionTable.toList = pre ++ x :: suf) (hpass : ∀ z ∈ pre, covers z pc = false ∨ (z.catchType ≠ 0 ∧ ∃ nm : String, (Cond.classLink "CoverKeysLaw" z.catchType nm).before args s = true ∧ va_Nc E nm s)) (hx9 : covers x pc = true) (h09 : x.catchType ≠ 0) (hlink : (Cond.classLink "CoverKeysLaw" x.catchType name).before args s = true) (hcast : (Cond.castable E name).before args s = true)
    (kk : ∀ (q : Nat) (H1 : Heap) (locs1 : List Loc), va_P G.1 vwCl ws H1 → va_D A ws → va_S A s.heap H1 locs1 → W p l e R s m args below meth c H1 locs1 (cells + rm.cells) (slots + rm.slots) Q (F0 m x.handlerPc ls [.ref q])) : W p l e R s m args below meth c H locs cells slots Q (F0 m pc ls st0) :=
  cw_V (T := TCK) (N := 9) ⟨hx, hb, hml, hown, hts⟩ hM ⟨callB_of 3 hts (ck_gd0 kcCK_begin) rfl rfl rfl (hts _ knCK) (hts _ kmLa_7) ⟨by decide, by decide, by decide +kernel⟩ hR, hts _ kiCK_begin, hts _ keCK_begin⟩ hG hA hP hD hS hq rfl is hC hnd hset hn hsize hst hrm hdg hf pre x suf hsplit hpass hx9 h09 hlink hcast kk
theorem kwLa_install : Cond.codeWith yLa_install cLa_install 4 (some .int) [(0, 9, 12, 19), (0, 9, 15, 21)] ∈ ckT := ck_m2 (List.mem_of_getElem? (i := 34) rfl) rfl
theorem ksLa_install : Cond.static yLa_install ∈ ckT := ck_m2 (List.mem_of_getElem? (i := 33) rfl) rfl
theorem kmLa_92 : Cond.methodLink "CoverKeysLaw" 92 yLa_install ∈ ckT := ck_m2 (List.mem_of_getElem? (i := 32) rfl) rfl
theorem csLa_install (hts : ∀ w ∈ ckT, w.before args s = true) (hR : rm.frames + 1 ≤ R.frames ∧ 8 + (4 + 11) + rm.locals ≤ R.locals) : vx_CSW R s args "CoverKeysLaw" 92 yLa_install cLa_install 4 (some .int) [(0, 9, 12, 19), (0, 9, 15, 21)] (Cond.codeWith yLa_install cLa_install 4 (some .int) [(0, 9, 12, 19), (0, 9, 15, 21)] :: ckT) rm rm.cells rm.slots 3 :=
  vx_cwSW 3 hts (fun w hw => ck_g1 (by
    simp only [va_wsS, List.mem_append, List.mem_cons, List.not_mem_nil, or_false] at hw
    rcases hw with (rfl | rfl | rfl) | rfl | hw
    · exact kmLa_92
    · exact ksLa_install
    · exact knLa
    · exact kwLa_install
    · exact hw)) rfl rfl rfl ⟨by decide, by decide, by decide +kernel⟩ hR
theorem clLa_92 (hx : p.tables.exec = Jvm.exec) (hb : c.code = cc) (hml : c.maxLocals = nL) (hown : s.vm.findClass "CoverKeysLaw" = some m.cls) (hts : ∀ w ∈ ckT, w.before args s = true) (hM : Cqw l G yLa_install cLa_install 4 (some .int) [(0, 9, 12, 19), (0, 9, 15, 21)] rm As wi φ r wo) (hG : gk G A s s.heap) (hA : ∀ q : Nat, s.heap.size ≤ q → A q) (hP : va_P G.1 vwCl ws H) (hD : va_D A ws) (hS : va_S A s.heap H locs) (is : List Nat) (hC : is.map (fun i => ws[i]?) = wi.map some) (hnd : va_nd is = true) (ha : ∀ u, (wo u).map (·.1) = wi.map (·.1)) (hn : As.length = 3) (hsize : ls.size = nL) (hst : st0 = As.reverse ++ rest) (hrm : (rest.map fun v => v.category).sum ≤ 8) (hR : rm.frames + 1 ≤ R.frames ∧ 8 + (4 + 11) + rm.locals ≤ R.locals) (hf : cells + rm.cells ≤ R.cells ∧ slots + rm.slots ≤ R.slots) (hdg : decode cc pc = .ok (.invokestatic 92, 3))
    (kk : ∀ (u : S) (H1 : Heap) (locs1 : List Loc), φ u → va_P G.1 vwCl (ck_set ws is (wo u)) H1 → va_D A (ck_set ws is (wo u)) → va_S A s.heap H1 locs1 → W p l e R s m args below meth c H1 locs1 (cells + rm.cells) (slots + rm.slots) Q (F0 m (pc + 3) ls ((r u).toList ++ rest))) : W p l e R s m args below meth c H locs cells slots Q (F0 m pc ls st0) :=
  cw_S ⟨hx, hb, hml, hown, hts⟩ hM (csLa_install hts hR) hG hA hP hD hS is hC hnd ha hn hsize hst hrm hdg hf kk
theorem crLa_92 (hx : p.tables.exec = Jvm.exec) (hb : c.code = cc) (hml : c.maxLocals = nL) (hown : s.vm.findClass "CoverKeysLaw" = some m.cls) (hts : ∀ w ∈ ckT, w.before args s = true) (hM : Crw l G yLa_install cLa_install 4 (some .int) [(0, 9, 12, 19), (0, 9, 15, 21)] rm As wi φ r wo) (hG : gk G A s s.heap) (hA : ∀ q : Nat, s.heap.size ≤ q → A q) (hP : va_P G.1 vwCl (X ++ pl) H) (hD : va_D A (X ++ pl)) (hS : va_S A s.heap H locs) (is isR : List Nat) (hC : is.map (fun i => X[i]?) = wi.map some) (hnd : va_nd is = true) (hR0 : isR.map (fun i => X[i]?) = wr.map some) (hnR : va_nd isR = true) (hdis : ∀ i ∈ isR, i ∉ is) (hn : As.length = 3) (hsize : ls.size = nL) (hst : st0 = As.reverse ++ rest) (hrm : (rest.map fun v => v.category).sum ≤ 8) (hR : rm.frames + 1 ≤ R.frames ∧ 8 + (4 + 11) + rm.locals ≤ R.locals) (hf : cells + rm.cells ≤ R.cells ∧ slots + rm.slots ≤ R.slots) (hdg : decode cc pc = .ok (.invokestatic 92, 3))
    (kk : ∀ (u : S) (H1 : Heap) (locs1 : List Loc), φ u → va_P G.1 vwCl ((wr ++ wo u) ++ pl) H1 → va_D A ((wr ++ wo u) ++ pl) → va_S A s.heap H1 locs1 → W p l e R s m args below meth c H1 locs1 (cells + rm.cells) (slots + rm.slots) Q (F0 m (pc + 3) ls ((r u).toList ++ rest))) : W p l e R s m args below meth c H locs cells slots Q (F0 m pc ls st0) :=
  cw_SR ⟨hx, hb, hml, hown, hts⟩ hM (csLa_install hts hR) hG hA hP hD hS is isR hC hnd hR0 hnR hdis hn hsize hst hrm hdg hf kk
theorem cxLa_15 (hx : p.tables.exec = Jvm.exec) (hb : c.code = cc) (hml : c.maxLocals = nL) (hown : s.vm.findClass "CoverKeysLaw" = some m.cls) (hts : ∀ w ∈ ckT, w.before args s = true) (hM : Cx l G yCK_install cCK_install 2 (some .int) rm (.ref b :: As) wc E wc) (hG : gk G A s s.heap) (hA : ∀ q : Nat, s.heap.size ≤ q → A q) (hP : va_P G.1 vwCl ws H) (hD : va_D A ws) (hS : va_S A s.heap H locs) (q0 : Nat) (hq : ws[q0]? = some (oC b 7 fs)) (is : List Nat) (hC : is.map (fun i => ws[i]?) = wc.map some) (hnd : va_nd is = true) (hset : ck_set ws is wc = ws) (hn : As.length = 1) (hsize : ls.size = nL) (hst : st0 = As.reverse ++ .ref b :: rest) (hrm : (rest.map fun v => v.category).sum ≤ 8) (hR : rm.frames + 1 ≤ R.frames ∧ 8 + (2 + 11) + rm.locals ≤ R.locals) (hf : cells + rm.cells ≤ R.cells ∧ slots + rm.slots ≤ R.slots) (hdg : decode cc pc = .ok (.invokevirtual 15, 3))
    (pre : List ExceptionTableEntry) (x : ExceptionTableEntry) (suf : List ExceptionTableEntry) (hsplit : c.exceptionTable.toList = pre ++ x :: suf) (hpass : ∀ z ∈ pre, covers z pc = false ∨ (z.catchType ≠ 0 ∧ ∃ nm : String, (Cond.classLink "CoverKeysLaw" z.catchType nm).before args s = true ∧ va_Nc E nm s)) (hx9 : covers x pc = true) (h09 : x.catchType ≠ 0) (hlink : (Cond.classLink "CoverKeysLaw" x.catchType name).before args s = true) (hcast : (Cond.castable E name).before args s = true)
    (kk : ∀ (q : Nat) (H1 : Heap) (locs1 : List Loc), va_P G.1 vwCl ws H1 → va_D A ws → va_S A s.heap H1 locs1 → W p l e R s m args below meth c H1 locs1 (cells + rm.cells) (slots + rm.slots) Q (F0 m x.handlerPc ls [.ref q])) : W p l e R s m args below meth c H locs cells slots Q (F0 m pc ls st0) :=
  cw_V (T := TCK) (N := 9) ⟨hx, hb, hml, hown, hts⟩ hM ⟨callB_of 1 hts (ck_gd0 kcCK_install) rfl rfl rfl (hts _ knCK) (hts _ kmLa_15) ⟨by decide, by decide, by decide +kernel⟩ hR, hts _ kiCK_install, hts _ keCK_install⟩ hG hA hP hD hS hq rfl is hC hnd hset hn hsize hst hrm hdg hf pre x suf hsplit hpass hx9 h09 hlink hcast kk
theorem cnLa_15 (hx : p.tables.exec = Jvm.exec) (hb : c.code = cc) (hml : c.maxLocals = nL) (hown : s.vm.findClass "CoverKeysLaw" = some m.cls) (hts : ∀ w ∈ ckT, w.before args s = true) (hM : Cr l G yCK_install cCK_install 2 (some .int) rm (.ref b :: As) wi J φ r wo) (hJk : Jk J) (hJ : J s) (hG : gk G A s s.heap) (hA : ∀ q : Nat, s.heap.size ≤ q → A q) (hP : va_P G.1 vwCl ws H) (hD : va_D A ws) (hS : va_S A s.heap H locs) (q0 : Nat) (hq : ws[q0]? = some (oC b 7 fs)) (is isR : List Nat) (hC : is.map (fun i => ws[i]?) = wi.map some) (hnd : va_nd is = true) (hR0 : isR.map (fun i => ws[i]?) = wr.map some) (hnR : va_nd isR = true) (hdis : ∀ i ∈ isR, i ∉ is) (hn : As.length = 1) (hsize : ls.size = nL) (hst : st0 = As.reverse ++ .ref b :: rest) (hrm : (rest.map fun v => v.category).sum ≤ 8) (hR : rm.frames + 1 ≤ R.frames ∧ 8 + (2 + 11) + rm.locals ≤ R.locals) (hf : cells + rm.cells ≤ R.cells ∧ slots + rm.slots ≤ R.slots) (hdg : decode cc pc = .ok (.invokevirtual 15, 3))
    (kk : ∀ (u : S) (H1 : Heap) (locs1 : List Loc), φ u → va_P G.1 vwCl (wr ++ wo u) H1 → va_D A (wr ++ wo u) → va_S A s.heap H1 locs1 → W p l e R s m args below meth c H1 locs1 (cells + rm.cells) (slots + rm.slots) Q (F0 m (pc + 3) ls ((r u).toList ++ rest))) : W p l e R s m args below meth c H locs cells slots Q (F0 m pc ls st0) :=
  cr_V (T := TCK) (N := 9) ⟨hx, hb, hml, hown, hts⟩ hM ⟨callB_of 1 hts (ck_gd0 kcCK_install) rfl rfl rfl (hts _ knCK) (hts _ kmLa_15) ⟨by decide, by decide, by decide +kernel⟩ hR, hts _ kiCK_install, hts _ keCK_install⟩ hJk hJ hG hA hP hD hS hq rfl is isR hC hnd hR0 hnR hdis hn hsize hst hrm hdg hf kk
theorem kwLa_subscribe : Cond.codeWith yLa_subscribe cLa_subscribe 6 (some .int) [(0, 19, 22, 19)] ∈ ckT := ck_m2 (List.mem_of_getElem? (i := 106) rfl) rfl
theorem ksLa_subscribe : Cond.static yLa_subscribe ∈ ckT := ck_m2 (List.mem_of_getElem? (i := 105) rfl) rfl
theorem kmLa_96 : Cond.methodLink "CoverKeysLaw" 96 yLa_subscribe ∈ ckT := ck_m2 (List.mem_of_getElem? (i := 104) rfl) rfl
theorem csLa_subscribe (hts : ∀ w ∈ ckT, w.before args s = true) (hR : rm.frames + 1 ≤ R.frames ∧ 8 + (6 + 11) + rm.locals ≤ R.locals) : vx_CSW R s args "CoverKeysLaw" 96 yLa_subscribe cLa_subscribe 6 (some .int) [(0, 19, 22, 19)] (Cond.codeWith yLa_subscribe cLa_subscribe 6 (some .int) [(0, 19, 22, 19)] :: ckT) rm rm.cells rm.slots 5 :=
  vx_cwSW 5 hts (fun w hw => ck_g1 (by
    simp only [va_wsS, List.mem_append, List.mem_cons, List.not_mem_nil, or_false] at hw
    rcases hw with (rfl | rfl | rfl) | rfl | hw
    · exact kmLa_96
    · exact ksLa_subscribe
    · exact knLa
    · exact kwLa_subscribe
    · exact hw)) rfl rfl rfl ⟨by decide, by decide, by decide +kernel⟩ hR
theorem clLa_96 (hx : p.tables.exec = Jvm.exec) (hb : c.code = cc) (hml : c.maxLocals = nL) (hown : s.vm.findClass "CoverKeysLaw" = some m.cls) (hts : ∀ w ∈ ckT, w.before args s = true) (hM : Cqw l G yLa_subscribe cLa_subscribe 6 (some .int) [(0, 19, 22, 19)] rm As wi φ r wo) (hG : gk G A s s.heap) (hA : ∀ q : Nat, s.heap.size ≤ q → A q) (hP : va_P G.1 vwCl ws H) (hD : va_D A ws) (hS : va_S A s.heap H locs) (is : List Nat) (hC : is.map (fun i => ws[i]?) = wi.map some) (hnd : va_nd is = true) (ha : ∀ u, (wo u).map (·.1) = wi.map (·.1)) (hn : As.length = 5) (hsize : ls.size = nL) (hst : st0 = As.reverse ++ rest) (hrm : (rest.map fun v => v.category).sum ≤ 8) (hR : rm.frames + 1 ≤ R.frames ∧ 8 + (6 + 11) + rm.locals ≤ R.locals) (hf : cells + rm.cells ≤ R.cells ∧ slots + rm.slots ≤ R.slots) (hdg : decode cc pc = .ok (.invokestatic 96, 3))
    (kk : ∀ (u : S) (H1 : Heap) (locs1 : List Loc), φ u → va_P G.1 vwCl (ck_set ws is (wo u)) H1 → va_D A (ck_set ws is (wo u)) → va_S A s.heap H1 locs1 → W p l e R s m args below meth c H1 locs1 (cells + rm.cells) (slots + rm.slots) Q (F0 m (pc + 3) ls ((r u).toList ++ rest))) : W p l e R s m args below meth c H locs cells slots Q (F0 m pc ls st0) :=
  cw_S ⟨hx, hb, hml, hown, hts⟩ hM (csLa_subscribe hts hR) hG hA hP hD hS is hC hnd ha hn hsize hst hrm hdg hf kk
theorem cxLa_23 (hx : p.tables.exec = Jvm.exec) (hb : c.code = cc) (hml : c.maxLocals = nL) (hown : s.vm.findClass "CoverKeysLaw" = some m.cls) (hts : ∀ w ∈ ckT, w.before args s = true) (hM : Cx l G yCK_subscribe cCK_subscribe 6 (some .boolean) rm (.ref b :: As) wc E wc) (hG : gk G A s s.heap) (hA : ∀ q : Nat, s.heap.size ≤ q → A q) (hP : va_P G.1 vwCl ws H) (hD : va_D A ws) (hS : va_S A s.heap H locs) (q0 : Nat) (hq : ws[q0]? = some (oC b 7 fs)) (is : List Nat) (hC : is.map (fun i => ws[i]?) = wc.map some) (hnd : va_nd is = true) (hset : ck_set ws is wc = ws) (hn : As.length = 3) (hsize : ls.size = nL) (hst : st0 = As.reverse ++ .ref b :: rest) (hrm : (rest.map fun v => v.category).sum ≤ 8) (hR : rm.frames + 1 ≤ R.frames ∧ 8 + (6 + 11) + rm.locals ≤ R.locals) (hf : cells + rm.cells ≤ R.cells ∧ slots + rm.slots ≤ R.slots) (hdg : decode cc pc = .ok (.invokevirtual 23, 3))
    (pre : List ExceptionTableEntry) (x : ExceptionTableEntry) (suf : List ExceptionTableEntry) (hsplit : c.exceptionTable.toList = pre ++ x :: suf) (hpass : ∀ z ∈ pre, covers z pc = false ∨ (z.catchType ≠ 0 ∧ ∃ nm : String, (Cond.classLink "CoverKeysLaw" z.catchType nm).before args s = true ∧ va_Nc E nm s)) (hx9 : covers x pc = true) (h09 : x.catchType ≠ 0) (hlink : (Cond.classLink "CoverKeysLaw" x.catchType name).before args s = true) (hcast : (Cond.castable E name).before args s = true)
    (kk : ∀ (q : Nat) (H1 : Heap) (locs1 : List Loc), va_P G.1 vwCl ws H1 → va_D A ws → va_S A s.heap H1 locs1 → W p l e R s m args below meth c H1 locs1 (cells + rm.cells) (slots + rm.slots) Q (F0 m x.handlerPc ls [.ref q])) : W p l e R s m args below meth c H locs cells slots Q (F0 m pc ls st0) :=
  cw_V (T := TCK) (N := 9) ⟨hx, hb, hml, hown, hts⟩ hM ⟨callB_of 3 hts (ck_gd0 kcCK_subscribe) rfl rfl rfl (hts _ knCK) (hts _ kmLa_23) ⟨by decide, by decide, by decide +kernel⟩ hR, hts _ kiCK_subscribe, hts _ keCK_subscribe⟩ hG hA hP hD hS hq rfl is hC hnd hset hn hsize hst hrm hdg hf pre x suf hsplit hpass hx9 h09 hlink hcast kk
theorem kwLa_period : Cond.codeWith yLa_period cLa_period 8 (some .int) [(0, 13, 16, 19), (0, 13, 20, 31)] ∈ ckT := ck_m2 (List.mem_of_getElem? (i := 120) rfl) rfl
theorem ksLa_period : Cond.static yLa_period ∈ ckT := ck_m2 (List.mem_of_getElem? (i := 119) rfl) rfl
theorem kmLa_100 : Cond.methodLink "CoverKeysLaw" 100 yLa_period ∈ ckT := ck_m2 (List.mem_of_getElem? (i := 118) rfl) rfl
theorem csLa_period (hts : ∀ w ∈ ckT, w.before args s = true) (hR : rm.frames + 1 ≤ R.frames ∧ 8 + (8 + 11) + rm.locals ≤ R.locals) : vx_CSW R s args "CoverKeysLaw" 100 yLa_period cLa_period 8 (some .int) [(0, 13, 16, 19), (0, 13, 20, 31)] (Cond.codeWith yLa_period cLa_period 8 (some .int) [(0, 13, 16, 19), (0, 13, 20, 31)] :: ckT) rm rm.cells rm.slots 5 :=
  vx_cwSW 5 hts (fun w hw => ck_g1 (by
    simp only [va_wsS, List.mem_append, List.mem_cons, List.not_mem_nil, or_false] at hw
    rcases hw with (rfl | rfl | rfl) | rfl | hw
    · exact kmLa_100
    · exact ksLa_period
    · exact knLa
    · exact kwLa_period
    · exact hw)) rfl rfl rfl ⟨by decide, by decide, by decide +kernel⟩ hR
theorem clLa_100 (hx : p.tables.exec = Jvm.exec) (hb : c.code = cc) (hml : c.maxLocals = nL) (hown : s.vm.findClass "CoverKeysLaw" = some m.cls) (hts : ∀ w ∈ ckT, w.before args s = true) (hM : Cqw l G yLa_period cLa_period 8 (some .int) [(0, 13, 16, 19), (0, 13, 20, 31)] rm As wi φ r wo) (hG : gk G A s s.heap) (hA : ∀ q : Nat, s.heap.size ≤ q → A q) (hP : va_P G.1 vwCl ws H) (hD : va_D A ws) (hS : va_S A s.heap H locs) (is : List Nat) (hC : is.map (fun i => ws[i]?) = wi.map some) (hnd : va_nd is = true) (ha : ∀ u, (wo u).map (·.1) = wi.map (·.1)) (hn : As.length = 5) (hsize : ls.size = nL) (hst : st0 = As.reverse ++ rest) (hrm : (rest.map fun v => v.category).sum ≤ 8) (hR : rm.frames + 1 ≤ R.frames ∧ 8 + (8 + 11) + rm.locals ≤ R.locals) (hf : cells + rm.cells ≤ R.cells ∧ slots + rm.slots ≤ R.slots) (hdg : decode cc pc = .ok (.invokestatic 100, 3))
    (kk : ∀ (u : S) (H1 : Heap) (locs1 : List Loc), φ u → va_P G.1 vwCl (ck_set ws is (wo u)) H1 → va_D A (ck_set ws is (wo u)) → va_S A s.heap H1 locs1 → W p l e R s m args below meth c H1 locs1 (cells + rm.cells) (slots + rm.slots) Q (F0 m (pc + 3) ls ((r u).toList ++ rest))) : W p l e R s m args below meth c H locs cells slots Q (F0 m pc ls st0) :=
  cw_S ⟨hx, hb, hml, hown, hts⟩ hM (csLa_period hts hR) hG hA hP hD hS is hC hnd ha hn hsize hst hrm hdg hf kk
theorem cxLa_27 (hx : p.tables.exec = Jvm.exec) (hb : c.code = cc) (hml : c.maxLocals = nL) (hown : s.vm.findClass "CoverKeysLaw" = some m.cls) (hts : ∀ w ∈ ckT, w.before args s = true) (hM : Cx l G yCK_period cCK_period 7 (some .int) rm (.ref b :: As) wc E wc) (hG : gk G A s s.heap) (hA : ∀ q : Nat, s.heap.size ≤ q → A q) (hP : va_P G.1 vwCl ws H) (hD : va_D A ws) (hS : va_S A s.heap H locs) (q0 : Nat) (hq : ws[q0]? = some (oC b 7 fs)) (is : List Nat) (hC : is.map (fun i => ws[i]?) = wc.map some) (hnd : va_nd is = true) (hset : ck_set ws is wc = ws) (hn : As.length = 3) (hsize : ls.size = nL) (hst : st0 = As.reverse ++ .ref b :: rest) (hrm : (rest.map fun v => v.category).sum ≤ 8) (hR : rm.frames + 1 ≤ R.frames ∧ 8 + (7 + 11) + rm.locals ≤ R.locals) (hf : cells + rm.cells ≤ R.cells ∧ slots + rm.slots ≤ R.slots) (hdg : decode cc pc = .ok (.invokevirtual 27, 3))
    (pre : List ExceptionTableEntry) (x : ExceptionTableEntry) (suf : List ExceptionTableEntry) (hsplit : c.exceptionTable.toList = pre ++ x :: suf) (hpass : ∀ z ∈ pre, covers z pc = false ∨ (z.catchType ≠ 0 ∧ ∃ nm : String, (Cond.classLink "CoverKeysLaw" z.catchType nm).before args s = true ∧ va_Nc E nm s)) (hx9 : covers x pc = true) (h09 : x.catchType ≠ 0) (hlink : (Cond.classLink "CoverKeysLaw" x.catchType name).before args s = true) (hcast : (Cond.castable E name).before args s = true)
    (kk : ∀ (q : Nat) (H1 : Heap) (locs1 : List Loc), va_P G.1 vwCl ws H1 → va_D A ws → va_S A s.heap H1 locs1 → W p l e R s m args below meth c H1 locs1 (cells + rm.cells) (slots + rm.slots) Q (F0 m x.handlerPc ls [.ref q])) : W p l e R s m args below meth c H locs cells slots Q (F0 m pc ls st0) :=
  cw_V (T := TCK) (N := 9) ⟨hx, hb, hml, hown, hts⟩ hM ⟨callB_of 3 hts (ck_gd0 kcCK_period) rfl rfl rfl (hts _ knCK) (hts _ kmLa_27) ⟨by decide, by decide, by decide +kernel⟩ hR, hts _ kiCK_period, hts _ keCK_period⟩ hG hA hP hD hS hq rfl is hC hnd hset hn hsize hst hrm hdg hf pre x suf hsplit hpass hx9 h09 hlink hcast kk
theorem kwLa_packet : Cond.codeWith yLa_packet cLa_packet 5 (some .int) [(0, 10, 13, 19), (0, 10, 17, 21), (0, 10, 21, 13)] ∈ ckT := ck_m2 (List.mem_of_getElem? (i := 165) rfl) rfl
theorem ksLa_packet : Cond.static yLa_packet ∈ ckT := ck_m2 (List.mem_of_getElem? (i := 164) rfl) rfl
theorem kmLa_104 : Cond.methodLink "CoverKeysLaw" 104 yLa_packet ∈ ckT := ck_m2 (List.mem_of_getElem? (i := 163) rfl) rfl
theorem csLa_packet (hts : ∀ w ∈ ckT, w.before args s = true) (hR : rm.frames + 1 ≤ R.frames ∧ 8 + (5 + 11) + rm.locals ≤ R.locals) : vx_CSW R s args "CoverKeysLaw" 104 yLa_packet cLa_packet 5 (some .int) [(0, 10, 13, 19), (0, 10, 17, 21), (0, 10, 21, 13)] (Cond.codeWith yLa_packet cLa_packet 5 (some .int) [(0, 10, 13, 19), (0, 10, 17, 21), (0, 10, 21, 13)] :: ckT) rm rm.cells rm.slots 4 :=
  vx_cwSW 4 hts (fun w hw => ck_g1 (by
    simp only [va_wsS, List.mem_append, List.mem_cons, List.not_mem_nil, or_false] at hw
    rcases hw with (rfl | rfl | rfl) | rfl | hw
    · exact kmLa_104
    · exact ksLa_packet
    · exact knLa
    · exact kwLa_packet
    · exact hw)) rfl rfl rfl ⟨by decide, by decide, by decide +kernel⟩ hR
theorem clLa_104 (hx : p.tables.exec = Jvm.exec) (hb : c.code = cc) (hml : c.maxLocals = nL) (hown : s.vm.findClass "CoverKeysLaw" = some m.cls) (hts : ∀ w ∈ ckT, w.before args s = true) (hM : Cqw l G yLa_packet cLa_packet 5 (some .int) [(0, 10, 13, 19), (0, 10, 17, 21), (0, 10, 21, 13)] rm As wi φ r wo) (hG : gk G A s s.heap) (hA : ∀ q : Nat, s.heap.size ≤ q → A q) (hP : va_P G.1 vwCl ws H) (hD : va_D A ws) (hS : va_S A s.heap H locs) (is : List Nat) (hC : is.map (fun i => ws[i]?) = wi.map some) (hnd : va_nd is = true) (ha : ∀ u, (wo u).map (·.1) = wi.map (·.1)) (hn : As.length = 4) (hsize : ls.size = nL) (hst : st0 = As.reverse ++ rest) (hrm : (rest.map fun v => v.category).sum ≤ 8) (hR : rm.frames + 1 ≤ R.frames ∧ 8 + (5 + 11) + rm.locals ≤ R.locals) (hf : cells + rm.cells ≤ R.cells ∧ slots + rm.slots ≤ R.slots) (hdg : decode cc pc = .ok (.invokestatic 104, 3))
    (kk : ∀ (u : S) (H1 : Heap) (locs1 : List Loc), φ u → va_P G.1 vwCl (ck_set ws is (wo u)) H1 → va_D A (ck_set ws is (wo u)) → va_S A s.heap H1 locs1 → W p l e R s m args below meth c H1 locs1 (cells + rm.cells) (slots + rm.slots) Q (F0 m (pc + 3) ls ((r u).toList ++ rest))) : W p l e R s m args below meth c H locs cells slots Q (F0 m pc ls st0) :=
  cw_S ⟨hx, hb, hml, hown, hts⟩ hM (csLa_packet hts hR) hG hA hP hD hS is hC hnd ha hn hsize hst hrm hdg hf kk
theorem cxLa_33 (hx : p.tables.exec = Jvm.exec) (hb : c.code = cc) (hml : c.maxLocals = nL) (hown : s.vm.findClass "CoverKeysLaw" = some m.cls) (hts : ∀ w ∈ ckT, w.before args s = true) (hM : Cx l G yCK_packet cCK_packet 6 (some .int) rm (.ref b :: As) wc E wc) (hG : gk G A s s.heap) (hA : ∀ q : Nat, s.heap.size ≤ q → A q) (hP : va_P G.1 vwCl ws H) (hD : va_D A ws) (hS : va_S A s.heap H locs) (q0 : Nat) (hq : ws[q0]? = some (oC b 7 fs)) (is : List Nat) (hC : is.map (fun i => ws[i]?) = wc.map some) (hnd : va_nd is = true) (hset : ck_set ws is wc = ws) (hn : As.length = 2) (hsize : ls.size = nL) (hst : st0 = As.reverse ++ .ref b :: rest) (hrm : (rest.map fun v => v.category).sum ≤ 8) (hR : rm.frames + 1 ≤ R.frames ∧ 8 + (6 + 11) + rm.locals ≤ R.locals) (hf : cells + rm.cells ≤ R.cells ∧ slots + rm.slots ≤ R.slots) (hdg : decode cc pc = .ok (.invokevirtual 33, 3))
    (pre : List ExceptionTableEntry) (x : ExceptionTableEntry) (suf : List ExceptionTableEntry) (hsplit : c.exceptionTable.toList = pre ++ x :: suf) (hpass : ∀ z ∈ pre, covers z pc = false ∨ (z.catchType ≠ 0 ∧ ∃ nm : String, (Cond.classLink "CoverKeysLaw" z.catchType nm).before args s = true ∧ va_Nc E nm s)) (hx9 : covers x pc = true) (h09 : x.catchType ≠ 0) (hlink : (Cond.classLink "CoverKeysLaw" x.catchType name).before args s = true) (hcast : (Cond.castable E name).before args s = true)
    (kk : ∀ (q : Nat) (H1 : Heap) (locs1 : List Loc), va_P G.1 vwCl ws H1 → va_D A ws → va_S A s.heap H1 locs1 → W p l e R s m args below meth c H1 locs1 (cells + rm.cells) (slots + rm.slots) Q (F0 m x.handlerPc ls [.ref q])) : W p l e R s m args below meth c H locs cells slots Q (F0 m pc ls st0) :=
  cw_V (T := TCK) (N := 9) ⟨hx, hb, hml, hown, hts⟩ hM ⟨callB_of 2 hts (ck_gd0 kcCK_packet) rfl rfl rfl (hts _ knCK) (hts _ kmLa_33) ⟨by decide, by decide, by decide +kernel⟩ hR, hts _ kiCK_packet, hts _ keCK_packet⟩ hG hA hP hD hS hq rfl is hC hnd hset hn hsize hst hrm hdg hf pre x suf hsplit hpass hx9 h09 hlink hcast kk
theorem kwLa_air : Cond.codeWith yLa_air cLa_air 4 (some .int) [(0, 9, 12, 19)] ∈ ckT := ck_m3 (List.mem_of_getElem? (i := 8) rfl) rfl
theorem ksLa_air : Cond.static yLa_air ∈ ckT := ck_m3 (List.mem_of_getElem? (i := 7) rfl) rfl
theorem kmLa_108 : Cond.methodLink "CoverKeysLaw" 108 yLa_air ∈ ckT := ck_m3 (List.mem_of_getElem? (i := 6) rfl) rfl
theorem csLa_air (hts : ∀ w ∈ ckT, w.before args s = true) (hR : rm.frames + 1 ≤ R.frames ∧ 8 + (4 + 11) + rm.locals ≤ R.locals) : vx_CSW R s args "CoverKeysLaw" 108 yLa_air cLa_air 4 (some .int) [(0, 9, 12, 19)] (Cond.codeWith yLa_air cLa_air 4 (some .int) [(0, 9, 12, 19)] :: ckT) rm rm.cells rm.slots 3 :=
  vx_cwSW 3 hts (fun w hw => ck_g1 (by
    simp only [va_wsS, List.mem_append, List.mem_cons, List.not_mem_nil, or_false] at hw
    rcases hw with (rfl | rfl | rfl) | rfl | hw
    · exact kmLa_108
    · exact ksLa_air
    · exact knLa
    · exact kwLa_air
    · exact hw)) rfl rfl rfl ⟨by decide, by decide, by decide +kernel⟩ hR
theorem clLa_108 (hx : p.tables.exec = Jvm.exec) (hb : c.code = cc) (hml : c.maxLocals = nL) (hown : s.vm.findClass "CoverKeysLaw" = some m.cls) (hts : ∀ w ∈ ckT, w.before args s = true) (hM : Cqw l G yLa_air cLa_air 4 (some .int) [(0, 9, 12, 19)] rm As wi φ r wo) (hG : gk G A s s.heap) (hA : ∀ q : Nat, s.heap.size ≤ q → A q) (hP : va_P G.1 vwCl ws H) (hD : va_D A ws) (hS : va_S A s.heap H locs) (is : List Nat) (hC : is.map (fun i => ws[i]?) = wi.map some) (hnd : va_nd is = true) (ha : ∀ u, (wo u).map (·.1) = wi.map (·.1)) (hn : As.length = 3) (hsize : ls.size = nL) (hst : st0 = As.reverse ++ rest) (hrm : (rest.map fun v => v.category).sum ≤ 8) (hR : rm.frames + 1 ≤ R.frames ∧ 8 + (4 + 11) + rm.locals ≤ R.locals) (hf : cells + rm.cells ≤ R.cells ∧ slots + rm.slots ≤ R.slots) (hdg : decode cc pc = .ok (.invokestatic 108, 3))
    (kk : ∀ (u : S) (H1 : Heap) (locs1 : List Loc), φ u → va_P G.1 vwCl (ck_set ws is (wo u)) H1 → va_D A (ck_set ws is (wo u)) → va_S A s.heap H1 locs1 → W p l e R s m args below meth c H1 locs1 (cells + rm.cells) (slots + rm.slots) Q (F0 m (pc + 3) ls ((r u).toList ++ rest))) : W p l e R s m args below meth c H locs cells slots Q (F0 m pc ls st0) :=
  cw_S ⟨hx, hb, hml, hown, hts⟩ hM (csLa_air hts hR) hG hA hP hD hS is hC hnd ha hn hsize hst hrm hdg hf kk
theorem cxLa_37 (hx : p.tables.exec = Jvm.exec) (hb : c.code = cc) (hml : c.maxLocals = nL) (hown : s.vm.findClass "CoverKeysLaw" = some m.cls) (hts : ∀ w ∈ ckT, w.before args s = true) (hM : Cx l G yCK_air cCK_air 2 (some .int) rm (.ref b :: As) wc E wc) (hG : gk G A s s.heap) (hA : ∀ q : Nat, s.heap.size ≤ q → A q) (hP : va_P G.1 vwCl ws H) (hD : va_D A ws) (hS : va_S A s.heap H locs) (q0 : Nat) (hq : ws[q0]? = some (oC b 7 fs)) (is : List Nat) (hC : is.map (fun i => ws[i]?) = wc.map some) (hnd : va_nd is = true) (hset : ck_set ws is wc = ws) (hn : As.length = 1) (hsize : ls.size = nL) (hst : st0 = As.reverse ++ .ref b :: rest) (hrm : (rest.map fun v => v.category).sum ≤ 8) (hR : rm.frames + 1 ≤ R.frames ∧ 8 + (2 + 11) + rm.locals ≤ R.locals) (hf : cells + rm.cells ≤ R.cells ∧ slots + rm.slots ≤ R.slots) (hdg : decode cc pc = .ok (.invokevirtual 37, 3))
    (pre : List ExceptionTableEntry) (x : ExceptionTableEntry) (suf : List ExceptionTableEntry) (hsplit : c.exceptionTable.toList = pre ++ x :: suf) (hpass : ∀ z ∈ pre, covers z pc = false ∨ (z.catchType ≠ 0 ∧ ∃ nm : String, (Cond.classLink "CoverKeysLaw" z.catchType nm).before args s = true ∧ va_Nc E nm s)) (hx9 : covers x pc = true) (h09 : x.catchType ≠ 0) (hlink : (Cond.classLink "CoverKeysLaw" x.catchType name).before args s = true) (hcast : (Cond.castable E name).before args s = true)
    (kk : ∀ (q : Nat) (H1 : Heap) (locs1 : List Loc), va_P G.1 vwCl ws H1 → va_D A ws → va_S A s.heap H1 locs1 → W p l e R s m args below meth c H1 locs1 (cells + rm.cells) (slots + rm.slots) Q (F0 m x.handlerPc ls [.ref q])) : W p l e R s m args below meth c H locs cells slots Q (F0 m pc ls st0) :=
  cw_V (T := TCK) (N := 9) ⟨hx, hb, hml, hown, hts⟩ hM ⟨callB_of 1 hts (ck_gd0 kcCK_air) rfl rfl rfl (hts _ knCK) (hts _ kmLa_37) ⟨by decide, by decide, by decide +kernel⟩ hR, hts _ kiCK_air, hts _ keCK_air⟩ hG hA hP hD hS hq rfl is hC hnd hset hn hsize hst hrm hdg hf pre x suf hsplit hpass hx9 h09 hlink hcast kk
theorem kwLa_flip : Cond.codeWith yLa_flip cLa_flip 4 (some .int) [(0, 6, 9, 19)] ∈ ckT := ck_m3 (List.mem_of_getElem? (i := 20) rfl) rfl
theorem ksLa_flip : Cond.static yLa_flip ∈ ckT := ck_m3 (List.mem_of_getElem? (i := 19) rfl) rfl
theorem kmLa_111 : Cond.methodLink "CoverKeysLaw" 111 yLa_flip ∈ ckT := ck_m3 (List.mem_of_getElem? (i := 18) rfl) rfl
theorem csLa_flip (hts : ∀ w ∈ ckT, w.before args s = true) (hR : rm.frames + 1 ≤ R.frames ∧ 8 + (4 + 11) + rm.locals ≤ R.locals) : vx_CSW R s args "CoverKeysLaw" 111 yLa_flip cLa_flip 4 (some .int) [(0, 6, 9, 19)] (Cond.codeWith yLa_flip cLa_flip 4 (some .int) [(0, 6, 9, 19)] :: ckT) rm rm.cells rm.slots 3 :=
  vx_cwSW 3 hts (fun w hw => ck_g1 (by
    simp only [va_wsS, List.mem_append, List.mem_cons, List.not_mem_nil, or_false] at hw
    rcases hw with (rfl | rfl | rfl) | rfl | hw
    · exact kmLa_111
    · exact ksLa_flip
    · exact knLa
    · exact kwLa_flip
    · exact hw)) rfl rfl rfl ⟨by decide, by decide, by decide +kernel⟩ hR
theorem clLa_111 (hx : p.tables.exec = Jvm.exec) (hb : c.code = cc) (hml : c.maxLocals = nL) (hown : s.vm.findClass "CoverKeysLaw" = some m.cls) (hts : ∀ w ∈ ckT, w.before args s = true) (hM : Cqw l G yLa_flip cLa_flip 4 (some .int) [(0, 6, 9, 19)] rm As wi φ r wo) (hG : gk G A s s.heap) (hA : ∀ q : Nat, s.heap.size ≤ q → A q) (hP : va_P G.1 vwCl ws H) (hD : va_D A ws) (hS : va_S A s.heap H locs) (is : List Nat) (hC : is.map (fun i => ws[i]?) = wi.map some) (hnd : va_nd is = true) (ha : ∀ u, (wo u).map (·.1) = wi.map (·.1)) (hn : As.length = 3) (hsize : ls.size = nL) (hst : st0 = As.reverse ++ rest) (hrm : (rest.map fun v => v.category).sum ≤ 8) (hR : rm.frames + 1 ≤ R.frames ∧ 8 + (4 + 11) + rm.locals ≤ R.locals) (hf : cells + rm.cells ≤ R.cells ∧ slots + rm.slots ≤ R.slots) (hdg : decode cc pc = .ok (.invokestatic 111, 3))
    (kk : ∀ (u : S) (H1 : Heap) (locs1 : List Loc), φ u → va_P G.1 vwCl (ck_set ws is (wo u)) H1 → va_D A (ck_set ws is (wo u)) → va_S A s.heap H1 locs1 → W p l e R s m args below meth c H1 locs1 (cells + rm.cells) (slots + rm.slots) Q (F0 m (pc + 3) ls ((r u).toList ++ rest))) : W p l e R s m args below meth c H locs cells slots Q (F0 m pc ls st0) :=
  cw_S ⟨hx, hb, hml, hown, hts⟩ hM (csLa_flip hts hR) hG hA hP hD hS is hC hnd ha hn hsize hst hrm hdg hf kk
theorem cxLa_40 (hx : p.tables.exec = Jvm.exec) (hb : c.code = cc) (hml : c.maxLocals = nL) (hown : s.vm.findClass "CoverKeysLaw" = some m.cls) (hts : ∀ w ∈ ckT, w.before args s = true) (hM : Cx l G yCK_flip cCK_flip 3 none rm (.ref b :: As) wc E wc) (hG : gk G A s s.heap) (hA : ∀ q : Nat, s.heap.size ≤ q → A q) (hP : va_P G.1 vwCl ws H) (hD : va_D A ws) (hS : va_S A s.heap H locs) (q0 : Nat) (hq : ws[q0]? = some (oC b 7 fs)) (is : List Nat) (hC : is.map (fun i => ws[i]?) = wc.map some) (hnd : va_nd is = true) (hset : ck_set ws is wc = ws) (hn : As.length = 2) (hsize : ls.size = nL) (hst : st0 = As.reverse ++ .ref b :: rest) (hrm : (rest.map fun v => v.category).sum ≤ 8) (hR : rm.frames + 1 ≤ R.frames ∧ 8 + (3 + 11) + rm.locals ≤ R.locals) (hf : cells + rm.cells ≤ R.cells ∧ slots + rm.slots ≤ R.slots) (hdg : decode cc pc = .ok (.invokevirtual 40, 3))
    (pre : List ExceptionTableEntry) (x : ExceptionTableEntry) (suf : List ExceptionTableEntry) (hsplit : c.exceptionTable.toList = pre ++ x :: suf) (hpass : ∀ z ∈ pre, covers z pc = false ∨ (z.catchType ≠ 0 ∧ ∃ nm : String, (Cond.classLink "CoverKeysLaw" z.catchType nm).before args s = true ∧ va_Nc E nm s)) (hx9 : covers x pc = true) (h09 : x.catchType ≠ 0) (hlink : (Cond.classLink "CoverKeysLaw" x.catchType name).before args s = true) (hcast : (Cond.castable E name).before args s = true)
    (kk : ∀ (q : Nat) (H1 : Heap) (locs1 : List Loc), va_P G.1 vwCl ws H1 → va_D A ws → va_S A s.heap H1 locs1 → W p l e R s m args below meth c H1 locs1 (cells + rm.cells) (slots + rm.slots) Q (F0 m x.handlerPc ls [.ref q])) : W p l e R s m args below meth c H locs cells slots Q (F0 m pc ls st0) :=
  cw_V (T := TCK) (N := 9) ⟨hx, hb, hml, hown, hts⟩ hM ⟨callB_of 2 hts (ck_gd0 kcCK_flip) rfl rfl rfl (hts _ knCK) (hts _ kmLa_40) ⟨by decide, by decide, by decide +kernel⟩ hR, hts _ kiCK_flip, hts _ keCK_flip⟩ hG hA hP hD hS hq rfl is hC hnd hset hn hsize hst hrm hdg hf pre x suf hsplit hpass hx9 h09 hlink hcast kk
theorem kwLa_hear : Cond.codeWith yLa_hear cLa_hear 4 (some .int) [(0, 9, 12, 19), (0, 9, 15, 21)] ∈ ckT := ck_m3 (List.mem_of_getElem? (i := 27) rfl) rfl
theorem ksLa_hear : Cond.static yLa_hear ∈ ckT := ck_m3 (List.mem_of_getElem? (i := 26) rfl) rfl
theorem kmLa_115 : Cond.methodLink "CoverKeysLaw" 115 yLa_hear ∈ ckT := ck_m3 (List.mem_of_getElem? (i := 25) rfl) rfl
theorem csLa_hear (hts : ∀ w ∈ ckT, w.before args s = true) (hR : rm.frames + 1 ≤ R.frames ∧ 8 + (4 + 11) + rm.locals ≤ R.locals) : vx_CSW R s args "CoverKeysLaw" 115 yLa_hear cLa_hear 4 (some .int) [(0, 9, 12, 19), (0, 9, 15, 21)] (Cond.codeWith yLa_hear cLa_hear 4 (some .int) [(0, 9, 12, 19), (0, 9, 15, 21)] :: ckT) rm rm.cells rm.slots 3 :=
  vx_cwSW 3 hts (fun w hw => ck_g1 (by
    simp only [va_wsS, List.mem_append, List.mem_cons, List.not_mem_nil, or_false] at hw
    rcases hw with (rfl | rfl | rfl) | rfl | hw
    · exact kmLa_115
    · exact ksLa_hear
    · exact knLa
    · exact kwLa_hear
    · exact hw)) rfl rfl rfl ⟨by decide, by decide, by decide +kernel⟩ hR
theorem clLa_115 (hx : p.tables.exec = Jvm.exec) (hb : c.code = cc) (hml : c.maxLocals = nL) (hown : s.vm.findClass "CoverKeysLaw" = some m.cls) (hts : ∀ w ∈ ckT, w.before args s = true) (hM : Cqw l G yLa_hear cLa_hear 4 (some .int) [(0, 9, 12, 19), (0, 9, 15, 21)] rm As wi φ r wo) (hG : gk G A s s.heap) (hA : ∀ q : Nat, s.heap.size ≤ q → A q) (hP : va_P G.1 vwCl ws H) (hD : va_D A ws) (hS : va_S A s.heap H locs) (is : List Nat) (hC : is.map (fun i => ws[i]?) = wi.map some) (hnd : va_nd is = true) (ha : ∀ u, (wo u).map (·.1) = wi.map (·.1)) (hn : As.length = 3) (hsize : ls.size = nL) (hst : st0 = As.reverse ++ rest) (hrm : (rest.map fun v => v.category).sum ≤ 8) (hR : rm.frames + 1 ≤ R.frames ∧ 8 + (4 + 11) + rm.locals ≤ R.locals) (hf : cells + rm.cells ≤ R.cells ∧ slots + rm.slots ≤ R.slots) (hdg : decode cc pc = .ok (.invokestatic 115, 3))
    (kk : ∀ (u : S) (H1 : Heap) (locs1 : List Loc), φ u → va_P G.1 vwCl (ck_set ws is (wo u)) H1 → va_D A (ck_set ws is (wo u)) → va_S A s.heap H1 locs1 → W p l e R s m args below meth c H1 locs1 (cells + rm.cells) (slots + rm.slots) Q (F0 m (pc + 3) ls ((r u).toList ++ rest))) : W p l e R s m args below meth c H locs cells slots Q (F0 m pc ls st0) :=
  cw_S ⟨hx, hb, hml, hown, hts⟩ hM (csLa_hear hts hR) hG hA hP hD hS is hC hnd ha hn hsize hst hrm hdg hf kk
theorem cxLa_44 (hx : p.tables.exec = Jvm.exec) (hb : c.code = cc) (hml : c.maxLocals = nL) (hown : s.vm.findClass "CoverKeysLaw" = some m.cls) (hts : ∀ w ∈ ckT, w.before args s = true) (hM : Cx l G yCK_hear cCK_hear 8 (some .int) rm (.ref b :: As) wc E wc) (hG : gk G A s s.heap) (hA : ∀ q : Nat, s.heap.size ≤ q → A q) (hP : va_P G.1 vwCl ws H) (hD : va_D A ws) (hS : va_S A s.heap H locs) (q0 : Nat) (hq : ws[q0]? = some (oC b 7 fs)) (is : List Nat) (hC : is.map (fun i => ws[i]?) = wc.map some) (hnd : va_nd is = true) (hset : ck_set ws is wc = ws) (hn : As.length = 1) (hsize : ls.size = nL) (hst : st0 = As.reverse ++ .ref b :: rest) (hrm : (rest.map fun v => v.category).sum ≤ 8) (hR : rm.frames + 1 ≤ R.frames ∧ 8 + (8 + 11) + rm.locals ≤ R.locals) (hf : cells + rm.cells ≤ R.cells ∧ slots + rm.slots ≤ R.slots) (hdg : decode cc pc = .ok (.invokevirtual 44, 3))
    (pre : List ExceptionTableEntry) (x : ExceptionTableEntry) (suf : List ExceptionTableEntry) (hsplit : c.exceptionTable.toList = pre ++ x :: suf) (hpass : ∀ z ∈ pre, covers z pc = false ∨ (z.catchType ≠ 0 ∧ ∃ nm : String, (Cond.classLink "CoverKeysLaw" z.catchType nm).before args s = true ∧ va_Nc E nm s)) (hx9 : covers x pc = true) (h09 : x.catchType ≠ 0) (hlink : (Cond.classLink "CoverKeysLaw" x.catchType name).before args s = true) (hcast : (Cond.castable E name).before args s = true)
    (kk : ∀ (q : Nat) (H1 : Heap) (locs1 : List Loc), va_P G.1 vwCl ws H1 → va_D A ws → va_S A s.heap H1 locs1 → W p l e R s m args below meth c H1 locs1 (cells + rm.cells) (slots + rm.slots) Q (F0 m x.handlerPc ls [.ref q])) : W p l e R s m args below meth c H locs cells slots Q (F0 m pc ls st0) :=
  cw_V (T := TCK) (N := 9) ⟨hx, hb, hml, hown, hts⟩ hM ⟨callB_of 1 hts (ck_gd0 kcCK_hear) rfl rfl rfl (hts _ knCK) (hts _ kmLa_44) ⟨by decide, by decide, by decide +kernel⟩ hR, hts _ kiCK_hear, hts _ keCK_hear⟩ hG hA hP hD hS hq rfl is hC hnd hset hn hsize hst hrm hdg hf pre x suf hsplit hpass hx9 h09 hlink hcast kk
theorem kwLa_has : Cond.codeWith yLa_has cLa_has 5 (some .int) [(0, 10, 13, 19)] ∈ ckT := ck_m3 (List.mem_of_getElem? (i := 69) rfl) rfl
theorem ksLa_has : Cond.static yLa_has ∈ ckT := ck_m3 (List.mem_of_getElem? (i := 68) rfl) rfl
theorem kmLa_118 : Cond.methodLink "CoverKeysLaw" 118 yLa_has ∈ ckT := ck_m3 (List.mem_of_getElem? (i := 67) rfl) rfl
theorem csLa_has (hts : ∀ w ∈ ckT, w.before args s = true) (hR : rm.frames + 1 ≤ R.frames ∧ 8 + (5 + 11) + rm.locals ≤ R.locals) : vx_CSW R s args "CoverKeysLaw" 118 yLa_has cLa_has 5 (some .int) [(0, 10, 13, 19)] (Cond.codeWith yLa_has cLa_has 5 (some .int) [(0, 10, 13, 19)] :: ckT) rm rm.cells rm.slots 4 :=
  vx_cwSW 4 hts (fun w hw => ck_g1 (by
    simp only [va_wsS, List.mem_append, List.mem_cons, List.not_mem_nil, or_false] at hw
    rcases hw with (rfl | rfl | rfl) | rfl | hw
    · exact kmLa_118
    · exact ksLa_has
    · exact knLa
    · exact kwLa_has
    · exact hw)) rfl rfl rfl ⟨by decide, by decide, by decide +kernel⟩ hR
theorem clLa_118 (hx : p.tables.exec = Jvm.exec) (hb : c.code = cc) (hml : c.maxLocals = nL) (hown : s.vm.findClass "CoverKeysLaw" = some m.cls) (hts : ∀ w ∈ ckT, w.before args s = true) (hM : Cqw l G yLa_has cLa_has 5 (some .int) [(0, 10, 13, 19)] rm As wi φ r wo) (hG : gk G A s s.heap) (hA : ∀ q : Nat, s.heap.size ≤ q → A q) (hP : va_P G.1 vwCl ws H) (hD : va_D A ws) (hS : va_S A s.heap H locs) (is : List Nat) (hC : is.map (fun i => ws[i]?) = wi.map some) (hnd : va_nd is = true) (ha : ∀ u, (wo u).map (·.1) = wi.map (·.1)) (hn : As.length = 4) (hsize : ls.size = nL) (hst : st0 = As.reverse ++ rest) (hrm : (rest.map fun v => v.category).sum ≤ 8) (hR : rm.frames + 1 ≤ R.frames ∧ 8 + (5 + 11) + rm.locals ≤ R.locals) (hf : cells + rm.cells ≤ R.cells ∧ slots + rm.slots ≤ R.slots) (hdg : decode cc pc = .ok (.invokestatic 118, 3))
    (kk : ∀ (u : S) (H1 : Heap) (locs1 : List Loc), φ u → va_P G.1 vwCl (ck_set ws is (wo u)) H1 → va_D A (ck_set ws is (wo u)) → va_S A s.heap H1 locs1 → W p l e R s m args below meth c H1 locs1 (cells + rm.cells) (slots + rm.slots) Q (F0 m (pc + 3) ls ((r u).toList ++ rest))) : W p l e R s m args below meth c H locs cells slots Q (F0 m pc ls st0) :=
  cw_S ⟨hx, hb, hml, hown, hts⟩ hM (csLa_has hts hR) hG hA hP hD hS is hC hnd ha hn hsize hst hrm hdg hf kk
theorem cxLa_47 (hx : p.tables.exec = Jvm.exec) (hb : c.code = cc) (hml : c.maxLocals = nL) (hown : s.vm.findClass "CoverKeysLaw" = some m.cls) (hts : ∀ w ∈ ckT, w.before args s = true) (hM : Cx l G yCK_has cCK_has 4 (some .int) rm (.ref b :: As) wc E wc) (hG : gk G A s s.heap) (hA : ∀ q : Nat, s.heap.size ≤ q → A q) (hP : va_P G.1 vwCl ws H) (hD : va_D A ws) (hS : va_S A s.heap H locs) (q0 : Nat) (hq : ws[q0]? = some (oC b 7 fs)) (is : List Nat) (hC : is.map (fun i => ws[i]?) = wc.map some) (hnd : va_nd is = true) (hset : ck_set ws is wc = ws) (hn : As.length = 2) (hsize : ls.size = nL) (hst : st0 = As.reverse ++ .ref b :: rest) (hrm : (rest.map fun v => v.category).sum ≤ 8) (hR : rm.frames + 1 ≤ R.frames ∧ 8 + (4 + 11) + rm.locals ≤ R.locals) (hf : cells + rm.cells ≤ R.cells ∧ slots + rm.slots ≤ R.slots) (hdg : decode cc pc = .ok (.invokevirtual 47, 3))
    (pre : List ExceptionTableEntry) (x : ExceptionTableEntry) (suf : List ExceptionTableEntry) (hsplit : c.exceptionTable.toList = pre ++ x :: suf) (hpass : ∀ z ∈ pre, covers z pc = false ∨ (z.catchType ≠ 0 ∧ ∃ nm : String, (Cond.classLink "CoverKeysLaw" z.catchType nm).before args s = true ∧ va_Nc E nm s)) (hx9 : covers x pc = true) (h09 : x.catchType ≠ 0) (hlink : (Cond.classLink "CoverKeysLaw" x.catchType name).before args s = true) (hcast : (Cond.castable E name).before args s = true)
    (kk : ∀ (q : Nat) (H1 : Heap) (locs1 : List Loc), va_P G.1 vwCl ws H1 → va_D A ws → va_S A s.heap H1 locs1 → W p l e R s m args below meth c H1 locs1 (cells + rm.cells) (slots + rm.slots) Q (F0 m x.handlerPc ls [.ref q])) : W p l e R s m args below meth c H locs cells slots Q (F0 m pc ls st0) :=
  cw_V (T := TCK) (N := 9) ⟨hx, hb, hml, hown, hts⟩ hM ⟨callB_of 2 hts (ck_gd0 kcCK_has) rfl rfl rfl (hts _ knCK) (hts _ kmLa_47) ⟨by decide, by decide, by decide +kernel⟩ hR, hts _ kiCK_has, hts _ keCK_has⟩ hG hA hP hD hS hq rfl is hC hnd hset hn hsize hst hrm hdg hf pre x suf hsplit hpass hx9 h09 hlink hcast kk
theorem kwLa_seal : Cond.codeWith yLa_seal cLa_seal 9 (some .int) [(0, 10, 13, 19), (0, 10, 17, 21)] ∈ ckT := ck_m3 (List.mem_of_getElem? (i := 76) rfl) rfl
theorem ksLa_seal : Cond.static yLa_seal ∈ ckT := ck_m3 (List.mem_of_getElem? (i := 75) rfl) rfl
theorem kmLa_121 : Cond.methodLink "CoverKeysLaw" 121 yLa_seal ∈ ckT := ck_m3 (List.mem_of_getElem? (i := 74) rfl) rfl
theorem csLa_seal (hts : ∀ w ∈ ckT, w.before args s = true) (hR : rm.frames + 1 ≤ R.frames ∧ 8 + (9 + 11) + rm.locals ≤ R.locals) : vx_CSW R s args "CoverKeysLaw" 121 yLa_seal cLa_seal 9 (some .int) [(0, 10, 13, 19), (0, 10, 17, 21)] (Cond.codeWith yLa_seal cLa_seal 9 (some .int) [(0, 10, 13, 19), (0, 10, 17, 21)] :: ckT) rm rm.cells rm.slots 5 :=
  vx_cwSW 5 hts (fun w hw => ck_g1 (by
    simp only [va_wsS, List.mem_append, List.mem_cons, List.not_mem_nil, or_false] at hw
    rcases hw with (rfl | rfl | rfl) | rfl | hw
    · exact kmLa_121
    · exact ksLa_seal
    · exact knLa
    · exact kwLa_seal
    · exact hw)) rfl rfl rfl ⟨by decide, by decide, by decide +kernel⟩ hR
theorem clLa_121 (hx : p.tables.exec = Jvm.exec) (hb : c.code = cc) (hml : c.maxLocals = nL) (hown : s.vm.findClass "CoverKeysLaw" = some m.cls) (hts : ∀ w ∈ ckT, w.before args s = true) (hM : Cqw l G yLa_seal cLa_seal 9 (some .int) [(0, 10, 13, 19), (0, 10, 17, 21)] rm As wi φ r wo) (hG : gk G A s s.heap) (hA : ∀ q : Nat, s.heap.size ≤ q → A q) (hP : va_P G.1 vwCl ws H) (hD : va_D A ws) (hS : va_S A s.heap H locs) (is : List Nat) (hC : is.map (fun i => ws[i]?) = wi.map some) (hnd : va_nd is = true) (ha : ∀ u, (wo u).map (·.1) = wi.map (·.1)) (hn : As.length = 5) (hsize : ls.size = nL) (hst : st0 = As.reverse ++ rest) (hrm : (rest.map fun v => v.category).sum ≤ 8) (hR : rm.frames + 1 ≤ R.frames ∧ 8 + (9 + 11) + rm.locals ≤ R.locals) (hf : cells + rm.cells ≤ R.cells ∧ slots + rm.slots ≤ R.slots) (hdg : decode cc pc = .ok (.invokestatic 121, 3))
    (kk : ∀ (u : S) (H1 : Heap) (locs1 : List Loc), φ u → va_P G.1 vwCl (ck_set ws is (wo u)) H1 → va_D A (ck_set ws is (wo u)) → va_S A s.heap H1 locs1 → W p l e R s m args below meth c H1 locs1 (cells + rm.cells) (slots + rm.slots) Q (F0 m (pc + 3) ls ((r u).toList ++ rest))) : W p l e R s m args below meth c H locs cells slots Q (F0 m pc ls st0) :=
  cw_S ⟨hx, hb, hml, hown, hts⟩ hM (csLa_seal hts hR) hG hA hP hD hS is hC hnd ha hn hsize hst hrm hdg hf kk
theorem cxLa_50 (hx : p.tables.exec = Jvm.exec) (hb : c.code = cc) (hml : c.maxLocals = nL) (hown : s.vm.findClass "CoverKeysLaw" = some m.cls) (hts : ∀ w ∈ ckT, w.before args s = true) (hM : Cx l G yCK_seal cCK_seal 9 none rm (.ref b :: As) wc E wc) (hG : gk G A s s.heap) (hA : ∀ q : Nat, s.heap.size ≤ q → A q) (hP : va_P G.1 vwCl ws H) (hD : va_D A ws) (hS : va_S A s.heap H locs) (q0 : Nat) (hq : ws[q0]? = some (oC b 7 fs)) (is : List Nat) (hC : is.map (fun i => ws[i]?) = wc.map some) (hnd : va_nd is = true) (hset : ck_set ws is wc = ws) (hn : As.length = 4) (hsize : ls.size = nL) (hst : st0 = As.reverse ++ .ref b :: rest) (hrm : (rest.map fun v => v.category).sum ≤ 8) (hR : rm.frames + 1 ≤ R.frames ∧ 8 + (9 + 11) + rm.locals ≤ R.locals) (hf : cells + rm.cells ≤ R.cells ∧ slots + rm.slots ≤ R.slots) (hdg : decode cc pc = .ok (.invokevirtual 50, 3))
    (pre : List ExceptionTableEntry) (x : ExceptionTableEntry) (suf : List ExceptionTableEntry) (hsplit : c.exceptionTable.toList = pre ++ x :: suf) (hpass : ∀ z ∈ pre, covers z pc = false ∨ (z.catchType ≠ 0 ∧ ∃ nm : String, (Cond.classLink "CoverKeysLaw" z.catchType nm).before args s = true ∧ va_Nc E nm s)) (hx9 : covers x pc = true) (h09 : x.catchType ≠ 0) (hlink : (Cond.classLink "CoverKeysLaw" x.catchType name).before args s = true) (hcast : (Cond.castable E name).before args s = true)
    (kk : ∀ (q : Nat) (H1 : Heap) (locs1 : List Loc), va_P G.1 vwCl ws H1 → va_D A ws → va_S A s.heap H1 locs1 → W p l e R s m args below meth c H1 locs1 (cells + rm.cells) (slots + rm.slots) Q (F0 m x.handlerPc ls [.ref q])) : W p l e R s m args below meth c H locs cells slots Q (F0 m pc ls st0) :=
  cw_V (T := TCK) (N := 9) ⟨hx, hb, hml, hown, hts⟩ hM ⟨callB_of 4 hts (ck_gd0 kcCK_seal) rfl rfl rfl (hts _ knCK) (hts _ kmLa_50) ⟨by decide, by decide, by decide +kernel⟩ hR, hts _ kiCK_seal, hts _ keCK_seal⟩ hG hA hP hD hS hq rfl is hC hnd hset hn hsize hst hrm hdg hf pre x suf hsplit hpass hx9 h09 hlink hcast kk
theorem kwLa_open : Cond.codeWith yLa_open cLa_open 10 (some .int) [(0, 11, 14, 19), (0, 11, 18, 21)] ∈ ckT := ck_m3 (List.mem_of_getElem? (i := 89) rfl) rfl
theorem ksLa_open : Cond.static yLa_open ∈ ckT := ck_m3 (List.mem_of_getElem? (i := 88) rfl) rfl
theorem kmLa_125 : Cond.methodLink "CoverKeysLaw" 125 yLa_open ∈ ckT := ck_m3 (List.mem_of_getElem? (i := 87) rfl) rfl
theorem csLa_open (hts : ∀ w ∈ ckT, w.before args s = true) (hR : rm.frames + 1 ≤ R.frames ∧ 8 + (10 + 11) + rm.locals ≤ R.locals) : vx_CSW R s args "CoverKeysLaw" 125 yLa_open cLa_open 10 (some .int) [(0, 11, 14, 19), (0, 11, 18, 21)] (Cond.codeWith yLa_open cLa_open 10 (some .int) [(0, 11, 14, 19), (0, 11, 18, 21)] :: ckT) rm rm.cells rm.slots 6 :=
  vx_cwSW 6 hts (fun w hw => ck_g1 (by
    simp only [va_wsS, List.mem_append, List.mem_cons, List.not_mem_nil, or_false] at hw
    rcases hw with (rfl | rfl | rfl) | rfl | hw
    · exact kmLa_125
    · exact ksLa_open
    · exact knLa
    · exact kwLa_open
    · exact hw)) rfl rfl rfl ⟨by decide, by decide, by decide +kernel⟩ hR
theorem clLa_125 (hx : p.tables.exec = Jvm.exec) (hb : c.code = cc) (hml : c.maxLocals = nL) (hown : s.vm.findClass "CoverKeysLaw" = some m.cls) (hts : ∀ w ∈ ckT, w.before args s = true) (hM : Cqw l G yLa_open cLa_open 10 (some .int) [(0, 11, 14, 19), (0, 11, 18, 21)] rm As wi φ r wo) (hG : gk G A s s.heap) (hA : ∀ q : Nat, s.heap.size ≤ q → A q) (hP : va_P G.1 vwCl ws H) (hD : va_D A ws) (hS : va_S A s.heap H locs) (is : List Nat) (hC : is.map (fun i => ws[i]?) = wi.map some) (hnd : va_nd is = true) (ha : ∀ u, (wo u).map (·.1) = wi.map (·.1)) (hn : As.length = 6) (hsize : ls.size = nL) (hst : st0 = As.reverse ++ rest) (hrm : (rest.map fun v => v.category).sum ≤ 8) (hR : rm.frames + 1 ≤ R.frames ∧ 8 + (10 + 11) + rm.locals ≤ R.locals) (hf : cells + rm.cells ≤ R.cells ∧ slots + rm.slots ≤ R.slots) (hdg : decode cc pc = .ok (.invokestatic 125, 3))
    (kk : ∀ (u : S) (H1 : Heap) (locs1 : List Loc), φ u → va_P G.1 vwCl (ck_set ws is (wo u)) H1 → va_D A (ck_set ws is (wo u)) → va_S A s.heap H1 locs1 → W p l e R s m args below meth c H1 locs1 (cells + rm.cells) (slots + rm.slots) Q (F0 m (pc + 3) ls ((r u).toList ++ rest))) : W p l e R s m args below meth c H locs cells slots Q (F0 m pc ls st0) :=
  cw_S ⟨hx, hb, hml, hown, hts⟩ hM (csLa_open hts hR) hG hA hP hD hS is hC hnd ha hn hsize hst hrm hdg hf kk
theorem cxLa_54 (hx : p.tables.exec = Jvm.exec) (hb : c.code = cc) (hml : c.maxLocals = nL) (hown : s.vm.findClass "CoverKeysLaw" = some m.cls) (hts : ∀ w ∈ ckT, w.before args s = true) (hM : Cx l G yCK_open cCK_open 10 none rm (.ref b :: As) wc E wc) (hG : gk G A s s.heap) (hA : ∀ q : Nat, s.heap.size ≤ q → A q) (hP : va_P G.1 vwCl ws H) (hD : va_D A ws) (hS : va_S A s.heap H locs) (q0 : Nat) (hq : ws[q0]? = some (oC b 7 fs)) (is : List Nat) (hC : is.map (fun i => ws[i]?) = wc.map some) (hnd : va_nd is = true) (hset : ck_set ws is wc = ws) (hn : As.length = 5) (hsize : ls.size = nL) (hst : st0 = As.reverse ++ .ref b :: rest) (hrm : (rest.map fun v => v.category).sum ≤ 8) (hR : rm.frames + 1 ≤ R.frames ∧ 8 + (10 + 11) + rm.locals ≤ R.locals) (hf : cells + rm.cells ≤ R.cells ∧ slots + rm.slots ≤ R.slots) (hdg : decode cc pc = .ok (.invokevirtual 54, 3))
    (pre : List ExceptionTableEntry) (x : ExceptionTableEntry) (suf : List ExceptionTableEntry) (hsplit : c.exceptionTable.toList = pre ++ x :: suf) (hpass : ∀ z ∈ pre, covers z pc = false ∨ (z.catchType ≠ 0 ∧ ∃ nm : String, (Cond.classLink "CoverKeysLaw" z.catchType nm).before args s = true ∧ va_Nc E nm s)) (hx9 : covers x pc = true) (h09 : x.catchType ≠ 0) (hlink : (Cond.classLink "CoverKeysLaw" x.catchType name).before args s = true) (hcast : (Cond.castable E name).before args s = true)
    (kk : ∀ (q : Nat) (H1 : Heap) (locs1 : List Loc), va_P G.1 vwCl ws H1 → va_D A ws → va_S A s.heap H1 locs1 → W p l e R s m args below meth c H1 locs1 (cells + rm.cells) (slots + rm.slots) Q (F0 m x.handlerPc ls [.ref q])) : W p l e R s m args below meth c H locs cells slots Q (F0 m pc ls st0) :=
  cw_V (T := TCK) (N := 9) ⟨hx, hb, hml, hown, hts⟩ hM ⟨callB_of 5 hts (ck_gd0 kcCK_open) rfl rfl rfl (hts _ knCK) (hts _ kmLa_54) ⟨by decide, by decide, by decide +kernel⟩ hR, hts _ kiCK_open, hts _ keCK_open⟩ hG hA hP hD hS hq rfl is hC hnd hset hn hsize hst hrm hdg hf pre x suf hsplit hpass hx9 h09 hlink hcast kk
theorem kwLa_subset : Cond.codeWith yLa_subset cLa_subset 6 (some .int) [(0, 12, 15, 21), (0, 12, 19, 19)] ∈ ckT := ck_m3 (List.mem_of_getElem? (i := 97) rfl) rfl
theorem ksLa_subset : Cond.static yLa_subset ∈ ckT := ck_m3 (List.mem_of_getElem? (i := 96) rfl) rfl
theorem kmLa_134 : Cond.methodLink "CoverKeysLaw" 134 yLa_subset ∈ ckT := ck_m3 (List.mem_of_getElem? (i := 95) rfl) rfl
theorem csLa_subset (hts : ∀ w ∈ ckT, w.before args s = true) (hR : rm.frames + 1 ≤ R.frames ∧ 8 + (6 + 11) + rm.locals ≤ R.locals) : vx_CSW R s args "CoverKeysLaw" 134 yLa_subset cLa_subset 6 (some .int) [(0, 12, 15, 21), (0, 12, 19, 19)] (Cond.codeWith yLa_subset cLa_subset 6 (some .int) [(0, 12, 15, 21), (0, 12, 19, 19)] :: ckT) rm rm.cells rm.slots 5 :=
  vx_cwSW 5 hts (fun w hw => ck_g1 (by
    simp only [va_wsS, List.mem_append, List.mem_cons, List.not_mem_nil, or_false] at hw
    rcases hw with (rfl | rfl | rfl) | rfl | hw
    · exact kmLa_134
    · exact ksLa_subset
    · exact knLa
    · exact kwLa_subset
    · exact hw)) rfl rfl rfl ⟨by decide, by decide, by decide +kernel⟩ hR
theorem clLa_134 (hx : p.tables.exec = Jvm.exec) (hb : c.code = cc) (hml : c.maxLocals = nL) (hown : s.vm.findClass "CoverKeysLaw" = some m.cls) (hts : ∀ w ∈ ckT, w.before args s = true) (hM : Cqw l G yLa_subset cLa_subset 6 (some .int) [(0, 12, 15, 21), (0, 12, 19, 19)] rm As wi φ r wo) (hG : gk G A s s.heap) (hA : ∀ q : Nat, s.heap.size ≤ q → A q) (hP : va_P G.1 vwCl ws H) (hD : va_D A ws) (hS : va_S A s.heap H locs) (is : List Nat) (hC : is.map (fun i => ws[i]?) = wi.map some) (hnd : va_nd is = true) (ha : ∀ u, (wo u).map (·.1) = wi.map (·.1)) (hn : As.length = 5) (hsize : ls.size = nL) (hst : st0 = As.reverse ++ rest) (hrm : (rest.map fun v => v.category).sum ≤ 8) (hR : rm.frames + 1 ≤ R.frames ∧ 8 + (6 + 11) + rm.locals ≤ R.locals) (hf : cells + rm.cells ≤ R.cells ∧ slots + rm.slots ≤ R.slots) (hdg : decode cc pc = .ok (.invokestatic 134, 3))
    (kk : ∀ (u : S) (H1 : Heap) (locs1 : List Loc), φ u → va_P G.1 vwCl (ck_set ws is (wo u)) H1 → va_D A (ck_set ws is (wo u)) → va_S A s.heap H1 locs1 → W p l e R s m args below meth c H1 locs1 (cells + rm.cells) (slots + rm.slots) Q (F0 m (pc + 3) ls ((r u).toList ++ rest))) : W p l e R s m args below meth c H locs cells slots Q (F0 m pc ls st0) :=
  cw_S ⟨hx, hb, hml, hown, hts⟩ hM (csLa_subset hts hR) hG hA hP hD hS is hC hnd ha hn hsize hst hrm hdg hf kk
theorem cxLa_58 (hx : p.tables.exec = Jvm.exec) (hb : c.code = cc) (hml : c.maxLocals = nL) (hown : s.vm.findClass "CoverKeysLaw" = some m.cls) (hts : ∀ w ∈ ckT, w.before args s = true) (hM : Cx l G yCK_subset cCK_subset 5 (some .int) rm (.ref b :: As) wc E wc) (hG : gk G A s s.heap) (hA : ∀ q : Nat, s.heap.size ≤ q → A q) (hP : va_P G.1 vwCl ws H) (hD : va_D A ws) (hS : va_S A s.heap H locs) (q0 : Nat) (hq : ws[q0]? = some (oC b 7 fs)) (is : List Nat) (hC : is.map (fun i => ws[i]?) = wc.map some) (hnd : va_nd is = true) (hset : ck_set ws is wc = ws) (hn : As.length = 3) (hsize : ls.size = nL) (hst : st0 = As.reverse ++ .ref b :: rest) (hrm : (rest.map fun v => v.category).sum ≤ 8) (hR : rm.frames + 1 ≤ R.frames ∧ 8 + (5 + 11) + rm.locals ≤ R.locals) (hf : cells + rm.cells ≤ R.cells ∧ slots + rm.slots ≤ R.slots) (hdg : decode cc pc = .ok (.invokevirtual 58, 3))
    (pre : List ExceptionTableEntry) (x : ExceptionTableEntry) (suf : List ExceptionTableEntry) (hsplit : c.exceptionTable.toList = pre ++ x :: suf) (hpass : ∀ z ∈ pre, covers z pc = false ∨ (z.catchType ≠ 0 ∧ ∃ nm : String, (Cond.classLink "CoverKeysLaw" z.catchType nm).before args s = true ∧ va_Nc E nm s)) (hx9 : covers x pc = true) (h09 : x.catchType ≠ 0) (hlink : (Cond.classLink "CoverKeysLaw" x.catchType name).before args s = true) (hcast : (Cond.castable E name).before args s = true)
    (kk : ∀ (q : Nat) (H1 : Heap) (locs1 : List Loc), va_P G.1 vwCl ws H1 → va_D A ws → va_S A s.heap H1 locs1 → W p l e R s m args below meth c H1 locs1 (cells + rm.cells) (slots + rm.slots) Q (F0 m x.handlerPc ls [.ref q])) : W p l e R s m args below meth c H locs cells slots Q (F0 m pc ls st0) :=
  cw_V (T := TCK) (N := 9) ⟨hx, hb, hml, hown, hts⟩ hM ⟨callB_of 3 hts (ck_gd0 kcCK_subset) rfl rfl rfl (hts _ knCK) (hts _ kmLa_58) ⟨by decide, by decide, by decide +kernel⟩ hR, hts _ kiCK_subset, hts _ keCK_subset⟩ hG hA hP hD hS hq rfl is hC hnd hset hn hsize hst hrm hdg hf pre x suf hsplit hpass hx9 h09 hlink hcast kk
theorem kwLa_label : Cond.codeWith yLa_label cLa_label 6 (some .int) [(0, 11, 14, 19), (0, 11, 18, 21), (0, 11, 22, 13)] ∈ ckT := ck_m3 (List.mem_of_getElem? (i := 106) rfl) rfl
theorem ksLa_label : Cond.static yLa_label ∈ ckT := ck_m3 (List.mem_of_getElem? (i := 105) rfl) rfl
theorem kmLa_137 : Cond.methodLink "CoverKeysLaw" 137 yLa_label ∈ ckT := ck_m3 (List.mem_of_getElem? (i := 104) rfl) rfl
theorem csLa_label (hts : ∀ w ∈ ckT, w.before args s = true) (hR : rm.frames + 1 ≤ R.frames ∧ 8 + (6 + 11) + rm.locals ≤ R.locals) : vx_CSW R s args "CoverKeysLaw" 137 yLa_label cLa_label 6 (some .int) [(0, 11, 14, 19), (0, 11, 18, 21), (0, 11, 22, 13)] (Cond.codeWith yLa_label cLa_label 6 (some .int) [(0, 11, 14, 19), (0, 11, 18, 21), (0, 11, 22, 13)] :: ckT) rm rm.cells rm.slots 5 :=
  vx_cwSW 5 hts (fun w hw => ck_g1 (by
    simp only [va_wsS, List.mem_append, List.mem_cons, List.not_mem_nil, or_false] at hw
    rcases hw with (rfl | rfl | rfl) | rfl | hw
    · exact kmLa_137
    · exact ksLa_label
    · exact knLa
    · exact kwLa_label
    · exact hw)) rfl rfl rfl ⟨by decide, by decide, by decide +kernel⟩ hR
theorem clLa_137 (hx : p.tables.exec = Jvm.exec) (hb : c.code = cc) (hml : c.maxLocals = nL) (hown : s.vm.findClass "CoverKeysLaw" = some m.cls) (hts : ∀ w ∈ ckT, w.before args s = true) (hM : Cqw l G yLa_label cLa_label 6 (some .int) [(0, 11, 14, 19), (0, 11, 18, 21), (0, 11, 22, 13)] rm As wi φ r wo) (hG : gk G A s s.heap) (hA : ∀ q : Nat, s.heap.size ≤ q → A q) (hP : va_P G.1 vwCl ws H) (hD : va_D A ws) (hS : va_S A s.heap H locs) (is : List Nat) (hC : is.map (fun i => ws[i]?) = wi.map some) (hnd : va_nd is = true) (ha : ∀ u, (wo u).map (·.1) = wi.map (·.1)) (hn : As.length = 5) (hsize : ls.size = nL) (hst : st0 = As.reverse ++ rest) (hrm : (rest.map fun v => v.category).sum ≤ 8) (hR : rm.frames + 1 ≤ R.frames ∧ 8 + (6 + 11) + rm.locals ≤ R.locals) (hf : cells + rm.cells ≤ R.cells ∧ slots + rm.slots ≤ R.slots) (hdg : decode cc pc = .ok (.invokestatic 137, 3))
    (kk : ∀ (u : S) (H1 : Heap) (locs1 : List Loc), φ u → va_P G.1 vwCl (ck_set ws is (wo u)) H1 → va_D A (ck_set ws is (wo u)) → va_S A s.heap H1 locs1 → W p l e R s m args below meth c H1 locs1 (cells + rm.cells) (slots + rm.slots) Q (F0 m (pc + 3) ls ((r u).toList ++ rest))) : W p l e R s m args below meth c H locs cells slots Q (F0 m pc ls st0) :=
  cw_S ⟨hx, hb, hml, hown, hts⟩ hM (csLa_label hts hR) hG hA hP hD hS is hC hnd ha hn hsize hst hrm hdg hf kk
theorem cxLa_62 (hx : p.tables.exec = Jvm.exec) (hb : c.code = cc) (hml : c.maxLocals = nL) (hown : s.vm.findClass "CoverKeysLaw" = some m.cls) (hts : ∀ w ∈ ckT, w.before args s = true) (hM : Cx l G yCK_label cCK_label 6 (some .long) rm (.ref b :: As) wc E wc) (hG : gk G A s s.heap) (hA : ∀ q : Nat, s.heap.size ≤ q → A q) (hP : va_P G.1 vwCl ws H) (hD : va_D A ws) (hS : va_S A s.heap H locs) (q0 : Nat) (hq : ws[q0]? = some (oC b 7 fs)) (is : List Nat) (hC : is.map (fun i => ws[i]?) = wc.map some) (hnd : va_nd is = true) (hset : ck_set ws is wc = ws) (hn : As.length = 3) (hsize : ls.size = nL) (hst : st0 = As.reverse ++ .ref b :: rest) (hrm : (rest.map fun v => v.category).sum ≤ 8) (hR : rm.frames + 1 ≤ R.frames ∧ 8 + (6 + 11) + rm.locals ≤ R.locals) (hf : cells + rm.cells ≤ R.cells ∧ slots + rm.slots ≤ R.slots) (hdg : decode cc pc = .ok (.invokevirtual 62, 3))
    (pre : List ExceptionTableEntry) (x : ExceptionTableEntry) (suf : List ExceptionTableEntry) (hsplit : c.exceptionTable.toList = pre ++ x :: suf) (hpass : ∀ z ∈ pre, covers z pc = false ∨ (z.catchType ≠ 0 ∧ ∃ nm : String, (Cond.classLink "CoverKeysLaw" z.catchType nm).before args s = true ∧ va_Nc E nm s)) (hx9 : covers x pc = true) (h09 : x.catchType ≠ 0) (hlink : (Cond.classLink "CoverKeysLaw" x.catchType name).before args s = true) (hcast : (Cond.castable E name).before args s = true)
    (kk : ∀ (q : Nat) (H1 : Heap) (locs1 : List Loc), va_P G.1 vwCl ws H1 → va_D A ws → va_S A s.heap H1 locs1 → W p l e R s m args below meth c H1 locs1 (cells + rm.cells) (slots + rm.slots) Q (F0 m x.handlerPc ls [.ref q])) : W p l e R s m args below meth c H locs cells slots Q (F0 m pc ls st0) :=
  cw_V (T := TCK) (N := 9) ⟨hx, hb, hml, hown, hts⟩ hM ⟨callB_of 3 hts (ck_gd0 kcCK_label) rfl rfl rfl (hts _ knCK) (hts _ kmLa_62) ⟨by decide, by decide, by decide +kernel⟩ hR, hts _ kiCK_label, hts _ keCK_label⟩ hG hA hP hD hS hq rfl is hC hnd hset hn hsize hst hrm hdg hf pre x suf hsplit hpass hx9 h09 hlink hcast kk
theorem kwLa_reach : Cond.codeWith yLa_reach cLa_reach 5 (some .int) [(0, 10, 13, 19), (0, 10, 17, 21)] ∈ ckT := ck_m3 (List.mem_of_getElem? (i := 136) rfl) rfl
theorem ksLa_reach : Cond.static yLa_reach ∈ ckT := ck_m3 (List.mem_of_getElem? (i := 135) rfl) rfl
theorem kmLa_141 : Cond.methodLink "CoverKeysLaw" 141 yLa_reach ∈ ckT := ck_m3 (List.mem_of_getElem? (i := 134) rfl) rfl
theorem csLa_reach (hts : ∀ w ∈ ckT, w.before args s = true) (hR : rm.frames + 1 ≤ R.frames ∧ 8 + (5 + 11) + rm.locals ≤ R.locals) : vx_CSW R s args "CoverKeysLaw" 141 yLa_reach cLa_reach 5 (some .int) [(0, 10, 13, 19), (0, 10, 17, 21)] (Cond.codeWith yLa_reach cLa_reach 5 (some .int) [(0, 10, 13, 19), (0, 10, 17, 21)] :: ckT) rm rm.cells rm.slots 4 :=
  vx_cwSW 4 hts (fun w hw => ck_g1 (by
    simp only [va_wsS, List.mem_append, List.mem_cons, List.not_mem_nil, or_false] at hw
    rcases hw with (rfl | rfl | rfl) | rfl | hw
    · exact kmLa_141
    · exact ksLa_reach
    · exact knLa
    · exact kwLa_reach
    · exact hw)) rfl rfl rfl ⟨by decide, by decide, by decide +kernel⟩ hR
theorem clLa_141 (hx : p.tables.exec = Jvm.exec) (hb : c.code = cc) (hml : c.maxLocals = nL) (hown : s.vm.findClass "CoverKeysLaw" = some m.cls) (hts : ∀ w ∈ ckT, w.before args s = true) (hM : Cqw l G yLa_reach cLa_reach 5 (some .int) [(0, 10, 13, 19), (0, 10, 17, 21)] rm As wi φ r wo) (hG : gk G A s s.heap) (hA : ∀ q : Nat, s.heap.size ≤ q → A q) (hP : va_P G.1 vwCl ws H) (hD : va_D A ws) (hS : va_S A s.heap H locs) (is : List Nat) (hC : is.map (fun i => ws[i]?) = wi.map some) (hnd : va_nd is = true) (ha : ∀ u, (wo u).map (·.1) = wi.map (·.1)) (hn : As.length = 4) (hsize : ls.size = nL) (hst : st0 = As.reverse ++ rest) (hrm : (rest.map fun v => v.category).sum ≤ 8) (hR : rm.frames + 1 ≤ R.frames ∧ 8 + (5 + 11) + rm.locals ≤ R.locals) (hf : cells + rm.cells ≤ R.cells ∧ slots + rm.slots ≤ R.slots) (hdg : decode cc pc = .ok (.invokestatic 141, 3))
    (kk : ∀ (u : S) (H1 : Heap) (locs1 : List Loc), φ u → va_P G.1 vwCl (ck_set ws is (wo u)) H1 → va_D A (ck_set ws is (wo u)) → va_S A s.heap H1 locs1 → W p l e R s m args below meth c H1 locs1 (cells + rm.cells) (slots + rm.slots) Q (F0 m (pc + 3) ls ((r u).toList ++ rest))) : W p l e R s m args below meth c H locs cells slots Q (F0 m pc ls st0) :=
  cw_S ⟨hx, hb, hml, hown, hts⟩ hM (csLa_reach hts hR) hG hA hP hD hS is hC hnd ha hn hsize hst hrm hdg hf kk
theorem cxLa_66 (hx : p.tables.exec = Jvm.exec) (hb : c.code = cc) (hml : c.maxLocals = nL) (hown : s.vm.findClass "CoverKeysLaw" = some m.cls) (hts : ∀ w ∈ ckT, w.before args s = true) (hM : Cx l G yCK_reach cCK_reach 6 (some .int) rm (.ref b :: As) wc E wc) (hG : gk G A s s.heap) (hA : ∀ q : Nat, s.heap.size ≤ q → A q) (hP : va_P G.1 vwCl ws H) (hD : va_D A ws) (hS : va_S A s.heap H locs) (q0 : Nat) (hq : ws[q0]? = some (oC b 7 fs)) (is : List Nat) (hC : is.map (fun i => ws[i]?) = wc.map some) (hnd : va_nd is = true) (hset : ck_set ws is wc = ws) (hn : As.length = 2) (hsize : ls.size = nL) (hst : st0 = As.reverse ++ .ref b :: rest) (hrm : (rest.map fun v => v.category).sum ≤ 8) (hR : rm.frames + 1 ≤ R.frames ∧ 8 + (6 + 11) + rm.locals ≤ R.locals) (hf : cells + rm.cells ≤ R.cells ∧ slots + rm.slots ≤ R.slots) (hdg : decode cc pc = .ok (.invokevirtual 66, 3))
    (pre : List ExceptionTableEntry) (x : ExceptionTableEntry) (suf : List ExceptionTableEntry) (hsplit : c.exceptionTable.toList = pre ++ x :: suf) (hpass : ∀ z ∈ pre, covers z pc = false ∨ (z.catchType ≠ 0 ∧ ∃ nm : String, (Cond.classLink "CoverKeysLaw" z.catchType nm).before args s = true ∧ va_Nc E nm s)) (hx9 : covers x pc = true) (h09 : x.catchType ≠ 0) (hlink : (Cond.classLink "CoverKeysLaw" x.catchType name).before args s = true) (hcast : (Cond.castable E name).before args s = true)
    (kk : ∀ (q : Nat) (H1 : Heap) (locs1 : List Loc), va_P G.1 vwCl ws H1 → va_D A ws → va_S A s.heap H1 locs1 → W p l e R s m args below meth c H1 locs1 (cells + rm.cells) (slots + rm.slots) Q (F0 m x.handlerPc ls [.ref q])) : W p l e R s m args below meth c H locs cells slots Q (F0 m pc ls st0) :=
  cw_V (T := TCK) (N := 9) ⟨hx, hb, hml, hown, hts⟩ hM ⟨callB_of 2 hts (ck_gd0 kcCK_reach) rfl rfl rfl (hts _ knCK) (hts _ kmLa_66) ⟨by decide, by decide, by decide +kernel⟩ hR, hts _ kiCK_reach, hts _ keCK_reach⟩ hG hA hP hD hS hq rfl is hC hnd hset hn hsize hst hrm hdg hf pre x suf hsplit hpass hx9 h09 hlink hcast kk
theorem kwLa_key : Cond.codeWith yLa_key cLa_key 6 (some .int) [(0, 11, 14, 13)] ∈ ckT := ck_m3 (List.mem_of_getElem? (i := 143) rfl) rfl
theorem ksLa_key : Cond.static yLa_key ∈ ckT := ck_m3 (List.mem_of_getElem? (i := 142) rfl) rfl
theorem kmLa_144 : Cond.methodLink "CoverKeysLaw" 144 yLa_key ∈ ckT := ck_m3 (List.mem_of_getElem? (i := 141) rfl) rfl
theorem csLa_key (hts : ∀ w ∈ ckT, w.before args s = true) (hR : rm.frames + 1 ≤ R.frames ∧ 8 + (6 + 11) + rm.locals ≤ R.locals) : vx_CSW R s args "CoverKeysLaw" 144 yLa_key cLa_key 6 (some .int) [(0, 11, 14, 13)] (Cond.codeWith yLa_key cLa_key 6 (some .int) [(0, 11, 14, 13)] :: ckT) rm rm.cells rm.slots 5 :=
  vx_cwSW 5 hts (fun w hw => ck_g1 (by
    simp only [va_wsS, List.mem_append, List.mem_cons, List.not_mem_nil, or_false] at hw
    rcases hw with (rfl | rfl | rfl) | rfl | hw
    · exact kmLa_144
    · exact ksLa_key
    · exact knLa
    · exact kwLa_key
    · exact hw)) rfl rfl rfl ⟨by decide, by decide, by decide +kernel⟩ hR
theorem clLa_144 (hx : p.tables.exec = Jvm.exec) (hb : c.code = cc) (hml : c.maxLocals = nL) (hown : s.vm.findClass "CoverKeysLaw" = some m.cls) (hts : ∀ w ∈ ckT, w.before args s = true) (hM : Cqw l G yLa_key cLa_key 6 (some .int) [(0, 11, 14, 13)] rm As wi φ r wo) (hG : gk G A s s.heap) (hA : ∀ q : Nat, s.heap.size ≤ q → A q) (hP : va_P G.1 vwCl ws H) (hD : va_D A ws) (hS : va_S A s.heap H locs) (is : List Nat) (hC : is.map (fun i => ws[i]?) = wi.map some) (hnd : va_nd is = true) (ha : ∀ u, (wo u).map (·.1) = wi.map (·.1)) (hn : As.length = 5) (hsize : ls.size = nL) (hst : st0 = As.reverse ++ rest) (hrm : (rest.map fun v => v.category).sum ≤ 8) (hR : rm.frames + 1 ≤ R.frames ∧ 8 + (6 + 11) + rm.locals ≤ R.locals) (hf : cells + rm.cells ≤ R.cells ∧ slots + rm.slots ≤ R.slots) (hdg : decode cc pc = .ok (.invokestatic 144, 3))
    (kk : ∀ (u : S) (H1 : Heap) (locs1 : List Loc), φ u → va_P G.1 vwCl (ck_set ws is (wo u)) H1 → va_D A (ck_set ws is (wo u)) → va_S A s.heap H1 locs1 → W p l e R s m args below meth c H1 locs1 (cells + rm.cells) (slots + rm.slots) Q (F0 m (pc + 3) ls ((r u).toList ++ rest))) : W p l e R s m args below meth c H locs cells slots Q (F0 m pc ls st0) :=
  cw_S ⟨hx, hb, hml, hown, hts⟩ hM (csLa_key hts hR) hG hA hP hD hS is hC hnd ha hn hsize hst hrm hdg hf kk
theorem cxLa_69 (hx : p.tables.exec = Jvm.exec) (hb : c.code = cc) (hml : c.maxLocals = nL) (hown : s.vm.findClass "CoverKeysLaw" = some m.cls) (hts : ∀ w ∈ ckT, w.before args s = true) (hM : Cx l G yCK_key cCK_key 4 (some .long) rm (.ref b :: As) wc E wc) (hG : gk G A s s.heap) (hA : ∀ q : Nat, s.heap.size ≤ q → A q) (hP : va_P G.1 vwCl ws H) (hD : va_D A ws) (hS : va_S A s.heap H locs) (q0 : Nat) (hq : ws[q0]? = some (oC b 7 fs)) (is : List Nat) (hC : is.map (fun i => ws[i]?) = wc.map some) (hnd : va_nd is = true) (hset : ck_set ws is wc = ws) (hn : As.length = 3) (hsize : ls.size = nL) (hst : st0 = As.reverse ++ .ref b :: rest) (hrm : (rest.map fun v => v.category).sum ≤ 8) (hR : rm.frames + 1 ≤ R.frames ∧ 8 + (4 + 11) + rm.locals ≤ R.locals) (hf : cells + rm.cells ≤ R.cells ∧ slots + rm.slots ≤ R.slots) (hdg : decode cc pc = .ok (.invokevirtual 69, 3))
    (pre : List ExceptionTableEntry) (x : ExceptionTableEntry) (suf : List ExceptionTableEntry) (hsplit : c.exceptionTable.toList = pre ++ x :: suf) (hpass : ∀ z ∈ pre, covers z pc = false ∨ (z.catchType ≠ 0 ∧ ∃ nm : String, (Cond.classLink "CoverKeysLaw" z.catchType nm).before args s = true ∧ va_Nc E nm s)) (hx9 : covers x pc = true) (h09 : x.catchType ≠ 0) (hlink : (Cond.classLink "CoverKeysLaw" x.catchType name).before args s = true) (hcast : (Cond.castable E name).before args s = true)
    (kk : ∀ (q : Nat) (H1 : Heap) (locs1 : List Loc), va_P G.1 vwCl ws H1 → va_D A ws → va_S A s.heap H1 locs1 → W p l e R s m args below meth c H1 locs1 (cells + rm.cells) (slots + rm.slots) Q (F0 m x.handlerPc ls [.ref q])) : W p l e R s m args below meth c H locs cells slots Q (F0 m pc ls st0) :=
  cw_V (T := TCK) (N := 9) ⟨hx, hb, hml, hown, hts⟩ hM ⟨callB_of 3 hts (ck_gd0 kcCK_key) rfl rfl rfl (hts _ knCK) (hts _ kmLa_69) ⟨by decide, by decide, by decide +kernel⟩ hR, hts _ kiCK_key, hts _ keCK_key⟩ hG hA hP hD hS hq rfl is hC hnd hset hn hsize hst hrm hdg hf pre x suf hsplit hpass hx9 h09 hlink hcast kk
theorem kwLa_count : Cond.codeWith yLa_count cLa_count 4 (some .int) [(0, 9, 12, 13)] ∈ ckT := ck_m3 (List.mem_of_getElem? (i := 152) rfl) rfl
theorem ksLa_count : Cond.static yLa_count ∈ ckT := ck_m3 (List.mem_of_getElem? (i := 151) rfl) rfl
theorem kmLa_147 : Cond.methodLink "CoverKeysLaw" 147 yLa_count ∈ ckT := ck_m3 (List.mem_of_getElem? (i := 150) rfl) rfl
theorem csLa_count (hts : ∀ w ∈ ckT, w.before args s = true) (hR : rm.frames + 1 ≤ R.frames ∧ 8 + (4 + 11) + rm.locals ≤ R.locals) : vx_CSW R s args "CoverKeysLaw" 147 yLa_count cLa_count 4 (some .int) [(0, 9, 12, 13)] (Cond.codeWith yLa_count cLa_count 4 (some .int) [(0, 9, 12, 13)] :: ckT) rm rm.cells rm.slots 3 :=
  vx_cwSW 3 hts (fun w hw => ck_g1 (by
    simp only [va_wsS, List.mem_append, List.mem_cons, List.not_mem_nil, or_false] at hw
    rcases hw with (rfl | rfl | rfl) | rfl | hw
    · exact kmLa_147
    · exact ksLa_count
    · exact knLa
    · exact kwLa_count
    · exact hw)) rfl rfl rfl ⟨by decide, by decide, by decide +kernel⟩ hR
theorem clLa_147 (hx : p.tables.exec = Jvm.exec) (hb : c.code = cc) (hml : c.maxLocals = nL) (hown : s.vm.findClass "CoverKeysLaw" = some m.cls) (hts : ∀ w ∈ ckT, w.before args s = true) (hM : Cqw l G yLa_count cLa_count 4 (some .int) [(0, 9, 12, 13)] rm As wi φ r wo) (hG : gk G A s s.heap) (hA : ∀ q : Nat, s.heap.size ≤ q → A q) (hP : va_P G.1 vwCl ws H) (hD : va_D A ws) (hS : va_S A s.heap H locs) (is : List Nat) (hC : is.map (fun i => ws[i]?) = wi.map some) (hnd : va_nd is = true) (ha : ∀ u, (wo u).map (·.1) = wi.map (·.1)) (hn : As.length = 3) (hsize : ls.size = nL) (hst : st0 = As.reverse ++ rest) (hrm : (rest.map fun v => v.category).sum ≤ 8) (hR : rm.frames + 1 ≤ R.frames ∧ 8 + (4 + 11) + rm.locals ≤ R.locals) (hf : cells + rm.cells ≤ R.cells ∧ slots + rm.slots ≤ R.slots) (hdg : decode cc pc = .ok (.invokestatic 147, 3))
    (kk : ∀ (u : S) (H1 : Heap) (locs1 : List Loc), φ u → va_P G.1 vwCl (ck_set ws is (wo u)) H1 → va_D A (ck_set ws is (wo u)) → va_S A s.heap H1 locs1 → W p l e R s m args below meth c H1 locs1 (cells + rm.cells) (slots + rm.slots) Q (F0 m (pc + 3) ls ((r u).toList ++ rest))) : W p l e R s m args below meth c H locs cells slots Q (F0 m pc ls st0) :=
  cw_S ⟨hx, hb, hml, hown, hts⟩ hM (csLa_count hts hR) hG hA hP hD hS is hC hnd ha hn hsize hst hrm hdg hf kk
theorem cxLa_73 (hx : p.tables.exec = Jvm.exec) (hb : c.code = cc) (hml : c.maxLocals = nL) (hown : s.vm.findClass "CoverKeysLaw" = some m.cls) (hts : ∀ w ∈ ckT, w.before args s = true) (hM : Cx l G yCK_count cCK_count 2 (some .int) rm (.ref b :: As) wc E wc) (hG : gk G A s s.heap) (hA : ∀ q : Nat, s.heap.size ≤ q → A q) (hP : va_P G.1 vwCl ws H) (hD : va_D A ws) (hS : va_S A s.heap H locs) (q0 : Nat) (hq : ws[q0]? = some (oC b 7 fs)) (is : List Nat) (hC : is.map (fun i => ws[i]?) = wc.map some) (hnd : va_nd is = true) (hset : ck_set ws is wc = ws) (hn : As.length = 1) (hsize : ls.size = nL) (hst : st0 = As.reverse ++ .ref b :: rest) (hrm : (rest.map fun v => v.category).sum ≤ 8) (hR : rm.frames + 1 ≤ R.frames ∧ 8 + (2 + 11) + rm.locals ≤ R.locals) (hf : cells + rm.cells ≤ R.cells ∧ slots + rm.slots ≤ R.slots) (hdg : decode cc pc = .ok (.invokevirtual 73, 3))
    (pre : List ExceptionTableEntry) (x : ExceptionTableEntry) (suf : List ExceptionTableEntry) (hsplit : c.exceptionTable.toList = pre ++ x :: suf) (hpass : ∀ z ∈ pre, covers z pc = false ∨ (z.catchType ≠ 0 ∧ ∃ nm : String, (Cond.classLink "CoverKeysLaw" z.catchType nm).before args s = true ∧ va_Nc E nm s)) (hx9 : covers x pc = true) (h09 : x.catchType ≠ 0) (hlink : (Cond.classLink "CoverKeysLaw" x.catchType name).before args s = true) (hcast : (Cond.castable E name).before args s = true)
    (kk : ∀ (q : Nat) (H1 : Heap) (locs1 : List Loc), va_P G.1 vwCl ws H1 → va_D A ws → va_S A s.heap H1 locs1 → W p l e R s m args below meth c H1 locs1 (cells + rm.cells) (slots + rm.slots) Q (F0 m x.handlerPc ls [.ref q])) : W p l e R s m args below meth c H locs cells slots Q (F0 m pc ls st0) :=
  cw_V (T := TCK) (N := 9) ⟨hx, hb, hml, hown, hts⟩ hM ⟨callB_of 1 hts (ck_gd0 kcCK_count) rfl rfl rfl (hts _ knCK) (hts _ kmLa_73) ⟨by decide, by decide, by decide +kernel⟩ hR, hts _ kiCK_count, hts _ keCK_count⟩ hG hA hP hD hS hq rfl is hC hnd hset hn hsize hst hrm hdg hf pre x suf hsplit hpass hx9 h09 hlink hcast kk
end LWC
