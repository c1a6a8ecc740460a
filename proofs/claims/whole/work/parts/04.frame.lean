/-! my own frame: a contract of a method that makes no cell and answers one thing; the world in place behind a call -/
abbrev gG : Type := va_G × (ClassId × ClassId × ClassId × ClassId × ClassId) × (Nat × Nat)
abbrev gTy (G : gG) : List (ClassId × FieldType) := [(G.2.1.1, .int), (G.2.1.2.1, .boolean), (G.2.1.2.2.1, .long), (G.2.1.2.2.2.1, .object "CoverKeys$Channel"), (G.2.1.2.2.2.2, .object "CoverKeys$Decoder")]
abbrev aI (G : gG) (a n : Nat) (f : Nat → Int32) : Nat × va_E := (a, .inl (G.2.1.1, n, .inl f))
abbrev aZ (G : gG) (a n : Nat) (f : Nat → Int32) : Nat × va_E := (a, .inl (G.2.1.2.1, n, .inl f))
abbrev aJ (G : gG) (a n : Nat) (f : Nat → Int64) : Nat × va_E := (a, .inl (G.2.1.2.2.1, n, .inr (.inl f)))
abbrev aH (G : gG) (a n : Nat) (f : Nat → Option Nat) : Nat × va_E := (a, .inl (G.2.1.2.2.2.1, n, .inr (.inr (.inr (.inr f)))))
abbrev aQ (G : gG) (a n : Nat) (f : Nat → Option Nat) : Nat × va_E := (a, .inl (G.2.1.2.2.2.2, n, .inr (.inr (.inr (.inr f)))))
abbrev oC (a ci : Nat) (fs : List Value) : Nat × va_E := (a, .inr (ci, fs))
def gk (G : gG) (A : Nat → Prop) (U : State) (H : Heap) : Prop :=
  va_K G.1 vwCl (gTy G) U ∧
  (va_Z "CoverKeys" "SUB" "[I" (.ref G.2.2.1) A U H ∧ va_T .int G.2.2.1 256 (fun j => .int (ckS j)) A U H) ∧
  (va_Z "CoverKeys" "UNSUB" "[I" (.ref G.2.2.2) A U H ∧ va_T .int G.2.2.2 256 (fun j => .int (ckU j)) A U H) ∧
  (∀ w ∈ ckNest, va_Nw w U) ∧
  (vx_Zq Bundle.tN "UNASSIGNED_STACK" Bundle.steD A U H ∧ vx_Zq Bundle.tN "SUPPRESSED_SENTINEL" Bundle.listD A U H) ∧
  (∀ q ∈ ckStr, ∃ sa : Nat, vk_R "CoverKeys" q.1 q.2 sa U) ∧ (∀ w ∈ ckOdd, va_Nw w U) ∧ ∀ q ∈ ckNc, va_Nc q.1 q.2 U
theorem gk_call {G : gG} {A B : Nat → Prop} {s U : State} {H : Heap} {locs : List Loc} (h : gk G A s s.heap) (hS : va_S A s.heap H locs) (hAB : ∀ q, B q → A q) (hU : U.heap = H) (hW : s.WarmedH U.vm) : gk G B U U.heap := by
  obtain ⟨hK, ⟨z1, t1⟩, ⟨z2, t2⟩, hn, ⟨x1, x2⟩, hs, ho, hc⟩ := h
  have hq : ∀ a : Nat, a < s.heap.size → ¬ A a → H[a]? = s.heap[a]? := hS.2.1
  subst hU
  exact ⟨hK.moved hW.alike, ⟨((z1.kept hq).narrow hAB).moved hW.alike, ((t1.kept hq).narrow hAB).moved hW.alike⟩, ⟨((z2.kept hq).narrow hAB).moved hW.alike, ((t2.kept hq).narrow hAB).moved hW.alike⟩, fun w hw => ckNest_warm hW w hw (hn w hw), ⟨((x1.kept hq).narrow hAB).moved hW.alike, ((x2.kept hq).narrow hAB).moved hW.alike⟩, fun q h => (hs q h).elim fun sa z => ⟨sa, vk_R.warm hW z⟩, fun w hw => ckOdd_warm hW w hw (ho w hw), fun q h => (hc q h).moved hW.alike⟩
theorem gk_blind {G : gG} {B : Nat → Prop} {U : State} (g : JFrame) (mk : MethodId) (a : Array Value) (h : gk G B U U.heap) : gk G B (U.calling g mk a) (U.calling g mk a).heap := by
  obtain ⟨hK, ⟨z1, t1⟩, ⟨z2, t2⟩, hn, ⟨x1, x2⟩, hs, ho, hc⟩ := h
  exact ⟨va_K.moved (u := U) (U := U.calling g mk a) (Vm.Alike.refl U.vm) hK, ⟨va_Z.moved (u := U) (U := U.calling g mk a) (Vm.Alike.refl U.vm) z1, va_T.moved (u := U) (U := U.calling g mk a) (Vm.Alike.refl U.vm) t1⟩,
    ⟨va_Z.moved (u := U) (U := U.calling g mk a) (Vm.Alike.refl U.vm) z2, va_T.moved (u := U) (U := U.calling g mk a) (Vm.Alike.refl U.vm) t2⟩, fun w hw => va_Nw.same (ckNest_tab w hw) (u := U) (U := U.calling g mk a) rfl (hn w hw),
    ⟨vx_Zq.moved (u := U) (U := U.calling g mk a) (Vm.Alike.refl U.vm) x1, vx_Zq.moved (u := U) (U := U.calling g mk a) (Vm.Alike.refl U.vm) x2⟩, fun q h => (hs q h).elim fun sa z => ⟨sa, vk_R.same (u := U) (U := U.calling g mk a) rfl z⟩,
    fun w hw => va_Nw.same (ckOdd_tab w hw) (u := U) (U := U.calling g mk a) rfl (ho w hw), fun q h => va_Nc.moved (u := U) (U := U.calling g mk a) (Vm.Alike.refl U.vm) (hc q h)⟩
/-- what a method finds: its cells, and what never moves -/
def ck_in (G : gG) (wi : va_W) (sz : Nat) (U : State) : Prop := U.heap.size = sz ∧ va_P G.1 vwCl wi U.heap ∧ va_D (fun _ => True) wi ∧ gk G (va_A wi sz) U U.heap
/-- what it leaves: its answer, its cells; u: what of it the contract leaves open -/
def cq_out (G : gG) {S : Type} (φ : S → Prop) (r : S → Option Value) (wo : S → va_W) (A : Nat → Prop) : Array Value → State → Outcome → State → Prop := fun _ st oc t => (∃ u : S, φ u ∧ oc = .returned (r u) ∧ va_P G.1 vwCl (wo u) t.heap) ∧ va_F A st t
/-- a contract: with these arguments and cells the answer is r u, the cells are wo u, for a u of which φ holds -/
def Cq (l : Launch) (G : gG) (y : MethodName) (cc : ByteArray) (maxL : Nat) (rt : Option FieldType) (rm : Room) (av : List Value) (wi : va_W) {S : Type} (φ : S → Prop) (r : S → Option Value) (wo : S → va_W) : Prop :=
  ∀ sz : Nat, Met l y (Cond.code y cc maxL rt :: ckT) rm (va_Pc av (ck_in G wi sz)) (cq_out G φ r wo (va_A wi sz)) rm.cells rm.slots (va_A wi sz)
/-- nothing left open -/
abbrev Ck (l : Launch) (G : gG) (y : MethodName) (cc : ByteArray) (maxL : Nat) (rt : Option FieldType) (rm : Room) (av : List Value) (wi : va_W) (r : Option Value) (wo : va_W) : Prop :=
  Cq l G y cc maxL rt rm av wi (S := Unit) (fun _ => True) (fun _ => r) (fun _ => wo)
theorem ck_Dsame {A : Nat → Prop} {ws ws' : va_W} (h : ws'.map (·.1) = ws.map (·.1)) (hD : va_D A ws) : va_D A ws' := by
  have key : ∀ (k : Nat) (q : Nat × va_E), ws'[k]? = some q → ∃ e, ws[k]? = some (q.1, e) := by
    intro k q hq
    have h1 : (ws'.map (·.1))[k]? = some q.1 := by rw [List.getElem?_map, hq]; rfl
    rw [h, List.getElem?_map] at h1
    cases hw : ws[k]? with
    | none => rw [hw] at h1; cases h1
    | some z => rw [hw] at h1; exact ⟨z.2, by rw [← Option.some.inj h1]⟩
  refine ⟨fun i j x y hx hy hxy => ?_, fun k q hq => ?_⟩
  · obtain ⟨e1, h1⟩ := key i x hx
    obtain ⟨e2, h2⟩ := key j y hy
    exact hD.1 i j _ _ h1 h2 hxy
  · obtain ⟨e1, h1⟩ := key k q hq
    exact hD.2 k (q.1, e1) h1
def ck_set : va_W → List Nat → va_W → va_W
  | ws, i :: is, e :: es => ck_set (ws.set i e) is es
  | ws, _, _ => ws
theorem ck_set_get : ∀ (is : List Nat) (es ws : va_W), es.length = is.length → ∀ (k : Nat) (q : Nat × va_E), (ck_set ws is es)[k]? = some q → q ∈ es ∨ (k ∉ is ∧ ws[k]? = some q)
  | [], es, ws, _, k, q, h => by
    cases es with
    | nil => exact Or.inr ⟨List.not_mem_nil, h⟩
    | cons e es => exact Or.inr ⟨List.not_mem_nil, h⟩
  | i :: is, [], ws, hl, k, q, h => by cases hl
  | i :: is, e :: es, ws, hl, k, q, h => by
    have hl' : es.length = is.length := by simpa using hl
    rcases ck_set_get is es (ws.set i e) hl' k q h with h1 | ⟨h1, h2⟩
    · exact Or.inl (List.mem_cons_of_mem _ h1)
    · by_cases hki : i = k
      · subst hki
        rw [List.getElem?_set_self'] at h2
        cases hw : ws[i]? with
        | none => rw [hw] at h2; cases h2
        | some z => rw [hw] at h2; exact Or.inl (by rw [← Option.some.inj h2]; exact List.mem_cons_self)
      · rw [List.getElem?_set_ne hki] at h2
        exact Or.inr ⟨fun hm => (List.mem_cons.mp hm).elim (fun z => hki z.symm) h1, h2⟩
theorem ck_set_fst : ∀ (is : List Nat) (es ws : va_W), is.map (fun j => (ws.map (·.1))[j]?) = es.map (fun e => some e.1) → (ck_set ws is es).map (·.1) = ws.map (·.1)
  | [], es, ws, _ => by cases es <;> rfl
  | i :: is, [], ws, h => by cases h
  | i :: is, e :: es, ws, h => by
    simp only [List.map_cons, List.cons.injEq] at h
    obtain ⟨h1, h2⟩ := h
    have e1 : (ws.set i e).map (·.1) = ws.map (·.1) := by
      apply List.ext_getElem?
      intro k
      by_cases hki : i = k
      · subst hki
        rw [h1, List.getElem?_map, List.getElem?_set_self']
        rw [List.getElem?_map] at h1
        cases hw : ws[i]? with
        | none => rw [hw] at h1; cases h1
        | some z => rfl
      · rw [List.getElem?_map, List.getElem?_map, List.getElem?_set_ne hki]
    have h3 := ck_set_fst is es (ws.set i e) (by rw [e1]; exact h2)
    exact h3.trans e1
theorem ck_join {A0 : Nat → Prop} {D : va_G} {cl : List vw_C} {ws wi wo : va_W} {H H1 : Heap} (hP : va_P D cl ws H) (hD : va_D A0 ws) (is : List Nat) (hC : is.map (fun i => ws[i]?) = wi.map some) (ha : wo.map (·.1) = wi.map (·.1))
    (hk : ∀ q : Nat, q < H.size → ¬ va_A wi H.size q → H1[q]? = H[q]?) (hP1 : va_P D cl wo H1) : va_P D cl (ck_set ws is wo) H1 ∧ va_D A0 (ck_set ws is wo) := by
  have hlen : wo.length = is.length := by
    have h1 := congrArg List.length ha
    have h2 := congrArg List.length hC
    simp only [List.length_map] at h1 h2
    omega
  have hfst : (ck_set ws is wo).map (·.1) = ws.map (·.1) := by
    apply ck_set_fst
    have h1 : wo.map (fun e => some e.1) = (wo.map (·.1)).map some := by rw [List.map_map]; rfl
    have h2 : is.map (fun j => (ws.map (·.1))[j]?) = (is.map (fun i => ws[i]?)).map (fun z => z.map (·.1)) := by
      rw [List.map_map]
      apply List.map_congr_left
      intro k _
      rw [List.getElem?_map]
      rfl
    rw [h1, h2, hC, ha, List.map_map, List.map_map]
    rfl
  refine ⟨fun k q hq => ?_, ck_Dsame hfst hD⟩
  rcases ck_set_get is wo ws hlen k q hq with h | ⟨h1, h2⟩
  · obtain ⟨j, hj⟩ := List.getElem?_of_mem h
    exact hP1 j q hj
  · have hl := (hP k q h2).lt
    refine (hP k q h2).kept (hk q.1 hl (fun h => ?_))
    rcases h with ⟨j, e, h⟩ | h
    · have h3 : (is.map (fun i => ws[i]?))[j]? = some (some (q.1, e)) := by rw [hC, List.getElem?_map, h]; rfl
      rw [List.getElem?_map] at h3
      cases hi : is[j]? with
      | none => rw [hi] at h3; cases h3
      | some i =>
        rw [hi] at h3
        have h4 : ws[i]? = some (q.1, e) := Option.some.inj h3
        have h5 := hD.1 k i q (q.1, e) h2 h4 rfl
        subst h5
        exact h1 (List.mem_of_getElem? hi)
    · omega
section CK1
variable {p : Program} {l : Launch} {e : Env} {R : Room} {s : State} {m : MethodId} {args : Array Value} {below : List Frame} {meth : Method} {c : Code} {H : Heap} {locs : List Loc} {cells slots : Nat} {Q : State → Prop}
variable {cc bytes : ByteArray} {pc nL maxL n index : Nat} {ls : Array Slot} {rest st0 As : List Value} {G : gG} {A : Nat → Prop} {ws wi : va_W} {S : Type} {φ : S → Prop} {r : S → Option Value} {wo : S → va_W} {y : MethodName} {Ts : List Cond} {rm : Room} {own C : String} {rt : Option FieldType}
/-- from a contract to its walk -/
theorem Cq.of {av : List Value} (hy : plainName y.cls = true) (hav : (lg_sl av).length ≤ maxL)
    (body : ∀ (p : Program) (e : Env) (s : State) (m : MethodId) (args : Array Value) (below : List Frame) (meth : Method) (c : Code) (A : Nat → Prop) (ls : Array Slot), p.tables.exec = Jvm.exec → c.code = cc → meth.sig.returnType = rt → c.maxLocals = maxL →
      (∀ x ∈ ckT, x.before args s = true) → s.vm.findClass y.cls = some m.cls → meth.locks = false → (∀ q : Nat, s.heap.size ≤ q → A q) → va_P G.1 vwCl wi s.heap → va_D A wi → gk G A s s.heap → va_S A s.heap s.heap [] → lv_has ls maxL (lv_args 0 av) →
      W p l e rm s m args below meth c s.heap [] 0 0 (MQ below (cq_out G φ r wo A) args s rm.cells rm.slots A) (F0 m 0 ls [])) : Cq l G y cc maxL rt rm av wi φ r wo := by
  intro sz
  refine Met.ofW (cc := cc) (maxL := maxL) (ret := rt) hy rfl ?_
  intro p e s m args below meth c s₁ B hml hv
  obtain ⟨rfl, hsz, hP, hD0, hG⟩ := hv
  subst hsz
  have hD := hD0.self (sz := s.heap.size)
  have hl := lv_entry av (n := maxL) hav
  rw [lg_entry_eq]
  exact body p e s m _ below meth c _ _ B.exec B.bytes B.returns hml (fun x hx => atoms_spec (ws := Cond.code y cc maxL rt :: ckT) B.pre x (List.mem_cons_of_mem _ hx)) (findClass_of_methodNamed B.named) B.notSynchronized (fun q h => Or.inr h) hP hD hG va_S.rf hl
theorem ck_blind {av : List Value} {sz : Nat} : FrameBlind (va_Pc av (ck_in G wi sz)) := fun a U g mk q => by
  obtain ⟨q0, q1, qP, qD, qG⟩ := q
  exact ⟨q0, q1, qP, qD, gk_blind g mk a qG⟩
theorem ck_pre {isC : List Nat} (hG : gk G A s s.heap) (hA : ∀ q : Nat, s.heap.size ≤ q → A q) (hP : va_P G.1 vwCl ws H) (hD : va_D A ws) (hS : va_S A s.heap H locs) (hC : isC.map (fun i => ws[i]?) = wi.map some) (hn : va_nd isC = true) :
    ∀ U : State, U.heap = H → s.WarmedH U.vm → ck_in G wi H.size U := by
  intro U hU hW
  have hFc := va_free hD hS hA isC hC
  refine ⟨by rw [hU], ?_, (hD.sub isC hn hC).weaken (fun _ _ _ _ => trivial), gk_call hG hS hFc hU hW⟩
  rw [hU]
  intro k q hq
  have h1 : (isC.map (fun i => ws[i]?))[k]? = some (some q) := by rw [hC, List.getElem?_map, hq]; rfl
  rw [List.getElem?_map] at h1
  cases hi : isC[k]? with
  | none => rw [hi] at h1; cases h1
  | some i => rw [hi] at h1; exact hP i q (Option.some.inj h1)
/-- behind any call that keeps a contract -/
theorem cq_after {a : Array Value} {g : JFrame} (hg : g = F0 m pc ls st0) (hr : va_Run p l e R s m args below meth c H locs cells slots rm.cells rm.slots g rest (cq_out G φ r wo (va_A wi H.size) a) (va_A wi H.size))
    (hA : ∀ q : Nat, s.heap.size ≤ q → A q) (hP : va_P G.1 vwCl ws H) (hD : va_D A ws) (hS : va_S A s.heap H locs) (is : List Nat) (hC : is.map (fun i => ws[i]?) = wi.map some) (ha : ∀ u, (wo u).map (·.1) = wi.map (·.1))
    (kk : ∀ (u : S) (H1 : Heap) (locs1 : List Loc), φ u → va_P G.1 vwCl (ck_set ws is (wo u)) H1 → va_D A (ck_set ws is (wo u)) → va_S A s.heap H1 locs1 → W p l e R s m args below meth c H1 locs1 (cells + rm.cells) (slots + rm.slots) Q (F0 m (pc + 3) ls ((r u).toList ++ rest))) :
    W p l e R s m args below meth c H locs cells slots Q g := by
  subst hg
  intro T hT X
  obtain ⟨v, st₀, t, T', L, h0, X', hL, e1, e2, ⟨⟨u, hu, hv, hp⟩, hz, hk⟩, st⟩ := hr T hT X
  cases hv
  rw [h0] at hz hk
  have hF := va_free hD hS hA is hC
  obtain ⟨hP1, hD1⟩ := ck_join (H1 := T'.heap) hP hD is hC (ha u) (fun q h1 h2 => by rw [e1]; exact hk q h1 h2) (by rw [e1]; exact hp)
  obtain ⟨t2, a1, b1⟩ := kk u T'.heap (locs ++ L) hu hP1 hD1
    ⟨Nat.le_trans hS.1 (by rw [e1]; exact hz), fun q h1 h2 => by rw [e1, hk q (Nat.lt_of_lt_of_le h1 hS.1) (fun z => h2 (hF q z))]; exact hS.2.1 q h1 h2, fun q hq => by
      rcases List.mem_append.mp hq with h | h
      · exact hS.2.2 q h
      · exact hF _ (hL q h)⟩ T' rfl X'
  exact ⟨t2, st t2 a1, b1⟩
/-- a static call -/
theorem cq_S (S0 : CallFix p m c cc nL s args Ts own) (hM : Cq l G y bytes maxL rt rm As wi φ r wo) (cw : CallB R s args own index y bytes maxL rt (Cond.code y bytes maxL rt :: ckT) rm rm.cells rm.slots n ∧ (Cond.static y).before args s = true)
    (hG : gk G A s s.heap) (hA : ∀ q : Nat, s.heap.size ≤ q → A q) (hP : va_P G.1 vwCl ws H) (hD : va_D A ws) (hS : va_S A s.heap H locs) (is : List Nat) (hC : is.map (fun i => ws[i]?) = wi.map some) (hnd : va_nd is = true) (ha : ∀ u, (wo u).map (·.1) = wi.map (·.1))
    (hn : As.length = n) (hsize : ls.size = nL) (hst : st0 = As.reverse ++ rest) (hrm : (rest.map fun v => v.category).sum ≤ 8) (hdg : decode cc pc = .ok (.invokestatic index, 3)) (hf : cells + rm.cells ≤ R.cells ∧ slots + rm.slots ≤ R.slots)
    (kk : ∀ (u : S) (H1 : Heap) (locs1 : List Loc), φ u → va_P G.1 vwCl (ck_set ws is (wo u)) H1 → va_D A (ck_set ws is (wo u)) → va_S A s.heap H1 locs1 → W p l e R s m args below meth c H1 locs1 (cells + rm.cells) (slots + rm.slots) Q (F0 m (pc + 3) ls ((r u).toList ++ rest))) :
    W p l e R s m args below meth c H locs cells slots Q (F0 m pc ls st0) :=
  cq_after rfl (va_runS S0 (hM H.size) cw ⟨ck_blind, fun U hU hW => ⟨rfl, ck_pre hG hA hP hD hS hC hnd U hU hW⟩⟩ rfl hn hsize hst (lv_room hrm) hdg hf) hA hP hD hS is hC ha kk
/-- a virtual call: the receiver is a cell of the world -/
theorem cq_V {b ci q0 : Nat} {T : u_T} {N : Nat} {fs : List Value} (S0 : CallFix p m c cc nL s args Ts own) (hM : Cq l G y bytes maxL rt rm (.ref b :: As) wi φ r wo) (cw : CallW R s args own C index y bytes maxL rt (Cond.code y bytes maxL rt :: ckT) rm rm.cells rm.slots n)
    (hG : gk G A s s.heap) (hA : ∀ q : Nat, s.heap.size ≤ q → A q) (hP : va_P G.1 vwCl ws H) (hD : va_D A ws) (hS : va_S A s.heap H locs) (hq : ws[q0]? = some (b, .inr (ci, fs))) (hci : vwCl[ci]? = some (C, T, N)) (is : List Nat) (hC : is.map (fun i => ws[i]?) = wi.map some) (hnd : va_nd is = true) (ha : ∀ u, (wo u).map (·.1) = wi.map (·.1))
    (hn : As.length = n) (hsize : ls.size = nL) (hst : st0 = As.reverse ++ .ref b :: rest) (hrm : (rest.map fun v => v.category).sum ≤ 8) (hdg : decode cc pc = .ok (.invokevirtual index, 3)) (hf : cells + rm.cells ≤ R.cells ∧ slots + rm.slots ≤ R.slots)
    (kk : ∀ (u : S) (H1 : Heap) (locs1 : List Loc), φ u → va_P G.1 vwCl (ck_set ws is (wo u)) H1 → va_D A (ck_set ws is (wo u)) → va_S A s.heap H1 locs1 → W p l e R s m args below meth c H1 locs1 (cells + rm.cells) (slots + rm.slots) Q (F0 m (pc + 3) ls ((r u).toList ++ rest))) :
    W p l e R s m args below meth c H locs cells slots Q (F0 m pc ls st0) :=
  cq_after rfl (va_runV S0 (hM H.size) cw ⟨ck_blind, va_recv hG.1 hP hci hq, fun U hU hW => ⟨rfl, ck_pre hG hA hP hD hS hC hnd U hU hW⟩⟩ rfl hn hsize hst (lv_room hrm) hdg hf) hA hP hD hS is hC ha kk
theorem cq_iret {v : Int32} {wo' : va_W} (u : S) (hu : φ u) (hx : p.tables.exec = Jvm.exec) (hb : c.code = cc) (hr : meth.sig.returnType = some .int) (hlk : meth.locks = false) (hP : va_P G.1 vwCl wo' H) (hS : va_S A s.heap H locs) (hv : some (.int v) = r u) (hw : wo' = wo u) (hdg : decode cc pc = .ok (.ireturn, 1)) :
    W p l e R s m args below meth c H locs cells slots (MQ below (cq_out G φ r wo A) args s cells slots A) (F0 m pc ls [.int v]) := by
  subst hw
  exact W.iret hx hb hr (fun t ht _ => ⟨⟨u, hu, by rw [← hv], by rw [ht]; exact hP⟩, hS.F ht⟩) hS.2.2 hdg hlk
theorem cq_zret {v : Int32} {wo' : va_W} (u : S) (hu : φ u) (hx : p.tables.exec = Jvm.exec) (hb : c.code = cc) (hr : meth.sig.returnType = some .boolean) (hlk : meth.locks = false) (hP : va_P G.1 vwCl wo' H) (hS : va_S A s.heap H locs) (hn : narrow .boolean (.int v) = .int v) (hv : some (.int v) = r u) (hw : wo' = wo u) (hdg : decode cc pc = .ok (.ireturn, 1)) :
    W p l e R s m args below meth c H locs cells slots (MQ below (cq_out G φ r wo A) args s cells slots A) (F0 m pc ls [.int v]) := by
  subst hw
  exact W.zret hx hb hr hn (fun t ht _ => ⟨⟨u, hu, by rw [← hv], by rw [ht]; exact hP⟩, hS.F ht⟩) hS.2.2 hdg hlk
theorem cq_lret {v : Int64} {wo' : va_W} (u : S) (hu : φ u) (hx : p.tables.exec = Jvm.exec) (hb : c.code = cc) (hr : meth.sig.returnType = some .long) (hlk : meth.locks = false) (hP : va_P G.1 vwCl wo' H) (hS : va_S A s.heap H locs) (hv : some (.long v) = r u) (hw : wo' = wo u) (hdg : decode cc pc = .ok (.lreturn, 1)) :
    W p l e R s m args below meth c H locs cells slots (MQ below (cq_out G φ r wo A) args s cells slots A) (F0 m pc ls [.long v]) := by
  subst hw
  exact W.lret hx hb hr (fun t ht _ => ⟨⟨u, hu, by rw [← hv], by rw [ht]; exact hP⟩, hS.F ht⟩) hS.2.2 hdg hlk
theorem cq_vret {wo' : va_W} (u : S) (hu : φ u) (hx : p.tables.exec = Jvm.exec) (hb : c.code = cc) (hr : meth.sig.returnType = none) (hlk : meth.locks = false) (hP : va_P G.1 vwCl wo' H) (hS : va_S A s.heap H locs) (hv : none = r u) (hw : wo' = wo u) (hdg : decode cc pc = .ok (.return_, 1)) :
    W p l e R s m args below meth c H locs cells slots (MQ below (cq_out G φ r wo A) args s cells slots A) (F0 m pc ls []) := by
  subst hw
  exact W.vret hx hb hr (fun t ht _ => ⟨⟨u, hu, by rw [← hv], by rw [ht]; exact hP⟩, hS.F ht⟩) hS.2.2 hdg hlk
theorem ck_ri {x y : Int32} (h : x = y) (k : W p l e R s m args below meth c H locs cells slots Q (F0 m pc ls (.int y :: rest))) : W p l e R s m args below meth c H locs cells slots Q (F0 m pc ls (.int x :: rest)) := by subst h; exact k
theorem ck_rl {x y : Int64} (h : x = y) (k : W p l e R s m args below meth c H locs cells slots Q (F0 m pc ls (.long y :: rest))) : W p l e R s m args below meth c H locs cells slots Q (F0 m pc ls (.long x :: rest)) := by subst h; exact k
/-- an element of one of the class's tables -/
theorem ck_tald {t N : Nat} {f : Nat → Int32} (hx : p.tables.exec = Jvm.exec) (hb : c.code = cc) (hT : va_T .int t N (fun j => .int (f j)) A s s.heap) (hS : va_S A s.heap H locs) {i : Int32} (k : Nat) (hi : i = nI k) (hk : k < N) (hN : N < 2 ^ 31) (hdg : decode cc pc = .ok (.iaload, 1))
    (kk : W p l e R s m args below meth c H locs cells slots Q (F0 m (pc + 1) ls (.int (f k) :: rest))) : W p l e R s m args below meth c H locs cells slots Q (F0 m pc ls (.int i :: .ref t :: rest)) := by
  subst hi
  exact va_ti hx hb hT hS (vp_in_nI hk hN) (by show Value.int (f _) = _; rw [nI_clamp (by omega)]) hdg kk
end CK1
section CK2
variable {p : Program} {l : Launch} {e : Env} {R : Room} {s : State} {m : MethodId} {args : Array Value} {below : List Frame} {meth : Method} {c : Code} {H : Heap} {locs : List Loc} {cells slots : Nat} {Q : State → Prop}
variable {cc : ByteArray} {pc : Nat} {ls : Array Slot} {rest : List Value} {G : gG} {A : Nat → Prop} {ws : va_W} {a : Nat}
theorem ck_vin {i : Int32} {k n : Nat} (hi : i = nI k) (hk : k < n) (hn : n < 2 ^ 31) : vp_in i n ∧ i.toNatClampNeg = k := by
  subst hi
  exact ⟨vp_in_nI hk hn, nI_clamp (by omega)⟩
theorem ck_iald (hx : p.tables.exec = Jvm.exec) (hb : c.code = cc) (hG : gk G A s s.heap) (hP : va_P G.1 vwCl ws H) (q0 : Nat) {n : Nat} {f : Nat → Int32} (ha : ws[q0]? = some (aI G a n f)) (hn : n < 2 ^ 31) {i : Int32} (k : Nat) (hi : i = nI k) (hk : k < n) (hdg : decode cc pc = .ok (.iaload, 1))
    (kk : W p l e R s m args below meth c H locs cells slots Q (F0 m (pc + 1) ls (.int (f k) :: rest))) : W p l e R s m args below meth c H locs cells slots Q (F0 m pc ls (.int i :: .ref a :: rest)) := by
  obtain ⟨h1, h2⟩ := ck_vin hi hk hn
  exact va_iald hx hb hG.1 hP q0 0 ha rfl h1 hdg (by rw [h2]; exact kk)
theorem ck_zald (hx : p.tables.exec = Jvm.exec) (hb : c.code = cc) (hG : gk G A s s.heap) (hP : va_P G.1 vwCl ws H) (q0 : Nat) {n : Nat} {f : Nat → Int32} (ha : ws[q0]? = some (aZ G a n f)) (hn : n < 2 ^ 31) {i : Int32} (k : Nat) (hi : i = nI k) (hk : k < n) (hdg : decode cc pc = .ok (.baload, 1))
    (kk : W p l e R s m args below meth c H locs cells slots Q (F0 m (pc + 1) ls (.int (f k) :: rest))) : W p l e R s m args below meth c H locs cells slots Q (F0 m pc ls (.int i :: .ref a :: rest)) := by
  obtain ⟨h1, h2⟩ := ck_vin hi hk hn
  exact va_zald hx hb hG.1 hP q0 1 ha rfl h1 hdg (by rw [h2]; exact kk)
theorem ck_lald (hx : p.tables.exec = Jvm.exec) (hb : c.code = cc) (hG : gk G A s s.heap) (hP : va_P G.1 vwCl ws H) (q0 : Nat) {n : Nat} {f : Nat → Int64} (ha : ws[q0]? = some (aJ G a n f)) (hn : n < 2 ^ 31) {i : Int32} (k : Nat) (hi : i = nI k) (hk : k < n) (hdg : decode cc pc = .ok (.laload, 1))
    (kk : W p l e R s m args below meth c H locs cells slots Q (F0 m (pc + 1) ls (.long (f k) :: rest))) : W p l e R s m args below meth c H locs cells slots Q (F0 m pc ls (.int i :: .ref a :: rest)) := by
  obtain ⟨h1, h2⟩ := ck_vin hi hk hn
  exact va_lald hx hb hG.1 hP q0 2 ha rfl h1 hdg (by rw [h2]; exact kk)
theorem ck_iast (hx : p.tables.exec = Jvm.exec) (hb : c.code = cc) (hG : gk G A s s.heap) (hP : va_P G.1 vwCl ws H) (hD : va_D A ws) (hS : va_S A s.heap H locs) (q0 : Nat) {n : Nat} {f : Nat → Int32} (ha : ws[q0]? = some (aI G a n f)) (hn : n < 2 ^ 31) {i x : Int32} (k : Nat) (hi : i = nI k) (hk : k < n) (hdg : decode cc pc = .ok (.iastore, 1))
    (kk : ∀ (H1 : Heap) (locs1 : List Loc), va_P G.1 vwCl (ws.set q0 (aI G a n (upd f k x))) H1 → va_D A (ws.set q0 (aI G a n (upd f k x))) → va_S A s.heap H1 locs1 → W p l e R s m args below meth c H1 locs1 cells slots Q (F0 m (pc + 1) ls rest)) : W p l e R s m args below meth c H locs cells slots Q (F0 m pc ls (.int x :: .int i :: .ref a :: rest)) := by
  obtain ⟨h1, h2⟩ := ck_vin hi hk hn
  exact va_iast hx hb hG.1 hP hD hS q0 0 ha rfl h1 hdg (by rw [h2]; exact kk)
theorem ck_zast (hx : p.tables.exec = Jvm.exec) (hb : c.code = cc) (hG : gk G A s s.heap) (hP : va_P G.1 vwCl ws H) (hD : va_D A ws) (hS : va_S A s.heap H locs) (q0 : Nat) {n : Nat} {f : Nat → Int32} (ha : ws[q0]? = some (aZ G a n f)) (hn : n < 2 ^ 31) {i x x' : Int32} (k : Nat) (hi : i = nI k) (hk : k < n) (hxn : vp_nar .boolean x = x') (hdg : decode cc pc = .ok (.bastore, 1))
    (kk : ∀ (H1 : Heap) (locs1 : List Loc), va_P G.1 vwCl (ws.set q0 (aZ G a n (upd f k x'))) H1 → va_D A (ws.set q0 (aZ G a n (upd f k x'))) → va_S A s.heap H1 locs1 → W p l e R s m args below meth c H1 locs1 cells slots Q (F0 m (pc + 1) ls rest)) : W p l e R s m args below meth c H locs cells slots Q (F0 m pc ls (.int x :: .int i :: .ref a :: rest)) := by
  obtain ⟨h1, h2⟩ := ck_vin hi hk hn
  subst hxn
  exact va_zast hx hb hG.1 hP hD hS q0 1 ha rfl h1 hdg (by rw [h2]; exact kk)
theorem ck_last (hx : p.tables.exec = Jvm.exec) (hb : c.code = cc) (hG : gk G A s s.heap) (hP : va_P G.1 vwCl ws H) (hD : va_D A ws) (hS : va_S A s.heap H locs) (q0 : Nat) {n : Nat} {f : Nat → Int64} (ha : ws[q0]? = some (aJ G a n f)) (hn : n < 2 ^ 31) {i : Int32} {x : Int64} (k : Nat) (hi : i = nI k) (hk : k < n) (hdg : decode cc pc = .ok (.lastore, 1))
    (kk : ∀ (H1 : Heap) (locs1 : List Loc), va_P G.1 vwCl (ws.set q0 (aJ G a n (vp_updL f k x))) H1 → va_D A (ws.set q0 (aJ G a n (vp_updL f k x))) → va_S A s.heap H1 locs1 → W p l e R s m args below meth c H1 locs1 cells slots Q (F0 m (pc + 1) ls rest)) : W p l e R s m args below meth c H locs cells slots Q (F0 m pc ls (.long x :: .int i :: .ref a :: rest)) := by
  obtain ⟨h1, h2⟩ := ck_vin hi hk hn
  exact va_last hx hb hG.1 hP hD hS q0 2 ha rfl h1 hdg (by rw [h2]; exact kk)
end CK2
