/-! methods that make cells: the cells behind one are any, in place of its own or new -/
theorem karrI : Cond.arrayClass .int ∈ ckT := ck_m1 (List.mem_of_getElem? (i := 48) rfl) rfl
theorem karrZ : Cond.arrayClass .boolean ∈ ckT := ck_m1 (List.mem_of_getElem? (i := 76) rfl) rfl
theorem karrJ : Cond.arrayClass .long ∈ ckT := ck_m2 (List.mem_of_getElem? (i := 99) rfl) rfl
theorem kclLa_8 : Cond.classLink "CoverKeysLaw" 8 "CoverKeys" ∈ ckT := ck_m1 (List.mem_of_getElem? (i := 18) rfl) rfl
theorem kinCK : Cond.instantiable "CoverKeys" 9 ∈ ckT := ck_m1 (List.mem_of_getElem? (i := 19) rfl) rfl
theorem kclCK_9 : Cond.classLink "CoverKeys" 9 "CoverKeys$Cipher" ∈ ckT := ck_m1 (List.mem_of_getElem? (i := 26) rfl) rfl
theorem kinCi : Cond.instantiable "CoverKeys$Cipher" 3 ∈ ckT := ck_m1 (List.mem_of_getElem? (i := 27) rfl) rfl
theorem kclCK_16 : Cond.classLink "CoverKeys" 16 "CoverKeys$Tree" ∈ ckT := ck_m1 (List.mem_of_getElem? (i := 49) rfl) rfl
theorem kinTr : Cond.instantiable "CoverKeys$Tree" 3 ∈ ckT := ck_m1 (List.mem_of_getElem? (i := 50) rfl) rfl
theorem kclCK_23 : Cond.classLink "CoverKeys" 23 "CoverKeys$Cover" ∈ ckT := ck_m1 (List.mem_of_getElem? (i := 66) rfl) rfl
theorem kinCo : Cond.instantiable "CoverKeys$Cover" 1 ∈ ckT := ck_m1 (List.mem_of_getElem? (i := 67) rfl) rfl
theorem kclCK_30 : Cond.classLink "CoverKeys" 30 "CoverKeys$Envelope" ∈ ckT := ck_m1 (List.mem_of_getElem? (i := 77) rfl) rfl
theorem kinEn : Cond.instantiable "CoverKeys$Envelope" 3 ∈ ckT := ck_m1 (List.mem_of_getElem? (i := 78) rfl) rfl
theorem kclCK_37 : Cond.classLink "CoverKeys" 37 "CoverKeys$Packet" ∈ ckT := ck_m1 (List.mem_of_getElem? (i := 96) rfl) rfl
theorem kinPa : Cond.instantiable "CoverKeys$Packet" 2 ∈ ckT := ck_m1 (List.mem_of_getElem? (i := 97) rfl) rfl
theorem kclCK_44 : Cond.classLink "CoverKeys" 44 "CoverKeys$Channel" ∈ ckT := ck_m1 (List.mem_of_getElem? (i := 111) rfl) rfl
theorem kinCh : Cond.instantiable "CoverKeys$Channel" 7 ∈ ckT := ck_m1 (List.mem_of_getElem? (i := 115) rfl) rfl
theorem kclCK_50 : Cond.classLink "CoverKeys" 50 "CoverKeys$Decoder" ∈ ckT := ck_m1 (List.mem_of_getElem? (i := 113) rfl) rfl
theorem kinDe : Cond.instantiable "CoverKeys$Decoder" 3 ∈ ckT := ck_m2 (List.mem_of_getElem? (i := 81) rfl) rfl
theorem kclLa_77 : Cond.classLink "CoverKeysLaw" 77 "CoverKeysModel" ∈ ckT := ck_m3 (List.mem_of_getElem? (i := 166) rfl) rfl
theorem kinMo : Cond.instantiable "CoverKeysModel" 30 ∈ ckT := ck_m3 (List.mem_of_getElem? (i := 167) rfl) rfl
theorem kobCK_3 : Cond.methodLink "CoverKeys" 3 Lib.objectInit ∈ ckT := ck_m1 (List.mem_of_getElem? (i := 23) rfl) rfl
theorem kobCi_3 : Cond.methodLink "CoverKeys$Cipher" 3 Lib.objectInit ∈ ckT := ck_m1 (List.mem_of_getElem? (i := 31) rfl) rfl
theorem kobTr_3 : Cond.methodLink "CoverKeys$Tree" 3 Lib.objectInit ∈ ckT := ck_m1 (List.mem_of_getElem? (i := 54) rfl) rfl
theorem kobCo_3 : Cond.methodLink "CoverKeys$Cover" 3 Lib.objectInit ∈ ckT := ck_m1 (List.mem_of_getElem? (i := 71) rfl) rfl
theorem kobEn_1 : Cond.methodLink "CoverKeys$Envelope" 1 Lib.objectInit ∈ ckT := ck_m1 (List.mem_of_getElem? (i := 82) rfl) rfl
theorem kobPa_3 : Cond.methodLink "CoverKeys$Packet" 3 Lib.objectInit ∈ ckT := ck_m1 (List.mem_of_getElem? (i := 101) rfl) rfl
theorem kobCh_3 : Cond.methodLink "CoverKeys$Channel" 3 Lib.objectInit ∈ ckT := ck_m1 (List.mem_of_getElem? (i := 119) rfl) rfl
theorem kobDe_3 : Cond.methodLink "CoverKeys$Decoder" 3 Lib.objectInit ∈ ckT := ck_m2 (List.mem_of_getElem? (i := 85) rfl) rfl
theorem kobMo_1 : Cond.methodLink "CoverKeysModel" 1 Lib.objectInit ∈ ckT := ck_m3 (List.mem_of_getElem? (i := 171) rfl) rfl
theorem kobI : Cond.instanceMethod Lib.objectInit ∈ ckT := ck_m1 (List.mem_of_getElem? (i := 24) rfl) rfl
theorem kobC : Cond.code Lib.objectInit ⟨#[0xb1]⟩ 1 none ∈ ckT := ck_m1 (List.mem_of_getElem? (i := 25) rfl) rfl
def cr_out (G : gG) {S : Type} (φ : S → Prop) (r : S → Option Value) (wo : S → va_W) (A : Nat → Prop) : Array Value → State → Outcome → State → Prop := fun _ st oc t => (∃ u : S, φ u ∧ oc = .returned (r u) ∧ va_P G.1 vwCl (wo u) t.heap ∧ va_D A (wo u)) ∧ va_F A st t
/-- a contract of a maker; J: what it needs beside its cells -/
def Cr (l : Launch) (G : gG) (y : MethodName) (cc : ByteArray) (maxL : Nat) (rt : Option FieldType) (rm : Room) (av : List Value) (wi : va_W) (J : State → Prop) {S : Type} (φ : S → Prop) (r : S → Option Value) (wo : S → va_W) : Prop :=
  ∀ sz : Nat, Met l y (Cond.code y cc maxL rt :: ckT) rm (va_Pc av (fun U => ck_in G wi sz U ∧ J U)) (cr_out G φ r wo (va_A wi sz)) rm.cells rm.slots (va_A wi sz)
def Jk (J : State → Prop) : Prop := ∀ (u U : State), u.vm.Alike U.vm → J u → J U
theorem Jk_t : Jk (fun _ => True) := fun _ _ _ _ => trivial
def jAO : State → Prop := fun U => va_AO "CoverKeys$Channel" U ∧ va_AO "CoverKeys$Decoder" U
theorem Jk_AO : Jk jAO := fun _ _ h z => ⟨va_AO.moved h z.1, va_AO.moved h z.2⟩
section CR1
variable {p : Program} {l : Launch} {e : Env} {R : Room} {s : State} {m : MethodId} {args : Array Value} {below : List Frame} {meth : Method} {c : Code} {H : Heap} {locs : List Loc} {cells slots : Nat} {Q : State → Prop}
variable {cc bytes : ByteArray} {pc nL maxL n index : Nat} {ls : Array Slot} {rest st0 As : List Value} {G : gG} {A : Nat → Prop} {ws wi wr : va_W} {S : Type} {φ : S → Prop} {r : S → Option Value} {wo : S → va_W} {y : MethodName} {Ts : List Cond} {rm : Room} {own C : String} {rt : Option FieldType} {J : State → Prop}
theorem Cr.of {av : List Value} (hy : plainName y.cls = true) (hav : (lg_sl av).length ≤ maxL)
    (body : ∀ (p : Program) (e : Env) (s : State) (m : MethodId) (args : Array Value) (below : List Frame) (meth : Method) (c : Code) (A : Nat → Prop) (ls : Array Slot), p.tables.exec = Jvm.exec → c.code = cc → meth.sig.returnType = rt → c.maxLocals = maxL →
      (∀ x ∈ ckT, x.before args s = true) → s.vm.findClass y.cls = some m.cls → meth.locks = false → meth.name = y.name → J s → (∀ q : Nat, s.heap.size ≤ q → A q) → va_P G.1 vwCl wi s.heap → va_D A wi → gk G A s s.heap → va_S A s.heap s.heap [] → lv_has ls maxL (lv_args 0 av) →
      W p l e rm s m args below meth c s.heap [] 0 0 (MQ below (cr_out G φ r wo A) args s rm.cells rm.slots A) (F0 m 0 ls [])) : Cr l G y cc maxL rt rm av wi J φ r wo := by
  intro sz
  refine Met.ofW (cc := cc) (maxL := maxL) (ret := rt) hy rfl ?_
  intro p e s m args below meth c s₁ B hml hv
  obtain ⟨rfl, ⟨hsz, hP, hD0, hG⟩, hJ⟩ := hv
  subst hsz
  have hD := hD0.self (sz := s.heap.size)
  have hl := lv_entry av (n := maxL) hav
  rw [lg_entry_eq]
  exact body p e s m _ below meth c _ _ B.exec B.bytes B.returns hml (fun x hx => atoms_spec (ws := Cond.code y cc maxL rt :: ckT) B.pre x (List.mem_cons_of_mem _ hx)) (findClass_of_methodNamed B.named) B.notSynchronized (name_of_methodNamed B.named B.method).1 hJ (fun q h => Or.inr h) hP hD hG va_S.rf hl
theorem cr_blind {av : List Value} {sz : Nat} (hJ : Jk J) : FrameBlind (va_Pc av (fun U => ck_in G wi sz U ∧ J U)) := fun a U g mk q => by
  obtain ⟨q0, ⟨q1, qP, qD, qG⟩, qJ⟩ := q
  exact ⟨q0, ⟨q1, qP, qD, gk_blind g mk a qG⟩, hJ U (U.calling g mk a) (Vm.Alike.refl U.vm) qJ⟩
theorem cr_after {a : Array Value} {g : JFrame} (hg : g = F0 m pc ls st0) (hr : va_Run p l e R s m args below meth c H locs cells slots rm.cells rm.slots g rest (cr_out G φ r wo (va_A wi H.size) a) (va_A wi H.size))
    (hA : ∀ q : Nat, s.heap.size ≤ q → A q) (hP : va_P G.1 vwCl ws H) (hD : va_D A ws) (hS : va_S A s.heap H locs) (is isR : List Nat) (hC : is.map (fun i => ws[i]?) = wi.map some) (hR : isR.map (fun i => ws[i]?) = wr.map some) (hnR : va_nd isR = true) (hdis : ∀ i ∈ isR, i ∉ is)
    (kk : ∀ (u : S) (H1 : Heap) (locs1 : List Loc), φ u → va_P G.1 vwCl (wr ++ wo u) H1 → va_D A (wr ++ wo u) → va_S A s.heap H1 locs1 → W p l e R s m args below meth c H1 locs1 (cells + rm.cells) (slots + rm.slots) Q (F0 m (pc + 3) ls ((r u).toList ++ rest))) :
    W p l e R s m args below meth c H locs cells slots Q g := by
  subst hg
  intro T hT X
  obtain ⟨v, st₀, t, T', L, h0, X', hL, e1, e2, ⟨⟨u, hu, hv, hp, hd⟩, hz, hk⟩, st⟩ := hr T hT X
  cases hv
  rw [h0] at hz hk
  have hF := va_free hD hS hA is hC
  obtain ⟨hP1, hD1⟩ := va_join (H1 := T'.heap) hP hD is isR hC hR hnR hdis (fun q h1 h2 => by rw [e1]; exact hk q h1 h2) hF (by rw [e1]; exact hp) hd
  obtain ⟨t2, a1, b1⟩ := kk u T'.heap (locs ++ L) hu hP1 hD1
    ⟨Nat.le_trans hS.1 (by rw [e1]; exact hz), fun q h1 h2 => by rw [e1, hk q (Nat.lt_of_lt_of_le h1 hS.1) (fun z => h2 (hF q z))]; exact hS.2.1 q h1 h2, fun q hq => by
      rcases List.mem_append.mp hq with h | h
      · exact hS.2.2 q h
      · exact hF _ (hL q h)⟩ T' rfl X'
  exact ⟨t2, st t2 a1, b1⟩
theorem cr_pre {is : List Nat} (hJk : Jk J) (hJ : J s) (hG : gk G A s s.heap) (hA : ∀ q : Nat, s.heap.size ≤ q → A q) (hP : va_P G.1 vwCl ws H) (hD : va_D A ws) (hS : va_S A s.heap H locs) (hC : is.map (fun i => ws[i]?) = wi.map some) (hn : va_nd is = true) :
    ∀ U : State, U.heap = H → s.WarmedH U.vm → (ck_in G wi H.size U ∧ J U) := fun U hU hW => ⟨ck_pre hG hA hP hD hS hC hn U hU hW, hJk s U hW.alike hJ⟩
/-- a constructor of a nest mate -/
theorem cr_IN {b : Nat} {host : String} (S0 : CallFix p m c cc nL s args Ts own) (hM : Cr l G y bytes maxL none rm (.ref b :: As) wi J φ r wo) (cw : va_CN R s args own index y host bytes maxL none (Cond.code y bytes maxL none :: ckT) rm rm.cells rm.slots n ∧ y.name = "<init>" ∧ (Cond.instanceMethod y).before args s = true)
    (hJk : Jk J) (hJ : J s) (hG : gk G A s s.heap) (hA : ∀ q : Nat, s.heap.size ≤ q → A q) (hP : va_P G.1 vwCl ws H) (hD : va_D A ws) (hS : va_S A s.heap H locs) (is isR : List Nat) (hC : is.map (fun i => ws[i]?) = wi.map some) (hnd : va_nd is = true) (hR : isR.map (fun i => ws[i]?) = wr.map some) (hnR : va_nd isR = true) (hdis : ∀ i ∈ isR, i ∉ is)
    (hn : As.length = n) (hsize : ls.size = nL) (hst : st0 = As.reverse ++ .ref b :: rest) (hrm : (rest.map fun v => v.category).sum ≤ 8) (hdg : decode cc pc = .ok (.invokespecial index, 3)) (hf : cells + rm.cells ≤ R.cells ∧ slots + rm.slots ≤ R.slots)
    (kk : ∀ (u : S) (H1 : Heap) (locs1 : List Loc), φ u → va_P G.1 vwCl (wr ++ wo u) H1 → va_D A (wr ++ wo u) → va_S A s.heap H1 locs1 → W p l e R s m args below meth c H1 locs1 (cells + rm.cells) (slots + rm.slots) Q (F0 m (pc + 3) ls ((r u).toList ++ rest))) :
    W p l e R s m args below meth c H locs cells slots Q (F0 m pc ls st0) :=
  cr_after rfl (va_runIN S0 (hM H.size) cw ⟨cr_blind hJk, fun U hU hW => ⟨rfl, cr_pre hJk hJ hG hA hP hD hS hC hnd U hU hW⟩⟩ rfl hn hsize hst (lv_room hrm) hdg hf) hA hP hD hS is isR hC hR hnR hdis kk
/-- a constructor -/
theorem cr_I {b : Nat} (S0 : CallFix p m c cc nL s args Ts own) (hM : Cr l G y bytes maxL none rm (.ref b :: As) wi J φ r wo) (cw : CallB R s args own index y bytes maxL none (Cond.code y bytes maxL none :: ckT) rm rm.cells rm.slots n ∧ y.name = "<init>" ∧ (Cond.instanceMethod y).before args s = true)
    (hJk : Jk J) (hJ : J s) (hG : gk G A s s.heap) (hA : ∀ q : Nat, s.heap.size ≤ q → A q) (hP : va_P G.1 vwCl ws H) (hD : va_D A ws) (hS : va_S A s.heap H locs) (is isR : List Nat) (hC : is.map (fun i => ws[i]?) = wi.map some) (hnd : va_nd is = true) (hR : isR.map (fun i => ws[i]?) = wr.map some) (hnR : va_nd isR = true) (hdis : ∀ i ∈ isR, i ∉ is)
    (hn : As.length = n) (hsize : ls.size = nL) (hst : st0 = As.reverse ++ .ref b :: rest) (hrm : (rest.map fun v => v.category).sum ≤ 8) (hdg : decode cc pc = .ok (.invokespecial index, 3)) (hf : cells + rm.cells ≤ R.cells ∧ slots + rm.slots ≤ R.slots)
    (kk : ∀ (u : S) (H1 : Heap) (locs1 : List Loc), φ u → va_P G.1 vwCl (wr ++ wo u) H1 → va_D A (wr ++ wo u) → va_S A s.heap H1 locs1 → W p l e R s m args below meth c H1 locs1 (cells + rm.cells) (slots + rm.slots) Q (F0 m (pc + 3) ls ((r u).toList ++ rest))) :
    W p l e R s m args below meth c H locs cells slots Q (F0 m pc ls st0) :=
  cr_after rfl (va_runI S0 (hM H.size) cw ⟨cr_blind hJk, fun U hU hW => ⟨rfl, cr_pre hJk hJ hG hA hP hD hS hC hnd U hU hW⟩⟩ rfl hn hsize hst (lv_room hrm) hdg hf) hA hP hD hS is isR hC hR hnR hdis kk
/-- a virtual call of a maker -/
theorem cr_V {b ci q0 : Nat} {T : u_T} {N : Nat} {fs : List Value} (S0 : CallFix p m c cc nL s args Ts own) (hM : Cr l G y bytes maxL rt rm (.ref b :: As) wi J φ r wo) (cw : CallW R s args own C index y bytes maxL rt (Cond.code y bytes maxL rt :: ckT) rm rm.cells rm.slots n)
    (hJk : Jk J) (hJ : J s) (hG : gk G A s s.heap) (hA : ∀ q : Nat, s.heap.size ≤ q → A q) (hP : va_P G.1 vwCl ws H) (hD : va_D A ws) (hS : va_S A s.heap H locs) (hq : ws[q0]? = some (b, .inr (ci, fs))) (hci : vwCl[ci]? = some (C, T, N)) (is isR : List Nat) (hC : is.map (fun i => ws[i]?) = wi.map some) (hnd : va_nd is = true) (hR : isR.map (fun i => ws[i]?) = wr.map some) (hnR : va_nd isR = true) (hdis : ∀ i ∈ isR, i ∉ is)
    (hn : As.length = n) (hsize : ls.size = nL) (hst : st0 = As.reverse ++ .ref b :: rest) (hrm : (rest.map fun v => v.category).sum ≤ 8) (hdg : decode cc pc = .ok (.invokevirtual index, 3)) (hf : cells + rm.cells ≤ R.cells ∧ slots + rm.slots ≤ R.slots)
    (kk : ∀ (u : S) (H1 : Heap) (locs1 : List Loc), φ u → va_P G.1 vwCl (wr ++ wo u) H1 → va_D A (wr ++ wo u) → va_S A s.heap H1 locs1 → W p l e R s m args below meth c H1 locs1 (cells + rm.cells) (slots + rm.slots) Q (F0 m (pc + 3) ls ((r u).toList ++ rest))) :
    W p l e R s m args below meth c H locs cells slots Q (F0 m pc ls st0) :=
  cr_after rfl (va_runV S0 (hM H.size) cw ⟨cr_blind hJk, va_recv hG.1 hP hci hq, fun U hU hW => ⟨rfl, cr_pre hJk hJ hG hA hP hD hS hC hnd U hU hW⟩⟩ rfl hn hsize hst (lv_room hrm) hdg hf) hA hP hD hS is isR hC hR hnR hdis kk
theorem cr_vret {wo' : va_W} (u : S) (hu : φ u) (hx : p.tables.exec = Jvm.exec) (hb : c.code = cc) (hr : meth.sig.returnType = none) (hlk : meth.locks = false) (hP : va_P G.1 vwCl wo' H) (hD : va_D A wo') (hS : va_S A s.heap H locs) (hv : none = r u) (hw : wo' = wo u) (hdg : decode cc pc = .ok (.return_, 1)) :
    W p l e R s m args below meth c H locs cells slots (MQ below (cr_out G φ r wo A) args s cells slots A) (F0 m pc ls []) := by
  subst hw
  exact W.vret hx hb hr (fun t ht _ => ⟨⟨u, hu, by rw [← hv], by rw [ht]; exact hP, hD⟩, hS.F ht⟩) hS.2.2 hdg hlk
theorem cr_iret {v : Int32} {wo' : va_W} (u : S) (hu : φ u) (hx : p.tables.exec = Jvm.exec) (hb : c.code = cc) (hr : meth.sig.returnType = some .int) (hlk : meth.locks = false) (hP : va_P G.1 vwCl wo' H) (hD : va_D A wo') (hS : va_S A s.heap H locs) (hv : some (.int v) = r u) (hw : wo' = wo u) (hdg : decode cc pc = .ok (.ireturn, 1)) :
    W p l e R s m args below meth c H locs cells slots (MQ below (cr_out G φ r wo A) args s cells slots A) (F0 m pc ls [.int v]) := by
  subst hw
  exact W.iret hx hb hr (fun t ht _ => ⟨⟨u, hu, by rw [← hv], by rw [ht]; exact hP, hD⟩, hS.F ht⟩) hS.2.2 hdg hlk
end CR1
section CR2
variable {p : Program} {l : Launch} {e : Env} {R : Room} {s : State} {m : MethodId} {args : Array Value} {below : List Frame} {meth : Method} {c : Code} {H : Heap} {locs : List Loc} {cells slots : Nat} {Q : State → Prop}
variable {cc : ByteArray} {pc : Nat} {ls : Array Slot} {rest : List Value} {G : gG} {A : Nat → Prop} {ws : va_W} {a : Nat}
theorem ck_newI (hx : p.tables.exec = Jvm.exec) (hb : c.code = cc) (hts : ∀ w ∈ ckT, w.before args s = true) (hG : gk G A s s.heap) (hA : ∀ q : Nat, s.heap.size ≤ q → A q) (hP : va_P G.1 vwCl ws H) (hD : va_D A ws) (hS : va_S A s.heap H locs) {n : Int32} (N : Nat) (hn : n = nI N) (hN : N < 2 ^ 20) (hf : cells + 1 ≤ R.cells ∧ slots + N ≤ R.slots) (hdg : decode cc pc = .ok (.newarray .int, 2))
    (kk : ∀ (q : Nat) (H1 : Heap), va_P G.1 vwCl (ws ++ [aI G q N (fun _ => nI 0)]) H1 → va_D A (ws ++ [aI G q N (fun _ => nI 0)]) → va_S A s.heap H1 locs → W p l e R s m args below meth c H1 locs (cells + 1) (slots + N) Q (F0 m (pc + 2) ls (.ref q :: rest))) : W p l e R s m args below meth c H locs cells slots Q (F0 m pc ls (.int n :: rest)) := by
  subst hn
  refine va_newa (atype := .int) (a0 := (N, .inl (fun _ => nI 0))) hx hb (hts _ karrI) rfl hG.1 hP hD hS hA (fun _ => rfl) (nI_pos (by omega)) (nI_clamp (by omega)) (by show N * 4 ≤ _; omega) hf.1 hf.2 hdg (fun q cA H1 hK hP hD hS => ?_)
  have h1 : s.vm.findClass "[I" = some G.2.1.1 := (hG.1.2 0 _ rfl).2
  have h2 : s.vm.findClass "[I" = some cA := (hK.2 5 _ rfl).2
  obtain rfl : cA = G.2.1.1 := Option.some.inj (h2.symm.trans h1)
  exact kk q H1 hP hD hS
theorem ck_newZ (hx : p.tables.exec = Jvm.exec) (hb : c.code = cc) (hts : ∀ w ∈ ckT, w.before args s = true) (hG : gk G A s s.heap) (hA : ∀ q : Nat, s.heap.size ≤ q → A q) (hP : va_P G.1 vwCl ws H) (hD : va_D A ws) (hS : va_S A s.heap H locs) {n : Int32} (N : Nat) (hn : n = nI N) (hN : N < 2 ^ 20) (hf : cells + 1 ≤ R.cells ∧ slots + N ≤ R.slots) (hdg : decode cc pc = .ok (.newarray .boolean, 2))
    (kk : ∀ (q : Nat) (H1 : Heap), va_P G.1 vwCl (ws ++ [aZ G q N (fun _ => nI 0)]) H1 → va_D A (ws ++ [aZ G q N (fun _ => nI 0)]) → va_S A s.heap H1 locs → W p l e R s m args below meth c H1 locs (cells + 1) (slots + N) Q (F0 m (pc + 2) ls (.ref q :: rest))) : W p l e R s m args below meth c H locs cells slots Q (F0 m pc ls (.int n :: rest)) := by
  subst hn
  refine va_newa (atype := .boolean) (a0 := (N, .inl (fun _ => nI 0))) hx hb (hts _ karrZ) rfl hG.1 hP hD hS hA (fun _ => rfl) (nI_pos (by omega)) (nI_clamp (by omega)) (by show N * 1 ≤ _; omega) hf.1 hf.2 hdg (fun q cA H1 hK hP hD hS => ?_)
  have h1 : s.vm.findClass "[Z" = some G.2.1.2.1 := (hG.1.2 1 _ rfl).2
  have h2 : s.vm.findClass "[Z" = some cA := (hK.2 5 _ rfl).2
  obtain rfl : cA = G.2.1.2.1 := Option.some.inj (h2.symm.trans h1)
  exact kk q H1 hP hD hS
theorem ck_newJ (hx : p.tables.exec = Jvm.exec) (hb : c.code = cc) (hts : ∀ w ∈ ckT, w.before args s = true) (hG : gk G A s s.heap) (hA : ∀ q : Nat, s.heap.size ≤ q → A q) (hP : va_P G.1 vwCl ws H) (hD : va_D A ws) (hS : va_S A s.heap H locs) {n : Int32} (N : Nat) (hn : n = nI N) (hN : N < 2 ^ 20) (hf : cells + 1 ≤ R.cells ∧ slots + N ≤ R.slots) (hdg : decode cc pc = .ok (.newarray .long, 2))
    (kk : ∀ (q : Nat) (H1 : Heap), va_P G.1 vwCl (ws ++ [aJ G q N (fun _ => lN 0)]) H1 → va_D A (ws ++ [aJ G q N (fun _ => lN 0)]) → va_S A s.heap H1 locs → W p l e R s m args below meth c H1 locs (cells + 1) (slots + N) Q (F0 m (pc + 2) ls (.ref q :: rest))) : W p l e R s m args below meth c H locs cells slots Q (F0 m pc ls (.int n :: rest)) := by
  subst hn
  refine va_newa (atype := .long) (a0 := (N, .inr (.inl (fun _ => lN 0)))) hx hb (hts _ karrJ) rfl hG.1 hP hD hS hA (fun _ => rfl) (nI_pos (by omega)) (nI_clamp (by omega)) (by show N * 8 ≤ _; omega) hf.1 hf.2 hdg (fun q cA H1 hK hP hD hS => ?_)
  have h1 : s.vm.findClass "[J" = some G.2.1.2.2.1 := (hG.1.2 2 _ rfl).2
  have h2 : s.vm.findClass "[J" = some cA := (hK.2 5 _ rfl).2
  obtain rfl : cA = G.2.1.2.2.1 := Option.some.inj (h2.symm.trans h1)
  exact kk q H1 hP hD hS
theorem ck_newH (hx : p.tables.exec = Jvm.exec) (hb : c.code = cc) (hts : ∀ w ∈ ckT, w.before args s = true) (hown : s.vm.findClass "CoverKeys" = some m.cls) (hJ : jAO s) (hG : gk G A s s.heap) (hA : ∀ q : Nat, s.heap.size ≤ q → A q) (hP : va_P G.1 vwCl ws H) (hD : va_D A ws) (hS : va_S A s.heap H locs) {n : Int32} (N : Nat) (hn : n = nI N) (hN : N < 2 ^ 20) (hf : cells + 1 ≤ R.cells ∧ slots + N ≤ R.slots) (hdg : decode cc pc = .ok (.anewarray 44, 3))
    (kk : ∀ (q : Nat) (H1 : Heap), va_P G.1 vwCl (ws ++ [aH G q N (fun _ => none)]) H1 → va_D A (ws ++ [aH G q N (fun _ => none)]) → va_S A s.heap H1 locs → W p l e R s m args below meth c H1 locs (cells + 1) (slots + N) Q (F0 m (pc + 3) ls (.ref q :: rest))) : W p l e R s m args below meth c H locs cells slots Q (F0 m pc ls (.int n :: rest)) := by
  subst hn
  refine va_newq hx hb hown (hts _ kclCK_44) hJ.1 hG.1 hP hD hS hA (nI_pos (by omega)) (nI_clamp (by omega)) (by omega) hf.1 hf.2 hdg (fun q cA H1 hK hP hD hS => ?_)
  obtain ⟨_, _, _, _, _, h1⟩ := (hG.1.2 3 _ rfl).2
  obtain ⟨_, _, _, _, _, h2⟩ := (hK.2 5 _ rfl).2
  obtain rfl : cA = G.2.1.2.2.2.1 := Option.some.inj (h2.symm.trans h1)
  exact kk q H1 hP hD hS
theorem ck_newQ (hx : p.tables.exec = Jvm.exec) (hb : c.code = cc) (hts : ∀ w ∈ ckT, w.before args s = true) (hown : s.vm.findClass "CoverKeys" = some m.cls) (hJ : jAO s) (hG : gk G A s s.heap) (hA : ∀ q : Nat, s.heap.size ≤ q → A q) (hP : va_P G.1 vwCl ws H) (hD : va_D A ws) (hS : va_S A s.heap H locs) {n : Int32} (N : Nat) (hn : n = nI N) (hN : N < 2 ^ 20) (hf : cells + 1 ≤ R.cells ∧ slots + N ≤ R.slots) (hdg : decode cc pc = .ok (.anewarray 50, 3))
    (kk : ∀ (q : Nat) (H1 : Heap), va_P G.1 vwCl (ws ++ [aQ G q N (fun _ => none)]) H1 → va_D A (ws ++ [aQ G q N (fun _ => none)]) → va_S A s.heap H1 locs → W p l e R s m args below meth c H1 locs (cells + 1) (slots + N) Q (F0 m (pc + 3) ls (.ref q :: rest))) : W p l e R s m args below meth c H locs cells slots Q (F0 m pc ls (.int n :: rest)) := by
  subst hn
  refine va_newq hx hb hown (hts _ kclCK_50) hJ.2 hG.1 hP hD hS hA (nI_pos (by omega)) (nI_clamp (by omega)) (by omega) hf.1 hf.2 hdg (fun q cA H1 hK hP hD hS => ?_)
  obtain ⟨_, _, _, _, _, h1⟩ := (hG.1.2 4 _ rfl).2
  obtain ⟨_, _, _, _, _, h2⟩ := (hK.2 5 _ rfl).2
  obtain rfl : cA = G.2.1.2.2.2.2 := Option.some.inj (h2.symm.trans h1)
  exact kk q H1 hP hD hS
/-- a new channel's or decoder's place in its row -/
theorem ck_hast (hx : p.tables.exec = Jvm.exec) (hb : c.code = cc) (hG : gk G A s s.heap) (hP : va_P G.1 vwCl ws H) (hD : va_D A ws) (hS : va_S A s.heap H locs) (q0 qk : Nat) {n v : Nat} {vs : List Value} {f : Nat → Option Nat} (ha : ws[q0]? = some (aH G a n f)) (hv : ws[qk]? = some (oC v 0 vs)) (hn : n < 2 ^ 31) {i : Int32} (k : Nat) (hi : i = nI k) (hk : k < n) (hdg : decode cc pc = .ok (.aastore, 1))
    (kk : ∀ (H1 : Heap) (locs1 : List Loc), va_P G.1 vwCl (ws.set q0 (aH G a n (va_up f k (some v)))) H1 → va_D A (ws.set q0 (aH G a n (va_up f k (some v)))) → va_S A s.heap H1 locs1 → W p l e R s m args below meth c H1 locs1 cells slots Q (F0 m (pc + 1) ls rest)) : W p l e R s m args below meth c H locs cells slots Q (F0 m pc ls (.ref v :: .int i :: .ref a :: rest)) := by
  obtain ⟨h1, h2⟩ := ck_vin hi hk hn
  exact va_astq hx hb hG.1 hP hD hS q0 3 qk 0 ha rfl hv rfl h1 hdg (by rw [h2]; exact kk)
theorem ck_qast (hx : p.tables.exec = Jvm.exec) (hb : c.code = cc) (hG : gk G A s s.heap) (hP : va_P G.1 vwCl ws H) (hD : va_D A ws) (hS : va_S A s.heap H locs) (q0 qk : Nat) {n v : Nat} {vs : List Value} {f : Nat → Option Nat} (ha : ws[q0]? = some (aQ G a n f)) (hv : ws[qk]? = some (oC v 3 vs)) (hn : n < 2 ^ 31) {i : Int32} (k : Nat) (hi : i = nI k) (hk : k < n) (hdg : decode cc pc = .ok (.aastore, 1))
    (kk : ∀ (H1 : Heap) (locs1 : List Loc), va_P G.1 vwCl (ws.set q0 (aQ G a n (va_up f k (some v)))) H1 → va_D A (ws.set q0 (aQ G a n (va_up f k (some v)))) → va_S A s.heap H1 locs1 → W p l e R s m args below meth c H1 locs1 cells slots Q (F0 m (pc + 1) ls rest)) : W p l e R s m args below meth c H locs cells slots Q (F0 m pc ls (.ref v :: .int i :: .ref a :: rest)) := by
  obtain ⟨h1, h2⟩ := ck_vin hi hk hn
  exact va_astq hx hb hG.1 hP hD hS q0 4 qk 3 ha rfl hv rfl h1 hdg (by rw [h2]; exact kk)
end CR2
section MKR
variable {p : Program} {l : Launch} {e : Env} {R : Room} {s : State} {m : MethodId} {args : Array Value} {below : List Frame} {meth : Method} {c : Code} {H : Heap} {locs : List Loc} {cells slots : Nat} {Q : State → Prop}
variable {cc : ByteArray} {pc : Nat} {ls : Array Slot} {rest : List Value} {G : gG} {A : Nat → Prop} {ws : va_W} {a : Nat} {fs : List Value} {v : Value}
variable {b : Nat}
theorem nwLa_8 (hx : p.tables.exec = Jvm.exec) (hb : c.code = cc) (hts : ∀ w ∈ ckT, w.before args s = true) (hown : s.vm.findClass "CoverKeysLaw" = some m.cls) (hG : gk G A s s.heap) (hA : ∀ q : Nat, s.heap.size ≤ q → A q) (hP : va_P G.1 vwCl ws H) (hD : va_D A ws) (hS : va_S A s.heap H locs) (hf : cells + 1 ≤ R.cells ∧ slots + 9 ≤ R.slots) (hdg : decode cc pc = .ok (.new 8, 3))
    (kk : ∀ (q : Nat) (H1 : Heap), va_P G.1 vwCl (ws ++ [oC q 7 [.null, .null, .null, .null, .null, .null, .null, .long (lN 0), .long (lN 0)]]) H1 → va_D A (ws ++ [oC q 7 [.null, .null, .null, .null, .null, .null, .null, .long (lN 0), .long (lN 0)]]) → va_S A s.heap H1 locs → W p l e R s m args below meth c H1 locs (cells + 1) (slots + 9) Q (F0 m (pc + 3) ls (.ref q :: rest))) : W p l e R s m args below meth c H locs cells slots Q (F0 m pc ls rest) := by
  refine va_new (T := TCK) (N := 9) (ci := 7) (fs := [.null, .null, .null, .null, .null, .null, .null, .long (lN 0), .long (lN 0)]) hx hb hts inCK tyCK tyCK_ok hown (hts _ kclLa_8) (hts _ kinCK) (hts _ knCK) hG.1 hP hD hS hA rfl (fun j hj => ?_) hf.1 hf.2 hdg kk
  by_cases h0 : j = 0
  · subst h0; rfl
  by_cases h1 : j = 1
  · subst h1; rfl
  by_cases h2 : j = 2
  · subst h2; rfl
  by_cases h3 : j = 3
  · subst h3; rfl
  by_cases h4 : j = 4
  · subst h4; rfl
  by_cases h5 : j = 5
  · subst h5; rfl
  by_cases h6 : j = 6
  · subst h6; rfl
  by_cases h7 : j = 7
  · subst h7; rfl
  by_cases h8 : j = 8
  · subst h8; rfl
  omega
theorem nwCK_9 (hx : p.tables.exec = Jvm.exec) (hb : c.code = cc) (hts : ∀ w ∈ ckT, w.before args s = true) (hown : s.vm.findClass "CoverKeys" = some m.cls) (hG : gk G A s s.heap) (hA : ∀ q : Nat, s.heap.size ≤ q → A q) (hP : va_P G.1 vwCl ws H) (hD : va_D A ws) (hS : va_S A s.heap H locs) (hf : cells + 1 ≤ R.cells ∧ slots + 3 ≤ R.slots) (hdg : decode cc pc = .ok (.new 9, 3))
    (kk : ∀ (q : Nat) (H1 : Heap), va_P G.1 vwCl (ws ++ [oC q 1 [.null, .long (lN 0), .long (lN 0)]]) H1 → va_D A (ws ++ [oC q 1 [.null, .long (lN 0), .long (lN 0)]]) → va_S A s.heap H1 locs → W p l e R s m args below meth c H1 locs (cells + 1) (slots + 3) Q (F0 m (pc + 3) ls (.ref q :: rest))) : W p l e R s m args below meth c H locs cells slots Q (F0 m pc ls rest) := by
  refine va_new (T := TCi) (N := 3) (ci := 1) (fs := [.null, .long (lN 0), .long (lN 0)]) hx hb hts inCi tyCi tyCi_ok hown (hts _ kclCK_9) (hts _ kinCi) (hts _ knCi) hG.1 hP hD hS hA rfl (fun j hj => ?_) hf.1 hf.2 hdg kk
  by_cases h0 : j = 0
  · subst h0; rfl
  by_cases h1 : j = 1
  · subst h1; rfl
  by_cases h2 : j = 2
  · subst h2; rfl
  omega
theorem nwCK_16 (hx : p.tables.exec = Jvm.exec) (hb : c.code = cc) (hts : ∀ w ∈ ckT, w.before args s = true) (hown : s.vm.findClass "CoverKeys" = some m.cls) (hG : gk G A s s.heap) (hA : ∀ q : Nat, s.heap.size ≤ q → A q) (hP : va_P G.1 vwCl ws H) (hD : va_D A ws) (hS : va_S A s.heap H locs) (hf : cells + 1 ≤ R.cells ∧ slots + 3 ≤ R.slots) (hdg : decode cc pc = .ok (.new 16, 3))
    (kk : ∀ (q : Nat) (H1 : Heap), va_P G.1 vwCl (ws ++ [oC q 6 [.int (nI 0), .long (lN 0), .long (lN 0)]]) H1 → va_D A (ws ++ [oC q 6 [.int (nI 0), .long (lN 0), .long (lN 0)]]) → va_S A s.heap H1 locs → W p l e R s m args below meth c H1 locs (cells + 1) (slots + 3) Q (F0 m (pc + 3) ls (.ref q :: rest))) : W p l e R s m args below meth c H locs cells slots Q (F0 m pc ls rest) := by
  refine va_new (T := TTr) (N := 3) (ci := 6) (fs := [.int (nI 0), .long (lN 0), .long (lN 0)]) hx hb hts inTr tyTr tyTr_ok hown (hts _ kclCK_16) (hts _ kinTr) (hts _ knTr) hG.1 hP hD hS hA rfl (fun j hj => ?_) hf.1 hf.2 hdg kk
  by_cases h0 : j = 0
  · subst h0; rfl
  by_cases h1 : j = 1
  · subst h1; rfl
  by_cases h2 : j = 2
  · subst h2; rfl
  omega
theorem nwCK_23 (hx : p.tables.exec = Jvm.exec) (hb : c.code = cc) (hts : ∀ w ∈ ckT, w.before args s = true) (hown : s.vm.findClass "CoverKeys" = some m.cls) (hG : gk G A s s.heap) (hA : ∀ q : Nat, s.heap.size ≤ q → A q) (hP : va_P G.1 vwCl ws H) (hD : va_D A ws) (hS : va_S A s.heap H locs) (hf : cells + 1 ≤ R.cells ∧ slots + 1 ≤ R.slots) (hdg : decode cc pc = .ok (.new 23, 3))
    (kk : ∀ (q : Nat) (H1 : Heap), va_P G.1 vwCl (ws ++ [oC q 2 [.null]]) H1 → va_D A (ws ++ [oC q 2 [.null]]) → va_S A s.heap H1 locs → W p l e R s m args below meth c H1 locs (cells + 1) (slots + 1) Q (F0 m (pc + 3) ls (.ref q :: rest))) : W p l e R s m args below meth c H locs cells slots Q (F0 m pc ls rest) := by
  refine va_new (T := TCo) (N := 1) (ci := 2) (fs := [.null]) hx hb hts inCo tyCo tyCo_ok hown (hts _ kclCK_23) (hts _ kinCo) (hts _ knCo) hG.1 hP hD hS hA rfl (fun j hj => ?_) hf.1 hf.2 hdg kk
  by_cases h0 : j = 0
  · subst h0; rfl
  omega
theorem nwCK_30 (hx : p.tables.exec = Jvm.exec) (hb : c.code = cc) (hts : ∀ w ∈ ckT, w.before args s = true) (hown : s.vm.findClass "CoverKeys" = some m.cls) (hG : gk G A s s.heap) (hA : ∀ q : Nat, s.heap.size ≤ q → A q) (hP : va_P G.1 vwCl ws H) (hD : va_D A ws) (hS : va_S A s.heap H locs) (hf : cells + 1 ≤ R.cells ∧ slots + 3 ≤ R.slots) (hdg : decode cc pc = .ok (.new 30, 3))
    (kk : ∀ (q : Nat) (H1 : Heap), va_P G.1 vwCl (ws ++ [oC q 4 [.long (lN 0), .long (lN 0), .long (lN 0)]]) H1 → va_D A (ws ++ [oC q 4 [.long (lN 0), .long (lN 0), .long (lN 0)]]) → va_S A s.heap H1 locs → W p l e R s m args below meth c H1 locs (cells + 1) (slots + 3) Q (F0 m (pc + 3) ls (.ref q :: rest))) : W p l e R s m args below meth c H locs cells slots Q (F0 m pc ls rest) := by
  refine va_new (T := TEn) (N := 3) (ci := 4) (fs := [.long (lN 0), .long (lN 0), .long (lN 0)]) hx hb hts inEn tyEn tyEn_ok hown (hts _ kclCK_30) (hts _ kinEn) (hts _ knEn) hG.1 hP hD hS hA rfl (fun j hj => ?_) hf.1 hf.2 hdg kk
  by_cases h0 : j = 0
  · subst h0; rfl
  by_cases h1 : j = 1
  · subst h1; rfl
  by_cases h2 : j = 2
  · subst h2; rfl
  omega
theorem nwCK_37 (hx : p.tables.exec = Jvm.exec) (hb : c.code = cc) (hts : ∀ w ∈ ckT, w.before args s = true) (hown : s.vm.findClass "CoverKeys" = some m.cls) (hG : gk G A s s.heap) (hA : ∀ q : Nat, s.heap.size ≤ q → A q) (hP : va_P G.1 vwCl ws H) (hD : va_D A ws) (hS : va_S A s.heap H locs) (hf : cells + 1 ≤ R.cells ∧ slots + 2 ≤ R.slots) (hdg : decode cc pc = .ok (.new 37, 3))
    (kk : ∀ (q : Nat) (H1 : Heap), va_P G.1 vwCl (ws ++ [oC q 5 [.null, .int (nI 0)]]) H1 → va_D A (ws ++ [oC q 5 [.null, .int (nI 0)]]) → va_S A s.heap H1 locs → W p l e R s m args below meth c H1 locs (cells + 1) (slots + 2) Q (F0 m (pc + 3) ls (.ref q :: rest))) : W p l e R s m args below meth c H locs cells slots Q (F0 m pc ls rest) := by
  refine va_new (T := TPa) (N := 2) (ci := 5) (fs := [.null, .int (nI 0)]) hx hb hts inPa tyPa tyPa_ok hown (hts _ kclCK_37) (hts _ kinPa) (hts _ knPa) hG.1 hP hD hS hA rfl (fun j hj => ?_) hf.1 hf.2 hdg kk
  by_cases h0 : j = 0
  · subst h0; rfl
  by_cases h1 : j = 1
  · subst h1; rfl
  omega
theorem nwCK_44 (hx : p.tables.exec = Jvm.exec) (hb : c.code = cc) (hts : ∀ w ∈ ckT, w.before args s = true) (hown : s.vm.findClass "CoverKeys" = some m.cls) (hG : gk G A s s.heap) (hA : ∀ q : Nat, s.heap.size ≤ q → A q) (hP : va_P G.1 vwCl ws H) (hD : va_D A ws) (hS : va_S A s.heap H locs) (hf : cells + 1 ≤ R.cells ∧ slots + 7 ≤ R.slots) (hdg : decode cc pc = .ok (.new 44, 3))
    (kk : ∀ (q : Nat) (H1 : Heap), va_P G.1 vwCl (ws ++ [oC q 0 [.null, .null, .null, .int (nI 0), .int (nI 0), .long (lN 0), .long (lN 0)]]) H1 → va_D A (ws ++ [oC q 0 [.null, .null, .null, .int (nI 0), .int (nI 0), .long (lN 0), .long (lN 0)]]) → va_S A s.heap H1 locs → W p l e R s m args below meth c H1 locs (cells + 1) (slots + 7) Q (F0 m (pc + 3) ls (.ref q :: rest))) : W p l e R s m args below meth c H locs cells slots Q (F0 m pc ls rest) := by
  refine va_new (T := TCh) (N := 7) (ci := 0) (fs := [.null, .null, .null, .int (nI 0), .int (nI 0), .long (lN 0), .long (lN 0)]) hx hb hts inCh tyCh tyCh_ok hown (hts _ kclCK_44) (hts _ kinCh) (hts _ knCh) hG.1 hP hD hS hA rfl (fun j hj => ?_) hf.1 hf.2 hdg kk
  by_cases h0 : j = 0
  · subst h0; rfl
  by_cases h1 : j = 1
  · subst h1; rfl
  by_cases h2 : j = 2
  · subst h2; rfl
  by_cases h3 : j = 3
  · subst h3; rfl
  by_cases h4 : j = 4
  · subst h4; rfl
  by_cases h5 : j = 5
  · subst h5; rfl
  by_cases h6 : j = 6
  · subst h6; rfl
  omega
theorem nwCK_50 (hx : p.tables.exec = Jvm.exec) (hb : c.code = cc) (hts : ∀ w ∈ ckT, w.before args s = true) (hown : s.vm.findClass "CoverKeys" = some m.cls) (hG : gk G A s s.heap) (hA : ∀ q : Nat, s.heap.size ≤ q → A q) (hP : va_P G.1 vwCl ws H) (hD : va_D A ws) (hS : va_S A s.heap H locs) (hf : cells + 1 ≤ R.cells ∧ slots + 3 ≤ R.slots) (hdg : decode cc pc = .ok (.new 50, 3))
    (kk : ∀ (q : Nat) (H1 : Heap), va_P G.1 vwCl (ws ++ [oC q 3 [.null, .null, .null]]) H1 → va_D A (ws ++ [oC q 3 [.null, .null, .null]]) → va_S A s.heap H1 locs → W p l e R s m args below meth c H1 locs (cells + 1) (slots + 3) Q (F0 m (pc + 3) ls (.ref q :: rest))) : W p l e R s m args below meth c H locs cells slots Q (F0 m pc ls rest) := by
  refine va_new (T := TDe) (N := 3) (ci := 3) (fs := [.null, .null, .null]) hx hb hts inDe tyDe tyDe_ok hown (hts _ kclCK_50) (hts _ kinDe) (hts _ knDe) hG.1 hP hD hS hA rfl (fun j hj => ?_) hf.1 hf.2 hdg kk
  by_cases h0 : j = 0
  · subst h0; rfl
  by_cases h1 : j = 1
  · subst h1; rfl
  by_cases h2 : j = 2
  · subst h2; rfl
  omega
theorem nwLa_77 (hx : p.tables.exec = Jvm.exec) (hb : c.code = cc) (hts : ∀ w ∈ ckT, w.before args s = true) (hown : s.vm.findClass "CoverKeysLaw" = some m.cls) (hG : gk G A s s.heap) (hA : ∀ q : Nat, s.heap.size ≤ q → A q) (hP : va_P G.1 vwCl ws H) (hD : va_D A ws) (hS : va_S A s.heap H locs) (hf : cells + 1 ≤ R.cells ∧ slots + 30 ≤ R.slots) (hdg : decode cc pc = .ok (.new 77, 3))
    (kk : ∀ (q : Nat) (H1 : Heap), va_P G.1 vwCl (ws ++ [oC q 8 [.int (nI 0), .null, .null, .null, .null, .null, .long (lN 0), .long (lN 0), .int (nI 0), .long (lN 0), .long (lN 0), .null, .null, .null, .null, .null, .null, .null, .null, .null, .null, .int (nI 0), .null, .null, .null, .long (lN 0), .long (lN 0), .long (lN 0), .long (lN 0), .long (lN 0)]]) H1 → va_D A (ws ++ [oC q 8 [.int (nI 0), .null, .null, .null, .null, .null, .long (lN 0), .long (lN 0), .int (nI 0), .long (lN 0), .long (lN 0), .null, .null, .null, .null, .null, .null, .null, .null, .null, .null, .int (nI 0), .null, .null, .null, .long (lN 0), .long (lN 0), .long (lN 0), .long (lN 0), .long (lN 0)]]) → va_S A s.heap H1 locs → W p l e R s m args below meth c H1 locs (cells + 1) (slots + 30) Q (F0 m (pc + 3) ls (.ref q :: rest))) : W p l e R s m args below meth c H locs cells slots Q (F0 m pc ls rest) := by
  refine va_new (T := TMo) (N := 30) (ci := 8) (fs := [.int (nI 0), .null, .null, .null, .null, .null, .long (lN 0), .long (lN 0), .int (nI 0), .long (lN 0), .long (lN 0), .null, .null, .null, .null, .null, .null, .null, .null, .null, .null, .int (nI 0), .null, .null, .null, .long (lN 0), .long (lN 0), .long (lN 0), .long (lN 0), .long (lN 0)]) hx hb hts inMo tyMo tyMo_ok hown (hts _ kclLa_77) (hts _ kinMo) (hts _ knMo) hG.1 hP hD hS hA rfl (fun j hj => ?_) hf.1 hf.2 hdg kk
  by_cases h0 : j = 0
  · subst h0; rfl
  by_cases h1 : j = 1
  · subst h1; rfl
  by_cases h2 : j = 2
  · subst h2; rfl
  by_cases h3 : j = 3
  · subst h3; rfl
  by_cases h4 : j = 4
  · subst h4; rfl
  by_cases h5 : j = 5
  · subst h5; rfl
  by_cases h6 : j = 6
  · subst h6; rfl
  by_cases h7 : j = 7
  · subst h7; rfl
  by_cases h8 : j = 8
  · subst h8; rfl
  by_cases h9 : j = 9
  · subst h9; rfl
  by_cases h10 : j = 10
  · subst h10; rfl
  by_cases h11 : j = 11
  · subst h11; rfl
  by_cases h12 : j = 12
  · subst h12; rfl
  by_cases h13 : j = 13
  · subst h13; rfl
  by_cases h14 : j = 14
  · subst h14; rfl
  by_cases h15 : j = 15
  · subst h15; rfl
  by_cases h16 : j = 16
  · subst h16; rfl
  by_cases h17 : j = 17
  · subst h17; rfl
  by_cases h18 : j = 18
  · subst h18; rfl
  by_cases h19 : j = 19
  · subst h19; rfl
  by_cases h20 : j = 20
  · subst h20; rfl
  by_cases h21 : j = 21
  · subst h21; rfl
  by_cases h22 : j = 22
  · subst h22; rfl
  by_cases h23 : j = 23
  · subst h23; rfl
  by_cases h24 : j = 24
  · subst h24; rfl
  by_cases h25 : j = 25
  · subst h25; rfl
  by_cases h26 : j = 26
  · subst h26; rfl
  by_cases h27 : j = 27
  · subst h27; rfl
  by_cases h28 : j = 28
  · subst h28; rfl
  by_cases h29 : j = 29
  · subst h29; rfl
  omega
theorem fFCi_9 (hx : p.tables.exec = Jvm.exec) (hb : c.code = cc) (hts : ∀ w ∈ ckT, w.before args s = true) (hown : s.vm.findClass "CoverKeys$Cipher" = some m.cls) (hin9 : meth.name = "<init>") (hG : gk G A s s.heap) (hP : va_P G.1 vwCl ws H) (hD : va_D A ws) (hS : va_S A s.heap H locs) (q0 : Nat) (he : ws[q0]? = some (oC a 1 fs)) (hn : narrow (.array .int) v = v) (hfit : fits (.array .int) v = true) (hl : 0 < fs.length) (hdg : decode cc pc = .ok (.putfield 9, 3))
    (kk : ∀ (H1 : Heap) (locs1 : List Loc), va_P G.1 vwCl (ws.set q0 (oC a 1 (fs.set 0 v))) H1 → va_D A (ws.set q0 (oC a 1 (fs.set 0 v))) → va_S A s.heap H1 locs1 → W p l e R s m args below meth c H1 locs1 cells slots Q (F0 m (pc + 3) ls rest)) : W p l e R s m args below meth c H locs cells slots Q (F0 m pc ls (v :: .ref a :: rest)) :=
  va_putF (T := TCi) (N := 3) hx hb hts inCi tyCi tyCi_ok nmCi hown hG.1 hP hD hS q0 he rfl 0 (by decide) (hts _ kfCi_9) (fun _ h => h) rfl hin9 rfl (tyCi_ok 0 (by decide)) hn hfit hl hdg kk
theorem fFCo_9 (hx : p.tables.exec = Jvm.exec) (hb : c.code = cc) (hts : ∀ w ∈ ckT, w.before args s = true) (hown : s.vm.findClass "CoverKeys$Cover" = some m.cls) (hin9 : meth.name = "<init>") (hG : gk G A s s.heap) (hP : va_P G.1 vwCl ws H) (hD : va_D A ws) (hS : va_S A s.heap H locs) (q0 : Nat) (he : ws[q0]? = some (oC a 2 fs)) (hn : narrow (.array .boolean) v = v) (hfit : fits (.array .boolean) v = true) (hl : 0 < fs.length) (hdg : decode cc pc = .ok (.putfield 9, 3))
    (kk : ∀ (H1 : Heap) (locs1 : List Loc), va_P G.1 vwCl (ws.set q0 (oC a 2 (fs.set 0 v))) H1 → va_D A (ws.set q0 (oC a 2 (fs.set 0 v))) → va_S A s.heap H1 locs1 → W p l e R s m args below meth c H1 locs1 cells slots Q (F0 m (pc + 3) ls rest)) : W p l e R s m args below meth c H locs cells slots Q (F0 m pc ls (v :: .ref a :: rest)) :=
  va_putF (T := TCo) (N := 1) hx hb hts inCo tyCo tyCo_ok nmCo hown hG.1 hP hD hS q0 he rfl 0 (by decide) (hts _ kfCo_9) (fun _ h => h) rfl hin9 rfl (tyCo_ok 0 (by decide)) hn hfit hl hdg kk
theorem fFPa_9 (hx : p.tables.exec = Jvm.exec) (hb : c.code = cc) (hts : ∀ w ∈ ckT, w.before args s = true) (hown : s.vm.findClass "CoverKeys$Packet" = some m.cls) (hin9 : meth.name = "<init>") (hG : gk G A s s.heap) (hP : va_P G.1 vwCl ws H) (hD : va_D A ws) (hS : va_S A s.heap H locs) (q0 : Nat) (he : ws[q0]? = some (oC a 5 fs)) (hn : narrow (.array .int) v = v) (hfit : fits (.array .int) v = true) (hl : 0 < fs.length) (hdg : decode cc pc = .ok (.putfield 9, 3))
    (kk : ∀ (H1 : Heap) (locs1 : List Loc), va_P G.1 vwCl (ws.set q0 (oC a 5 (fs.set 0 v))) H1 → va_D A (ws.set q0 (oC a 5 (fs.set 0 v))) → va_S A s.heap H1 locs1 → W p l e R s m args below meth c H1 locs1 cells slots Q (F0 m (pc + 3) ls rest)) : W p l e R s m args below meth c H locs cells slots Q (F0 m pc ls (v :: .ref a :: rest)) :=
  va_putF (T := TPa) (N := 2) hx hb hts inPa tyPa tyPa_ok nmPa hown hG.1 hP hD hS q0 he rfl 0 (by decide) (hts _ kfPa_9) (fun _ h => h) rfl hin9 rfl (tyPa_ok 0 (by decide)) hn hfit hl hdg kk
theorem fFCh_9 (hx : p.tables.exec = Jvm.exec) (hb : c.code = cc) (hts : ∀ w ∈ ckT, w.before args s = true) (hown : s.vm.findClass "CoverKeys$Channel" = some m.cls) (hin9 : meth.name = "<init>") (hG : gk G A s s.heap) (hP : va_P G.1 vwCl ws H) (hD : va_D A ws) (hS : va_S A s.heap H locs) (q0 : Nat) (he : ws[q0]? = some (oC a 0 fs)) (hn : narrow (.array .boolean) v = v) (hfit : fits (.array .boolean) v = true) (hl : 0 < fs.length) (hdg : decode cc pc = .ok (.putfield 9, 3))
    (kk : ∀ (H1 : Heap) (locs1 : List Loc), va_P G.1 vwCl (ws.set q0 (oC a 0 (fs.set 0 v))) H1 → va_D A (ws.set q0 (oC a 0 (fs.set 0 v))) → va_S A s.heap H1 locs1 → W p l e R s m args below meth c H1 locs1 cells slots Q (F0 m (pc + 3) ls rest)) : W p l e R s m args below meth c H locs cells slots Q (F0 m pc ls (v :: .ref a :: rest)) :=
  va_putF (T := TCh) (N := 7) hx hb hts inCh tyCh tyCh_ok nmCh hown hG.1 hP hD hS q0 he rfl 0 (by decide) (hts _ kfCh_9) (fun _ h => h) rfl hin9 rfl (tyCh_ok 0 (by decide)) hn hfit hl hdg kk
theorem fFCh_15 (hx : p.tables.exec = Jvm.exec) (hb : c.code = cc) (hts : ∀ w ∈ ckT, w.before args s = true) (hown : s.vm.findClass "CoverKeys$Channel" = some m.cls) (hin9 : meth.name = "<init>") (hG : gk G A s s.heap) (hP : va_P G.1 vwCl ws H) (hD : va_D A ws) (hS : va_S A s.heap H locs) (q0 : Nat) (he : ws[q0]? = some (oC a 0 fs)) (hn : narrow (.array .int) v = v) (hfit : fits (.array .int) v = true) (hl : 1 < fs.length) (hdg : decode cc pc = .ok (.putfield 15, 3))
    (kk : ∀ (H1 : Heap) (locs1 : List Loc), va_P G.1 vwCl (ws.set q0 (oC a 0 (fs.set 1 v))) H1 → va_D A (ws.set q0 (oC a 0 (fs.set 1 v))) → va_S A s.heap H1 locs1 → W p l e R s m args below meth c H1 locs1 cells slots Q (F0 m (pc + 3) ls rest)) : W p l e R s m args below meth c H locs cells slots Q (F0 m pc ls (v :: .ref a :: rest)) :=
  va_putF (T := TCh) (N := 7) hx hb hts inCh tyCh tyCh_ok nmCh hown hG.1 hP hD hS q0 he rfl 1 (by decide) (hts _ kfCh_15) (fun _ h => h) rfl hin9 rfl (tyCh_ok 1 (by decide)) hn hfit hl hdg kk
theorem fFCh_19 (hx : p.tables.exec = Jvm.exec) (hb : c.code = cc) (hts : ∀ w ∈ ckT, w.before args s = true) (hown : s.vm.findClass "CoverKeys$Channel" = some m.cls) (hin9 : meth.name = "<init>") (hG : gk G A s s.heap) (hP : va_P G.1 vwCl ws H) (hD : va_D A ws) (hS : va_S A s.heap H locs) (q0 : Nat) (he : ws[q0]? = some (oC a 0 fs)) (hn : narrow (.array .int) v = v) (hfit : fits (.array .int) v = true) (hl : 2 < fs.length) (hdg : decode cc pc = .ok (.putfield 19, 3))
    (kk : ∀ (H1 : Heap) (locs1 : List Loc), va_P G.1 vwCl (ws.set q0 (oC a 0 (fs.set 2 v))) H1 → va_D A (ws.set q0 (oC a 0 (fs.set 2 v))) → va_S A s.heap H1 locs1 → W p l e R s m args below meth c H1 locs1 cells slots Q (F0 m (pc + 3) ls rest)) : W p l e R s m args below meth c H locs cells slots Q (F0 m pc ls (v :: .ref a :: rest)) :=
  va_putF (T := TCh) (N := 7) hx hb hts inCh tyCh tyCh_ok nmCh hown hG.1 hP hD hS q0 he rfl 2 (by decide) (hts _ kfCh_19) (fun _ h => h) rfl hin9 rfl (tyCh_ok 2 (by decide)) hn hfit hl hdg kk
theorem fFCK_12 (hx : p.tables.exec = Jvm.exec) (hb : c.code = cc) (hts : ∀ w ∈ ckT, w.before args s = true) (hown : s.vm.findClass "CoverKeys" = some m.cls) (hin9 : meth.name = "<init>") (hG : gk G A s s.heap) (hP : va_P G.1 vwCl ws H) (hD : va_D A ws) (hS : va_S A s.heap H locs) (q0 : Nat) (he : ws[q0]? = some (oC a 7 fs)) (hn : narrow (.object "CoverKeys$Cipher") v = v) (hfit : fits (.object "CoverKeys$Cipher") v = true) (hl : 0 < fs.length) (hdg : decode cc pc = .ok (.putfield 12, 3))
    (kk : ∀ (H1 : Heap) (locs1 : List Loc), va_P G.1 vwCl (ws.set q0 (oC a 7 (fs.set 0 v))) H1 → va_D A (ws.set q0 (oC a 7 (fs.set 0 v))) → va_S A s.heap H1 locs1 → W p l e R s m args below meth c H1 locs1 cells slots Q (F0 m (pc + 3) ls rest)) : W p l e R s m args below meth c H locs cells slots Q (F0 m pc ls (v :: .ref a :: rest)) :=
  va_putF (T := TCK) (N := 9) hx hb hts inCK tyCK tyCK_ok nmCK hown hG.1 hP hD hS q0 he rfl 0 (by decide) (hts _ kfCK_12) (fun _ h => h) rfl hin9 rfl (tyCK_ok 0 (by decide)) hn hfit hl hdg kk
theorem fFCK_19 (hx : p.tables.exec = Jvm.exec) (hb : c.code = cc) (hts : ∀ w ∈ ckT, w.before args s = true) (hown : s.vm.findClass "CoverKeys" = some m.cls) (hin9 : meth.name = "<init>") (hG : gk G A s s.heap) (hP : va_P G.1 vwCl ws H) (hD : va_D A ws) (hS : va_S A s.heap H locs) (q0 : Nat) (he : ws[q0]? = some (oC a 7 fs)) (hn : narrow (.object "CoverKeys$Tree") v = v) (hfit : fits (.object "CoverKeys$Tree") v = true) (hl : 1 < fs.length) (hdg : decode cc pc = .ok (.putfield 19, 3))
    (kk : ∀ (H1 : Heap) (locs1 : List Loc), va_P G.1 vwCl (ws.set q0 (oC a 7 (fs.set 1 v))) H1 → va_D A (ws.set q0 (oC a 7 (fs.set 1 v))) → va_S A s.heap H1 locs1 → W p l e R s m args below meth c H1 locs1 cells slots Q (F0 m (pc + 3) ls rest)) : W p l e R s m args below meth c H locs cells slots Q (F0 m pc ls (v :: .ref a :: rest)) :=
  va_putF (T := TCK) (N := 9) hx hb hts inCK tyCK tyCK_ok nmCK hown hG.1 hP hD hS q0 he rfl 1 (by decide) (hts _ kfCK_19) (fun _ h => h) rfl hin9 rfl (tyCK_ok 1 (by decide)) hn hfit hl hdg kk
theorem fFCK_26 (hx : p.tables.exec = Jvm.exec) (hb : c.code = cc) (hts : ∀ w ∈ ckT, w.before args s = true) (hown : s.vm.findClass "CoverKeys" = some m.cls) (hin9 : meth.name = "<init>") (hG : gk G A s s.heap) (hP : va_P G.1 vwCl ws H) (hD : va_D A ws) (hS : va_S A s.heap H locs) (q0 : Nat) (he : ws[q0]? = some (oC a 7 fs)) (hn : narrow (.object "CoverKeys$Cover") v = v) (hfit : fits (.object "CoverKeys$Cover") v = true) (hl : 2 < fs.length) (hdg : decode cc pc = .ok (.putfield 26, 3))
    (kk : ∀ (H1 : Heap) (locs1 : List Loc), va_P G.1 vwCl (ws.set q0 (oC a 7 (fs.set 2 v))) H1 → va_D A (ws.set q0 (oC a 7 (fs.set 2 v))) → va_S A s.heap H1 locs1 → W p l e R s m args below meth c H1 locs1 cells slots Q (F0 m (pc + 3) ls rest)) : W p l e R s m args below meth c H locs cells slots Q (F0 m pc ls (v :: .ref a :: rest)) :=
  va_putF (T := TCK) (N := 9) hx hb hts inCK tyCK tyCK_ok nmCK hown hG.1 hP hD hS q0 he rfl 2 (by decide) (hts _ kfCK_26) (fun _ h => h) rfl hin9 rfl (tyCK_ok 2 (by decide)) hn hfit hl hdg kk
theorem fFCK_33 (hx : p.tables.exec = Jvm.exec) (hb : c.code = cc) (hts : ∀ w ∈ ckT, w.before args s = true) (hown : s.vm.findClass "CoverKeys" = some m.cls) (hin9 : meth.name = "<init>") (hG : gk G A s s.heap) (hP : va_P G.1 vwCl ws H) (hD : va_D A ws) (hS : va_S A s.heap H locs) (q0 : Nat) (he : ws[q0]? = some (oC a 7 fs)) (hn : narrow (.object "CoverKeys$Envelope") v = v) (hfit : fits (.object "CoverKeys$Envelope") v = true) (hl : 3 < fs.length) (hdg : decode cc pc = .ok (.putfield 33, 3))
    (kk : ∀ (H1 : Heap) (locs1 : List Loc), va_P G.1 vwCl (ws.set q0 (oC a 7 (fs.set 3 v))) H1 → va_D A (ws.set q0 (oC a 7 (fs.set 3 v))) → va_S A s.heap H1 locs1 → W p l e R s m args below meth c H1 locs1 cells slots Q (F0 m (pc + 3) ls rest)) : W p l e R s m args below meth c H locs cells slots Q (F0 m pc ls (v :: .ref a :: rest)) :=
  va_putF (T := TCK) (N := 9) hx hb hts inCK tyCK tyCK_ok nmCK hown hG.1 hP hD hS q0 he rfl 3 (by decide) (hts _ kfCK_33) (fun _ h => h) rfl hin9 rfl (tyCK_ok 3 (by decide)) hn hfit hl hdg kk
theorem fFCK_40 (hx : p.tables.exec = Jvm.exec) (hb : c.code = cc) (hts : ∀ w ∈ ckT, w.before args s = true) (hown : s.vm.findClass "CoverKeys" = some m.cls) (hin9 : meth.name = "<init>") (hG : gk G A s s.heap) (hP : va_P G.1 vwCl ws H) (hD : va_D A ws) (hS : va_S A s.heap H locs) (q0 : Nat) (he : ws[q0]? = some (oC a 7 fs)) (hn : narrow (.object "CoverKeys$Packet") v = v) (hfit : fits (.object "CoverKeys$Packet") v = true) (hl : 4 < fs.length) (hdg : decode cc pc = .ok (.putfield 40, 3))
    (kk : ∀ (H1 : Heap) (locs1 : List Loc), va_P G.1 vwCl (ws.set q0 (oC a 7 (fs.set 4 v))) H1 → va_D A (ws.set q0 (oC a 7 (fs.set 4 v))) → va_S A s.heap H1 locs1 → W p l e R s m args below meth c H1 locs1 cells slots Q (F0 m (pc + 3) ls rest)) : W p l e R s m args below meth c H locs cells slots Q (F0 m pc ls (v :: .ref a :: rest)) :=
  va_putF (T := TCK) (N := 9) hx hb hts inCK tyCK tyCK_ok nmCK hown hG.1 hP hD hS q0 he rfl 4 (by decide) (hts _ kfCK_40) (fun _ h => h) rfl hin9 rfl (tyCK_ok 4 (by decide)) hn hfit hl hdg kk
theorem fFCK_46 (hx : p.tables.exec = Jvm.exec) (hb : c.code = cc) (hts : ∀ w ∈ ckT, w.before args s = true) (hown : s.vm.findClass "CoverKeys" = some m.cls) (hin9 : meth.name = "<init>") (hG : gk G A s s.heap) (hP : va_P G.1 vwCl ws H) (hD : va_D A ws) (hS : va_S A s.heap H locs) (q0 : Nat) (he : ws[q0]? = some (oC a 7 fs)) (hn : narrow (.array (.object "CoverKeys$Channel")) v = v) (hfit : fits (.array (.object "CoverKeys$Channel")) v = true) (hl : 5 < fs.length) (hdg : decode cc pc = .ok (.putfield 46, 3))
    (kk : ∀ (H1 : Heap) (locs1 : List Loc), va_P G.1 vwCl (ws.set q0 (oC a 7 (fs.set 5 v))) H1 → va_D A (ws.set q0 (oC a 7 (fs.set 5 v))) → va_S A s.heap H1 locs1 → W p l e R s m args below meth c H1 locs1 cells slots Q (F0 m (pc + 3) ls rest)) : W p l e R s m args below meth c H locs cells slots Q (F0 m pc ls (v :: .ref a :: rest)) :=
  va_putF (T := TCK) (N := 9) hx hb hts inCK tyCK tyCK_ok nmCK hown hG.1 hP hD hS q0 he rfl 5 (by decide) (hts _ kfCK_46) (fun _ h => h) rfl hin9 rfl (tyCK_ok 5 (by decide)) hn hfit hl hdg kk
theorem fFCK_52 (hx : p.tables.exec = Jvm.exec) (hb : c.code = cc) (hts : ∀ w ∈ ckT, w.before args s = true) (hown : s.vm.findClass "CoverKeys" = some m.cls) (hin9 : meth.name = "<init>") (hG : gk G A s s.heap) (hP : va_P G.1 vwCl ws H) (hD : va_D A ws) (hS : va_S A s.heap H locs) (q0 : Nat) (he : ws[q0]? = some (oC a 7 fs)) (hn : narrow (.array (.object "CoverKeys$Decoder")) v = v) (hfit : fits (.array (.object "CoverKeys$Decoder")) v = true) (hl : 6 < fs.length) (hdg : decode cc pc = .ok (.putfield 52, 3))
    (kk : ∀ (H1 : Heap) (locs1 : List Loc), va_P G.1 vwCl (ws.set q0 (oC a 7 (fs.set 6 v))) H1 → va_D A (ws.set q0 (oC a 7 (fs.set 6 v))) → va_S A s.heap H1 locs1 → W p l e R s m args below meth c H1 locs1 cells slots Q (F0 m (pc + 3) ls rest)) : W p l e R s m args below meth c H locs cells slots Q (F0 m pc ls (v :: .ref a :: rest)) :=
  va_putF (T := TCK) (N := 9) hx hb hts inCK tyCK tyCK_ok nmCK hown hG.1 hP hD hS q0 he rfl 6 (by decide) (hts _ kfCK_52) (fun _ h => h) rfl hin9 rfl (tyCK_ok 6 (by decide)) hn hfit hl hdg kk
theorem fFDe_9 (hx : p.tables.exec = Jvm.exec) (hb : c.code = cc) (hts : ∀ w ∈ ckT, w.before args s = true) (hown : s.vm.findClass "CoverKeys$Decoder" = some m.cls) (hin9 : meth.name = "<init>") (hG : gk G A s s.heap) (hP : va_P G.1 vwCl ws H) (hD : va_D A ws) (hS : va_S A s.heap H locs) (q0 : Nat) (he : ws[q0]? = some (oC a 3 fs)) (hn : narrow (.array .int) v = v) (hfit : fits (.array .int) v = true) (hl : 0 < fs.length) (hdg : decode cc pc = .ok (.putfield 9, 3))
    (kk : ∀ (H1 : Heap) (locs1 : List Loc), va_P G.1 vwCl (ws.set q0 (oC a 3 (fs.set 0 v))) H1 → va_D A (ws.set q0 (oC a 3 (fs.set 0 v))) → va_S A s.heap H1 locs1 → W p l e R s m args below meth c H1 locs1 cells slots Q (F0 m (pc + 3) ls rest)) : W p l e R s m args below meth c H locs cells slots Q (F0 m pc ls (v :: .ref a :: rest)) :=
  va_putF (T := TDe) (N := 3) hx hb hts inDe tyDe tyDe_ok nmDe hown hG.1 hP hD hS q0 he rfl 0 (by decide) (hts _ kfDe_9) (fun _ h => h) rfl hin9 rfl (tyDe_ok 0 (by decide)) hn hfit hl hdg kk
theorem fFDe_15 (hx : p.tables.exec = Jvm.exec) (hb : c.code = cc) (hts : ∀ w ∈ ckT, w.before args s = true) (hown : s.vm.findClass "CoverKeys$Decoder" = some m.cls) (hin9 : meth.name = "<init>") (hG : gk G A s s.heap) (hP : va_P G.1 vwCl ws H) (hD : va_D A ws) (hS : va_S A s.heap H locs) (q0 : Nat) (he : ws[q0]? = some (oC a 3 fs)) (hn : narrow (.array .long) v = v) (hfit : fits (.array .long) v = true) (hl : 1 < fs.length) (hdg : decode cc pc = .ok (.putfield 15, 3))
    (kk : ∀ (H1 : Heap) (locs1 : List Loc), va_P G.1 vwCl (ws.set q0 (oC a 3 (fs.set 1 v))) H1 → va_D A (ws.set q0 (oC a 3 (fs.set 1 v))) → va_S A s.heap H1 locs1 → W p l e R s m args below meth c H1 locs1 cells slots Q (F0 m (pc + 3) ls rest)) : W p l e R s m args below meth c H locs cells slots Q (F0 m pc ls (v :: .ref a :: rest)) :=
  va_putF (T := TDe) (N := 3) hx hb hts inDe tyDe tyDe_ok nmDe hown hG.1 hP hD hS q0 he rfl 1 (by decide) (hts _ kfDe_15) (fun _ h => h) rfl hin9 rfl (tyDe_ok 1 (by decide)) hn hfit hl hdg kk
theorem fFDe_19 (hx : p.tables.exec = Jvm.exec) (hb : c.code = cc) (hts : ∀ w ∈ ckT, w.before args s = true) (hown : s.vm.findClass "CoverKeys$Decoder" = some m.cls) (hin9 : meth.name = "<init>") (hG : gk G A s s.heap) (hP : va_P G.1 vwCl ws H) (hD : va_D A ws) (hS : va_S A s.heap H locs) (q0 : Nat) (he : ws[q0]? = some (oC a 3 fs)) (hn : narrow (.array .long) v = v) (hfit : fits (.array .long) v = true) (hl : 2 < fs.length) (hdg : decode cc pc = .ok (.putfield 19, 3))
    (kk : ∀ (H1 : Heap) (locs1 : List Loc), va_P G.1 vwCl (ws.set q0 (oC a 3 (fs.set 2 v))) H1 → va_D A (ws.set q0 (oC a 3 (fs.set 2 v))) → va_S A s.heap H1 locs1 → W p l e R s m args below meth c H1 locs1 cells slots Q (F0 m (pc + 3) ls rest)) : W p l e R s m args below meth c H locs cells slots Q (F0 m pc ls (v :: .ref a :: rest)) :=
  va_putF (T := TDe) (N := 3) hx hb hts inDe tyDe tyDe_ok nmDe hown hG.1 hP hD hS q0 he rfl 2 (by decide) (hts _ kfDe_19) (fun _ h => h) rfl hin9 rfl (tyDe_ok 2 (by decide)) hn hfit hl hdg kk
theorem fFMo_7 (hx : p.tables.exec = Jvm.exec) (hb : c.code = cc) (hts : ∀ w ∈ ckT, w.before args s = true) (hown : s.vm.findClass "CoverKeysModel" = some m.cls) (hin9 : meth.name = "<init>") (hG : gk G A s s.heap) (hP : va_P G.1 vwCl ws H) (hD : va_D A ws) (hS : va_S A s.heap H locs) (q0 : Nat) (he : ws[q0]? = some (oC a 8 fs)) (hn : narrow (.array .int) v = v) (hfit : fits (.array .int) v = true) (hl : 1 < fs.length) (hdg : decode cc pc = .ok (.putfield 7, 3))
    (kk : ∀ (H1 : Heap) (locs1 : List Loc), va_P G.1 vwCl (ws.set q0 (oC a 8 (fs.set 1 v))) H1 → va_D A (ws.set q0 (oC a 8 (fs.set 1 v))) → va_S A s.heap H1 locs1 → W p l e R s m args below meth c H1 locs1 cells slots Q (F0 m (pc + 3) ls rest)) : W p l e R s m args below meth c H locs cells slots Q (F0 m pc ls (v :: .ref a :: rest)) :=
  va_putF (T := TMo) (N := 30) hx hb hts inMo tyMo tyMo_ok nmMo hown hG.1 hP hD hS q0 he rfl 1 (by decide) (hts _ kfMo_7) (fun _ h => h) rfl hin9 rfl (tyMo_ok 1 (by decide)) hn hfit hl hdg kk
theorem fFMo_13 (hx : p.tables.exec = Jvm.exec) (hb : c.code = cc) (hts : ∀ w ∈ ckT, w.before args s = true) (hown : s.vm.findClass "CoverKeysModel" = some m.cls) (hin9 : meth.name = "<init>") (hG : gk G A s s.heap) (hP : va_P G.1 vwCl ws H) (hD : va_D A ws) (hS : va_S A s.heap H locs) (q0 : Nat) (he : ws[q0]? = some (oC a 8 fs)) (hn : narrow (.array .int) v = v) (hfit : fits (.array .int) v = true) (hl : 2 < fs.length) (hdg : decode cc pc = .ok (.putfield 13, 3))
    (kk : ∀ (H1 : Heap) (locs1 : List Loc), va_P G.1 vwCl (ws.set q0 (oC a 8 (fs.set 2 v))) H1 → va_D A (ws.set q0 (oC a 8 (fs.set 2 v))) → va_S A s.heap H1 locs1 → W p l e R s m args below meth c H1 locs1 cells slots Q (F0 m (pc + 3) ls rest)) : W p l e R s m args below meth c H locs cells slots Q (F0 m pc ls (v :: .ref a :: rest)) :=
  va_putF (T := TMo) (N := 30) hx hb hts inMo tyMo tyMo_ok nmMo hown hG.1 hP hD hS q0 he rfl 2 (by decide) (hts _ kfMo_13) (fun _ h => h) rfl hin9 rfl (tyMo_ok 2 (by decide)) hn hfit hl hdg kk
theorem fFMo_16 (hx : p.tables.exec = Jvm.exec) (hb : c.code = cc) (hts : ∀ w ∈ ckT, w.before args s = true) (hown : s.vm.findClass "CoverKeysModel" = some m.cls) (hin9 : meth.name = "<init>") (hG : gk G A s s.heap) (hP : va_P G.1 vwCl ws H) (hD : va_D A ws) (hS : va_S A s.heap H locs) (q0 : Nat) (he : ws[q0]? = some (oC a 8 fs)) (hn : narrow (.array .int) v = v) (hfit : fits (.array .int) v = true) (hl : 3 < fs.length) (hdg : decode cc pc = .ok (.putfield 16, 3))
    (kk : ∀ (H1 : Heap) (locs1 : List Loc), va_P G.1 vwCl (ws.set q0 (oC a 8 (fs.set 3 v))) H1 → va_D A (ws.set q0 (oC a 8 (fs.set 3 v))) → va_S A s.heap H1 locs1 → W p l e R s m args below meth c H1 locs1 cells slots Q (F0 m (pc + 3) ls rest)) : W p l e R s m args below meth c H locs cells slots Q (F0 m pc ls (v :: .ref a :: rest)) :=
  va_putF (T := TMo) (N := 30) hx hb hts inMo tyMo tyMo_ok nmMo hown hG.1 hP hD hS q0 he rfl 3 (by decide) (hts _ kfMo_16) (fun _ h => h) rfl hin9 rfl (tyMo_ok 3 (by decide)) hn hfit hl hdg kk
theorem fFMo_19 (hx : p.tables.exec = Jvm.exec) (hb : c.code = cc) (hts : ∀ w ∈ ckT, w.before args s = true) (hown : s.vm.findClass "CoverKeysModel" = some m.cls) (hin9 : meth.name = "<init>") (hG : gk G A s s.heap) (hP : va_P G.1 vwCl ws H) (hD : va_D A ws) (hS : va_S A s.heap H locs) (q0 : Nat) (he : ws[q0]? = some (oC a 8 fs)) (hn : narrow (.array .int) v = v) (hfit : fits (.array .int) v = true) (hl : 4 < fs.length) (hdg : decode cc pc = .ok (.putfield 19, 3))
    (kk : ∀ (H1 : Heap) (locs1 : List Loc), va_P G.1 vwCl (ws.set q0 (oC a 8 (fs.set 4 v))) H1 → va_D A (ws.set q0 (oC a 8 (fs.set 4 v))) → va_S A s.heap H1 locs1 → W p l e R s m args below meth c H1 locs1 cells slots Q (F0 m (pc + 3) ls rest)) : W p l e R s m args below meth c H locs cells slots Q (F0 m pc ls (v :: .ref a :: rest)) :=
  va_putF (T := TMo) (N := 30) hx hb hts inMo tyMo tyMo_ok nmMo hown hG.1 hP hD hS q0 he rfl 4 (by decide) (hts _ kfMo_19) (fun _ h => h) rfl hin9 rfl (tyMo_ok 4 (by decide)) hn hfit hl hdg kk
theorem fFMo_22 (hx : p.tables.exec = Jvm.exec) (hb : c.code = cc) (hts : ∀ w ∈ ckT, w.before args s = true) (hown : s.vm.findClass "CoverKeysModel" = some m.cls) (hin9 : meth.name = "<init>") (hG : gk G A s s.heap) (hP : va_P G.1 vwCl ws H) (hD : va_D A ws) (hS : va_S A s.heap H locs) (q0 : Nat) (he : ws[q0]? = some (oC a 8 fs)) (hn : narrow (.array .int) v = v) (hfit : fits (.array .int) v = true) (hl : 5 < fs.length) (hdg : decode cc pc = .ok (.putfield 22, 3))
    (kk : ∀ (H1 : Heap) (locs1 : List Loc), va_P G.1 vwCl (ws.set q0 (oC a 8 (fs.set 5 v))) H1 → va_D A (ws.set q0 (oC a 8 (fs.set 5 v))) → va_S A s.heap H1 locs1 → W p l e R s m args below meth c H1 locs1 cells slots Q (F0 m (pc + 3) ls rest)) : W p l e R s m args below meth c H locs cells slots Q (F0 m pc ls (v :: .ref a :: rest)) :=
  va_putF (T := TMo) (N := 30) hx hb hts inMo tyMo tyMo_ok nmMo hown hG.1 hP hD hS q0 he rfl 5 (by decide) (hts _ kfMo_22) (fun _ h => h) rfl hin9 rfl (tyMo_ok 5 (by decide)) hn hfit hl hdg kk
theorem fFMo_25 (hx : p.tables.exec = Jvm.exec) (hb : c.code = cc) (hts : ∀ w ∈ ckT, w.before args s = true) (hown : s.vm.findClass "CoverKeysModel" = some m.cls) (hin9 : meth.name = "<init>") (hG : gk G A s s.heap) (hP : va_P G.1 vwCl ws H) (hD : va_D A ws) (hS : va_S A s.heap H locs) (q0 : Nat) (he : ws[q0]? = some (oC a 8 fs)) (hn : narrow (.array .boolean) v = v) (hfit : fits (.array .boolean) v = true) (hl : 11 < fs.length) (hdg : decode cc pc = .ok (.putfield 25, 3))
    (kk : ∀ (H1 : Heap) (locs1 : List Loc), va_P G.1 vwCl (ws.set q0 (oC a 8 (fs.set 11 v))) H1 → va_D A (ws.set q0 (oC a 8 (fs.set 11 v))) → va_S A s.heap H1 locs1 → W p l e R s m args below meth c H1 locs1 cells slots Q (F0 m (pc + 3) ls rest)) : W p l e R s m args below meth c H locs cells slots Q (F0 m pc ls (v :: .ref a :: rest)) :=
  va_putF (T := TMo) (N := 30) hx hb hts inMo tyMo tyMo_ok nmMo hown hG.1 hP hD hS q0 he rfl 11 (by decide) (hts _ kfMo_25) (fun _ h => h) rfl hin9 rfl (tyMo_ok 11 (by decide)) hn hfit hl hdg kk
theorem fFMo_29 (hx : p.tables.exec = Jvm.exec) (hb : c.code = cc) (hts : ∀ w ∈ ckT, w.before args s = true) (hown : s.vm.findClass "CoverKeysModel" = some m.cls) (hin9 : meth.name = "<init>") (hG : gk G A s s.heap) (hP : va_P G.1 vwCl ws H) (hD : va_D A ws) (hS : va_S A s.heap H locs) (q0 : Nat) (he : ws[q0]? = some (oC a 8 fs)) (hn : narrow (.array .boolean) v = v) (hfit : fits (.array .boolean) v = true) (hl : 12 < fs.length) (hdg : decode cc pc = .ok (.putfield 29, 3))
    (kk : ∀ (H1 : Heap) (locs1 : List Loc), va_P G.1 vwCl (ws.set q0 (oC a 8 (fs.set 12 v))) H1 → va_D A (ws.set q0 (oC a 8 (fs.set 12 v))) → va_S A s.heap H1 locs1 → W p l e R s m args below meth c H1 locs1 cells slots Q (F0 m (pc + 3) ls rest)) : W p l e R s m args below meth c H locs cells slots Q (F0 m pc ls (v :: .ref a :: rest)) :=
  va_putF (T := TMo) (N := 30) hx hb hts inMo tyMo tyMo_ok nmMo hown hG.1 hP hD hS q0 he rfl 12 (by decide) (hts _ kfMo_29) (fun _ h => h) rfl hin9 rfl (tyMo_ok 12 (by decide)) hn hfit hl hdg kk
theorem fFMo_32 (hx : p.tables.exec = Jvm.exec) (hb : c.code = cc) (hts : ∀ w ∈ ckT, w.before args s = true) (hown : s.vm.findClass "CoverKeysModel" = some m.cls) (hin9 : meth.name = "<init>") (hG : gk G A s s.heap) (hP : va_P G.1 vwCl ws H) (hD : va_D A ws) (hS : va_S A s.heap H locs) (q0 : Nat) (he : ws[q0]? = some (oC a 8 fs)) (hn : narrow (.array .int) v = v) (hfit : fits (.array .int) v = true) (hl : 13 < fs.length) (hdg : decode cc pc = .ok (.putfield 32, 3))
    (kk : ∀ (H1 : Heap) (locs1 : List Loc), va_P G.1 vwCl (ws.set q0 (oC a 8 (fs.set 13 v))) H1 → va_D A (ws.set q0 (oC a 8 (fs.set 13 v))) → va_S A s.heap H1 locs1 → W p l e R s m args below meth c H1 locs1 cells slots Q (F0 m (pc + 3) ls rest)) : W p l e R s m args below meth c H locs cells slots Q (F0 m pc ls (v :: .ref a :: rest)) :=
  va_putF (T := TMo) (N := 30) hx hb hts inMo tyMo tyMo_ok nmMo hown hG.1 hP hD hS q0 he rfl 13 (by decide) (hts _ kfMo_32) (fun _ h => h) rfl hin9 rfl (tyMo_ok 13 (by decide)) hn hfit hl hdg kk
theorem fFMo_35 (hx : p.tables.exec = Jvm.exec) (hb : c.code = cc) (hts : ∀ w ∈ ckT, w.before args s = true) (hown : s.vm.findClass "CoverKeysModel" = some m.cls) (hin9 : meth.name = "<init>") (hG : gk G A s s.heap) (hP : va_P G.1 vwCl ws H) (hD : va_D A ws) (hS : va_S A s.heap H locs) (q0 : Nat) (he : ws[q0]? = some (oC a 8 fs)) (hn : narrow (.array .long) v = v) (hfit : fits (.array .long) v = true) (hl : 14 < fs.length) (hdg : decode cc pc = .ok (.putfield 35, 3))
    (kk : ∀ (H1 : Heap) (locs1 : List Loc), va_P G.1 vwCl (ws.set q0 (oC a 8 (fs.set 14 v))) H1 → va_D A (ws.set q0 (oC a 8 (fs.set 14 v))) → va_S A s.heap H1 locs1 → W p l e R s m args below meth c H1 locs1 cells slots Q (F0 m (pc + 3) ls rest)) : W p l e R s m args below meth c H locs cells slots Q (F0 m pc ls (v :: .ref a :: rest)) :=
  va_putF (T := TMo) (N := 30) hx hb hts inMo tyMo tyMo_ok nmMo hown hG.1 hP hD hS q0 he rfl 14 (by decide) (hts _ kfMo_35) (fun _ h => h) rfl hin9 rfl (tyMo_ok 14 (by decide)) hn hfit hl hdg kk
theorem fFMo_39 (hx : p.tables.exec = Jvm.exec) (hb : c.code = cc) (hts : ∀ w ∈ ckT, w.before args s = true) (hown : s.vm.findClass "CoverKeysModel" = some m.cls) (hin9 : meth.name = "<init>") (hG : gk G A s s.heap) (hP : va_P G.1 vwCl ws H) (hD : va_D A ws) (hS : va_S A s.heap H locs) (q0 : Nat) (he : ws[q0]? = some (oC a 8 fs)) (hn : narrow (.array .long) v = v) (hfit : fits (.array .long) v = true) (hl : 15 < fs.length) (hdg : decode cc pc = .ok (.putfield 39, 3))
    (kk : ∀ (H1 : Heap) (locs1 : List Loc), va_P G.1 vwCl (ws.set q0 (oC a 8 (fs.set 15 v))) H1 → va_D A (ws.set q0 (oC a 8 (fs.set 15 v))) → va_S A s.heap H1 locs1 → W p l e R s m args below meth c H1 locs1 cells slots Q (F0 m (pc + 3) ls rest)) : W p l e R s m args below meth c H locs cells slots Q (F0 m pc ls (v :: .ref a :: rest)) :=
  va_putF (T := TMo) (N := 30) hx hb hts inMo tyMo tyMo_ok nmMo hown hG.1 hP hD hS q0 he rfl 15 (by decide) (hts _ kfMo_39) (fun _ h => h) rfl hin9 rfl (tyMo_ok 15 (by decide)) hn hfit hl hdg kk
theorem fFMo_42 (hx : p.tables.exec = Jvm.exec) (hb : c.code = cc) (hts : ∀ w ∈ ckT, w.before args s = true) (hown : s.vm.findClass "CoverKeysModel" = some m.cls) (hin9 : meth.name = "<init>") (hG : gk G A s s.heap) (hP : va_P G.1 vwCl ws H) (hD : va_D A ws) (hS : va_S A s.heap H locs) (q0 : Nat) (he : ws[q0]? = some (oC a 8 fs)) (hn : narrow (.array .int) v = v) (hfit : fits (.array .int) v = true) (hl : 16 < fs.length) (hdg : decode cc pc = .ok (.putfield 42, 3))
    (kk : ∀ (H1 : Heap) (locs1 : List Loc), va_P G.1 vwCl (ws.set q0 (oC a 8 (fs.set 16 v))) H1 → va_D A (ws.set q0 (oC a 8 (fs.set 16 v))) → va_S A s.heap H1 locs1 → W p l e R s m args below meth c H1 locs1 cells slots Q (F0 m (pc + 3) ls rest)) : W p l e R s m args below meth c H locs cells slots Q (F0 m pc ls (v :: .ref a :: rest)) :=
  va_putF (T := TMo) (N := 30) hx hb hts inMo tyMo tyMo_ok nmMo hown hG.1 hP hD hS q0 he rfl 16 (by decide) (hts _ kfMo_42) (fun _ h => h) rfl hin9 rfl (tyMo_ok 16 (by decide)) hn hfit hl hdg kk
theorem fFMo_45 (hx : p.tables.exec = Jvm.exec) (hb : c.code = cc) (hts : ∀ w ∈ ckT, w.before args s = true) (hown : s.vm.findClass "CoverKeysModel" = some m.cls) (hin9 : meth.name = "<init>") (hG : gk G A s s.heap) (hP : va_P G.1 vwCl ws H) (hD : va_D A ws) (hS : va_S A s.heap H locs) (q0 : Nat) (he : ws[q0]? = some (oC a 8 fs)) (hn : narrow (.array .int) v = v) (hfit : fits (.array .int) v = true) (hl : 17 < fs.length) (hdg : decode cc pc = .ok (.putfield 45, 3))
    (kk : ∀ (H1 : Heap) (locs1 : List Loc), va_P G.1 vwCl (ws.set q0 (oC a 8 (fs.set 17 v))) H1 → va_D A (ws.set q0 (oC a 8 (fs.set 17 v))) → va_S A s.heap H1 locs1 → W p l e R s m args below meth c H1 locs1 cells slots Q (F0 m (pc + 3) ls rest)) : W p l e R s m args below meth c H locs cells slots Q (F0 m pc ls (v :: .ref a :: rest)) :=
  va_putF (T := TMo) (N := 30) hx hb hts inMo tyMo tyMo_ok nmMo hown hG.1 hP hD hS q0 he rfl 17 (by decide) (hts _ kfMo_45) (fun _ h => h) rfl hin9 rfl (tyMo_ok 17 (by decide)) hn hfit hl hdg kk
theorem fFMo_48 (hx : p.tables.exec = Jvm.exec) (hb : c.code = cc) (hts : ∀ w ∈ ckT, w.before args s = true) (hown : s.vm.findClass "CoverKeysModel" = some m.cls) (hin9 : meth.name = "<init>") (hG : gk G A s s.heap) (hP : va_P G.1 vwCl ws H) (hD : va_D A ws) (hS : va_S A s.heap H locs) (q0 : Nat) (he : ws[q0]? = some (oC a 8 fs)) (hn : narrow (.array .int) v = v) (hfit : fits (.array .int) v = true) (hl : 18 < fs.length) (hdg : decode cc pc = .ok (.putfield 48, 3))
    (kk : ∀ (H1 : Heap) (locs1 : List Loc), va_P G.1 vwCl (ws.set q0 (oC a 8 (fs.set 18 v))) H1 → va_D A (ws.set q0 (oC a 8 (fs.set 18 v))) → va_S A s.heap H1 locs1 → W p l e R s m args below meth c H1 locs1 cells slots Q (F0 m (pc + 3) ls rest)) : W p l e R s m args below meth c H locs cells slots Q (F0 m pc ls (v :: .ref a :: rest)) :=
  va_putF (T := TMo) (N := 30) hx hb hts inMo tyMo tyMo_ok nmMo hown hG.1 hP hD hS q0 he rfl 18 (by decide) (hts _ kfMo_48) (fun _ h => h) rfl hin9 rfl (tyMo_ok 18 (by decide)) hn hfit hl hdg kk
theorem fFMo_51 (hx : p.tables.exec = Jvm.exec) (hb : c.code = cc) (hts : ∀ w ∈ ckT, w.before args s = true) (hown : s.vm.findClass "CoverKeysModel" = some m.cls) (hin9 : meth.name = "<init>") (hG : gk G A s s.heap) (hP : va_P G.1 vwCl ws H) (hD : va_D A ws) (hS : va_S A s.heap H locs) (q0 : Nat) (he : ws[q0]? = some (oC a 8 fs)) (hn : narrow (.array .boolean) v = v) (hfit : fits (.array .boolean) v = true) (hl : 19 < fs.length) (hdg : decode cc pc = .ok (.putfield 51, 3))
    (kk : ∀ (H1 : Heap) (locs1 : List Loc), va_P G.1 vwCl (ws.set q0 (oC a 8 (fs.set 19 v))) H1 → va_D A (ws.set q0 (oC a 8 (fs.set 19 v))) → va_S A s.heap H1 locs1 → W p l e R s m args below meth c H1 locs1 cells slots Q (F0 m (pc + 3) ls rest)) : W p l e R s m args below meth c H locs cells slots Q (F0 m pc ls (v :: .ref a :: rest)) :=
  va_putF (T := TMo) (N := 30) hx hb hts inMo tyMo tyMo_ok nmMo hown hG.1 hP hD hS q0 he rfl 19 (by decide) (hts _ kfMo_51) (fun _ h => h) rfl hin9 rfl (tyMo_ok 19 (by decide)) hn hfit hl hdg kk
theorem fFMo_54 (hx : p.tables.exec = Jvm.exec) (hb : c.code = cc) (hts : ∀ w ∈ ckT, w.before args s = true) (hown : s.vm.findClass "CoverKeysModel" = some m.cls) (hin9 : meth.name = "<init>") (hG : gk G A s s.heap) (hP : va_P G.1 vwCl ws H) (hD : va_D A ws) (hS : va_S A s.heap H locs) (q0 : Nat) (he : ws[q0]? = some (oC a 8 fs)) (hn : narrow (.array .int) v = v) (hfit : fits (.array .int) v = true) (hl : 20 < fs.length) (hdg : decode cc pc = .ok (.putfield 54, 3))
    (kk : ∀ (H1 : Heap) (locs1 : List Loc), va_P G.1 vwCl (ws.set q0 (oC a 8 (fs.set 20 v))) H1 → va_D A (ws.set q0 (oC a 8 (fs.set 20 v))) → va_S A s.heap H1 locs1 → W p l e R s m args below meth c H1 locs1 cells slots Q (F0 m (pc + 3) ls rest)) : W p l e R s m args below meth c H locs cells slots Q (F0 m pc ls (v :: .ref a :: rest)) :=
  va_putF (T := TMo) (N := 30) hx hb hts inMo tyMo tyMo_ok nmMo hown hG.1 hP hD hS q0 he rfl 20 (by decide) (hts _ kfMo_54) (fun _ h => h) rfl hin9 rfl (tyMo_ok 20 (by decide)) hn hfit hl hdg kk
theorem fFMo_57 (hx : p.tables.exec = Jvm.exec) (hb : c.code = cc) (hts : ∀ w ∈ ckT, w.before args s = true) (hown : s.vm.findClass "CoverKeysModel" = some m.cls) (hin9 : meth.name = "<init>") (hG : gk G A s s.heap) (hP : va_P G.1 vwCl ws H) (hD : va_D A ws) (hS : va_S A s.heap H locs) (q0 : Nat) (he : ws[q0]? = some (oC a 8 fs)) (hn : narrow (.array .int) v = v) (hfit : fits (.array .int) v = true) (hl : 22 < fs.length) (hdg : decode cc pc = .ok (.putfield 57, 3))
    (kk : ∀ (H1 : Heap) (locs1 : List Loc), va_P G.1 vwCl (ws.set q0 (oC a 8 (fs.set 22 v))) H1 → va_D A (ws.set q0 (oC a 8 (fs.set 22 v))) → va_S A s.heap H1 locs1 → W p l e R s m args below meth c H1 locs1 cells slots Q (F0 m (pc + 3) ls rest)) : W p l e R s m args below meth c H locs cells slots Q (F0 m pc ls (v :: .ref a :: rest)) :=
  va_putF (T := TMo) (N := 30) hx hb hts inMo tyMo tyMo_ok nmMo hown hG.1 hP hD hS q0 he rfl 22 (by decide) (hts _ kfMo_57) (fun _ h => h) rfl hin9 rfl (tyMo_ok 22 (by decide)) hn hfit hl hdg kk
theorem fFMo_60 (hx : p.tables.exec = Jvm.exec) (hb : c.code = cc) (hts : ∀ w ∈ ckT, w.before args s = true) (hown : s.vm.findClass "CoverKeysModel" = some m.cls) (hin9 : meth.name = "<init>") (hG : gk G A s s.heap) (hP : va_P G.1 vwCl ws H) (hD : va_D A ws) (hS : va_S A s.heap H locs) (q0 : Nat) (he : ws[q0]? = some (oC a 8 fs)) (hn : narrow (.array .long) v = v) (hfit : fits (.array .long) v = true) (hl : 23 < fs.length) (hdg : decode cc pc = .ok (.putfield 60, 3))
    (kk : ∀ (H1 : Heap) (locs1 : List Loc), va_P G.1 vwCl (ws.set q0 (oC a 8 (fs.set 23 v))) H1 → va_D A (ws.set q0 (oC a 8 (fs.set 23 v))) → va_S A s.heap H1 locs1 → W p l e R s m args below meth c H1 locs1 cells slots Q (F0 m (pc + 3) ls rest)) : W p l e R s m args below meth c H locs cells slots Q (F0 m pc ls (v :: .ref a :: rest)) :=
  va_putF (T := TMo) (N := 30) hx hb hts inMo tyMo tyMo_ok nmMo hown hG.1 hP hD hS q0 he rfl 23 (by decide) (hts _ kfMo_60) (fun _ h => h) rfl hin9 rfl (tyMo_ok 23 (by decide)) hn hfit hl hdg kk
theorem fFMo_63 (hx : p.tables.exec = Jvm.exec) (hb : c.code = cc) (hts : ∀ w ∈ ckT, w.before args s = true) (hown : s.vm.findClass "CoverKeysModel" = some m.cls) (hin9 : meth.name = "<init>") (hG : gk G A s s.heap) (hP : va_P G.1 vwCl ws H) (hD : va_D A ws) (hS : va_S A s.heap H locs) (q0 : Nat) (he : ws[q0]? = some (oC a 8 fs)) (hn : narrow (.array .long) v = v) (hfit : fits (.array .long) v = true) (hl : 24 < fs.length) (hdg : decode cc pc = .ok (.putfield 63, 3))
    (kk : ∀ (H1 : Heap) (locs1 : List Loc), va_P G.1 vwCl (ws.set q0 (oC a 8 (fs.set 24 v))) H1 → va_D A (ws.set q0 (oC a 8 (fs.set 24 v))) → va_S A s.heap H1 locs1 → W p l e R s m args below meth c H1 locs1 cells slots Q (F0 m (pc + 3) ls rest)) : W p l e R s m args below meth c H locs cells slots Q (F0 m pc ls (v :: .ref a :: rest)) :=
  va_putF (T := TMo) (N := 30) hx hb hts inMo tyMo tyMo_ok nmMo hown hG.1 hP hD hS q0 he rfl 24 (by decide) (hts _ kfMo_63) (fun _ h => h) rfl hin9 rfl (tyMo_ok 24 (by decide)) hn hfit hl hdg kk
end MKR
section MKI
variable {p : Program} {l : Launch} {e : Env} {R : Room} {s : State} {m : MethodId} {args : Array Value} {below : List Frame} {meth : Method} {c : Code} {H : Heap} {locs : List Loc} {cells slots : Nat} {Q : State → Prop}
variable {cc : ByteArray} {pc nL n : Nat} {ls : Array Slot} {rest st0 As : List Value} {G : gG} {A : Nat → Prop} {ws wi wr : va_W} {J : State → Prop} {S : Type} {φ : S → Prop} {r : S → Option Value} {wo : S → va_W} {rm : Room} {b : Nat} {fs : List Value}
theorem kcCK_init : Cond.code yCK_init cCK_init 2 none ∈ ckT := ck_m1 (List.mem_of_getElem? (i := 22) rfl) rfl
theorem kiCK_init : Cond.instanceMethod yCK_init ∈ ckT := ck_m1 (List.mem_of_getElem? (i := 21) rfl) rfl
theorem kmLa_76 : Cond.methodLink "CoverKeysLaw" 76 yCK_init ∈ ckT := ck_m1 (List.mem_of_getElem? (i := 20) rfl) rfl
theorem clLa_76 (hx : p.tables.exec = Jvm.exec) (hb : c.code = cc) (hml : c.maxLocals = nL) (hown : s.vm.findClass "CoverKeysLaw" = some m.cls) (hts : ∀ w ∈ ckT, w.before args s = true) (hM : Cr l G yCK_init cCK_init 2 none rm [.ref b] wi J φ r wo) (hJk : Jk J) (hJ : J s) (hG : gk G A s s.heap) (hA : ∀ q : Nat, s.heap.size ≤ q → A q) (hP : va_P G.1 vwCl ws H) (hD : va_D A ws) (hS : va_S A s.heap H locs) (is isR : List Nat) (hC : is.map (fun i => ws[i]?) = wi.map some) (hnd : va_nd is = true) (hR0 : isR.map (fun i => ws[i]?) = wr.map some) (hnR : va_nd isR = true) (hdis : ∀ i ∈ isR, i ∉ is) (hsize : ls.size = nL) (hst : st0 = .ref b :: rest) (hrm : (rest.map fun v => v.category).sum ≤ 8) (hR : rm.frames + 1 ≤ R.frames ∧ 8 + (2 + 11) + rm.locals ≤ R.locals) (hf : cells + rm.cells ≤ R.cells ∧ slots + rm.slots ≤ R.slots) (hdg : decode cc pc = .ok (.invokespecial 76, 3)) (kk : ∀ (u : S) (H1 : Heap) (locs1 : List Loc), φ u → va_P G.1 vwCl (wr ++ wo u) H1 → va_D A (wr ++ wo u) → va_S A s.heap H1 locs1 → W p l e R s m args below meth c H1 locs1 (cells + rm.cells) (slots + rm.slots) Q (F0 m (pc + 3) ls ((r u).toList ++ rest))) :
    W p l e R s m args below meth c H locs cells slots Q (F0 m pc ls st0) :=
  cr_I (As := []) ⟨hx, hb, hml, hown, hts⟩ hM ⟨callB_of 0 hts (ck_gd0 kcCK_init) rfl rfl rfl (hts _ knCK) (hts _ kmLa_76) ⟨by decide, by decide, by decide +kernel⟩ hR, rfl, hts _ kiCK_init⟩ hJk hJ hG hA hP hD hS is isR hC hnd hR0 hnR hdis rfl hsize hst hrm hdg hf kk
theorem kcCi_init : Cond.code yCi_init cCi_init 1 none ∈ ckT := ck_m1 (List.mem_of_getElem? (i := 30) rfl) rfl
theorem kiCi_init : Cond.instanceMethod yCi_init ∈ ckT := ck_m1 (List.mem_of_getElem? (i := 29) rfl) rfl
theorem clCK_11 (hx : p.tables.exec = Jvm.exec) (hb : c.code = cc) (hml : c.maxLocals = nL) (hown : s.vm.findClass "CoverKeys" = some m.cls) (hts : ∀ w ∈ ckT, w.before args s = true) (hM : Cr l G yCi_init cCi_init 1 none rm [.ref b] wi J φ r wo) (hJk : Jk J) (hJ : J s) (hG : gk G A s s.heap) (hA : ∀ q : Nat, s.heap.size ≤ q → A q) (hP : va_P G.1 vwCl ws H) (hD : va_D A ws) (hS : va_S A s.heap H locs) (is isR : List Nat) (hC : is.map (fun i => ws[i]?) = wi.map some) (hnd : va_nd is = true) (hR0 : isR.map (fun i => ws[i]?) = wr.map some) (hnR : va_nd isR = true) (hdis : ∀ i ∈ isR, i ∉ is) (hsize : ls.size = nL) (hst : st0 = .ref b :: rest) (hrm : (rest.map fun v => v.category).sum ≤ 8) (hR : rm.frames + 1 ≤ R.frames ∧ 8 + (1 + 11) + rm.locals ≤ R.locals) (hf : cells + rm.cells ≤ R.cells ∧ slots + rm.slots ≤ R.slots) (hdg : decode cc pc = .ok (.invokespecial 11, 3)) (kk : ∀ (u : S) (H1 : Heap) (locs1 : List Loc), φ u → va_P G.1 vwCl (wr ++ wo u) H1 → va_D A (wr ++ wo u) → va_S A s.heap H1 locs1 → W p l e R s m args below meth c H1 locs1 (cells + rm.cells) (slots + rm.slots) Q (F0 m (pc + 3) ls ((r u).toList ++ rest))) :
    W p l e R s m args below meth c H locs cells slots Q (F0 m pc ls st0) :=
  cr_IN (As := []) ⟨hx, hb, hml, hown, hts⟩ hM ⟨va_cnB 0 hts (ck_gd0 kcCi_init) rfl rfl rfl (hG.2.2.2.1 _ kx28) (hts _ knCi) ⟨by decide, by decide, by decide +kernel⟩ hR, rfl, hts _ kiCi_init⟩ hJk hJ hG hA hP hD hS is isR hC hnd hR0 hnR hdis rfl hsize hst hrm hdg hf kk
theorem kcTr_init : Cond.code yTr_init cTr_init 1 none ∈ ckT := ck_m1 (List.mem_of_getElem? (i := 53) rfl) rfl
theorem kiTr_init : Cond.instanceMethod yTr_init ∈ ckT := ck_m1 (List.mem_of_getElem? (i := 52) rfl) rfl
theorem clCK_18 (hx : p.tables.exec = Jvm.exec) (hb : c.code = cc) (hml : c.maxLocals = nL) (hown : s.vm.findClass "CoverKeys" = some m.cls) (hts : ∀ w ∈ ckT, w.before args s = true) (hM : Cr l G yTr_init cTr_init 1 none rm [.ref b] wi J φ r wo) (hJk : Jk J) (hJ : J s) (hG : gk G A s s.heap) (hA : ∀ q : Nat, s.heap.size ≤ q → A q) (hP : va_P G.1 vwCl ws H) (hD : va_D A ws) (hS : va_S A s.heap H locs) (is isR : List Nat) (hC : is.map (fun i => ws[i]?) = wi.map some) (hnd : va_nd is = true) (hR0 : isR.map (fun i => ws[i]?) = wr.map some) (hnR : va_nd isR = true) (hdis : ∀ i ∈ isR, i ∉ is) (hsize : ls.size = nL) (hst : st0 = .ref b :: rest) (hrm : (rest.map fun v => v.category).sum ≤ 8) (hR : rm.frames + 1 ≤ R.frames ∧ 8 + (1 + 11) + rm.locals ≤ R.locals) (hf : cells + rm.cells ≤ R.cells ∧ slots + rm.slots ≤ R.slots) (hdg : decode cc pc = .ok (.invokespecial 18, 3)) (kk : ∀ (u : S) (H1 : Heap) (locs1 : List Loc), φ u → va_P G.1 vwCl (wr ++ wo u) H1 → va_D A (wr ++ wo u) → va_S A s.heap H1 locs1 → W p l e R s m args below meth c H1 locs1 (cells + rm.cells) (slots + rm.slots) Q (F0 m (pc + 3) ls ((r u).toList ++ rest))) :
    W p l e R s m args below meth c H locs cells slots Q (F0 m pc ls st0) :=
  cr_IN (As := []) ⟨hx, hb, hml, hown, hts⟩ hM ⟨va_cnB 0 hts (ck_gd0 kcTr_init) rfl rfl rfl (hG.2.2.2.1 _ kx51) (hts _ knTr) ⟨by decide, by decide, by decide +kernel⟩ hR, rfl, hts _ kiTr_init⟩ hJk hJ hG hA hP hD hS is isR hC hnd hR0 hnR hdis rfl hsize hst hrm hdg hf kk
theorem kcCo_init : Cond.code yCo_init cCo_init 1 none ∈ ckT := ck_m1 (List.mem_of_getElem? (i := 70) rfl) rfl
theorem kiCo_init : Cond.instanceMethod yCo_init ∈ ckT := ck_m1 (List.mem_of_getElem? (i := 69) rfl) rfl
theorem clCK_25 (hx : p.tables.exec = Jvm.exec) (hb : c.code = cc) (hml : c.maxLocals = nL) (hown : s.vm.findClass "CoverKeys" = some m.cls) (hts : ∀ w ∈ ckT, w.before args s = true) (hM : Cr l G yCo_init cCo_init 1 none rm [.ref b] wi J φ r wo) (hJk : Jk J) (hJ : J s) (hG : gk G A s s.heap) (hA : ∀ q : Nat, s.heap.size ≤ q → A q) (hP : va_P G.1 vwCl ws H) (hD : va_D A ws) (hS : va_S A s.heap H locs) (is isR : List Nat) (hC : is.map (fun i => ws[i]?) = wi.map some) (hnd : va_nd is = true) (hR0 : isR.map (fun i => ws[i]?) = wr.map some) (hnR : va_nd isR = true) (hdis : ∀ i ∈ isR, i ∉ is) (hsize : ls.size = nL) (hst : st0 = .ref b :: rest) (hrm : (rest.map fun v => v.category).sum ≤ 8) (hR : rm.frames + 1 ≤ R.frames ∧ 8 + (1 + 11) + rm.locals ≤ R.locals) (hf : cells + rm.cells ≤ R.cells ∧ slots + rm.slots ≤ R.slots) (hdg : decode cc pc = .ok (.invokespecial 25, 3)) (kk : ∀ (u : S) (H1 : Heap) (locs1 : List Loc), φ u → va_P G.1 vwCl (wr ++ wo u) H1 → va_D A (wr ++ wo u) → va_S A s.heap H1 locs1 → W p l e R s m args below meth c H1 locs1 (cells + rm.cells) (slots + rm.slots) Q (F0 m (pc + 3) ls ((r u).toList ++ rest))) :
    W p l e R s m args below meth c H locs cells slots Q (F0 m pc ls st0) :=
  cr_IN (As := []) ⟨hx, hb, hml, hown, hts⟩ hM ⟨va_cnB 0 hts (ck_gd0 kcCo_init) rfl rfl rfl (hG.2.2.2.1 _ kx68) (hts _ knCo) ⟨by decide, by decide, by decide +kernel⟩ hR, rfl, hts _ kiCo_init⟩ hJk hJ hG hA hP hD hS is isR hC hnd hR0 hnR hdis rfl hsize hst hrm hdg hf kk
theorem kcEn_init : Cond.code yEn_init cEn_init 1 none ∈ ckT := ck_m1 (List.mem_of_getElem? (i := 81) rfl) rfl
theorem kiEn_init : Cond.instanceMethod yEn_init ∈ ckT := ck_m1 (List.mem_of_getElem? (i := 80) rfl) rfl
theorem clCK_32 (hx : p.tables.exec = Jvm.exec) (hb : c.code = cc) (hml : c.maxLocals = nL) (hown : s.vm.findClass "CoverKeys" = some m.cls) (hts : ∀ w ∈ ckT, w.before args s = true) (hM : Cr l G yEn_init cEn_init 1 none rm [.ref b] wi J φ r wo) (hJk : Jk J) (hJ : J s) (hG : gk G A s s.heap) (hA : ∀ q : Nat, s.heap.size ≤ q → A q) (hP : va_P G.1 vwCl ws H) (hD : va_D A ws) (hS : va_S A s.heap H locs) (is isR : List Nat) (hC : is.map (fun i => ws[i]?) = wi.map some) (hnd : va_nd is = true) (hR0 : isR.map (fun i => ws[i]?) = wr.map some) (hnR : va_nd isR = true) (hdis : ∀ i ∈ isR, i ∉ is) (hsize : ls.size = nL) (hst : st0 = .ref b :: rest) (hrm : (rest.map fun v => v.category).sum ≤ 8) (hR : rm.frames + 1 ≤ R.frames ∧ 8 + (1 + 11) + rm.locals ≤ R.locals) (hf : cells + rm.cells ≤ R.cells ∧ slots + rm.slots ≤ R.slots) (hdg : decode cc pc = .ok (.invokespecial 32, 3)) (kk : ∀ (u : S) (H1 : Heap) (locs1 : List Loc), φ u → va_P G.1 vwCl (wr ++ wo u) H1 → va_D A (wr ++ wo u) → va_S A s.heap H1 locs1 → W p l e R s m args below meth c H1 locs1 (cells + rm.cells) (slots + rm.slots) Q (F0 m (pc + 3) ls ((r u).toList ++ rest))) :
    W p l e R s m args below meth c H locs cells slots Q (F0 m pc ls st0) :=
  cr_IN (As := []) ⟨hx, hb, hml, hown, hts⟩ hM ⟨va_cnB 0 hts (ck_gd0 kcEn_init) rfl rfl rfl (hG.2.2.2.1 _ kx79) (hts _ knEn) ⟨by decide, by decide, by decide +kernel⟩ hR, rfl, hts _ kiEn_init⟩ hJk hJ hG hA hP hD hS is isR hC hnd hR0 hnR hdis rfl hsize hst hrm hdg hf kk
theorem kcPa_init : Cond.code yPa_init cPa_init 1 none ∈ ckT := ck_m1 (List.mem_of_getElem? (i := 100) rfl) rfl
theorem kiPa_init : Cond.instanceMethod yPa_init ∈ ckT := ck_m1 (List.mem_of_getElem? (i := 99) rfl) rfl
theorem clCK_39 (hx : p.tables.exec = Jvm.exec) (hb : c.code = cc) (hml : c.maxLocals = nL) (hown : s.vm.findClass "CoverKeys" = some m.cls) (hts : ∀ w ∈ ckT, w.before args s = true) (hM : Cr l G yPa_init cPa_init 1 none rm [.ref b] wi J φ r wo) (hJk : Jk J) (hJ : J s) (hG : gk G A s s.heap) (hA : ∀ q : Nat, s.heap.size ≤ q → A q) (hP : va_P G.1 vwCl ws H) (hD : va_D A ws) (hS : va_S A s.heap H locs) (is isR : List Nat) (hC : is.map (fun i => ws[i]?) = wi.map some) (hnd : va_nd is = true) (hR0 : isR.map (fun i => ws[i]?) = wr.map some) (hnR : va_nd isR = true) (hdis : ∀ i ∈ isR, i ∉ is) (hsize : ls.size = nL) (hst : st0 = .ref b :: rest) (hrm : (rest.map fun v => v.category).sum ≤ 8) (hR : rm.frames + 1 ≤ R.frames ∧ 8 + (1 + 11) + rm.locals ≤ R.locals) (hf : cells + rm.cells ≤ R.cells ∧ slots + rm.slots ≤ R.slots) (hdg : decode cc pc = .ok (.invokespecial 39, 3)) (kk : ∀ (u : S) (H1 : Heap) (locs1 : List Loc), φ u → va_P G.1 vwCl (wr ++ wo u) H1 → va_D A (wr ++ wo u) → va_S A s.heap H1 locs1 → W p l e R s m args below meth c H1 locs1 (cells + rm.cells) (slots + rm.slots) Q (F0 m (pc + 3) ls ((r u).toList ++ rest))) :
    W p l e R s m args below meth c H locs cells slots Q (F0 m pc ls st0) :=
  cr_IN (As := []) ⟨hx, hb, hml, hown, hts⟩ hM ⟨va_cnB 0 hts (ck_gd0 kcPa_init) rfl rfl rfl (hG.2.2.2.1 _ kx98) (hts _ knPa) ⟨by decide, by decide, by decide +kernel⟩ hR, rfl, hts _ kiPa_init⟩ hJk hJ hG hA hP hD hS is isR hC hnd hR0 hnR hdis rfl hsize hst hrm hdg hf kk
theorem kcCh_init : Cond.code yCh_init cCh_init 1 none ∈ ckT := ck_m1 (List.mem_of_getElem? (i := 118) rfl) rfl
theorem kiCh_init : Cond.instanceMethod yCh_init ∈ ckT := ck_m1 (List.mem_of_getElem? (i := 117) rfl) rfl
theorem clCK_56 (hx : p.tables.exec = Jvm.exec) (hb : c.code = cc) (hml : c.maxLocals = nL) (hown : s.vm.findClass "CoverKeys" = some m.cls) (hts : ∀ w ∈ ckT, w.before args s = true) (hM : Cr l G yCh_init cCh_init 1 none rm [.ref b] wi J φ r wo) (hJk : Jk J) (hJ : J s) (hG : gk G A s s.heap) (hA : ∀ q : Nat, s.heap.size ≤ q → A q) (hP : va_P G.1 vwCl ws H) (hD : va_D A ws) (hS : va_S A s.heap H locs) (is isR : List Nat) (hC : is.map (fun i => ws[i]?) = wi.map some) (hnd : va_nd is = true) (hR0 : isR.map (fun i => ws[i]?) = wr.map some) (hnR : va_nd isR = true) (hdis : ∀ i ∈ isR, i ∉ is) (hsize : ls.size = nL) (hst : st0 = .ref b :: rest) (hrm : (rest.map fun v => v.category).sum ≤ 8) (hR : rm.frames + 1 ≤ R.frames ∧ 8 + (1 + 11) + rm.locals ≤ R.locals) (hf : cells + rm.cells ≤ R.cells ∧ slots + rm.slots ≤ R.slots) (hdg : decode cc pc = .ok (.invokespecial 56, 3)) (kk : ∀ (u : S) (H1 : Heap) (locs1 : List Loc), φ u → va_P G.1 vwCl (wr ++ wo u) H1 → va_D A (wr ++ wo u) → va_S A s.heap H1 locs1 → W p l e R s m args below meth c H1 locs1 (cells + rm.cells) (slots + rm.slots) Q (F0 m (pc + 3) ls ((r u).toList ++ rest))) :
    W p l e R s m args below meth c H locs cells slots Q (F0 m pc ls st0) :=
  cr_IN (As := []) ⟨hx, hb, hml, hown, hts⟩ hM ⟨va_cnB 0 hts (ck_gd0 kcCh_init) rfl rfl rfl (hG.2.2.2.1 _ kx116) (hts _ knCh) ⟨by decide, by decide, by decide +kernel⟩ hR, rfl, hts _ kiCh_init⟩ hJk hJ hG hA hP hD hS is isR hC hnd hR0 hnR hdis rfl hsize hst hrm hdg hf kk
theorem kcDe_init : Cond.code yDe_init cDe_init 1 none ∈ ckT := ck_m2 (List.mem_of_getElem? (i := 84) rfl) rfl
theorem kiDe_init : Cond.instanceMethod yDe_init ∈ ckT := ck_m2 (List.mem_of_getElem? (i := 83) rfl) rfl
theorem clCK_81 (hx : p.tables.exec = Jvm.exec) (hb : c.code = cc) (hml : c.maxLocals = nL) (hown : s.vm.findClass "CoverKeys" = some m.cls) (hts : ∀ w ∈ ckT, w.before args s = true) (hM : Cr l G yDe_init cDe_init 1 none rm [.ref b] wi J φ r wo) (hJk : Jk J) (hJ : J s) (hG : gk G A s s.heap) (hA : ∀ q : Nat, s.heap.size ≤ q → A q) (hP : va_P G.1 vwCl ws H) (hD : va_D A ws) (hS : va_S A s.heap H locs) (is isR : List Nat) (hC : is.map (fun i => ws[i]?) = wi.map some) (hnd : va_nd is = true) (hR0 : isR.map (fun i => ws[i]?) = wr.map some) (hnR : va_nd isR = true) (hdis : ∀ i ∈ isR, i ∉ is) (hsize : ls.size = nL) (hst : st0 = .ref b :: rest) (hrm : (rest.map fun v => v.category).sum ≤ 8) (hR : rm.frames + 1 ≤ R.frames ∧ 8 + (1 + 11) + rm.locals ≤ R.locals) (hf : cells + rm.cells ≤ R.cells ∧ slots + rm.slots ≤ R.slots) (hdg : decode cc pc = .ok (.invokespecial 81, 3)) (kk : ∀ (u : S) (H1 : Heap) (locs1 : List Loc), φ u → va_P G.1 vwCl (wr ++ wo u) H1 → va_D A (wr ++ wo u) → va_S A s.heap H1 locs1 → W p l e R s m args below meth c H1 locs1 (cells + rm.cells) (slots + rm.slots) Q (F0 m (pc + 3) ls ((r u).toList ++ rest))) :
    W p l e R s m args below meth c H locs cells slots Q (F0 m pc ls st0) :=
  cr_IN (As := []) ⟨hx, hb, hml, hown, hts⟩ hM ⟨va_cnB 0 hts (ck_gd0 kcDe_init) rfl rfl rfl (hG.2.2.2.1 _ kx322) (hts _ knDe) ⟨by decide, by decide, by decide +kernel⟩ hR, rfl, hts _ kiDe_init⟩ hJk hJ hG hA hP hD hS is isR hC hnd hR0 hnR hdis rfl hsize hst hrm hdg hf kk
theorem kcMo_init : Cond.code yMo_init cMo_init 6 none ∈ ckT := ck_m3 (List.mem_of_getElem? (i := 170) rfl) rfl
theorem kiMo_init : Cond.instanceMethod yMo_init ∈ ckT := ck_m3 (List.mem_of_getElem? (i := 169) rfl) rfl
theorem kmLa_79 : Cond.methodLink "CoverKeysLaw" 79 yMo_init ∈ ckT := ck_m3 (List.mem_of_getElem? (i := 168) rfl) rfl
theorem clLa_79 (hx : p.tables.exec = Jvm.exec) (hb : c.code = cc) (hml : c.maxLocals = nL) (hown : s.vm.findClass "CoverKeysLaw" = some m.cls) (hts : ∀ w ∈ ckT, w.before args s = true) (hM : Cr l G yMo_init cMo_init 6 none rm [.ref b] wi J φ r wo) (hJk : Jk J) (hJ : J s) (hG : gk G A s s.heap) (hA : ∀ q : Nat, s.heap.size ≤ q → A q) (hP : va_P G.1 vwCl ws H) (hD : va_D A ws) (hS : va_S A s.heap H locs) (is isR : List Nat) (hC : is.map (fun i => ws[i]?) = wi.map some) (hnd : va_nd is = true) (hR0 : isR.map (fun i => ws[i]?) = wr.map some) (hnR : va_nd isR = true) (hdis : ∀ i ∈ isR, i ∉ is) (hsize : ls.size = nL) (hst : st0 = .ref b :: rest) (hrm : (rest.map fun v => v.category).sum ≤ 8) (hR : rm.frames + 1 ≤ R.frames ∧ 8 + (6 + 11) + rm.locals ≤ R.locals) (hf : cells + rm.cells ≤ R.cells ∧ slots + rm.slots ≤ R.slots) (hdg : decode cc pc = .ok (.invokespecial 79, 3)) (kk : ∀ (u : S) (H1 : Heap) (locs1 : List Loc), φ u → va_P G.1 vwCl (wr ++ wo u) H1 → va_D A (wr ++ wo u) → va_S A s.heap H1 locs1 → W p l e R s m args below meth c H1 locs1 (cells + rm.cells) (slots + rm.slots) Q (F0 m (pc + 3) ls ((r u).toList ++ rest))) :
    W p l e R s m args below meth c H locs cells slots Q (F0 m pc ls st0) :=
  cr_I (As := []) ⟨hx, hb, hml, hown, hts⟩ hM ⟨callB_of 0 hts (ck_gd0 kcMo_init) rfl rfl rfl (hts _ knMo) (hts _ kmLa_79) ⟨by decide, by decide, by decide +kernel⟩ hR, rfl, hts _ kiMo_init⟩ hJk hJ hG hA hP hD hS is isR hC hnd hR0 hnR hdis rfl hsize hst hrm hdg hf kk
end MKI
