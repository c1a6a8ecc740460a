/-! THE CLAIM OUT OF ONE WALK OF THE LAW'S BODY. Your part is whole_start (and what it stands on); all else here is the same for every law, but numbers. -/
def R_law : String := "CoverKeysLaw"
def lw_P (b : Addr) (xs : List Int32) (args : Array Value) (s : State) : Prop := args = #[.ref b] ∧ s.IntsAt b xs ∧ xs.length ≤ 4608 ∧ (Jvm.Cond.and given_1 narrow_1).before args s = true
def lw_Q (_ : Array Value) (s : State) (o : Outcome) (t : State) : Prop := o = .returned (some (.int 1)) ∧ Framed s o t [] 601024 7293034
def lw_Z (below : List Frame) (a : Array Value) (s : State) : State → Prop := fun t => ∃ o, t.status = .running ∧ Ended t below o ∧ lw_Q a s o t
/-- the law's own end, with 1 on the stack, nothing written that was there before, its room as the claim has it -/
theorem lw_ret {p : Program} {l : Launch} {e : Env} {s : State} {m : MethodId} {below : List Frame} {meth : Method} {c : Code} {b : Nat} (hx : p.tables.exec = Jvm.exec) (hb : c.code = code) (hr : meth.sig.returnType = ret) (hlocks : meth.locks = false) {pc : Nat} {H : Heap} {ls : Array Slot} (hdg : decode code pc = .ok (.ireturn, 1)) : W p l e room_1 s m #[Value.ref b] below meth c H [] 601024 7293034 (lw_Z below #[Value.ref b] s) (F0 m pc ls [.int 1]) := by
  intro T hT X
  obtain ⟨fs, hret, hrun, hended, hW, hframe⟩ := X.leave (v := some (.int 1)) (hlocks := hlocks) (fun h => by rw [hr] at h; cases h)
  have hmeth' : T.vm.method? m = some meth := X.method'
  refine ⟨T.setFrames fs, ?_, .returned (some (.int 1)), hrun, hended, rfl, ⟨_, rfl⟩, hW, hframe⟩
  jvm_step X.here [X.here.top, hx, hb, hdg, hmeth', hr, ret, narrow_b1]
  (try refine ⟨rfl, ?_⟩); (try refine ⟨rfl, ?_⟩)
  first | (intro acts; rw [hret _ acts rfl rfl rfl]) | rw [hret _ _ rfl rfl rfl]
  exact Steps.refl _
/-- what holds at the law's entry: the machine, the code, the tables' words (any of lw_tbl by 'hts w (by decide +kernel)'), the script of L ints xs at the cell b, what the Statement gives of the start (any of its parts by flat_of_before) -/
def lw_At (p : Program) (s : State) (m : MethodId) (meth : Method) (c : Code) (b L : Nat) (xs : Nat → Int32) : Prop :=
  p.tables.exec = Jvm.exec ∧ c.code = code ∧ meth.sig.returnType = ret ∧ c.maxLocals = 8 ∧ s.vm.findClass R_law = some m.cls ∧ (∀ w ∈ lw_tbl, w.before #[Value.ref b] s = true) ∧ va_X b L xs s s.heap ∧ b < s.heap.size ∧ meth.locks = false ∧ (Jvm.Cond.and given_1 narrow_1).before #[Value.ref b] s = true
/-! the law's world and what ties the two systems -/
def up {α : Type} (f : Nat → α) (c : Nat) (x : α) : Nat → α := fun j => if j = c then x else f j
theorem up_eq {α : Type} (f : Nat → α) (c : Nat) (x : α) : up f c x c = x := if_pos rfl
theorem up_ne {α : Type} (f : Nat → α) {c j : Nat} (x : α) (h : ¬ j = c) : up f c x j = f j := if_neg h
abbrev Dc : Type := Nat × Nat × Nat × Nat × Nat × (Nat → Int32) × (Nat → Int64) × (Nat → Int64)
/-- a decoder's cells -/
abbrev dcC (G : gG) (t : Dc) : va_W := [oC t.2.1 3 [.ref t.2.2.1, .ref t.2.2.2.1, .ref t.2.2.2.2.1], aI G t.2.2.1 4 t.2.2.2.2.2.1, aJ G t.2.2.2.1 4 t.2.2.2.2.2.2.1, aJ G t.2.2.2.2.1 4 t.2.2.2.2.2.2.2]
def decW (G : gG) (T : List Dc) : va_W := T.flatMap (dcC G)
theorem decW_cons (G : gG) (t : Dc) (T : List Dc) : decW G (t :: T) = dcC G t ++ decW G T := rfl
/-- a channel's cells -/
abbrev chB (G : gG) (kk ks kv kw : Nat → Nat) (q sz : Nat → Nat) (ch cl : Nat → Int64) (fs fv fw : Nat → Nat → Int32) (c : Nat) : va_W := [oC (kk c) 0 [.ref (ks c), .ref (kv c), .ref (kw c), .int (nI (q c)), .int (nI (sz c)), .long (ch c), .long (cl c)], aZ G (ks c) 256 (fs c), aI G (kv c) 128 (fv c), aI G (kw c) 128 (fw c)]
abbrev chA (B : Nat → va_W) : va_W := B 0 ++ (B 1 ++ (B 2 ++ B 3))
def chO (B : Nat → va_W) : Nat → va_W
  | 0 => B 1 ++ (B 2 ++ B 3)
  | 1 => B 0 ++ (B 2 ++ B 3)
  | 2 => B 0 ++ (B 1 ++ B 3)
  | _ => B 0 ++ (B 1 ++ B 2)
theorem c4_or {c : Nat} (h : c < 4) : c = 0 ∨ c = 1 ∨ c = 2 ∨ c = 3 := by omega
theorem chA_perm (B : Nat → va_W) {c : Nat} (h : c < 4) : (chA B).Perm (B c ++ chO B c) := by
  rcases c4_or h with rfl | rfl | rfl | rfl
  · exact List.Perm.refl _
  · exact List.perm_append_comm_assoc _ _ _
  · exact ((List.perm_append_comm_assoc (B 1) (B 2) (B 3)).append_left (B 0)).trans (List.perm_append_comm_assoc _ _ _)
  · exact (((List.perm_append_comm).append_left (B 1)).append_left (B 0)).trans (((List.perm_append_comm_assoc (B 1) (B 3) (B 2)).append_left (B 0)).trans (List.perm_append_comm_assoc _ _ _))
theorem chO_cg {B B' : Nat → va_W} {c : Nat} (h : c < 4) (hB : ∀ j, j < 4 → ¬ j = c → B' j = B j) : chO B' c = chO B c := by
  rcases c4_or h with rfl | rfl | rfl | rfl
  · show B' 1 ++ (B' 2 ++ B' 3) = B 1 ++ (B 2 ++ B 3)
    rw [hB 1 (by omega) (by omega), hB 2 (by omega) (by omega), hB 3 (by omega) (by omega)]
  · show B' 0 ++ (B' 2 ++ B' 3) = B 0 ++ (B 2 ++ B 3)
    rw [hB 0 (by omega) (by omega), hB 2 (by omega) (by omega), hB 3 (by omega) (by omega)]
  · show B' 0 ++ (B' 1 ++ B' 3) = B 0 ++ (B 1 ++ B 3)
    rw [hB 0 (by omega) (by omega), hB 1 (by omega) (by omega), hB 3 (by omega) (by omega)]
  · show B' 0 ++ (B' 1 ++ B' 2) = B 0 ++ (B 1 ++ B 2)
    rw [hB 0 (by omega) (by omega), hB 1 (by omega) (by omega), hB 2 (by omega) (by omega)]
theorem P_perm {D : va_G} {cl : List vw_C} {ws ws' : va_W} {H : Heap} (h : ws.Perm ws') (hP : va_P D cl ws H) : va_P D cl ws' H := fun k q hk => by
  obtain ⟨j, hj⟩ := List.getElem?_of_mem (h.mem_iff.mpr (List.mem_of_getElem? hk))
  exact hP j q hj
theorem D_pw {A : Nat → Prop} {ws : va_W} : va_D A ws ↔ (ws.Pairwise (fun a b => a.1 ≠ b.1) ∧ ∀ q ∈ ws, A q.1) := by
  constructor
  · intro h
    refine ⟨List.pairwise_iff_getElem.mpr (fun i j hi hj hij z => ?_), fun q hq => ?_⟩
    · have := h.1 i j _ _ (List.getElem?_eq_getElem hi) (List.getElem?_eq_getElem hj) z
      omega
    · obtain ⟨k, hk⟩ := List.getElem?_of_mem hq
      exact h.2 k q hk
  · rintro ⟨h1, h2⟩
    have h1 := List.pairwise_iff_getElem.mp h1
    refine ⟨fun i j x y hx hy hxy => ?_, fun k q hk => h2 q (List.mem_of_getElem? hk)⟩
    obtain ⟨hi, rfl⟩ := List.getElem?_eq_some_iff.mp hx
    obtain ⟨hj, rfl⟩ := List.getElem?_eq_some_iff.mp hy
    rcases Nat.lt_trichotomy i j with z | z | z
    · exact absurd hxy (h1 i j hi hj z)
    · exact z
    · exact absurd hxy.symm (h1 j i hj hi z)
theorem D_perm {A : Nat → Prop} {ws ws' : va_W} (h : ws.Perm ws') (hD : va_D A ws) : va_D A ws' := by
  obtain ⟨h1, h2⟩ := D_pw.mp hD
  exact D_pw.mpr ⟨(h.pairwise_iff (fun z => fun w => z w.symm)).mp h1, fun q hq => h2 q (h.mem_iff.mpr hq)⟩
/-- channel c by itself, and back -/
theorem pmB (X : va_W) (B : Nat → va_W) (tl : va_W) {c : Nat} (h : c < 4) : (X ++ (chA B ++ tl)).Perm ((X ++ B c) ++ (chO B c ++ tl)) := by
  have e : (X ++ B c) ++ (chO B c ++ tl) = X ++ ((B c ++ chO B c) ++ tl) := by rw [List.append_assoc, List.append_assoc]
  rw [e]
  exact ((chA_perm B h).append_right tl).append_left X
theorem pmB' (X : va_W) {B B' : Nat → va_W} (tl : va_W) {c : Nat} (h : c < 4) (hB : ∀ j, j < 4 → ¬ j = c → B' j = B j) : ((X ++ B' c) ++ (chO B c ++ tl)).Perm (X ++ (chA B' ++ tl)) := by
  rw [← chO_cg h hB]
  exact (pmB X B' tl h).symm
/-- a decoder by itself, and back -/
theorem pmD (X : va_W) (G : gG) (C : va_W) {T T' : List Dc} {t : Dc} (h : T.Perm (t :: T')) : (X ++ (C ++ decW G T)).Perm ((X ++ dcC G t) ++ (C ++ decW G T')) := by
  rw [List.append_assoc X]
  refine List.Perm.append_left X ?_
  refine ((h.flatMap_right (dcC G)).append_left C).trans ?_
  show (C ++ (dcC G t ++ decW G T')).Perm (dcC G t ++ (C ++ decW G T'))
  exact List.perm_append_comm_assoc _ _ _
theorem pmD' (X : va_W) (G : gG) (C : va_W) (t : Dc) (T' : List Dc) : ((X ++ dcC G t) ++ (C ++ decW G T')).Perm (X ++ (C ++ decW G (t :: T'))) := (pmD X G C (List.Perm.refl (t :: T'))).symm
def chR (dp : Nat) (q sz : Nat → Nat) (ch cl : Nat → Int64) (fv fw : Nat → Nat → Int32) (per ss : Nat → Int32) (ph pl : Nat → Int64) (sv sw : Nat → Int32) : Prop :=
  ∀ c, c < 4 → per c = nI (q c) ∧ q c ≤ 999 ∧ ss c = nI (sz c) ∧ sz c ≤ 128 ∧ ph c = ch c ∧ pl c = cl c ∧ ∀ k, k < sz c → (sv (256 * c + k) = fv c k ∧ sw (256 * c + k) = fw c k) ∧ jSub dp (fv c k) (fw c k) = true
theorem chR_begin {dp dp' : Nat} {q sz : Nat → Nat} {ch cl : Nat → Int64} {fv fw : Nat → Nat → Int32} {per ss : Nat → Int32} {ph pl : Nat → Int64} {sv sw : Nat → Int32} (h : chR dp q sz ch cl fv fw per ss ph pl sv sw) : chR dp' (fun _ => 0) (fun _ => 0) ch cl fv fw (fun _ => nI 0) (fun _ => nI 0) ph pl sv sw := by
  intro c hc
  obtain ⟨_, _, _, _, h5, h6, _⟩ := h c hc
  exact ⟨rfl, Nat.zero_le _, rfl, Nat.zero_le _, h5, h6, fun k hk => absurd hk (Nat.not_lt_zero _)⟩
theorem chR_period {dp : Nat} {q sz : Nat → Nat} {ch cl : Nat → Int64} {fv fw : Nat → Nat → Int32} {per ss : Nat → Int32} {ph pl : Nat → Int64} {sv sw sv1 sw1 : Nat → Int32} (h : chR dp q sz ch cl fv fw per ss ph pl sv sw) {c4 : Nat} (hc4 : c4 < 4) (hq : q c4 < 999) {C : Cv} (hC : cvR c4 sv sw sv1 sw1 C C.1) (hs : ∀ k, k < C.1 → jSub dp (C.2.1 k) (C.2.2 k) = true) (kh kl : Int64) :
    chR dp (up q c4 (q c4 + 1)) (up sz c4 C.1) (up ch c4 kh) (up cl c4 kl) (up fv c4 C.2.1) (up fw c4 C.2.2) (upd per c4 (nI (q c4 + 1))) (upd ss c4 (nI C.1)) (vp_updL ph c4 kh) (vp_updL pl c4 kl) sv1 sw1 := by
  intro c hc
  obtain ⟨_, c2, c3, c5⟩ := hC
  by_cases e : c = c4
  · subst e
    rw [up_eq, up_eq, up_eq, up_eq, up_eq, up_eq]
    refine ⟨if_pos rfl, by omega, if_pos rfl, c2, if_pos rfl, if_pos rfl, fun k hk => ⟨c3 k hk, hs k hk⟩⟩
  · obtain ⟨h1, h2, h3, h4, h5, h6, h7⟩ := h c hc
    rw [up_ne _ _ e, up_ne _ _ e, up_ne _ _ e, up_ne _ _ e, up_ne _ _ e, up_ne _ _ e]
    refine ⟨(if_neg e).trans h1, h2, (if_neg e).trans h3, h4, (if_neg e).trans h5, (if_neg e).trans h6, fun k hk => ?_⟩
    obtain ⟨⟨a, b⟩, d⟩ := h7 k hk
    obtain ⟨x, y⟩ := c5 (256 * c + k) (by omega)
    exact ⟨⟨x.trans a, y.trans b⟩, d⟩
def sbR (sb : Nat → Int32) (fs : Nat → Nat → Int32) : Prop := ∀ c, c < 4 → ∀ j, j < 256 → sb (256 * c + j) = fs c j
theorem sbR_upd {sb : Nat → Int32} {fs : Nat → Nat → Int32} (h : sbR sb fs) {c4 dd : Nat} (hd : dd < 256) (x : Int32) : sbR (upd sb (256 * c4 + dd) x) (up fs c4 (upd (fs c4) dd x)) := by
  intro c hc j hj
  by_cases e : c = c4
  · subst e
    rw [up_eq]
    unfold upd
    by_cases ej : j = dd
    · rw [if_pos (by omega), if_pos ej]
    · rw [if_neg (by omega), if_neg ej]
      exact h c hc j hj
  · rw [up_ne _ _ e]
    unfold upd
    rw [if_neg (by omega)]
    exact h c hc j hj
def deR (dec : Nat → Option Nat) (T : List Dc) (ins hp : Nat → Int32) (hh hl : Nat → Int64) : Prop :=
  (∀ d, d < 256 → (dec d = none ↔ ins d = 0)) ∧ (∀ d, d < 256 → dec d = none → ∀ c, c < 4 → hp (256 * c + d) = -1) ∧ (∀ d od, d < 256 → dec d = some od → ∃ t ∈ T, t.1 = d ∧ t.2.1 = od) ∧
  (∀ t ∈ T, t.1 < 256 ∧ dec t.1 = some t.2.1 ∧ ∀ c, c < 4 → t.2.2.2.2.2.1 c = hp (256 * c + t.1) ∧ (hp (256 * c + t.1) = -1 ∨ (¬ hp (256 * c + t.1) < 0 ∧ t.2.2.2.2.2.2.1 c = hh (256 * c + t.1) ∧ t.2.2.2.2.2.2.2 c = hl (256 * c + t.1)))) ∧
  T.Pairwise (fun a b => a.1 ≠ b.1)
theorem deR_begin (hh hl : Nat → Int64) : deR (fun _ => none) [] (fun _ => nI 0) (fun _ => -1) hh hl :=
  ⟨fun _ _ => ⟨fun _ => rfl, fun _ => rfl⟩, fun _ _ _ _ _ => rfl, fun _ _ _ h => (by cases h), fun _ h => (by cases h), List.Pairwise.nil⟩
theorem deR_perm {dec : Nat → Option Nat} {T T' : List Dc} {ins hp : Nat → Int32} {hh hl : Nat → Int64} (p : T.Perm T') (h : deR dec T ins hp hh hl) : deR dec T' ins hp hh hl := by
  obtain ⟨h1, h2, h3, h4, h5⟩ := h
  refine ⟨h1, h2, fun d od hd ho => ?_, fun t ht => h4 t (p.mem_iff.mpr ht), (p.pairwise_iff (fun z => fun w => z w.symm)).mp h5⟩
  obtain ⟨t, ht, z⟩ := h3 d od hd ho
  exact ⟨t, p.mem_iff.mp ht, z⟩
theorem deR_sel {dec : Nat → Option Nat} {T : List Dc} {ins hp : Nat → Int32} {hh hl : Nat → Int64} (h : deR dec T ins hp hh hl) {dd od : Nat} (hd : dd < 256) (ho : dec dd = some od) : ∃ (dq dh dl : Nat) (pf : Nat → Int32) (hf lf : Nat → Int64) (T' : List Dc), T.Perm ((dd, od, dq, dh, dl, pf, hf, lf) :: T') := by
  obtain ⟨⟨d, o, dq, dh, dl, pf, hf, lf⟩, ht, z1, z2⟩ := h.2.2.1 dd od hd ho
  dsimp only at z1 z2
  subst z1; subst z2
  obtain ⟨a, b, e⟩ := List.append_of_mem ht
  exact ⟨dq, dh, dl, pf, hf, lf, a ++ b, by rw [e]; exact List.perm_middle⟩
theorem deR_install {dec : Nat → Option Nat} {T : List Dc} {ins hp : Nat → Int32} {hh hl : Nat → Int64} (h : deR dec T ins hp hh hl) {dd : Nat} (hd : dd < 256) (ho : dec dd = none) (od dq dh dl : Nat) (hf lf : Nat → Int64) : deR (va_up dec dd (some od)) ((dd, od, dq, dh, dl, (fun _ => -1), hf, lf) :: T) (upd ins dd (nI 1)) hp hh hl := by
  obtain ⟨h1, h2, h3, h4, h5⟩ := h
  have e1 : ∀ d, d = dd → va_up dec dd (some od) d = some od := fun d e => if_pos e
  have e2 : ∀ d, ¬ d = dd → va_up dec dd (some od) d = dec d := fun d e => if_neg e
  have ne : ∀ t ∈ T, ¬ t.1 = dd := fun t ht z => by have := (h4 t ht).2.1; rw [z, ho] at this; cases this
  refine ⟨fun d hd' => ?_, fun d hd' hn => ?_, fun d o hd' hs => ?_, fun t ht => ?_, List.pairwise_cons.mpr ⟨fun t ht z => ne t ht z.symm, h5⟩⟩
  · unfold upd
    by_cases e : d = dd
    · rw [e1 d e, if_pos e]
      exact ⟨fun z => (by cases z), fun z => absurd z (by decide)⟩
    · rw [e2 d e, if_neg e]
      exact h1 d hd'
  · by_cases e : d = dd
    · rw [e1 d e] at hn; cases hn
    · rw [e2 d e] at hn
      exact h2 d hd' hn
  · by_cases e : d = dd
    · rw [e1 d e] at hs
      exact ⟨_, List.mem_cons_self, e.symm, Option.some.inj hs⟩
    · rw [e2 d e] at hs
      obtain ⟨t, ht, z⟩ := h3 d o hd' hs
      exact ⟨t, List.mem_cons_of_mem _ ht, z⟩
  · rcases List.mem_cons.mp ht with rfl | ht
    · exact ⟨hd, e1 dd rfl, fun c hc => ⟨(h2 dd hd ho c hc).symm, Or.inl (h2 dd hd ho c hc)⟩⟩
    · obtain ⟨a, b, c⟩ := h4 t ht
      exact ⟨a, by rw [e2 _ (ne t ht)]; exact b, c⟩
theorem deR_hear {dec : Nat → Option Nat} {T : List Dc} {ins hp : Nat → Int32} {hh hl : Nat → Int64} {dd od dq dh dl : Nat} {pf : Nat → Int32} {hf lf : Nat → Int64} (h : deR dec ((dd, od, dq, dh, dl, pf, hf, lf) :: T) ins hp hh hl) {c4 : Nat} (hc4 : c4 < 4) (o : Option (Int64 × Int64)) {x : Int32} (hx : ¬ x < 0) :
    deR dec ((dd, od, dq, dh, dl, jKp o pf c4 x, jKh o hf c4, jKl o lf c4) :: T) ins (jKp o hp (256 * c4 + dd) x) (jKh o hh (256 * c4 + dd)) (jKl o hl (256 * c4 + dd)) := by
  cases o with
  | none => exact h
  | some kq =>
    obtain ⟨h1, h2, h3, h4, h5⟩ := h
    obtain ⟨hd, hdd, hc0⟩ := h4 _ List.mem_cons_self
    dsimp only at hd hdd hc0
    obtain ⟨n5, p5⟩ := List.pairwise_cons.mp h5
    refine ⟨h1, fun d hd' hn c hc => ?_, fun d o' hd' hs => ?_, fun t ht => ?_, List.pairwise_cons.mpr ⟨n5, p5⟩⟩
    · have e : ¬ d = dd := fun z => by rw [z, hdd] at hn; cases hn
      show upd hp (256 * c4 + dd) x (256 * c + d) = -1
      unfold upd
      rw [if_neg (by omega)]
      exact h2 d hd' hn c hc
    · obtain ⟨t, ht, z1, z2⟩ := h3 d o' hd' hs
      rcases List.mem_cons.mp ht with rfl | ht
      · exact ⟨_, List.mem_cons_self, z1, z2⟩
      · exact ⟨t, List.mem_cons_of_mem _ ht, z1, z2⟩
    · rcases List.mem_cons.mp ht with rfl | ht
      · refine ⟨hd, hdd, fun c hc => ?_⟩
        obtain ⟨a, b⟩ := hc0 c hc
        show upd pf c4 x c = upd hp (256 * c4 + dd) x (256 * c + dd) ∧ (upd hp (256 * c4 + dd) x (256 * c + dd) = -1 ∨ (¬ upd hp (256 * c4 + dd) x (256 * c + dd) < 0 ∧ vp_updL hf c4 kq.1 c = vp_updL hh (256 * c4 + dd) kq.1 (256 * c + dd) ∧ vp_updL lf c4 kq.2 c = vp_updL hl (256 * c4 + dd) kq.2 (256 * c + dd)))
        unfold upd vp_updL
        by_cases e : c = c4
        · rw [if_pos e, if_pos (by omega), if_pos e, if_pos e, if_pos (by omega), if_pos (by omega)]
          exact ⟨rfl, Or.inr ⟨hx, rfl, rfl⟩⟩
        · rw [if_neg e, if_neg (by omega), if_neg e, if_neg e, if_neg (by omega), if_neg (by omega)]
          exact ⟨a, b⟩
      · obtain ⟨a, b, g⟩ := h4 t (List.mem_cons_of_mem _ ht)
        have e : ¬ t.1 = dd := fun z => n5 t ht z.symm
        refine ⟨a, b, fun c hc => ?_⟩
        show t.2.2.2.2.2.1 c = upd hp (256 * c4 + dd) x (256 * c + t.1) ∧ (upd hp (256 * c4 + dd) x (256 * c + t.1) = -1 ∨ (¬ upd hp (256 * c4 + dd) x (256 * c + t.1) < 0 ∧ t.2.2.2.2.2.2.1 c = vp_updL hh (256 * c4 + dd) kq.1 (256 * c + t.1) ∧ t.2.2.2.2.2.2.2 c = vp_updL hl (256 * c4 + dd) kq.2 (256 * c + t.1)))
        unfold upd vp_updL
        rw [if_neg (by omega), if_neg (by omega), if_neg (by omega)]
        exact g c hc
def aiR (nq : Nat) (f : Nat → Int32) : Prop := by8 f ∧ (nq = 0 ∨ ∃ m, m ≤ 8 ∧ nq = 5 + 28 * m)
theorem aiR_le {nq : Nat} {f : Nat → Int32} (h : aiR nq f) : nq ≤ 229 := by
  rcases h.2 with z | ⟨m, h1, h2⟩ <;> omega
def jLL (x y : Int32) : Int64 := lsh x.toInt64 (nI 32) ||| (y.toInt64 &&& lN 4294967295)
section LW1
variable {p : Program} {l : Launch} {e : Env} {R : Room} {s : State} {m : MethodId} {args : Array Value} {below : List Frame} {meth : Method} {c : Code} {H : Heap} {locs : List Loc} {cells slots : Nat} {Q : State → Prop}
variable {cc : ByteArray} {pc : Nat} {ls : Array Slot} {rest : List Value} {A : Nat → Prop}
theorem ck_sld {b L : Nat} {xs : Nat → Int32} (hx : p.tables.exec = Jvm.exec) (hb : c.code = cc) (hX : va_X b L xs s s.heap) (hbl : b < s.heap.size) (hbA : ¬ A b) (hS : va_S A s.heap H locs) {i : Int32} (k : Nat) (hi : i = nI k) (hk : k < L) (hL : L < 2 ^ 31) {y : Int32} (hy : xs k = y) (hdg : decode cc pc = .ok (.iaload, 1))
    (kk : W p l e R s m args below meth c H locs cells slots Q (F0 m (pc + 1) ls (.int y :: rest))) : W p l e R s m args below meth c H locs cells slots Q (F0 m pc ls (.int i :: .ref b :: rest)) := by
  obtain ⟨h1, h2⟩ := ck_vin hi hk hL
  exact va_sld hx hb hX hbl hbA hS h1 hdg (by rw [h2, hy]; exact kk)
end LW1
