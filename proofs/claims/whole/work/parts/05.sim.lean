/-! the machine over the pool: Sim, contracts (Spec), entry, return, calls -/
def isNst : Cond → Bool
  | .fieldLinkNest .. => true
  | .methodLinkNest .. => true
  | .arrayOver (.object _) => true
  | _ => false
def lw_all : List Cond := lw_tbl.filter goodWord
def lw_nst : List Cond := lw_tbl.filter isNst
theorem in_all {w : Cond} (i : Nat) (h : lw_tbl[i]? = some w) (g : goodWord w = true) : w ∈ lw_all := List.mem_filter.mpr ⟨List.mem_of_getElem? h, g⟩
theorem in_nst {w : Cond} (i : Nat) (h : lw_tbl[i]? = some w) (g : isNst w = true) : w ∈ lw_nst := List.mem_filter.mpr ⟨List.mem_of_getElem? h, g⟩
theorem nst_warm {s U : State} (hW : s.WarmedH U.vm) (h : ∀ w ∈ lw_nst, va_Nw w s) : ∀ w ∈ lw_nst, va_Nw w U := by
  intro w hw
  have h1 := (List.mem_filter.mp hw).2
  have h2 := h w hw
  unfold isNst at h1
  split at h1
  · exact va_Nw.warmF hW h2
  · exact va_Nw.warmM hW h2
  · exact va_AO.moved hW.alike h2
  · cases h1
theorem nst_same {s U : State} (hv : s.vm = U.vm) (h : ∀ w ∈ lw_nst, va_Nw w s) : ∀ w ∈ lw_nst, va_Nw w U := by
  intro w hw
  have h1 := (List.mem_filter.mp hw).2
  have h2 := h w hw
  unfold isNst at h1
  split at h1
  · exact va_Nw.same rfl hv h2
  · exact va_Nw.same rfl hv h2
  · exact va_AO.moved (by rw [hv]; exact Vm.Alike.refl _) h2
  · cases h1
abbrev tysOf (cy : CY) : List (ClassId × FieldType) := [(cy.1, .int), (cy.2.1, .long), (cy.2.2.1, .boolean), (cy.2.2.2.1, .object RX2), (cy.2.2.2.2, .object RX7)]
/-- name, code, locals, what it returns, room, table -/
abbrev MI : Type := MethodName × ByteArray × Nat × Option FieldType × Room × TB
abbrev MX : Type := Program × Launch × Env × Room × State × MethodId × Array Value × List Frame × Method × Code × (State → Prop) × va_G × CY × (Nat → Prop) × Nat
abbrev PO : Type := Option Value → PS → FI → FJ → FI → FJ → Prop
def Sim (X : MX) (Y : PS) (pc : Nat) (lv : List (Nat × Value)) (st : List Value) (I : FI) (J : FJ) (A : FI) (B : FJ) (k n : Nat) : Prop :=
  match X with
  | (p, l, e, R, s, m, args, below, meth, c, Q, D, cy, A0, nL) => ∀ (H : Heap) (locs : List Loc) (ls : Array Slot), va_P D vwCl (pool cy Y I J A B) H → va_D A0 (pool cy Y I J A B) → va_S A0 s.heap H locs → lv_has ls nL lv → W p l e R s m args below meth c H locs k n Q (F0 m pc ls st)
def Good (X : MX) (M : MI) : Prop :=
  match X with
  | (p, l, e, R, s, m, args, below, meth, c, Q, D, cy, A0, nL) => p.tables.exec = Jvm.exec ∧ c.code = M.2.1 ∧ s.vm.findClass M.1.cls = some m.cls ∧ (∀ w ∈ lw_all, w.before args s = true) ∧ (∀ w ∈ lw_nst, va_Nw w s) ∧ va_K D vwCl (tysOf cy) s ∧ c.maxLocals = M.2.2.1 ∧ nL = M.2.2.1 ∧ (∀ q, s.heap.size ≤ q → A0 q) ∧ tbOk M.2.1 M.2.2.2.2.2 ∧ R = M.2.2.2.2.1
def PreP (D : va_G) (cy : CY) (Y : PS) (I : FI) (J : FJ) (A : FI) (B : FJ) (sz : Nat) (U : State) : Prop := U.heap.size = sz ∧ va_P D vwCl (pool cy Y I J A B) U.heap ∧ va_D (fun _ => True) (pool cy Y I J A B) ∧ va_K D vwCl (tysOf cy) U ∧ ∀ w ∈ lw_nst, va_Nw w U
def QcP (D : va_G) (cy : CY) (A0 : Nat → Prop) (post : PO) : Array Value → State → Outcome → State → Prop := fun _ st oc t => (∃ (v : Option Value) (Y : PS) (I : FI) (J : FJ) (A : FI) (B : FJ), oc = .returned v ∧ post v Y I J A B ∧ va_P D vwCl (pool cy Y I J A B) t.heap ∧ va_D A0 (pool cy Y I J A B)) ∧ va_F A0 st t
/-- the contract: M, called with av where the pool holds Y I J A B, returns, and post holds of what it returns and of the pool then -/
def Spec (M : MI) (av : List Value) (Y : PS) (I : FI) (J : FJ) (A : FI) (B : FJ) (post : PO) : Prop := ∀ (l : Launch) (D : va_G) (cy : CY) (sz : Nat), Met l M.1 (Cond.code M.1 M.2.1 M.2.2.1 M.2.2.2.1 :: lw_all) M.2.2.2.2.1 (va_Pc av (PreP D cy Y I J A B sz)) (QcP D cy (va_A (pool cy Y I J A B) sz) post) M.2.2.2.2.1.cells M.2.2.2.2.1.slots (va_A (pool cy Y I J A B) sz)
def RetOK (M : MI) (pc : Nat) (v : Option Value) : Prop :=
  match v with
  | some (.int x) => fnd M.2.2.2.2.2 pc = some (.ireturn, 1) ∧ ∃ ty, M.2.2.2.1 = some ty ∧ narrow ty (.int x) = .int x
  | some (.long _) => fnd M.2.2.2.2.2 pc = some (.lreturn, 1) ∧ M.2.2.2.1 = some .long
  | some (.float _) => fnd M.2.2.2.2.2 pc = some (.freturn, 1) ∧ M.2.2.2.1 = some .float
  | none => fnd M.2.2.2.2.2 pc = some (.return_, 1) ∧ M.2.2.2.1 = none
  | _ => False
def RT (X : MX) (M : MI) (post : PO) : Prop := ∀ (pc : Nat) (lv : List (Nat × Value)) (v : Option Value) (Y : PS) (I : FI) (J : FJ) (A : FI) (B : FJ) (k n : Nat), RetOK M pc v → k ≤ M.2.2.2.2.1.cells → n ≤ M.2.2.2.2.1.slots → post v Y I J A B → Sim X Y pc lv v.toList I J A B k n
theorem Spec_of {M : MI} {av : List Value} {Y : PS} {I : FI} {J : FJ} {A : FI} {B : FJ} {post : PO} (hy : plainName M.1.cls = true) (htb : tbOk M.2.1 M.2.2.2.2.2) (hn : (lg_sl av).length ≤ M.2.2.1) (body : ∀ X, Good X M → RT X M post → Sim X Y 0 (lv_args 0 av) [] I J A B 0 0) : Spec M av Y I J A B post := by
  intro l D cy sz
  refine Met.ofW (cc := M.2.1) (maxL := M.2.2.1) (ret := M.2.2.2.1) hy rfl ?_
  intro p e s m args below meth c s₁ BB hml hv
  obtain ⟨rfl, hsz, hP, hD0, hK, hns⟩ := hv
  have hx := BB.exec
  have hb := BB.bytes
  have hr := BB.returns
  have hts := atoms_spec (ws := Cond.code M.1 M.2.1 M.2.2.1 M.2.2.2.1 :: lw_all) BB.pre
  have hown : s.vm.findClass M.1.cls = some m.cls := findClass_of_methodNamed BB.named
  have hlocks := BB.notSynchronized
  subst hsz
  have hD := hD0.self (sz := s.heap.size)
  generalize hAe : va_A (pool cy Y I J A B) s.heap.size = A0 at hD ⊢
  have hA : ∀ q : Nat, s.heap.size ≤ q → A0 q := fun q h => by rw [← hAe]; exact Or.inr h
  have hS : va_S A0 s.heap s.heap [] := va_S.rf
  have hl := lv_entry av (n := M.2.2.1) hn
  rw [lg_entry_eq]
  have hg : Good (p, l, e, M.2.2.2.2.1, s, m, av.toArray, below, meth, c, MQ below (QcP D cy A0 post) av.toArray s M.2.2.2.2.1.cells M.2.2.2.2.1.slots A0, D, cy, A0, M.2.2.1) M :=
    ⟨hx, hb, hown, fun w hw => hts w (List.mem_cons_of_mem _ hw), hns, hK, hml, rfl, hA, htb, rfl⟩
  refine body _ hg ?_ s.heap [] _ hP hD hS hl
  intro pc lv v Y' I' J' A' B' k n hro hk hn' hpost H locs ls hP' hD' hS' hl'
  refine W.widen hk hn' ?_
  unfold RetOK at hro
  split at hro
  · rename_i x
    obtain ⟨h1, ty, h2, h3⟩ := hro
    exact W.zret hx hb (hr.trans h2) h3 (fun t ht hW => ⟨⟨_, Y', I', J', A', B', rfl, hpost, by rw [ht]; exact hP', hD'⟩, hS'.F ht⟩) hS'.2.2 (fnd_dec htb h1)
  · exact W.lret hx hb (hr.trans hro.2) (fun t ht hW => ⟨⟨_, Y', I', J', A', B', rfl, hpost, by rw [ht]; exact hP', hD'⟩, hS'.F ht⟩) hS'.2.2 (fnd_dec htb hro.1)
  · exact W.fret hx hb (hr.trans hro.2) (fun t ht hW => ⟨⟨_, Y', I', J', A', B', rfl, hpost, by rw [ht]; exact hP', hD'⟩, hS'.F ht⟩) hS'.2.2 (fnd_dec htb hro.1)
  · exact W.vret hx hb (hr.trans hro.2) (fun t ht hW => ⟨⟨_, Y', I', J', A', B', rfl, hpost, by rw [ht]; exact hP', hD'⟩, hS'.F ht⟩) hS'.2.2 (fnd_dec htb hro.1)
  · exact hro.elim
section Rules
variable {X : MX} {M : MI} {Y : PS} {pc : Nat} {lv : List (Nat × Value)} {st : List Value} {I : FI} {J : FJ} {A : FI} {B : FJ} {kc n : Nat}
theorem S_n (g : Good X M) (k : Nat) {pc' : Nat} {lv' : List (Nat × Value)} {st' : List Value} (h : stpN M.2.2.1 M.2.2.2.2.2 k pc lv st = some (pc', lv', st')) (kk : Sim X Y pc' lv' st' I J A B kc n) : Sim X Y pc lv st I J A B kc n := by
  obtain ⟨p, l, e, R, s, m, args, below, meth, c, Q, D, cy, A0, nL⟩ := X
  obtain ⟨hx, hb, hown, hts, hns, hK, hml, hnl, hA, hok, hR⟩ := g
  intro H locs ls hP hD hS hl
  induction k generalizing pc lv st ls with
  | zero =>
    unfold stpN at h
    cases h
    exact kk H locs ls hP hD hS hl
  | succ k ih =>
    unfold stpN at h
    split at h
    · rename_i i j hf
      split at h
      · rename_i a b d hs
        rw [← hnl] at hs
        exact stp_ok hx hb (fnd_dec hok hf) hs hl (fun ls' hl' => ih h ls' hl')
      · cases h
    · cases h
theorem S_keep (ks : List Nat) {lv' : List (Nat × Value)} (h : lv.filter (fun q => ks.contains q.1) = lv') (kk : Sim X Y pc lv' st I J A B kc n) : Sim X Y pc lv st I J A B kc n := by
  obtain ⟨p, l, e, R, s, m, args, below, meth, c, Q, D, cy, A0, nL⟩ := X
  intro H locs ls hP hD hS hl
  exact kk H locs ls hP hD hS (lv_less hl (fun q hq => by rw [← h] at hq; exact (List.mem_filter.mp hq).1))
theorem S_less {lv' : List (Nat × Value)} (h : ∀ q ∈ lv', q ∈ lv) (kk : Sim X Y pc lv' st I J A B kc n) : Sim X Y pc lv st I J A B kc n := by
  obtain ⟨p, l, e, R, s, m, args, below, meth, c, Q, D, cy, A0, nL⟩ := X
  intro H locs ls hP hD hS hl
  exact kk H locs ls hP hD hS (lv_less hl h)
end Rules
