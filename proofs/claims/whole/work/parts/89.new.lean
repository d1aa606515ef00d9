/-! allocation: a place is added to the pool -/
def newY (Y : PS) (i q c : Nat) : PS := (va_up Y.1 i q, va_up Y.2.1 i c, Y.2.2.1, va_up Y.2.2.2.1 i (fun _ => none), va_up Y.2.2.2.2 i (fun _ => none))
/-- place i is free, and nothing points to it -/
def frY (Y : PS) (i : Nat) : Prop := i < 600 ∧ ¬ Y.2.1 i < 15 ∧ ∀ j, Y.2.1 j < 15 → (∀ k, Y.2.2.2.1 j k ≠ some i) ∧ ∀ k, Y.2.2.2.2 j k ≠ some i
theorem map_ne {ad : Nat → Nat} {o : Option Nat} {i q : Nat} (h : o ≠ some i) : o.map (va_up ad i q) = o.map ad := by
  cases o with
  | none => rfl
  | some j => show some (va_up ad i q j) = some (ad j); rw [va_up_ne _ _ (fun e => h (by rw [e]))]
theorem cel_new {cy : CY} {Y : PS} {I I' : FI} {J J' : FJ} {A A' : FI} {B B' : FJ} {i q c j : Nat} (hf : frY Y i) (hj : j ≠ i) (hK : Y.2.1 j < 15) (eI : I' j = I j) (eJ : J' j = J j) (eA : A' j = A j) (eB : B' j = B j) : cel cy (newY Y i q c) I' J' A' B' j = cel cy Y I J A B j := by
  have hp := hf.2.2 j hK
  have k1 : (newY Y i q c).2.1 j = Y.2.1 j := va_up_ne _ _ hj
  have k4 : ∀ k, ((newY Y i q c).2.2.2.1 j k).map (newY Y i q c).1 = (Y.2.2.2.1 j k).map Y.1 := fun k => by
    show (va_up Y.2.2.2.1 i (fun _ => none) j k).map (va_up Y.1 i q) = _
    rw [va_up_ne _ _ hj, map_ne (hp.1 k)]
  have k5 : ∀ k, ((newY Y i q c).2.2.2.2 j k).map (newY Y i q c).1 = (Y.2.2.2.2 j k).map Y.1 := fun k => by
    show (va_up Y.2.2.2.2 i (fun _ => none) j k).map (va_up Y.1 i q) = _
    rw [va_up_ne _ _ hj, map_ne (hp.2 k)]
  have kf : fcl (newY Y i q c).1 (newY Y i q c).2.2.2.1 I' J' j = fcl Y.1 Y.2.2.2.1 I J j := by
    funext k kd
    unfold fcl
    rw [k4, eI, eJ]
  unfold cel
  rw [k1, eA, eB, kf, show (newY Y i q c).2.2.1 = Y.2.2.1 from rfl, show (fun k => ((newY Y i q c).2.2.2.2 j k).map (newY Y i q c).1) = fun k => (Y.2.2.2.2 j k).map Y.1 from funext k5]
theorem lst_inj {K : Nat → Nat} {a b i : Nat} (h1 : (lst K)[a]? = some i) (h2 : (lst K)[b]? = some i) : a = b := by
  have nd : (lst K).Nodup := List.Pairwise.filter _ List.nodup_range
  exact (List.getElem?_inj (List.getElem?_eq_some_iff.mp h1).1 nd).mp (h1.trans h2.symm)
theorem pool_mem {cy : CY} {Y : PS} {I : FI} {J : FJ} {A : FI} {B : FJ} {k : Nat} {x : Nat × va_E} (h : (pool cy Y I J A B)[k]? = some x) : ∃ j, (lst Y.2.1)[k]? = some j ∧ x = (Y.1 j, cel cy Y I J A B j) := by
  unfold pool at h
  rw [List.getElem?_map] at h
  cases hb : (lst Y.2.1)[k]? with
  | none => rw [hb] at h; cases h
  | some j => rw [hb] at h; exact ⟨j, rfl, (Option.some.inj h).symm⟩
theorem pool_new {A0 : Nat → Prop} {D : va_G} {H : Heap} {cy : CY} {Y : PS} {I I' : FI} {J J' : FJ} {A A' : FI} {B B' : FJ} {i q c : Nat} {e : va_E} (hcel : ∀ j, j ≠ i → Y.2.1 j < 15 → cel cy (newY Y i q c) I' J' A' B' j = cel cy Y I J A B j) (he : cel cy (newY Y i q c) I' J' A' B' i = e) (hP : va_P D vwCl (pool cy Y I J A B ++ [(q, e)]) H) (hD : va_D A0 (pool cy Y I J A B ++ [(q, e)])) : va_P D vwCl (pool cy (newY Y i q c) I' J' A' B') H ∧ va_D A0 (pool cy (newY Y i q c) I' J' A' B') := by
  have key : ∀ (k : Nat) (x : Nat × va_E), (pool cy (newY Y i q c) I' J' A' B')[k]? = some x → ∃ (j k' : Nat), (lst (newY Y i q c).2.1)[k]? = some j ∧ (pool cy Y I J A B ++ [(q, e)])[k']? = some x ∧ ((j = i ∧ k' = (pool cy Y I J A B).length) ∨ (j ≠ i ∧ k' < (pool cy Y I J A B).length ∧ (lst Y.2.1)[k']? = some j)) := by
    intro k x h
    obtain ⟨j, hj, rfl⟩ := pool_mem h
    by_cases e0 : j = i
    · subst e0
      refine ⟨j, _, hj, ?_, Or.inl ⟨rfl, rfl⟩⟩
      rw [List.getElem?_append_right (Nat.le_refl _), Nat.sub_self, he]
      show some (q, e) = some (va_up Y.1 j q j, e)
      rw [va_up_self]
    · have hlt := lst_in (List.mem_of_getElem? hj)
      have hK : Y.2.1 j < 15 := by
        have := hlt.1
        rw [show (newY Y i q c).2.1 j = Y.2.1 j from va_up_ne _ _ e0] at this
        exact this
      obtain ⟨k', hk'⟩ := lst_at hK hlt.2
      have hg := pool_get (cy := cy) (Y := Y) (I := I) (J := J) (A := A) (B := B) hk'
      have hl := (List.getElem?_eq_some_iff.mp hg).1
      refine ⟨j, k', hj, ?_, Or.inr ⟨e0, hl, hk'⟩⟩
      rw [List.getElem?_append_left hl, hg, hcel j e0 hK, show (newY Y i q c).1 j = Y.1 j from va_up_ne _ _ e0]
  refine ⟨fun k x h => ?_, fun a b x y ha hb hxy => ?_, fun k x h => ?_⟩
  · obtain ⟨j, k', _, h2, _⟩ := key k x h
    exact hP k' x h2
  · obtain ⟨ja, ka, a1, a2, a3⟩ := key a x ha
    obtain ⟨jb, kb, b1, b2, b3⟩ := key b y hb
    have hk := hD.1 ka kb x y a2 b2 hxy
    have : ja = jb := by
      rcases a3 with ⟨a3, a4⟩ | ⟨a3, a4, a5⟩
      · rcases b3 with ⟨b3, _⟩ | ⟨_, b4, _⟩
        · rw [a3, b3]
        · omega
      · rcases b3 with ⟨_, b4⟩ | ⟨_, _, b5⟩
        · omega
        · rw [hk] at a5; exact Option.some.inj (a5.symm.trans b5)
    rw [this] at a1
    exact lst_inj a1 b1
  · obtain ⟨j, k', _, h2, _⟩ := key k x h
    exact hD.2 k' x h2
/-- the fields of a new object -/
def dfl (c : Nat) : List Value := (fkd c).map (fun kd => if kd = 1 then .long 0 else if kd = 2 then .null else .int 0)
theorem dfl_eq {ad : Nat → Nat} {P : FP'} {I : FI} {J : FJ} {i c : Nat} (hP : P i = fun _ => none) (hI : I i = fun _ => 0) (hJ : J i = fun _ => 0) : (fkd c).mapIdx (fcl ad P I J i) = dfl c := by
  apply List.ext_getElem?
  intro k
  unfold dfl
  rw [List.getElem?_mapIdx, List.getElem?_map]
  cases (fkd c)[k]? with
  | none => rfl
  | some kd =>
    show some (fcl ad P I J i k kd) = some _
    unfold fcl
    rw [hP, hI, hJ]
    rfl
/-- the words that a new object of class c needs at index idx of class own's pool -/
def NWp (own : String) (idx c : Nat) : Prop := ∃ (C : String) (T : u_T) (N : Nat) (ty : Nat → FieldType), vwCl[c]? = some (C, T, N) ∧ (∀ w ∈ u_ws C T N, w ∈ lw_all) ∧ (∀ k, k < N → parseFieldDescriptor (T k).2.2.1 = some (ty k)) ∧ Cond.classLink own idx C ∈ lw_all ∧ Cond.instantiable C N ∈ lw_all ∧ Cond.initialized C ∈ lw_all ∧ N = (fkd c).length ∧ ∀ j, j < N → defaultValue (ty j) = vp_V (dfl c) j
/-- as FWp, of a final field, in the class' own constructor -/
def FXp (own : String) (idx c k : Nat) (ty : FieldType) : Prop := ∃ (C : String) (T : u_T) (N : Nat) (ty0 : Nat → FieldType), vwCl[c]? = some (C, T, N) ∧ k < N ∧ (T k).1 = C ∧ (∀ w ∈ u_ws C T N, w ∈ lw_all) ∧ (∀ j, j < N → parseFieldDescriptor (T j).2.2.1 = some (ty0 j)) ∧ (∀ a, a < N → ∀ b, b < N → a ≠ b → (T a).2.1 ≠ (T b).2.1) ∧ (T k).2.2.2 = true ∧ C = own ∧ parseFieldDescriptor (T k).2.2.1 = some ty ∧ Cond.fieldLink own idx C (T k).2.1 (T k).2.2.1 ∈ lw_all
/-- the method is a constructor -/
def Nm (X : MX) : Prop := match X with
  | (_, _, _, _, _, _, _, _, meth, _, _, _, _, _, _) => meth.name = "<init>"
section New
variable {X : MX} {M M2 : MI} {Y : PS} {pc : Nat} {lv : List (Nat × Value)} {st : List Value} {I : FI} {J : FJ} {A : FI} {B : FJ} {kc n : Nat}
theorem S_newO (g : Good X M) {i c idx : Nat} (hf : frY Y i) (hc : c < 10) (nw : NWp M.1.cls idx c) (h1 : kc + 1 ≤ M.2.2.2.2.1.cells) (h2 : n + (fkd c).length ≤ M.2.2.2.2.1.slots) (hd : fnd M.2.2.2.2.2 pc = some (.new idx, 3)) (kk : ∀ q, Sim X (newY Y i q c) (pc + 3) lv (.ref q :: st) (va_up I i (fun _ => 0)) (va_up J i (fun _ => 0)) A B (kc + 1) (n + (fkd c).length)) : Sim X Y pc lv st I J A B kc n := by
  obtain ⟨p, l, e, R, s, m, args, below, meth, cod, Q, D, cy, A0, nL⟩ := X
  obtain ⟨hx, hb, hown, hts, hns, hK, hml, hnl, hA, hok, hR⟩ := g
  intro H locs ls hP hD hS hl
  obtain ⟨C, T, N, ty, hcl, hws, hty, w1, w2, w3, rfl, hdf⟩ := nw
  subst hR
  refine va_new hx hb hts hws ty hty hown (hts _ w1) (hts _ w2) (hts _ w3) hK hP hD hS hA hcl hdf h1 h2 (fnd_dec hok hd) (fun q H1 hP1 hD1 hS1 => ?_)
  obtain ⟨p1, p2⟩ := pool_new (Y := Y) (i := i) (c := c) (I' := va_up I i (fun _ => 0)) (J' := va_up J i (fun _ => 0)) (A' := A) (B' := B) (fun j hj hKj => cel_new hf hj hKj (va_up_ne _ _ hj) (va_up_ne _ _ hj) rfl rfl) (by
    rw [cel_o (show (newY Y i q c).2.1 i = c from va_up_self _ _ _) hc]
    exact congrArg (fun z => Sum.inr (c, z)) (dfl_eq (va_up_self _ _ _) (va_up_self _ _ _) (va_up_self _ _ _))) hP1 hD1
  exact kk q H1 locs ls p1 p2 hS1 hl
theorem S_newI (g : Good X M) {i N : Nat} {x : Int32} (hf : frY Y i) (hw : Cond.arrayClass .int ∈ lw_all) (hn : ¬ x < 0) (hN : x.toNatClampNeg = N) (hY : Y.2.2.1 i = N) (hbt : N * 4 ≤ 536870912) (h1 : kc + 1 ≤ M.2.2.2.2.1.cells) (h2 : n + N ≤ M.2.2.2.2.1.slots) (hd : fnd M.2.2.2.2.2 pc = some (.newarray .int, 2)) (kk : ∀ q, Sim X (newY Y i q 10) (pc + 2) lv (.ref q :: st) I J (va_up A i (fun _ => 0)) B (kc + 1) (n + N)) : Sim X Y pc lv (.int x :: st) I J A B kc n := by
  obtain ⟨p, l, e, R, s, m, args, below, meth, cod, Q, D, cy, A0, nL⟩ := X
  obtain ⟨hx, hb, hown, hts, hns, hK, hml, hnl, hA, hok, hR⟩ := g
  intro H locs ls hP hD hS hl
  subst hR
  refine va_newa (atype := .int) (a0 := (N, .inl (fun _ => 0))) (ty := .int) hx hb (hts _ hw) rfl hK hP hD hS hA (fun _ => rfl) hn hN hbt h1 h2 (fnd_dec hok hd) (fun q cA H1 hK1 hP1 hD1 hS1 => ?_)
  have e1 : cA = cy.1 := Option.some.inj (((hK1.2 5 (cA, .int) rfl).2 : s.vm.findClass _ = some cA).symm.trans ((hK.2 0 (cy.1, .int) rfl).2 : s.vm.findClass _ = some cy.1))
  subst e1
  obtain ⟨p1, p2⟩ := pool_new (Y := Y) (i := i) (c := 10) (I' := I) (J' := J) (A' := va_up A i (fun _ => 0)) (B' := B) (fun j hj hKj => cel_new hf hj hKj rfl rfl (va_up_ne _ _ hj) rfl) (by
    rw [cel_10 (show (newY Y i q 10).2.1 i = 10 from va_up_self _ _ _), va_up_self, show (newY Y i q 10).2.2.1 i = N from hY]) hP1 hD1
  exact kk q H1 locs ls p1 p2 hS1 hl
theorem S_newL (g : Good X M) {i N : Nat} {x : Int32} (hf : frY Y i) (hw : Cond.arrayClass .long ∈ lw_all) (hn : ¬ x < 0) (hN : x.toNatClampNeg = N) (hY : Y.2.2.1 i = N) (hbt : N * 8 ≤ 536870912) (h1 : kc + 1 ≤ M.2.2.2.2.1.cells) (h2 : n + N ≤ M.2.2.2.2.1.slots) (hd : fnd M.2.2.2.2.2 pc = some (.newarray .long, 2)) (kk : ∀ q, Sim X (newY Y i q 11) (pc + 2) lv (.ref q :: st) I J A (va_up B i (fun _ => 0)) (kc + 1) (n + N)) : Sim X Y pc lv (.int x :: st) I J A B kc n := by
  obtain ⟨p, l, e, R, s, m, args, below, meth, cod, Q, D, cy, A0, nL⟩ := X
  obtain ⟨hx, hb, hown, hts, hns, hK, hml, hnl, hA, hok, hR⟩ := g
  intro H locs ls hP hD hS hl
  subst hR
  refine va_newa (atype := .long) (a0 := (N, .inr (.inl (fun _ => 0)))) (ty := .long) hx hb (hts _ hw) rfl hK hP hD hS hA (fun _ => rfl) hn hN hbt h1 h2 (fnd_dec hok hd) (fun q cA H1 hK1 hP1 hD1 hS1 => ?_)
  have e1 : cA = cy.2.1 := Option.some.inj (((hK1.2 5 (cA, .long) rfl).2 : s.vm.findClass _ = some cA).symm.trans ((hK.2 1 (cy.2.1, .long) rfl).2 : s.vm.findClass _ = some cy.2.1))
  subst e1
  obtain ⟨p1, p2⟩ := pool_new (Y := Y) (i := i) (c := 11) (I' := I) (J' := J) (A' := A) (B' := va_up B i (fun _ => 0)) (fun j hj hKj => cel_new hf hj hKj rfl rfl rfl (va_up_ne _ _ hj)) (by
    rw [cel_11 (show (newY Y i q 11).2.1 i = 11 from va_up_self _ _ _), va_up_self, show (newY Y i q 11).2.2.1 i = N from hY]) hP1 hD1
  exact kk q H1 locs ls p1 p2 hS1 hl
theorem S_newZ (g : Good X M) {i N : Nat} {x : Int32} (hf : frY Y i) (hw : Cond.arrayClass .boolean ∈ lw_all) (hn : ¬ x < 0) (hN : x.toNatClampNeg = N) (hY : Y.2.2.1 i = N) (hbt : N * 1 ≤ 536870912) (h1 : kc + 1 ≤ M.2.2.2.2.1.cells) (h2 : n + N ≤ M.2.2.2.2.1.slots) (hd : fnd M.2.2.2.2.2 pc = some (.newarray .boolean, 2)) (kk : ∀ q, Sim X (newY Y i q 12) (pc + 2) lv (.ref q :: st) I J (va_up A i (fun _ => 0)) B (kc + 1) (n + N)) : Sim X Y pc lv (.int x :: st) I J A B kc n := by
  obtain ⟨p, l, e, R, s, m, args, below, meth, cod, Q, D, cy, A0, nL⟩ := X
  obtain ⟨hx, hb, hown, hts, hns, hK, hml, hnl, hA, hok, hR⟩ := g
  intro H locs ls hP hD hS hl
  subst hR
  refine va_newa (atype := .boolean) (a0 := (N, .inl (fun _ => 0))) (ty := .boolean) hx hb (hts _ hw) rfl hK hP hD hS hA (fun _ => rfl) hn hN hbt h1 h2 (fnd_dec hok hd) (fun q cA H1 hK1 hP1 hD1 hS1 => ?_)
  have e1 : cA = cy.2.2.1 := Option.some.inj (((hK1.2 5 (cA, .boolean) rfl).2 : s.vm.findClass _ = some cA).symm.trans ((hK.2 2 (cy.2.2.1, .boolean) rfl).2 : s.vm.findClass _ = some cy.2.2.1))
  subst e1
  obtain ⟨p1, p2⟩ := pool_new (Y := Y) (i := i) (c := 12) (I' := I) (J' := J) (A' := va_up A i (fun _ => 0)) (B' := B) (fun j hj hKj => cel_new hf hj hKj rfl rfl (va_up_ne _ _ hj) rfl) (by
    rw [cel_12 (show (newY Y i q 12).2.1 i = 12 from va_up_self _ _ _), va_up_self, show (newY Y i q 12).2.2.1 i = N from hY]) hP1 hD1
  exact kk q H1 locs ls p1 p2 hS1 hl
theorem S_newM (g : Good X M) {i N idx : Nat} {x : Int32} (hf : frY Y i) (hw : Cond.classLink M.1.cls idx RX2 ∈ lw_all) (ho : Cond.arrayOver (.object RX2) ∈ lw_nst) (hn : ¬ x < 0) (hN : x.toNatClampNeg = N) (hY : Y.2.2.1 i = N) (hbt : N * 4 ≤ 536870912) (h1 : kc + 1 ≤ M.2.2.2.2.1.cells) (h2 : n + N ≤ M.2.2.2.2.1.slots) (hd : fnd M.2.2.2.2.2 pc = some (.anewarray idx, 3)) (kk : ∀ q, Sim X (newY Y i q 13) (pc + 3) lv (.ref q :: st) I J A B (kc + 1) (n + N)) : Sim X Y pc lv (.int x :: st) I J A B kc n := by
  obtain ⟨p, l, e, R, s, m, args, below, meth, cod, Q, D, cy, A0, nL⟩ := X
  obtain ⟨hx, hb, hown, hts, hns, hK, hml, hnl, hA, hok, hR⟩ := g
  intro H locs ls hP hD hS hl
  subst hR
  refine va_newq hx hb hown (hts _ hw) (hns _ ho) hK hP hD hS hA hn hN hbt h1 h2 (fnd_dec hok hd) (fun q cA H1 hK1 hP1 hD1 hS1 => ?_)
  obtain ⟨_, _, _, _, _, f1⟩ := (hK1.2 5 (cA, .object RX2) rfl).2
  obtain ⟨_, _, _, _, _, f2⟩ := (hK.2 3 (cy.2.2.2.1, .object RX2) rfl).2
  have e1 : cA = cy.2.2.2.1 := Option.some.inj (f1.symm.trans f2)
  subst e1
  obtain ⟨p1, p2⟩ := pool_new (Y := Y) (i := i) (c := 13) (I' := I) (J' := J) (A' := A) (B' := B) (fun j hj hKj => cel_new hf hj hKj rfl rfl rfl rfl) (by
    rw [cel_13 (show (newY Y i q 13).2.1 i = 13 from va_up_self _ _ _), show (newY Y i q 13).2.2.1 i = N from hY, show (newY Y i q 13).2.2.2.2 i = (fun _ => none) from va_up_self _ _ _]
    rfl) hP1 hD1
  exact kk q H1 locs ls p1 p2 hS1 hl
theorem S_newW (g : Good X M) {i N idx : Nat} {x : Int32} (hf : frY Y i) (hw : Cond.classLink M.1.cls idx RX7 ∈ lw_all) (ho : Cond.arrayOver (.object RX7) ∈ lw_nst) (hn : ¬ x < 0) (hN : x.toNatClampNeg = N) (hY : Y.2.2.1 i = N) (hbt : N * 4 ≤ 536870912) (h1 : kc + 1 ≤ M.2.2.2.2.1.cells) (h2 : n + N ≤ M.2.2.2.2.1.slots) (hd : fnd M.2.2.2.2.2 pc = some (.anewarray idx, 3)) (kk : ∀ q, Sim X (newY Y i q 14) (pc + 3) lv (.ref q :: st) I J A B (kc + 1) (n + N)) : Sim X Y pc lv (.int x :: st) I J A B kc n := by
  obtain ⟨p, l, e, R, s, m, args, below, meth, cod, Q, D, cy, A0, nL⟩ := X
  obtain ⟨hx, hb, hown, hts, hns, hK, hml, hnl, hA, hok, hR⟩ := g
  intro H locs ls hP hD hS hl
  subst hR
  refine va_newq hx hb hown (hts _ hw) (hns _ ho) hK hP hD hS hA hn hN hbt h1 h2 (fnd_dec hok hd) (fun q cA H1 hK1 hP1 hD1 hS1 => ?_)
  obtain ⟨_, _, _, _, _, f1⟩ := (hK1.2 5 (cA, .object RX7) rfl).2
  obtain ⟨_, _, _, _, _, f2⟩ := (hK.2 4 (cy.2.2.2.2, .object RX7) rfl).2
  have e1 : cA = cy.2.2.2.2 := Option.some.inj (f1.symm.trans f2)
  subst e1
  obtain ⟨p1, p2⟩ := pool_new (Y := Y) (i := i) (c := 14) (I' := I) (J' := J) (A' := A) (B' := B) (fun j hj hKj => cel_new hf hj hKj rfl rfl rfl rfl) (by
    rw [cel_14 (show (newY Y i q 14).2.1 i = 14 from va_up_self _ _ _), show (newY Y i q 14).2.2.1 i = N from hY, show (newY Y i q 14).2.2.2.2 i = (fun _ => none) from va_up_self _ _ _]
    rfl) hP1 hD1
  exact kk q H1 locs ls p1 p2 hS1 hl
/-- a reference is written into a final field -/
def putY (Y : PS) (i k j : Nat) : PS := (Y.1, Y.2.1, Y.2.2.1, up2 Y.2.2.2.1 i k (some j), Y.2.2.2.2)
theorem S_putFR (g : Good X M) (hnm : Nm X) {i c k idx j : Nat} {ty : FieldType} (hi : i < 600) (hc : c < 10) (hKi : Y.2.1 i = c) (hk : (fkd c)[k]? = some 2) (fx : FXp M.1.cls idx c k ty) (hn : narrow ty (.ref (Y.1 j)) = .ref (Y.1 j)) (hfit : fits ty (.ref (Y.1 j)) = true) (hd : fnd M.2.2.2.2.2 pc = some (.putfield idx, 3)) (kk : Sim X (putY Y i k j) (pc + 3) lv st I J A B kc n) : Sim X Y pc lv (.ref (Y.1 j) :: .ref (Y.1 i) :: st) I J A B kc n := by
  obtain ⟨p, l, e, R, s, m, args, below, meth, cod, Q, D, cy, A0, nL⟩ := X
  obtain ⟨hx, hb, hown, hts, hns, hK, hml, hnl, hA, hok, hR⟩ := g
  intro H locs ls hP hD hS hl
  obtain ⟨C, T, N, ty0, hcl, hkN, hTC, hws, hty, hnmm, hfin, rfl, hpd, hlk⟩ := fx
  obtain ⟨q, hq⟩ := lst_at (K := Y.2.1) (i := i) (by omega) hi
  have hg := pool_get (cy := cy) (Y := Y) (I := I) (J := J) (A := A) (B := B) hq
  rw [cel_o hKi hc] at hg
  have hlen : k < ((fkd c).mapIdx (fcl Y.1 Y.2.2.2.1 I J i)).length := by rw [List.length_mapIdx]; exact (List.getElem?_eq_some_iff.mp hk).1
  have he : (pool cy Y I J A B).set q (Y.1 i, .inr (c, ((fkd c).mapIdx (fcl Y.1 Y.2.2.2.1 I J i)).set k (.ref (Y.1 j)))) = pool cy (putY Y i k j) I J A B := by
    refine pool_set (Y' := putY Y i k j) (I' := I) (J' := J) (A' := A) (B' := B) hD hq rfl rfl (fun a ha => ?_) ?_
    · unfold cel
      rw [show fcl (putY Y i k j).1 (putY Y i k j).2.2.2.1 I J a = fcl Y.1 Y.2.2.2.1 I J a from by funext x y; unfold fcl; rw [show (putY Y i k j).2.2.2.1 a x = Y.2.2.2.1 a x from up2_ne _ _ _ _ ha]; rfl]
      rfl
    · rw [cel_o (show (putY Y i k j).2.1 i = c from hKi) hc]
      refine congrArg (fun z => Sum.inr (c, z)) (fcl_set hk ?_ ?_)
      · unfold fcl
        rw [if_neg (by decide), if_pos rfl, show (putY Y i k j).2.2.2.1 i k = some j from up2_same _ _ _ _]
        rfl
      · intro a z ha
        unfold fcl
        rw [show (putY Y i k j).2.2.2.1 i a = Y.2.2.2.1 i a from up2_ix _ _ _ ha]
  refine va_putF (ref := M.1.cls) (C := M.1.cls) (T := T) (N := N) (ci := c) (ty := ty) hx hb hts hws ty0 hty hnmm hown hK hP hD hS q hg hcl k hkN (hts _ hlk) (fun x hx => by rw [hTC] at hx; exact hx) hfin hnm hTC hpd hn hfit hlen (fnd_dec hok hd) (fun H1 locs1 hP1 hD1 hS1 => ?_)
  rw [he] at hP1 hD1
  exact kk H1 locs1 ls hP1 hD1 hS1 hl
theorem S_putFI (g : Good X M) (hnm : Nm X) {i c k idx kd : Nat} {ty : FieldType} {x : Int32} (hi : i < 600) (hc : c < 10) (hKi : Y.2.1 i = c) (hk : (fkd c)[k]? = some kd) (hkd : kd ≠ 1 ∧ kd ≠ 2) (fx : FXp M.1.cls idx c k ty) (hn : narrow ty (.int x) = .int x) (hfit : fits ty (.int x) = true) (hd : fnd M.2.2.2.2.2 pc = some (.putfield idx, 3)) (kk : Sim X Y (pc + 3) lv st (up2 I i k x) J A B kc n) : Sim X Y pc lv (.int x :: .ref (Y.1 i) :: st) I J A B kc n := by
  obtain ⟨p, l, e, R, s, m, args, below, meth, cod, Q, D, cy, A0, nL⟩ := X
  obtain ⟨hx, hb, hown, hts, hns, hK, hml, hnl, hA, hok, hR⟩ := g
  intro H locs ls hP hD hS hl
  obtain ⟨C, T, N, ty0, hcl, hkN, hTC, hws, hty, hnmm, hfin, rfl, hpd, hlk⟩ := fx
  obtain ⟨q, hq⟩ := lst_at (K := Y.2.1) (i := i) (by omega) hi
  have hg := pool_get (cy := cy) (Y := Y) (I := I) (J := J) (A := A) (B := B) hq
  rw [cel_o hKi hc] at hg
  have hlen : k < ((fkd c).mapIdx (fcl Y.1 Y.2.2.2.1 I J i)).length := by rw [List.length_mapIdx]; exact (List.getElem?_eq_some_iff.mp hk).1
  have he : (pool cy Y I J A B).set q (Y.1 i, .inr (c, ((fkd c).mapIdx (fcl Y.1 Y.2.2.2.1 I J i)).set k (.int x))) = pool cy Y (up2 I i k x) J A B := by
    refine pool_set hD hq rfl rfl (fun j hj => cel_I j hj) ?_
    rw [cel_o hKi hc]
    refine congrArg (fun z => Sum.inr (c, z)) (fcl_set hk ?_ ?_)
    · unfold fcl; rw [if_neg hkd.1, if_neg hkd.2, up2_same]
    · intro j z hj; unfold fcl; rw [up2_ix _ _ _ hj]
  refine va_putF (ref := M.1.cls) (C := M.1.cls) (T := T) (N := N) (ci := c) (ty := ty) hx hb hts hws ty0 hty hnmm hown hK hP hD hS q hg hcl k hkN (hts _ hlk) (fun x hx => by rw [hTC] at hx; exact hx) hfin hnm hTC hpd hn hfit hlen (fnd_dec hok hd) (fun H1 locs1 hP1 hD1 hS1 => ?_)
  rw [he] at hP1 hD1
  exact kk H1 locs1 ls hP1 hD1 hS1 hl
/-- a reference is written into an array -/
def astY (Y : PS) (i e j : Nat) : PS := (Y.1, Y.2.1, Y.2.2.1, Y.2.2.2.1, up2 Y.2.2.2.2 i e (some j))
theorem fun_up {ad : Nat → Nat} {R : FP'} {i e j : Nat} : (fun k => (up2 R i e (some j) i k).map ad) = va_up (fun k => (R i k).map ad) e (some (ad j)) := by
  funext k
  by_cases h : k = e
  · subst h; rw [up2_same, va_up_self]; rfl
  · rw [up2_ix _ _ _ h, va_up_ne _ _ h]
theorem cel_as {cy : CY} {I : FI} {J : FJ} {A : FI} {B : FJ} {i e j a : Nat} (ha : a ≠ i) : cel cy (astY Y i e j) I J A B a = cel cy Y I J A B a := by
  unfold cel
  rw [show (astY Y i e j).2.2.2.2 a = Y.2.2.2.2 a from up2_row _ _ _ ha]
  rfl
theorem S_ast13 (g : Good X M) {i e j : Nat} {x : Int32} (hi : i < 600) (hKi : Y.2.1 i = 13) (hj : j < 600) (hKj : Y.2.1 j = 2) (hin : vp_in x (Y.2.2.1 i)) (hx' : x.toNatClampNeg = e) (hd : fnd M.2.2.2.2.2 pc = some (.aastore, 1)) (kk : Sim X (astY Y i e j) (pc + 1) lv st I J A B kc n) : Sim X Y pc lv (.ref (Y.1 j) :: .int x :: .ref (Y.1 i) :: st) I J A B kc n := by
  obtain ⟨p, l, e0, R, s, m, args, below, meth, cod, Q, D, cy, A0, nL⟩ := X
  obtain ⟨hx, hb, hown, hts, hns, hK, hml, hnl, hA, hok, hR⟩ := g
  intro H locs ls hP hD hS hl
  subst hx'
  obtain ⟨q, hq⟩ := lst_at (K := Y.2.1) (i := i) (by omega) hi
  obtain ⟨q2, hq2⟩ := lst_at (K := Y.2.1) (i := j) (by omega) hj
  have hg := pool_get (cy := cy) (Y := Y) (I := I) (J := J) (A := A) (B := B) hq
  have hg2 := pool_get (cy := cy) (Y := Y) (I := I) (J := J) (A := A) (B := B) hq2
  rw [cel_13 hKi] at hg
  rw [cel_o hKj (by decide)] at hg2
  have he : (pool cy Y I J A B).set q (Y.1 i, .inl (cy.2.2.2.1, Y.2.2.1 i, .inr (.inr (.inr (.inr (va_up (fun k => (Y.2.2.2.2 i k).map Y.1) x.toNatClampNeg (some (Y.1 j)))))))) = pool cy (astY Y i x.toNatClampNeg j) I J A B := by
    refine pool_set (Y' := astY Y i x.toNatClampNeg j) (I' := I) (J' := J) (A' := A) (B' := B) hD hq rfl rfl (fun a ha => cel_as ha) ?_
    rw [cel_13 (show (astY Y i x.toNatClampNeg j).2.1 i = 13 from hKi)]
    show Sum.inl (_, _, Sum.inr (Sum.inr (Sum.inr (Sum.inr (fun k => (up2 Y.2.2.2.2 i x.toNatClampNeg (some j) i k).map Y.1))))) = _
    rw [fun_up]
    rfl
  refine va_astq (r := (RX2, TX2, 3)) hx hb hK hP hD hS q 3 q2 2 hg rfl hg2 rfl hin (fnd_dec hok hd) (fun H1 locs1 hP1 hD1 hS1 => ?_)
  rw [he] at hP1 hD1
  exact kk H1 locs1 ls hP1 hD1 hS1 hl
theorem S_ast14 (g : Good X M) {i e j : Nat} {x : Int32} (hi : i < 600) (hKi : Y.2.1 i = 14) (hj : j < 600) (hKj : Y.2.1 j = 7) (hin : vp_in x (Y.2.2.1 i)) (hx' : x.toNatClampNeg = e) (hd : fnd M.2.2.2.2.2 pc = some (.aastore, 1)) (kk : Sim X (astY Y i e j) (pc + 1) lv st I J A B kc n) : Sim X Y pc lv (.ref (Y.1 j) :: .int x :: .ref (Y.1 i) :: st) I J A B kc n := by
  obtain ⟨p, l, e0, R, s, m, args, below, meth, cod, Q, D, cy, A0, nL⟩ := X
  obtain ⟨hx, hb, hown, hts, hns, hK, hml, hnl, hA, hok, hR⟩ := g
  intro H locs ls hP hD hS hl
  subst hx'
  obtain ⟨q, hq⟩ := lst_at (K := Y.2.1) (i := i) (by omega) hi
  obtain ⟨q2, hq2⟩ := lst_at (K := Y.2.1) (i := j) (by omega) hj
  have hg := pool_get (cy := cy) (Y := Y) (I := I) (J := J) (A := A) (B := B) hq
  have hg2 := pool_get (cy := cy) (Y := Y) (I := I) (J := J) (A := A) (B := B) hq2
  rw [cel_14 hKi] at hg
  rw [cel_o hKj (by decide)] at hg2
  have he : (pool cy Y I J A B).set q (Y.1 i, .inl (cy.2.2.2.2, Y.2.2.1 i, .inr (.inr (.inr (.inr (va_up (fun k => (Y.2.2.2.2 i k).map Y.1) x.toNatClampNeg (some (Y.1 j)))))))) = pool cy (astY Y i x.toNatClampNeg j) I J A B := by
    refine pool_set (Y' := astY Y i x.toNatClampNeg j) (I' := I) (J' := J) (A' := A) (B' := B) hD hq rfl rfl (fun a ha => cel_as ha) ?_
    rw [cel_14 (show (astY Y i x.toNatClampNeg j).2.1 i = 14 from hKi)]
    show Sum.inl (_, _, Sum.inr (Sum.inr (Sum.inr (Sum.inr (fun k => (up2 Y.2.2.2.2 i x.toNatClampNeg (some j) i k).map Y.1))))) = _
    rw [fun_up]
    rfl
  refine va_astq (r := (RX7, TX7, 10)) hx hb hK hP hD hS q 4 q2 7 hg rfl hg2 rfl hin (fnd_dec hok hd) (fun H1 locs1 hP1 hD1 hS1 => ?_)
  rw [he] at hP1 hD1
  exact kk H1 locs1 ls hP1 hD1 hS1 hl
theorem S_oinit (g : Good X M) {a idx : Nat} (hw : Cond.methodLink M.1.cls idx objectInit ∈ lw_all) (hi : Cond.instanceMethod objectInit ∈ lw_all) (hc : Cond.code objectInit ⟨#[0xb1]⟩ 1 none ∈ lw_all) (hfr : 1 ≤ M.2.2.2.2.1.frames) (hlo : (st.map fun v => v.category).sum + 12 ≤ M.2.2.2.2.1.locals) (hd : fnd M.2.2.2.2.2 pc = some (.invokespecial idx, 3)) (kk : Sim X Y (pc + 3) lv st I J A B kc n) : Sim X Y pc lv (.ref a :: st) I J A B kc n := by
  obtain ⟨p, l, e, R, s, m, args, below, meth, cod, Q, D, cy, A0, nL⟩ := X
  obtain ⟨hx, hb, hown, hts, hns, hK, hml, hnl, hA, hok, hR⟩ := g
  intro H locs ls hP hD hS hl
  subst hR
  refine W.objInit hx hb hown (hts _ hw) (hts _ hi) (hts _ hc) rfl ?_ rfl (fnd_dec hok hd) hfr ?_ (kk H locs ls hP hD hS hl)
  · exact (hl.1.trans hnl).trans hml.symm
  · show 2 * 0 + _ + 12 ≤ _
    omega
theorem S_callI (g : Good X M) {b np idx : Nat} {As : List Value} {post : PO} (hsp : Spec M2 (.ref b :: As) Y I J A B post) (mw : MWp M2 np) (mi : Cond.instanceMethod M2.1 ∈ lw_all) (hnm : M2.1.name = "<init>") (hret : M2.2.2.2.1 = none) (lk : LKp M.1.cls idx M2.1) (hroom : fits_room M M2) (hn : As.length = np) (hst : (st.map fun v => v.category).sum ≤ 8) (hf : kc + M2.2.2.2.2.1.cells ≤ M.2.2.2.2.1.cells ∧ n + M2.2.2.2.2.1.slots ≤ M.2.2.2.2.1.slots) (hd : fnd M.2.2.2.2.2 pc = some (.invokespecial idx, 3))
    (kk : ∀ (v : Option Value) (Y' : PS) (I' : FI) (J' : FJ) (A' : FI) (B' : FJ), post v Y' I' J' A' B' → Sim X Y' (pc + 3) lv (v.toList ++ st) I' J' A' B' (kc + M2.2.2.2.2.1.cells) (n + M2.2.2.2.2.1.slots)) : Sim X Y pc lv (As.reverse ++ .ref b :: st) I J A B kc n := by
  obtain ⟨p, l, e, R, s, m, args, below, meth, cod, Q, D, cy, A0, nL⟩ := X
  obtain ⟨hx, hb, hown, hts, hns, hK, hml, hnl, hA, hok, hR⟩ := g
  intro H locs ls hP hD hS hl
  have hpre : PreS s H (va_Pc (.ref b :: As) (PreP D cy Y I J A B H.size)) (.ref b :: As) := ⟨pre_blind, fun U hU hW => ⟨rfl, by rw [hU], by rw [hU]; exact hP, hD.weaken (fun _ _ _ _ => trivial), va_K.moved hW.alike hK, nst_warm hW hns⟩⟩
  subst hR
  have hG := all_good mw
  rw [hret] at hG
  have hnl' : ls.size = nL := hl.1
  have hsp2 := hsp l D cy H.size
  rw [hret] at hsp2
  rcases lk with lk | ⟨host, lk⟩
  · refine W_after (va_runI (As := As) (rest := st) ⟨hx, hb, hml, hown, hts⟩ hsp2 (n := np) ⟨callB_of np hts hG rfl rfl rfl (hts _ mw.2.1) (hts _ lk) mw.2.2 hroom, hnm, hts _ mi⟩ hpre rfl hn (hnl'.trans hnl) rfl (lv_room hst) (fnd_dec hok hd) hf) hS (va_A_in hD hS hA) (fun v Y' I' J' A' B' H1 locs1 hpo hP1 hD1 hS1 => kk v Y' I' J' A' B' hpo H1 locs1 ls hP1 hD1 hS1 hl)
  · refine W_after (va_runIN (As := As) (rest := st) ⟨hx, hb, hml, hown, hts⟩ hsp2 (host := host) (n := np) ⟨va_cnB np hts hG rfl rfl rfl (hns _ lk) (hts _ mw.2.1) mw.2.2 hroom, hnm, hts _ mi⟩ hpre rfl hn (hnl'.trans hnl) rfl (lv_room hst) (fnd_dec hok hd) hf) hS (va_A_in hD hS hA) (fun v Y' I' J' A' B' H1 locs1 hpo hP1 hD1 hS1 => kk v Y' I' J' A' B' hpo H1 locs1 ls hP1 hD1 hS1 hl)
end New
theorem Spec_ofI {M : MI} {av : List Value} {Y : PS} {I : FI} {J : FJ} {A : FI} {B : FJ} {post : PO} (hy : plainName M.1.cls = true) (hin : M.1.name = "<init>") (htb : tbOk M.2.1 M.2.2.2.2.2) (hn : (lg_sl av).length ≤ M.2.2.1) (body : ∀ X, Good X M → Nm X → RT X M post → Sim X Y 0 (lv_args 0 av) [] I J A B 0 0) : Spec M av Y I J A B post := by
  intro l D cy sz
  refine Met.ofW (cc := M.2.1) (maxL := M.2.2.1) (ret := M.2.2.2.1) hy rfl ?_
  intro p e s m args below meth c s₁ BB hml hv
  obtain ⟨rfl, hsz, hP, hD0, hK, hns⟩ := hv
  have hx := BB.exec
  have hb := BB.bytes
  have hr := BB.returns
  have hnm : meth.name = "<init>" := (name_of_methodNamed BB.named BB.method).1.trans hin
  have hts := atoms_spec (ws := Cond.code M.1 M.2.1 M.2.2.1 M.2.2.2.1 :: lw_all) BB.pre
  have hown : s.vm.findClass M.1.cls = some m.cls := findClass_of_methodNamed BB.named
  have hlocks := BB.notSynchronized
  subst hsz
  have hD := hD0.self (sz := s.heap.size)
  generalize hAe : va_A (pool cy Y I J A B) s.heap.size = A0 at hD ⊢
  have hA : ∀ q : Nat, s.heap.size ≤ q → A0 q := fun q h => by rw [← hAe]; exact Or.inr h
  have hS : va_S A0 s.heap s.heap [] := va_S.rf
  have hl := lv_entry av (n := M.2.2.1) hn
  rw [lg_entry_eq]
  have hg : Good (p, l, e, M.2.2.2.2.1, s, m, av.toArray, below, meth, c, MQ below (QcP D cy A0 post) av.toArray s M.2.2.2.2.1.cells M.2.2.2.2.1.slots A0, D, cy, A0, M.2.2.1) M :=
    ⟨hx, hb, hown, fun w hw => hts w (List.mem_cons_of_mem _ hw), hns, hK, hml, rfl, hA, htb, rfl⟩
  refine body _ hg hnm ?_ s.heap [] _ hP hD hS hl
  intro pc lv v Y' I' J' A' B' k n hro hk hn' hpost H locs ls hP' hD' hS' hl'
  refine W.widen hk hn' ?_
  unfold RetOK at hro
  split at hro
  · rename_i x
    obtain ⟨h1, ty, h2, h3⟩ := hro
    exact W.zret hx hb (hr.trans h2) h3 (fun t ht hW => ⟨⟨_, Y', I', J', A', B', rfl, hpost, by rw [ht]; exact hP', hD'⟩, hS'.F ht⟩) hS'.2.2 (fnd_dec htb h1)
  · exact W.lret hx hb (hr.trans hro.2) (fun t ht hW => ⟨⟨_, Y', I', J', A', B', rfl, hpost, by rw [ht]; exact hP', hD'⟩, hS'.F ht⟩) hS'.2.2 (fnd_dec htb hro.1)
  · exact W.fret hx hb (hr.trans hro.2) (fun t ht hW => ⟨⟨_, Y', I', J', A', B', rfl, hpost, by rw [ht]; exact hP', hD'⟩, hS'.F ht⟩) hS'.2.2 (fnd_dec htb hro.1)
  · exact W.vret hx hb (hr.trans hro.2) (fun t ht hW => ⟨⟨_, Y', I', J', A', B', rfl, hpost, by rw [ht]; exact hP', hD'⟩, hS'.F ht⟩) hS'.2.2 (fnd_dec htb hro.1)
  · exact hro.elim
