/-! the law: its table; two worlds side by side -/
abbrev M_L : MI := (yL_law, cL_law, 4, ret, room_1, [])
/-- a world: where its cells stand, what they hold -/
abbrev HS : Type := PS × FI × FJ × FI × FJ
def plH (cy : CY) (a : HS) : va_W := pool cy a.1 a.2.1 a.2.2.1 a.2.2.2.1 a.2.2.2.2
/-- both worlds are there, and apart -/
def Ph2 (a b : HS) (D : va_G) (cy : CY) (A0 : Nat → Prop) (H : Heap) : Prop := (va_P D vwCl (plH cy a) H ∧ va_D A0 (plH cy a)) ∧ (va_P D vwCl (plH cy b) H ∧ va_D A0 (plH cy b)) ∧ ∀ (i j : Nat) (x y : Nat × va_E), (plH cy a)[i]? = some x → (plH cy b)[j]? = some y → x.1 ≠ y.1
def SimG (X : MX) (a b : HS) (pc : Nat) (lv : List (Nat × Value)) (st : List Value) (k n : Nat) : Prop :=
  match X with
  | (p, l, e, R, s, m, args, below, meth, c, Q, D, cy, A0, nL) => ∀ (H : Heap) (locs : List Loc) (ls : Array Slot), Ph2 a b D cy A0 H → va_S A0 s.heap H locs → lv_has ls nL lv → W p l e R s m args below meth c H locs k n Q (F0 m pc ls st)
/-- the script -/
def Scr (X : MX) (b L : Nat) (xs : Nat → Int32) : Prop :=
  match X with
  | (_, _, _, _, s, _, _, _, _, _, _, _, _, A0, _) => va_X b L xs s s.heap ∧ b < s.heap.size ∧ ¬ A0 b
theorem Ph2_sw {a b : HS} {D : va_G} {cy : CY} {A0 : Nat → Prop} {H : Heap} (h : Ph2 a b D cy A0 H) : Ph2 b a D cy A0 H := ⟨h.2.1, h.1, fun i j x y hx hy e => h.2.2 j i y x hy hx e.symm⟩
/-- behind a call in the one world: the other is as it was -/
theorem Ph2_af {a a' b : HS} {D : va_G} {cy : CY} {A0 : Nat → Prop} {H H1 : Heap} (h : Ph2 a b D cy A0 H) (hP : va_P D vwCl (plH cy a') H1) (hD : va_D (va_A (plH cy a) H.size) (plH cy a')) (hA1 : ∀ q, va_A (plH cy a) H.size q → A0 q) (hk : ∀ q : Nat, q < H.size → ¬ va_A (plH cy a) H.size q → H1[q]? = H[q]?) : Ph2 a' b D cy A0 H1 := by
  obtain ⟨⟨p1, d1⟩, ⟨p2, d2⟩, di⟩ := h
  have nA : ∀ (j : Nat) (y : Nat × va_E), (plH cy b)[j]? = some y → ¬ va_A (plH cy a) H.size y.1 := by
    intro j y hy q
    rcases q with ⟨k, e, hx⟩ | q
    · exact di k j _ y hx hy rfl
    · have := (p2 j y hy).lt
      omega
  refine ⟨⟨hP, hD.weaken (fun _ q _ z => hA1 q.1 z)⟩, ⟨p2.kept (fun k q hq => hk q.1 (p2 k q hq).lt (nA k q hq)), d2⟩, fun i j x y hx hy e => ?_⟩
  have := hD.2 i x hx
  rw [e] at this
  exact nA j y hy this
theorem W_af2 {p : Program} {l : Launch} {e : Env} {R : Room} {s : State} {m : MethodId} {args : Array Value} {below : List Frame} {meth : Method} {c : Code} {H : Heap} {locs : List Loc} {k n mc ms : Nat} {Q : State → Prop} {D : va_G} {cy : CY} {A0 A1 : Nat → Prop} {post : PO} {pc : Nat} {ls : Array Slot} {st0 rest : List Value} {a : Array Value} (hr : va_Run p l e R s m args below meth c H locs k n mc ms (F0 m pc ls st0) rest (QcP D cy A1 post a) A1) (hS : va_S A0 s.heap H locs) (hA1 : ∀ q, A1 q → A0 q)
    (kk : ∀ (v : Option Value) (Y : PS) (I : FI) (J : FJ) (A : FI) (B : FJ) (H1 : Heap) (locs1 : List Loc), post v Y I J A B → va_P D vwCl (pool cy Y I J A B) H1 → va_D A1 (pool cy Y I J A B) → (∀ q : Nat, q < H.size → ¬ A1 q → H1[q]? = H[q]?) → va_S A0 s.heap H1 locs1 → W p l e R s m args below meth c H1 locs1 (k + mc) (n + ms) Q (F0 m (pc + 3) ls (v.toList ++ rest))) : W p l e R s m args below meth c H locs k n Q (F0 m pc ls st0) := by
  intro T hT X
  obtain ⟨v, st₀, t, T', L, h0, X', hL, e1, e2, ⟨⟨v', Y, I, J, A, B, hv, hp, hP, hD⟩, hz, hk⟩, st⟩ := hr T hT X
  cases hv
  rw [h0] at hz hk
  obtain ⟨t2, a1, b1⟩ := kk v Y I J A B T'.heap (locs ++ L) hp (by rw [e1]; exact hP) hD (fun q h1 h2 => by rw [e1]; exact hk q h1 h2)
    ⟨Nat.le_trans hS.1 (by rw [e1]; exact hz), fun q h1 h2 => by rw [e1, hk q (Nat.lt_of_lt_of_le h1 hS.1) (fun z => h2 (hA1 q z))]; exact hS.2.1 q h1 h2, fun q hq => by
      rcases List.mem_append.mp hq with h | h
      · exact hS.2.2 q h
      · exact hA1 _ (hL q h)⟩ T' rfl X'
  exact ⟨t2, st t2 a1, b1⟩
theorem pool_na {cy : CY} {Y : PS} {I I' : FI} {J J' : FJ} {A A' : FI} {B B' : FJ} {i q c k : Nat} {e : va_E} {x : Nat × va_E} (h : (pool cy (newY Y i q c) I' J' A' B')[k]? = some x) : ∃ (k' : Nat) (x' : Nat × va_E), (pool cy Y I J A B ++ [(q, e)])[k']? = some x' ∧ x'.1 = x.1 := by
  obtain ⟨j, hj, rfl⟩ := pool_mem h
  by_cases e0 : j = i
  · subst e0
    refine ⟨(pool cy Y I J A B).length, (q, e), ?_, ?_⟩
    · rw [List.getElem?_append_right (Nat.le_refl _), Nat.sub_self]
      rfl
    · show q = va_up Y.1 j q j
      rw [va_up_self]
  · have hlt := lst_in (List.mem_of_getElem? hj)
    have hK : Y.2.1 j < 15 := by
      have := hlt.1
      rw [show (newY Y i q c).2.1 j = Y.2.1 j from va_up_ne _ _ e0] at this
      exact this
    obtain ⟨k', hk'⟩ := lst_at hK hlt.2
    have hg := pool_get (cy := cy) (Y := Y) (I := I) (J := J) (A := A) (B := B) hk'
    have hl := (List.getElem?_eq_some_iff.mp hg).1
    refine ⟨k', _, by rw [List.getElem?_append_left hl]; exact hg, ?_⟩
    show Y.1 j = va_up Y.1 i q j
    rw [va_up_ne _ _ e0]
section GR
variable {X : MX} {M M2 : MI} {a b : HS} {pc : Nat} {lv : List (Nat × Value)} {st : List Value} {kc n : Nat}
theorem G_sw (kk : SimG X b a pc lv st kc n) : SimG X a b pc lv st kc n := by
  obtain ⟨p, l, e, R, s, m, args, below, meth, cod, Q, D, cy, A0, nL⟩ := X
  intro H locs ls hF hS hl
  exact kk H locs ls (Ph2_sw hF) hS hl
theorem G_wd {k' n' : Nat} (h1 : kc ≤ k') (h2 : n ≤ n') (kk : SimG X a b pc lv st k' n') : SimG X a b pc lv st kc n := by
  obtain ⟨p, l, e, R, s, m, args, below, meth, cod, Q, D, cy, A0, nL⟩ := X
  intro H locs ls hF hS hl
  exact W.widen h1 h2 (kk H locs ls hF hS hl)
theorem G_n (g : Good X M) (k : Nat) {pc' : Nat} {lv' : List (Nat × Value)} {st' : List Value} (h : stpN M.2.2.1 M.2.2.2.2.2 k pc lv st = some (pc', lv', st')) (kk : SimG X a b pc' lv' st' kc n) : SimG X a b pc lv st kc n := by
  obtain ⟨p, l, e, R, s, m, args, below, meth, c, Q, D, cy, A0, nL⟩ := X
  obtain ⟨hx, hb, hown, hts, hns, hK, hml, hnl, hA, hok, hR⟩ := g
  intro H locs ls hF hS hl
  induction k generalizing pc lv st ls with
  | zero =>
    unfold stpN at h
    cases h
    exact kk H locs ls hF hS hl
  | succ k ih =>
    unfold stpN at h
    split at h
    · rename_i i j hf
      split at h
      · rename_i a b d hs
        rw [← hnl] at hs
        exact stp_ok hx hb (fnd_dec hok hf) hs hl (fun ls' hl' => ih h ls' hl')
      · cases h
    · cases h
theorem G_ic_eq (g : Good X M) {x y : Int32} {off : Int} {tgt : Nat} (hd : fnd M.2.2.2.2.2 pc = some (.if_icmp .eq off, 3)) (ht : (pc : Int) + off = (tgt : Int)) (he : x = y) (kt : SimG X a b tgt lv st kc n) : SimG X a b pc lv (.int y :: .int x :: st) kc n := by
  obtain ⟨p, l, e, R, s, m, args, below, meth, cod, Q, D, cy, A0, nL⟩ := X
  obtain ⟨hx, hb, hown, hts, hns, hK, hml, hnl, hA, hok, hR⟩ := g
  intro H locs ls hF hS hl
  exact lv_icmp_eq hx hb (fnd_dec hok hd) ht (fun h => kt H locs ls hF hS hl) (fun h => absurd he h)
theorem G_if_eq (g : Good X M) {x : Int32} {off : Int} {tgt : Nat} (hd : fnd M.2.2.2.2.2 pc = some (.ifCond .eq off, 3)) (ht : (pc : Int) + off = (tgt : Int)) (he : x = 0) (kt : SimG X a b tgt lv st kc n) : SimG X a b pc lv (.int x :: st) kc n := by
  obtain ⟨p, l, e, R, s, m, args, below, meth, cod, Q, D, cy, A0, nL⟩ := X
  obtain ⟨hx, hb, hown, hts, hns, hK, hml, hnl, hA, hok, hR⟩ := g
  intro H locs ls hF hS hl
  exact lv_if_eq hx hb (fnd_dec hok hd) ht (fun h => kt H locs ls hF hS hl) (fun h => absurd he h)
theorem G_ic_gt (g : Good X M) {x y : Int32} {off : Int} {tgt : Nat} (hd : fnd M.2.2.2.2.2 pc = some (.if_icmp .gt off, 3)) (ht : (pc : Int) + off = (tgt : Int)) (kt : y < x → SimG X a b tgt lv st kc n) (kf : ¬ y < x → SimG X a b (pc + 3) lv st kc n) : SimG X a b pc lv (.int y :: .int x :: st) kc n := by
  obtain ⟨p, l, e, R, s, m, args, below, meth, cod, Q, D, cy, A0, nL⟩ := X
  obtain ⟨hx, hb, hown, hts, hns, hK, hml, hnl, hA, hok, hR⟩ := g
  intro H locs ls hF hS hl
  exact lv_icmp_gt hx hb (fnd_dec hok hd) ht (fun h => kt h H locs ls hF hS hl) (fun h => kf h H locs ls hF hS hl)
theorem G_ldc2 (g : Good X M) {idx : Nat} {v : Int64} (hw : Cond.constantLong M.1.cls idx v ∈ lw_all) (hd : fnd M.2.2.2.2.2 pc = some (.ldc2_w idx, 3)) (kk : SimG X a b (pc + 3) lv (.long v :: st) kc n) : SimG X a b pc lv st kc n := by
  obtain ⟨p, l, e, R, s, m, args, below, meth, cod, Q, D, cy, A0, nL⟩ := X
  obtain ⟨hx, hb, hown, hts, hns, hK, hml, hnl, hA, hok, hR⟩ := g
  intro H locs ls hF hS hl
  exact lv_ldc2 hx hb hown (hts _ hw) (fnd_dec hok hd) (kk H locs ls hF hS hl)
theorem G_swIn (g : Good X M) {dflt lo hi : Int} {offs : Array Int} {len : Nat} {x : Int32} {off : Int} {tgt : Nat} (hd : fnd M.2.2.2.2.2 pc = some (.tableswitch dflt lo hi offs, len)) (h1 : ¬ x.toInt < lo) (h2 : ¬ hi < x.toInt) (ho : offs[(x.toInt - lo).toNat]? = some off) (ht : (pc : Int) + off = (tgt : Int)) (kk : SimG X a b tgt lv st kc n) : SimG X a b pc lv (.int x :: st) kc n := by
  obtain ⟨p, l, e, R, s, m, args, below, meth, cod, Q, D, cy, A0, nL⟩ := X
  obtain ⟨hx, hb, hown, hts, hns, hK, hml, hnl, hA, hok, hR⟩ := g
  intro H locs ls hF hS hl
  exact lv_tableIn hx hb (fnd_dec hok hd) h1 h2 ho ht (kk H locs ls hF hS hl)
theorem G_swOut (g : Good X M) {dflt lo hi : Int} {offs : Array Int} {len : Nat} {x : Int32} {tgt : Nat} (hd : fnd M.2.2.2.2.2 pc = some (.tableswitch dflt lo hi offs, len)) (h : x.toInt < lo ∨ hi < x.toInt) (ht : (pc : Int) + dflt = (tgt : Int)) (kk : SimG X a b tgt lv st kc n) : SimG X a b pc lv (.int x :: st) kc n := by
  obtain ⟨p, l, e, R, s, m, args, below, meth, cod, Q, D, cy, A0, nL⟩ := X
  obtain ⟨hx, hb, hown, hts, hns, hK, hml, hnl, hA, hok, hR⟩ := g
  intro H locs ls hF hS hl
  exact lv_tableOut hx hb (fnd_dec hok hd) h ht (kk H locs ls hF hS hl)
theorem G_sld (g : Good X M) {sb L : Nat} {xs : Nat → Int32} (hX : Scr X sb L xs) {i : Int32} (hin : vp_in i L) (hd : fnd M.2.2.2.2.2 pc = some (.iaload, 1)) (kk : SimG X a b (pc + 1) lv (.int (xs i.toNatClampNeg) :: st) kc n) : SimG X a b pc lv (.int i :: .ref sb :: st) kc n := by
  obtain ⟨p, l, e, R, s, m, args, below, meth, cod, Q, D, cy, A0, nL⟩ := X
  obtain ⟨hx, hb, hown, hts, hns, hK, hml, hnl, hA, hok, hR⟩ := g
  intro H locs ls hF hS hl
  exact va_sld hx hb hX.1 hX.2.1 hX.2.2 hS hin (fnd_dec hok hd) (kk H locs ls hF hS hl)
theorem G_slen (g : Good X M) {sb L : Nat} {xs : Nat → Int32} (hX : Scr X sb L xs) (hd : fnd M.2.2.2.2.2 pc = some (.arraylength, 1)) (kk : SimG X a b (pc + 1) lv (.int (Int32.ofNat L) :: st) kc n) : SimG X a b pc lv (.ref sb :: st) kc n := by
  obtain ⟨p, l, e, R, s, m, args, below, meth, cod, Q, D, cy, A0, nL⟩ := X
  obtain ⟨hx, hb, hown, hts, hns, hK, hml, hnl, hA, hok, hR⟩ := g
  intro H locs ls hF hS hl
  exact va_slen hx hb hX.1 hX.2.1 hX.2.2 hS (fnd_dec hok hd) (kk H locs ls hF hS hl)
theorem G_callV (g : Good X M) {i c np idx : Nat} {As : List Value} {post : PO} (hsp : Spec M2 (.ref (a.1.1 i) :: As) a.1 a.2.1 a.2.2.1 a.2.2.2.1 a.2.2.2.2 post) (mw : MWv M2 c np) (lk : LKp M.1.cls idx M2.1) (hroom : fits_room M M2) (hi : i < 600) (hc : c < 10) (hKi : a.1.2.1 i = c) (hn : As.length = np) (hst : (st.map fun v => v.category).sum ≤ 8) (hf : kc + M2.2.2.2.2.1.cells ≤ M.2.2.2.2.1.cells ∧ n + M2.2.2.2.2.1.slots ≤ M.2.2.2.2.1.slots) (hd : fnd M.2.2.2.2.2 pc = some (.invokevirtual idx, 3))
    (kk : ∀ (v : Option Value) (Y' : PS) (I' : FI) (J' : FJ) (A' : FI) (B' : FJ), post v Y' I' J' A' B' → SimG X (Y', I', J', A', B') b (pc + 3) lv (v.toList ++ st) (kc + M2.2.2.2.2.1.cells) (n + M2.2.2.2.2.1.slots)) : SimG X a b pc lv (As.reverse ++ .ref (a.1.1 i) :: st) kc n := by
  obtain ⟨p, l, e, R, s, m, args, below, meth, cod, Q, D, cy, A0, nL⟩ := X
  obtain ⟨hx, hb, hown, hts, hns, hK, hml, hnl, hA, hok, hR⟩ := g
  intro H locs ls hF hS hl
  have hP : va_P D vwCl (pool cy a.1 a.2.1 a.2.2.1 a.2.2.2.1 a.2.2.2.2) H := hF.1.1
  have hD : va_D A0 (pool cy a.1 a.2.1 a.2.2.1 a.2.2.2.1 a.2.2.2.2) := hF.1.2
  obtain ⟨hmp, hins, hsel, T, N, hcl⟩ := mw
  obtain ⟨q, hq⟩ := lst_at (K := a.1.2.1) (i := i) (by omega) hi
  have hg := pool_get (cy := cy) (Y := a.1) (I := a.2.1) (J := a.2.2.1) (A := a.2.2.2.1) (B := a.2.2.2.2) hq
  rw [cel_o hKi hc] at hg
  have hrv := va_recv hK hP hcl hg
  have hpre : PreV s H M2.1.cls (a.1.1 i) (va_Pc (.ref (a.1.1 i) :: As) (PreP D cy a.1 a.2.1 a.2.2.1 a.2.2.2.1 a.2.2.2.2 H.size)) As := ⟨pre_blind, hrv, fun U hU hW => ⟨rfl, by rw [hU], by rw [hU]; exact hP, hD.weaken (fun _ _ _ _ => trivial), va_K.moved hW.alike hK, nst_warm hW hns⟩⟩
  subst hR
  have hG := all_good hmp
  have hnl' : ls.size = nL := hl.1
  have hA1 := va_A_in hD hS hA
  rcases lk with lk | ⟨host, lk⟩
  · refine W_af2 (va_runV (As := As) (rest := st) ⟨hx, hb, hml, hown, hts⟩ (hsp l D cy H.size) (C := M2.1.cls) (n := np) ⟨callB_of np hts hG rfl rfl rfl (hts _ hmp.2.1) (hts _ lk) hmp.2.2 hroom, hts _ hins, hts _ hsel⟩ hpre rfl hn (hnl'.trans hnl) rfl (lv_room hst) (fnd_dec hok hd) hf) hS hA1 (fun v Y' I' J' A' B' H1 locs1 hpo hP1 hD1 hk1 hS1 => kk v Y' I' J' A' B' hpo H1 locs1 ls (Ph2_af (a' := (Y', I', J', A', B')) hF hP1 hD1 hA1 hk1) hS1 hl)
  · refine W_af2 (va_runVN (As := As) (rest := st) ⟨hx, hb, hml, hown, hts⟩ (hsp l D cy H.size) (C := M2.1.cls) (host := host) (n := np) ⟨va_cnB np hts hG rfl rfl rfl (hns _ lk) (hts _ hmp.2.1) hmp.2.2 hroom, hts _ hins, hts _ hsel⟩ hpre rfl hn (hnl'.trans hnl) rfl (lv_room hst) (fnd_dec hok hd) hf) hS hA1 (fun v Y' I' J' A' B' H1 locs1 hpo hP1 hD1 hk1 hS1 => kk v Y' I' J' A' B' hpo H1 locs1 ls (Ph2_af (a' := (Y', I', J', A', B')) hF hP1 hD1 hA1 hk1) hS1 hl)
theorem G_callI (g : Good X M) {bq np idx : Nat} {As : List Value} {post : PO} (hsp : Spec M2 (.ref bq :: As) a.1 a.2.1 a.2.2.1 a.2.2.2.1 a.2.2.2.2 post) (mw : MWp M2 np) (mi : Cond.instanceMethod M2.1 ∈ lw_all) (hnm : M2.1.name = "<init>") (hret : M2.2.2.2.1 = none) (lk : LKp M.1.cls idx M2.1) (hroom : fits_room M M2) (hn : As.length = np) (hst : (st.map fun v => v.category).sum ≤ 8) (hf : kc + M2.2.2.2.2.1.cells ≤ M.2.2.2.2.1.cells ∧ n + M2.2.2.2.2.1.slots ≤ M.2.2.2.2.1.slots) (hd : fnd M.2.2.2.2.2 pc = some (.invokespecial idx, 3))
    (kk : ∀ (v : Option Value) (Y' : PS) (I' : FI) (J' : FJ) (A' : FI) (B' : FJ), post v Y' I' J' A' B' → SimG X (Y', I', J', A', B') b (pc + 3) lv (v.toList ++ st) (kc + M2.2.2.2.2.1.cells) (n + M2.2.2.2.2.1.slots)) : SimG X a b pc lv (As.reverse ++ .ref bq :: st) kc n := by
  obtain ⟨p, l, e, R, s, m, args, below, meth, cod, Q, D, cy, A0, nL⟩ := X
  obtain ⟨hx, hb, hown, hts, hns, hK, hml, hnl, hA, hok, hR⟩ := g
  intro H locs ls hF hS hl
  have hP : va_P D vwCl (pool cy a.1 a.2.1 a.2.2.1 a.2.2.2.1 a.2.2.2.2) H := hF.1.1
  have hD : va_D A0 (pool cy a.1 a.2.1 a.2.2.1 a.2.2.2.1 a.2.2.2.2) := hF.1.2
  have hpre : PreS s H (va_Pc (.ref bq :: As) (PreP D cy a.1 a.2.1 a.2.2.1 a.2.2.2.1 a.2.2.2.2 H.size)) (.ref bq :: As) := ⟨pre_blind, fun U hU hW => ⟨rfl, by rw [hU], by rw [hU]; exact hP, hD.weaken (fun _ _ _ _ => trivial), va_K.moved hW.alike hK, nst_warm hW hns⟩⟩
  subst hR
  have hG := all_good mw
  rw [hret] at hG
  have hnl' : ls.size = nL := hl.1
  have hsp2 := hsp l D cy H.size
  rw [hret] at hsp2
  have hA1 := va_A_in hD hS hA
  rcases lk with lk | ⟨host, lk⟩
  · refine W_af2 (va_runI (As := As) (rest := st) ⟨hx, hb, hml, hown, hts⟩ hsp2 (n := np) ⟨callB_of np hts hG rfl rfl rfl (hts _ mw.2.1) (hts _ lk) mw.2.2 hroom, hnm, hts _ mi⟩ hpre rfl hn (hnl'.trans hnl) rfl (lv_room hst) (fnd_dec hok hd) hf) hS hA1 (fun v Y' I' J' A' B' H1 locs1 hpo hP1 hD1 hk1 hS1 => kk v Y' I' J' A' B' hpo H1 locs1 ls (Ph2_af (a' := (Y', I', J', A', B')) hF hP1 hD1 hA1 hk1) hS1 hl)
  · refine W_af2 (va_runIN (As := As) (rest := st) ⟨hx, hb, hml, hown, hts⟩ hsp2 (host := host) (n := np) ⟨va_cnB np hts hG rfl rfl rfl (hns _ lk) (hts _ mw.2.1) mw.2.2 hroom, hnm, hts _ mi⟩ hpre rfl hn (hnl'.trans hnl) rfl (lv_room hst) (fnd_dec hok hd) hf) hS hA1 (fun v Y' I' J' A' B' H1 locs1 hpo hP1 hD1 hk1 hS1 => kk v Y' I' J' A' B' hpo H1 locs1 ls (Ph2_af (a' := (Y', I', J', A', B')) hF hP1 hD1 hA1 hk1) hS1 hl)
theorem G_newO (g : Good X M) {i c idx : Nat} (hf : frY a.1 i) (hc : c < 10) (nw : NWp M.1.cls idx c) (h1 : kc + 1 ≤ M.2.2.2.2.1.cells) (h2 : n + (fkd c).length ≤ M.2.2.2.2.1.slots) (hd : fnd M.2.2.2.2.2 pc = some (.new idx, 3)) (kk : ∀ q, SimG X (newY a.1 i q c, va_up a.2.1 i (fun _ => 0), va_up a.2.2.1 i (fun _ => 0), a.2.2.2.1, a.2.2.2.2) b (pc + 3) lv (.ref q :: st) (kc + 1) (n + (fkd c).length)) : SimG X a b pc lv st kc n := by
  obtain ⟨p, l, e, R, s, m, args, below, meth, cod, Q, D, cy, A0, nL⟩ := X
  obtain ⟨hx, hb, hown, hts, hns, hK, hml, hnl, hA, hok, hR⟩ := g
  intro H locs ls hF hS hl
  obtain ⟨C, T, N, ty, hcl, hws, hty, w1, w2, w3, rfl, hdf⟩ := nw
  subst hR
  obtain ⟨⟨p1, d1⟩, ⟨p2, d2⟩, di⟩ := hF
  refine va_new hx hb hts hws ty hty hown (hts _ w1) (hts _ w2) (hts _ w3) hK (p2.app p1) (d2.app d1 (fun i j x y hx hy e => di j i y x hy hx e.symm)) hS hA hcl hdf h1 h2 (fnd_dec hok hd) (fun q H1 hP1 hD1 hS1 => ?_)
  rw [List.append_assoc] at hP1 hD1
  have l2 : ∀ (k : Nat) (x : Nat × va_E), (plH cy b)[k]? = some x → (plH cy b ++ (plH cy a ++ [(q, .inr (c, dfl c))]))[k]? = some x := fun k x h => by rw [List.getElem?_append_left (List.getElem?_eq_some_iff.mp h).1]; exact h
  have l1 : ∀ (k : Nat) (x : Nat × va_E), (plH cy a ++ [(q, .inr (c, dfl c))])[k]? = some x → (plH cy b ++ (plH cy a ++ [(q, .inr (c, dfl c))]))[(plH cy b).length + k]? = some x := fun k x h => by rw [List.getElem?_append_right (Nat.le_add_right _ _), Nat.add_sub_cancel_left]; exact h
  have hP2 : va_P D vwCl (plH cy a ++ [(q, .inr (c, dfl c))]) H1 := fun k x h => hP1 _ x (l1 k x h)
  have hD2 : va_D A0 (plH cy a ++ [(q, .inr (c, dfl c))]) := ⟨fun i j x y hx hy e => by have := hD1.1 _ _ x y (l1 i x hx) (l1 j y hy) e; omega, fun k x h => hD1.2 _ x (l1 k x h)⟩
  obtain ⟨q1, q2⟩ := pool_new (Y := a.1) (i := i) (c := c) (I' := va_up a.2.1 i (fun _ => 0)) (J' := va_up a.2.2.1 i (fun _ => 0)) (A' := a.2.2.2.1) (B' := a.2.2.2.2) (fun j hj hKj => cel_new hf hj hKj (va_up_ne _ _ hj) (va_up_ne _ _ hj) rfl rfl) (by
    rw [cel_o (show (newY a.1 i q c).2.1 i = c from va_up_self _ _ _) hc]
    exact congrArg (fun z => Sum.inr (c, z)) (dfl_eq (va_up_self _ _ _) (va_up_self _ _ _) (va_up_self _ _ _))) hP2 hD2
  refine kk q H1 locs ls ⟨⟨q1, q2⟩, ⟨fun k x h => hP1 _ x (l2 k x h), d2⟩, fun i' j' x y hx' hy' e => ?_⟩ hS1 hl
  obtain ⟨k2, x2, h2', e2⟩ := pool_na (I := a.2.1) (J := a.2.2.1) (A := a.2.2.2.1) (B := a.2.2.2.2) (e := .inr (c, dfl c)) hx'
  have h3 := hD1.1 _ _ x2 y (l1 k2 x2 h2') (l2 j' y hy') (e2.trans e)
  have h4 := (List.getElem?_eq_some_iff.mp hy').1
  omega
end GR

