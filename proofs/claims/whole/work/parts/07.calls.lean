/-! calls by contract, arraycopy -/
/-- the words of a method that is called: its code, its class initialised, how many parameters -/
def MWp (M : MI) (np : Nat) : Prop := Cond.code M.1 M.2.1 M.2.2.1 M.2.2.2.1 ∈ lw_all ∧ Cond.initialized M.1.cls ∈ lw_all ∧ M.1.cls ≠ "java/lang/invoke/MethodHandle" ∧ M.1.cls ≠ "java/lang/invoke/VarHandle" ∧ (parseMethodDescriptor M.1.desc).map (fun d => d.parameters.length) = some np
def MWv (M : MI) (c np : Nat) : Prop := MWp M np ∧ Cond.instanceMethod M.1 ∈ lw_all ∧ Cond.selects M.1.cls M.1 M.1 ∈ lw_all ∧ ∃ T N, vwCl[c]? = some (M.1.cls, T, N)
def MWs (M : MI) (np : Nat) : Prop := MWp M np ∧ Cond.static M.1 ∈ lw_all
/-- the call's link: an ordinary one, or a nest mate's -/
def LKp (own : String) (idx : Nat) (y : MethodName) : Prop := Cond.methodLink own idx y ∈ lw_all ∨ ∃ host, Cond.methodLinkNest own idx y host ∈ lw_nst
def fits_room (M M2 : MI) : Prop := M2.2.2.2.2.1.frames + 1 ≤ M.2.2.2.2.1.frames ∧ 8 + (M2.2.2.1 + 11) + M2.2.2.2.2.1.locals ≤ M.2.2.2.2.1.locals
theorem all_good {M : MI} {np : Nat} (h : MWp M np) : GoodIn lw_all (Cond.code M.1 M.2.1 M.2.2.1 M.2.2.2.1 :: lw_all) := by
  intro w hw
  have hm : w ∈ lw_all := by
    rcases List.mem_cons.mp hw with h1 | h1
    · rw [h1]; exact h.1
    · exact h1
  exact ⟨hm, good_of_word (List.mem_filter.mp hm).2⟩
theorem pre_blind {av : List Value} {D : va_G} {cy : CY} {Y : PS} {I : FI} {J : FJ} {A : FI} {B : FJ} {sz : Nat} : FrameBlind (va_Pc av (PreP D cy Y I J A B sz)) := by
  intro a U g mk h
  obtain ⟨h1, h2, h3, h4, h5, h6⟩ := h
  exact ⟨h1, h2, h3, h4, va_K.moved (u := U) (U := U.calling g mk a) (Vm.Alike.refl U.vm) h5, nst_same (s := U) (U := U.calling g mk a) rfl h6⟩
theorem va_A_in {A0 : Nat → Prop} {ws : va_W} {H0 H : Heap} {locs : List Loc} (hD : va_D A0 ws) (hS : va_S A0 H0 H locs) (hA : ∀ q, H0.size ≤ q → A0 q) : ∀ q, va_A ws H.size q → A0 q := by
  intro q h
  rcases h with ⟨k, x, h⟩ | h
  · exact hD.2 k _ h
  · exact hA q (Nat.le_trans hS.1 h)
/-- behind the call, whatever it returns -/
theorem W_after {p : Program} {l : Launch} {e : Env} {R : Room} {s : State} {m : MethodId} {args : Array Value} {below : List Frame} {meth : Method} {c : Code} {H : Heap} {locs : List Loc} {k n mc ms : Nat} {Q : State → Prop} {D : va_G} {cy : CY} {A0 A1 : Nat → Prop} {post : PO} {pc : Nat} {ls : Array Slot} {st0 rest : List Value} {a : Array Value} (hr : va_Run p l e R s m args below meth c H locs k n mc ms (F0 m pc ls st0) rest (QcP D cy A1 post a) A1) (hS : va_S A0 s.heap H locs) (hA1 : ∀ q, A1 q → A0 q)
    (kk : ∀ (v : Option Value) (Y : PS) (I : FI) (J : FJ) (A : FI) (B : FJ) (H1 : Heap) (locs1 : List Loc), post v Y I J A B → va_P D vwCl (pool cy Y I J A B) H1 → va_D A0 (pool cy Y I J A B) → va_S A0 s.heap H1 locs1 → W p l e R s m args below meth c H1 locs1 (k + mc) (n + ms) Q (F0 m (pc + 3) ls (v.toList ++ rest))) : W p l e R s m args below meth c H locs k n Q (F0 m pc ls st0) := by
  intro T hT X
  obtain ⟨v, st₀, t, T', L, h0, X', hL, e1, e2, ⟨⟨v', Y, I, J, A, B, hv, hp, hP, hD⟩, hz, hk⟩, st⟩ := hr T hT X
  cases hv
  rw [h0] at hz hk
  obtain ⟨t2, a1, b1⟩ := kk v Y I J A B T'.heap (locs ++ L) hp (by rw [e1]; exact hP) (hD.weaken (fun _ q _ h => hA1 q.1 h))
    ⟨Nat.le_trans hS.1 (by rw [e1]; exact hz), fun q h1 h2 => by rw [e1, hk q (Nat.lt_of_lt_of_le h1 hS.1) (fun z => h2 (hA1 q z))]; exact hS.2.1 q h1 h2, fun q hq => by
      rcases List.mem_append.mp hq with h | h
      · exact hS.2.2 q h
      · exact hA1 _ (hL q h)⟩ T' rfl X'
  exact ⟨t2, st t2 a1, b1⟩
section Calls
variable {X : MX} {M M2 : MI} {Y : PS} {pc : Nat} {lv : List (Nat × Value)} {st : List Value} {I : FI} {J : FJ} {A : FI} {B : FJ} {kc n : Nat}
theorem S_callV (g : Good X M) {i c np idx : Nat} {As : List Value} {post : PO} (hsp : Spec M2 (.ref (Y.1 i) :: As) Y I J A B post) (mw : MWv M2 c np) (lk : LKp M.1.cls idx M2.1) (hroom : fits_room M M2) (hi : i < 600) (hc : c < 10) (hKi : Y.2.1 i = c) (hn : As.length = np) (hst : (st.map fun v => v.category).sum ≤ 8) (hf : kc + M2.2.2.2.2.1.cells ≤ M.2.2.2.2.1.cells ∧ n + M2.2.2.2.2.1.slots ≤ M.2.2.2.2.1.slots) (hd : fnd M.2.2.2.2.2 pc = some (.invokevirtual idx, 3))
    (kk : ∀ (v : Option Value) (Y' : PS) (I' : FI) (J' : FJ) (A' : FI) (B' : FJ), post v Y' I' J' A' B' → Sim X Y' (pc + 3) lv (v.toList ++ st) I' J' A' B' (kc + M2.2.2.2.2.1.cells) (n + M2.2.2.2.2.1.slots)) : Sim X Y pc lv (As.reverse ++ .ref (Y.1 i) :: st) I J A B kc n := by
  obtain ⟨p, l, e, R, s, m, args, below, meth, cod, Q, D, cy, A0, nL⟩ := X
  obtain ⟨hx, hb, hown, hts, hns, hK, hml, hnl, hA, hok, hR⟩ := g
  intro H locs ls hP hD hS hl
  obtain ⟨hmp, hins, hsel, T, N, hcl⟩ := mw
  obtain ⟨q, hq⟩ := lst_at (K := Y.2.1) (i := i) (by omega) hi
  have hg := pool_get (cy := cy) (Y := Y) (I := I) (J := J) (A := A) (B := B) hq
  rw [cel_o hKi hc] at hg
  have hrv := va_recv hK hP hcl hg
  have hpre : PreV s H M2.1.cls (Y.1 i) (va_Pc (.ref (Y.1 i) :: As) (PreP D cy Y I J A B H.size)) As := ⟨pre_blind, hrv, fun U hU hW => ⟨rfl, by rw [hU], by rw [hU]; exact hP, hD.weaken (fun _ _ _ _ => trivial), va_K.moved hW.alike hK, nst_warm hW hns⟩⟩
  subst hR
  have hG := all_good hmp
  have hnl' : ls.size = nL := hl.1
  rcases lk with lk | ⟨host, lk⟩
  · refine W_after (va_runV (As := As) (rest := st) ⟨hx, hb, hml, hown, hts⟩ (hsp l D cy H.size) (C := M2.1.cls) (n := np) ⟨callB_of np hts hG rfl rfl rfl (hts _ hmp.2.1) (hts _ lk) hmp.2.2 hroom, hts _ hins, hts _ hsel⟩ hpre rfl hn (hnl'.trans hnl) rfl (lv_room hst) (fnd_dec hok hd) hf) hS (va_A_in hD hS hA) (fun v Y' I' J' A' B' H1 locs1 hpo hP1 hD1 hS1 => kk v Y' I' J' A' B' hpo H1 locs1 ls hP1 hD1 hS1 hl)
  · refine W_after (va_runVN (As := As) (rest := st) ⟨hx, hb, hml, hown, hts⟩ (hsp l D cy H.size) (C := M2.1.cls) (host := host) (n := np) ⟨va_cnB np hts hG rfl rfl rfl (hns _ lk) (hts _ hmp.2.1) hmp.2.2 hroom, hts _ hins, hts _ hsel⟩ hpre rfl hn (hnl'.trans hnl) rfl (lv_room hst) (fnd_dec hok hd) hf) hS (va_A_in hD hS hA) (fun v Y' I' J' A' B' H1 locs1 hpo hP1 hD1 hS1 => kk v Y' I' J' A' B' hpo H1 locs1 ls hP1 hD1 hS1 hl)
theorem S_callS (g : Good X M) {np idx : Nat} {As : List Value} {post : PO} (hsp : Spec M2 As Y I J A B post) (mw : MWs M2 np) (lk : LKp M.1.cls idx M2.1) (hroom : fits_room M M2) (hn : As.length = np) (hst : (st.map fun v => v.category).sum ≤ 8) (hf : kc + M2.2.2.2.2.1.cells ≤ M.2.2.2.2.1.cells ∧ n + M2.2.2.2.2.1.slots ≤ M.2.2.2.2.1.slots) (hd : fnd M.2.2.2.2.2 pc = some (.invokestatic idx, 3))
    (kk : ∀ (v : Option Value) (Y' : PS) (I' : FI) (J' : FJ) (A' : FI) (B' : FJ), post v Y' I' J' A' B' → Sim X Y' (pc + 3) lv (v.toList ++ st) I' J' A' B' (kc + M2.2.2.2.2.1.cells) (n + M2.2.2.2.2.1.slots)) : Sim X Y pc lv (As.reverse ++ st) I J A B kc n := by
  obtain ⟨p, l, e, R, s, m, args, below, meth, cod, Q, D, cy, A0, nL⟩ := X
  obtain ⟨hx, hb, hown, hts, hns, hK, hml, hnl, hA, hok, hR⟩ := g
  intro H locs ls hP hD hS hl
  obtain ⟨hmp, hstat⟩ := mw
  have hpre : PreS s H (va_Pc As (PreP D cy Y I J A B H.size)) As := ⟨pre_blind, fun U hU hW => ⟨rfl, by rw [hU], by rw [hU]; exact hP, hD.weaken (fun _ _ _ _ => trivial), va_K.moved hW.alike hK, nst_warm hW hns⟩⟩
  subst hR
  have hG := all_good hmp
  have hnl' : ls.size = nL := hl.1
  rcases lk with lk | ⟨host, lk⟩
  · refine W_after (va_runS (As := As) (rest := st) ⟨hx, hb, hml, hown, hts⟩ (hsp l D cy H.size) (n := np) ⟨callB_of np hts hG rfl rfl rfl (hts _ hmp.2.1) (hts _ lk) hmp.2.2 hroom, hts _ hstat⟩ hpre rfl hn (hnl'.trans hnl) rfl (lv_room hst) (fnd_dec hok hd) hf) hS (va_A_in hD hS hA) (fun v Y' I' J' A' B' H1 locs1 hpo hP1 hD1 hS1 => kk v Y' I' J' A' B' hpo H1 locs1 ls hP1 hD1 hS1 hl)
  · refine W_after (va_runSN (As := As) (rest := st) ⟨hx, hb, hml, hown, hts⟩ (hsp l D cy H.size) (host := host) (n := np) ⟨va_cnB np hts hG rfl rfl rfl (hns _ lk) (hts _ hmp.2.1) hmp.2.2 hroom, hts _ hstat, trivial⟩ hpre rfl hn (hnl'.trans hnl) rfl (lv_room hst) (fnd_dec hok hd) hf) hS (va_A_in hD hS hA) (fun v Y' I' J' A' B' H1 locs1 hpo hP1 hD1 hS1 => kk v Y' I' J' A' B' hpo H1 locs1 ls hP1 hD1 hS1 hl)
/-- what changes nothing of the layout, and answers just this -/
def eqP (v : Option Value) (Y : PS) (I : FI) (J : FJ) (A : FI) (B : FJ) : PO := fun v' Y' I' J' A' B' => v' = v ∧ Y' = Y ∧ I' = I ∧ J' = J ∧ A' = A ∧ B' = B
theorem eqP_rf {v : Option Value} : eqP v Y I J A B v Y I J A B := ⟨rfl, rfl, rfl, rfl, rfl, rfl⟩
theorem S_cV (g : Good X M) {i c np idx : Nat} {As : List Value} {v : Option Value} {I' : FI} {J' : FJ} {A' : FI} {B' : FJ} (hsp : Spec M2 (.ref (Y.1 i) :: As) Y I J A B (eqP v Y I' J' A' B')) (mw : MWv M2 c np) (lk : LKp M.1.cls idx M2.1) (hroom : fits_room M M2) (hi : i < 600) (hc : c < 10) (hKi : Y.2.1 i = c) (hn : As.length = np) (hst : (st.map fun v => v.category).sum ≤ 8) (hf : kc + M2.2.2.2.2.1.cells ≤ M.2.2.2.2.1.cells ∧ n + M2.2.2.2.2.1.slots ≤ M.2.2.2.2.1.slots) (hd : fnd M.2.2.2.2.2 pc = some (.invokevirtual idx, 3))
    (kk : Sim X Y (pc + 3) lv (v.toList ++ st) I' J' A' B' (kc + M2.2.2.2.2.1.cells) (n + M2.2.2.2.2.1.slots)) : Sim X Y pc lv (As.reverse ++ .ref (Y.1 i) :: st) I J A B kc n :=
  S_callV g hsp mw lk hroom hi hc hKi hn hst hf hd (fun v' Y' a b c d h => by obtain ⟨rfl, rfl, rfl, rfl, rfl, rfl⟩ := h; exact kk)
theorem S_cS (g : Good X M) {np idx : Nat} {As : List Value} {v : Option Value} {I' : FI} {J' : FJ} {A' : FI} {B' : FJ} (hsp : Spec M2 As Y I J A B (eqP v Y I' J' A' B')) (mw : MWs M2 np) (lk : LKp M.1.cls idx M2.1) (hroom : fits_room M M2) (hn : As.length = np) (hst : (st.map fun v => v.category).sum ≤ 8) (hf : kc + M2.2.2.2.2.1.cells ≤ M.2.2.2.2.1.cells ∧ n + M2.2.2.2.2.1.slots ≤ M.2.2.2.2.1.slots) (hd : fnd M.2.2.2.2.2 pc = some (.invokestatic idx, 3))
    (kk : Sim X Y (pc + 3) lv (v.toList ++ st) I' J' A' B' (kc + M2.2.2.2.2.1.cells) (n + M2.2.2.2.2.1.slots)) : Sim X Y pc lv (As.reverse ++ st) I J A B kc n :=
  S_callS g hsp mw lk hroom hn hst hf hd (fun v' Y' a b c d h => by obtain ⟨rfl, rfl, rfl, rfl, rfl, rfl⟩ := h; exact kk)
theorem S_copyi (g : Good X M) {i j idx : Nat} {sp dp c : Int32} (hi : i < 600) (hKi : Y.2.1 i = 10) (hj : j < 600) (hKj : Y.2.1 j = 10) (hlk : Cond.methodLink M.1.cls idx arraycopyName ∈ lw_all) (hnat : Cond.native arraycopyName ∈ lw_all) (hstat : Cond.static arraycopyName ∈ lw_all) (hini : Cond.initialized "java/lang/System" ∈ lw_all) (h1 : ¬ sp < 0) (h2 : ¬ dp < 0) (h3 : ¬ c < 0) (h4 : sp.toNatClampNeg + c.toNatClampNeg ≤ Y.2.2.1 i) (h5 : dp.toNatClampNeg + c.toNatClampNeg ≤ Y.2.2.1 j) (hfr : 1 ≤ M.2.2.2.2.1.frames) (hlo : (st.map fun v => v.category).sum + (nativeFrameWords "java/lang/System" "arraycopy" 5 + 11) ≤ M.2.2.2.2.1.locals) (hd : fnd M.2.2.2.2.2 pc = some (.invokestatic idx, 3)) (kk : Sim X Y (pc + 3) lv st I J (va_up A j (va_cpy (A i) (A j) sp.toNatClampNeg dp.toNatClampNeg c.toNatClampNeg)) B kc n) : Sim X Y pc lv (.int c :: .int dp :: .ref (Y.1 j) :: .int sp :: .ref (Y.1 i) :: st) I J A B kc n := by
  obtain ⟨p, l, e, R, s, m, args, below, meth, cod, Q, D, cy, A0, nL⟩ := X
  obtain ⟨hx, hb, hown, hts, hns, hK, hml, hnl, hA, hok, hR⟩ := g
  intro H locs ls hP hD hS hl
  obtain ⟨q, hq⟩ := lst_at (K := Y.2.1) (i := i) (by omega) hi
  have hg := pool_get (cy := cy) (Y := Y) (I := I) (J := J) (A := A) (B := B) hq
  rw [cel_10 hKi] at hg
  obtain ⟨q1, hq1⟩ := lst_at (K := Y.2.1) (i := j) (by omega) hj
  have hg1 := pool_get (cy := cy) (Y := Y) (I := I) (J := J) (A := A) (B := B) hq1
  rw [cel_10 hKj] at hg1
  have he : (pool cy Y I J A B).set q1 (Y.1 j, .inl (cy.1, Y.2.2.1 j, .inl (va_cpy (A i) (A j) sp.toNatClampNeg dp.toNatClampNeg c.toNatClampNeg))) = pool cy Y I J (va_up A j (va_cpy (A i) (A j) sp.toNatClampNeg dp.toNatClampNeg c.toNatClampNeg)) B := by
    refine pool_set hD hq1 rfl rfl (fun j hj => cel_A j hj) ?_
    rw [cel_10 hKj, va_up_self]
  subst hR
  refine va_copyi (ty := .int) hx hb (hml.trans (hnl.symm.trans hl.1.symm)) hown (hts _ hlk) (hts _ hnat) (hts _ hstat) (hts _ hini) hK hP hD hS q q1 0 0 hg hg1 rfl rfl rfl h1 h2 h3 h4 h5 (fun _ _ => rfl) hfr hlo (fnd_dec hok hd) (fun H1 locs1 hP1 hD1 hS1 => ?_)
  rw [he] at hP1 hD1
  exact kk H1 locs1 ls hP1 hD1 hS1 hl
theorem S_copyl (g : Good X M) {i j idx : Nat} {sp dp c : Int32} (hi : i < 600) (hKi : Y.2.1 i = 11) (hj : j < 600) (hKj : Y.2.1 j = 11) (hlk : Cond.methodLink M.1.cls idx arraycopyName ∈ lw_all) (hnat : Cond.native arraycopyName ∈ lw_all) (hstat : Cond.static arraycopyName ∈ lw_all) (hini : Cond.initialized "java/lang/System" ∈ lw_all) (h1 : ¬ sp < 0) (h2 : ¬ dp < 0) (h3 : ¬ c < 0) (h4 : sp.toNatClampNeg + c.toNatClampNeg ≤ Y.2.2.1 i) (h5 : dp.toNatClampNeg + c.toNatClampNeg ≤ Y.2.2.1 j) (hfr : 1 ≤ M.2.2.2.2.1.frames) (hlo : (st.map fun v => v.category).sum + (nativeFrameWords "java/lang/System" "arraycopy" 5 + 11) ≤ M.2.2.2.2.1.locals) (hd : fnd M.2.2.2.2.2 pc = some (.invokestatic idx, 3)) (kk : Sim X Y (pc + 3) lv st I J A (va_up B j (va_cpy (B i) (B j) sp.toNatClampNeg dp.toNatClampNeg c.toNatClampNeg)) kc n) : Sim X Y pc lv (.int c :: .int dp :: .ref (Y.1 j) :: .int sp :: .ref (Y.1 i) :: st) I J A B kc n := by
  obtain ⟨p, l, e, R, s, m, args, below, meth, cod, Q, D, cy, A0, nL⟩ := X
  obtain ⟨hx, hb, hown, hts, hns, hK, hml, hnl, hA, hok, hR⟩ := g
  intro H locs ls hP hD hS hl
  obtain ⟨q, hq⟩ := lst_at (K := Y.2.1) (i := i) (by omega) hi
  have hg := pool_get (cy := cy) (Y := Y) (I := I) (J := J) (A := A) (B := B) hq
  rw [cel_11 hKi] at hg
  obtain ⟨q1, hq1⟩ := lst_at (K := Y.2.1) (i := j) (by omega) hj
  have hg1 := pool_get (cy := cy) (Y := Y) (I := I) (J := J) (A := A) (B := B) hq1
  rw [cel_11 hKj] at hg1
  have he : (pool cy Y I J A B).set q1 (Y.1 j, .inl (cy.2.1, Y.2.2.1 j, .inr (.inl (va_cpy (B i) (B j) sp.toNatClampNeg dp.toNatClampNeg c.toNatClampNeg)))) = pool cy Y I J A (va_up B j (va_cpy (B i) (B j) sp.toNatClampNeg dp.toNatClampNeg c.toNatClampNeg)) := by
    refine pool_set hD hq1 rfl rfl (fun j hj => cel_B j hj) ?_
    rw [cel_11 hKj, va_up_self]
  subst hR
  refine va_copyl (ty := .long) hx hb (hml.trans (hnl.symm.trans hl.1.symm)) hown (hts _ hlk) (hts _ hnat) (hts _ hstat) (hts _ hini) hK hP hD hS q q1 1 1 hg hg1 rfl rfl rfl h1 h2 h3 h4 h5 (fun _ _ => rfl) hfr hlo (fnd_dec hok hd) (fun H1 locs1 hP1 hD1 hS1 => ?_)
  rw [he] at hP1 hD1
  exact kk H1 locs1 ls hP1 hD1 hS1 hl
end Calls
