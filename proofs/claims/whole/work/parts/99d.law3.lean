/-! THE CLAIM OUT OF ONE WALK OF THE LAW'S BODY. Your part is whole_start (and what it stands on); all else here is the same for every law, but numbers. -/
def R_law : String := "CodedCachingLaw"
def lw_P (b : Addr) (xs : List Int32) (args : Array Value) (s : State) : Prop := args = #[.ref b] ∧ s.IntsAt b xs ∧ xs.length ≤ 2048 ∧ (Jvm.Cond.and given_1 narrow_1).before args s = true
/-- what a walk over the start with the record d0 says of its end, said of the start itself -/
theorem lw_closed {s t : State} {o : Outcome} {d0 : Drawn} {L : List Loc} {k n : Nat} (hd0 : s.drawn.sameBut d0 lw_cs) (hv : ∃ v, o = .returned v) (hW : (s.setDrawn d0).WarmedH t.vm) (hs : (s.setDrawn d0).sameButNew ({ t with vm := s.vm } : State) L k n) : State.butDraws s t lw_cs (fun t1 => Framed s o t1 L k n) := by
  have h2 : t.drawn = d0 := congrArg State.drawn hs.1
  refine ⟨⟨hv, hW, State.sameButNew.setDrawn hs s.drawn⟩, ?_, by decide⟩
  rw [h2]
  exact hd0
def lw_Q (_ : Array Value) (s : State) (o : Outcome) (t : State) : Prop := o = .returned (some (.int 1)) ∧ State.butDraws s t lw_cs (fun t1 => Framed s o t1 [] 1200000 5502250)
def lw_Z (below : List Frame) (a : Array Value) (s : State) : State → Prop := fun t => ∃ o, t.status = .running ∧ Ended t below o ∧ lw_Q a s o t
/-- the law's own end, with 1 on the stack, nothing written that was there before, its room as the claim has it; d0: the record of draws at this point (at the entry s.drawn: begin with 'refine W.base ?_' and 'have hd0 := Drawn.sameBut.refl s.drawn lw_cs') -/
theorem lw_ret {p : Program} {l : Launch} {e : Env} {s : State} {m : MethodId} {below : List Frame} {meth : Method} {c : Code} {b : Nat} {d0 : Drawn} (hd0 : s.drawn.sameBut d0 lw_cs) (hx : p.tables.exec = Jvm.exec) (hb : c.code = code) (hr : meth.sig.returnType = ret) (hlocks : meth.locks = false) {pc : Nat} {H : Heap} {ls : Array Slot} (hdg : decode code pc = .ok (.ireturn, 1)) : W p l e room_1 (s.setDrawn d0) m #[Value.ref b] below meth c H [] 1200000 5502250 (lw_Z below #[Value.ref b] s) (F0 m pc ls [.int 1]) := by
  intro T hT X
  obtain ⟨fs, hret, hrun, hended, hW, hframe⟩ := X.leave (v := some (.int 1)) (hlocks := hlocks) (fun h => by rw [hr] at h; cases h)
  have hmeth' : T.vm.method? m = some meth := X.method'
  refine ⟨T.setFrames fs, ?_, .returned (some (.int 1)), hrun, hended, rfl, lw_closed hd0 ⟨_, rfl⟩ hW hframe⟩
  jvm_step X.here [X.here.top, hx, hb, hdg, hmeth', hr, ret, narrow_b1]
  (try refine ⟨rfl, ?_⟩); (try refine ⟨rfl, ?_⟩)
  first | (intro acts; rw [hret _ acts rfl rfl rfl]) | rw [hret _ _ rfl rfl rfl]
  exact Steps.refl _
/-- what holds at the law's entry: the machine, the code, the tables' words (any of lw_tbl by 'hts w (by decide +kernel)'), the script of L ints xs at the cell b, what the Statement gives of the start (any of its parts by flat_of_before) -/
def lw_At (p : Program) (s : State) (m : MethodId) (meth : Method) (c : Code) (b L : Nat) (xs : Nat → Int32) : Prop :=
  p.tables.exec = Jvm.exec ∧ c.code = code ∧ meth.sig.returnType = ret ∧ c.maxLocals = 4 ∧ s.vm.findClass R_law = some m.cls ∧ (∀ w ∈ lw_tbl, w.before #[Value.ref b] s = true) ∧ va_X b L xs s s.heap ∧ b < s.heap.size ∧ meth.locks = false ∧ (Jvm.Cond.and given_1 narrow_1).before #[Value.ref b] s = true
/-- what the tables say of the classes and of the arrays -/
theorem kn_of {s : State} {args : Array Value} {own : String} {idx c : Nat} (nw : NWp own idx c) (h : ∀ w ∈ lw_all, w.before args s = true) : ∃ (cC : ClassId) (iS : Nat → Nat), ∀ q : vw_C, vwCl[c]? = some q → u_Kn s q.1 q.2.1 q.2.2 cC iS := by
  obtain ⟨C, T, N, ty, hcl, hws, hty, w1, w2, w3, hN, hdf⟩ := nw
  obtain ⟨cC, iS, hk⟩ := u_known h hws (h _ w2)
  refine ⟨cC, iS, fun q hq => ?_⟩
  rw [hcl] at hq
  cases hq
  exact hk
theorem kn_all {s : State} {args : Array Value} (h : ∀ w ∈ lw_all, w.before args s = true) : ∀ c : Nat, ∃ (cC : ClassId) (iS : Nat → Nat), ∀ q : vw_C, vwCl[c]? = some q → u_Kn s q.1 q.2.1 q.2.2 cC iS
  | 0 => kn_of nw_X8_34 h
  | 1 => kn_of nw_X8_20 h
  | 2 => kn_of nw_X7_15 h
  | 3 => kn_of nw_X7_33 h
  | 4 => kn_of nw_X8_41 h
  | 5 => kn_of nw_X8_27 h
  | 6 => kn_of nw_X7_21 h
  | 7 => kn_of nw_X8_7 h
  | 8 => kn_of nw_L_7 h
  | 9 => kn_of nw_L_10 h
  | c + 10 => by
    obtain ⟨cC, iS, _⟩ := kn_of nw_L_10 h
    refine ⟨cC, iS, fun q hq => ?_⟩
    have h1 : c + 10 < 10 := (List.getElem?_eq_some_iff.mp hq).1
    omega
theorem ar_of {s : State} {args : Array Value} {ty : FieldType} (h : (Cond.arrayClass ty).before args s = true) (hp : ∀ cA, va_RA s cA ty = (s.vm.findClass ("[" ++ ty.toString) = some cA)) : ∃ cA, ArrOfT s cA ty ∧ va_RA s cA ty := by
  obtain ⟨c, k, comp, h1, h2, h3⟩ := Cond.arrayClass_spec h
  refine ⟨c, fun n z => ⟨fun k h => (by cases h), k, h2, comp, h3⟩, ?_⟩
  rw [hp]
  exact h1
theorem ao_of {s : State} {args : Array Value} {C : String} (h : (Cond.arrayOver (.object C)).before args s = true) : ∃ cA, ArrOfT s cA (.object C) ∧ va_RA s cA (.object C) := by
  obtain ⟨comp, c, k, h1, _, h3, h4, h5⟩ := Cond.arrayOver_spec h
  exact ⟨c, fun n z => ⟨fun k h => (by cases h), k, h3, comp, h4⟩, k, comp, h3, h4, h1, h5⟩
theorem vaK_ex {s : State} {args : Array Value} (hts : ∀ w ∈ lw_tbl, w.before args s = true) : ∃ (D : va_G) (cy : CY), va_K D vwCl (tysOf cy) s := by
  have h : ∀ w ∈ lw_all, w.before args s = true := fun w hw => hts w (List.mem_filter.mp hw).1
  obtain ⟨f, hf⟩ := Classical.axiomOfChoice (kn_all h)
  obtain ⟨g, hg⟩ := Classical.axiomOfChoice hf
  obtain ⟨a1, x1⟩ := ar_of (h _ ai_w) (fun _ => rfl)
  obtain ⟨a2, x2⟩ := ar_of (h _ al_w) (fun _ => rfl)
  obtain ⟨a3, x3⟩ := ar_of (h _ az_w) (fun _ => rfl)
  obtain ⟨a4, x4⟩ := ao_of (hts _ (List.mem_filter.mp ao_2).1)
  obtain ⟨a5, x5⟩ := ao_of (hts _ (List.mem_filter.mp ao_7).1)
  refine ⟨(f, g), (a1, a2, a3, a4, a5), fun c q hq => hg c q hq, fun k q hk => ?_⟩
  match k, hk with
  | 0, hk => cases hk; exact x1
  | 1, hk => cases hk; exact x2
  | 2, hk => cases hk; exact x3
  | 3, hk => cases hk; exact x4
  | 4, hk => cases hk; exact x5
  | k + 5, hk =>
    have h1 : k + 5 < 5 := (List.getElem?_eq_some_iff.mp hk).1
    omega
theorem nst_of {s : State} {args : Array Value} (hts : ∀ w ∈ lw_tbl, w.before args s = true) : ∀ w ∈ lw_nst, va_Nw w s := by
  intro w hw
  have h1 := (List.mem_filter.mp hw).2
  have h2 := hts w (List.mem_filter.mp hw).1
  unfold isNst at h1
  split at h1
  · exact va_Nw.of rfl h2
  · exact va_Nw.of rfl h2
  · exact va_AO.of h2
  · cases h1
/-- a world with nothing in it -/
def e0H (nn : Nat → Nat) : HS := ((fun _ => 0, fun _ => 99, nn, fun _ _ => none, fun _ _ => none), fun _ _ => 0, fun _ _ => 0, fun _ _ => 0, fun _ _ => 0)
theorem e0_nil (cy : CY) (nn : Nat → Nat) : plH cy (e0H nn) = [] := by
  have h : lst (e0H nn).1.2.1 = [] := by
    unfold lst
    exact List.filter_eq_nil_iff.mpr (fun i _ => (by decide : ¬ decide ((99 : Nat) < 15) = true))
  unfold plH pool
  simp only [h, List.map_nil]
theorem e0_fr (nn : Nat → Nat) {i : Nat} (hi : i < 600) : frY (e0H nn).1 i := ⟨hi, (by decide : ¬ 99 < 15), fun j hj => absurd hj (by decide : ¬ 99 < 15)⟩
theorem e0_K (nn : Nat → Nat) (i q c : Nat) : (newY (e0H nn).1 i q c).2.1 i = c := va_up_self _ _ _
theorem e0_F (nn : Nat → Nat) (i q c : Nat) (j : Nat) (h : j ≠ i) : (newY (e0H nn).1 i q c).2.1 j = 99 := va_up_ne _ _ h
theorem e0_C (nn : Nat → Nat) (i q c : Nat) : ClY (newY (e0H nn).1 i q c) := by
  intro j _ k x h
  rcases h with h | h
  · have h' : va_up (fun _ _ => none) i (fun _ => none) j k = some x := h
    by_cases e : j = i
    · subst e; rw [va_up_self] at h'; cases h'
    · rw [va_up_ne _ _ e] at h'; cases h'
  · have h' : va_up (fun _ _ => none) i (fun _ => none) j k = some x := h
    by_cases e : j = i
    · subst e; rw [va_up_self] at h'; cases h'
    · rw [va_up_ne _ _ e] at h'; cases h'
theorem e0_N (nn : Nat → Nat) (i q c : Nat) : (newY (e0H nn).1 i q c).2.2.1 = nn := rfl
theorem e0_ad (nn : Nat → Nat) (i q c : Nat) : (newY (e0H nn).1 i q c).1 i = q := va_up_self _ _ _
def tb_L_0 : TB := [(0, .new 7, 3), (3, .dup, 1), (4, .invokespecial 9, 3), (7, .astore_n 1, 1), (8, .new 10, 3), (11, .dup, 1), (12, .invokespecial 12, 3), (15, .astore_n 2, 1), (16, .iconst 0, 1), (17, .istore_n 3, 1)]
theorem tk_L_0 : tbOk cL_law tb_L_0 := tbOk_of (by decide +kernel)
theorem L_start {X : MX} {sb L : Nat} {xs : Nat → Int32} (g : Good X M_L) (hX : Scr X sb L xs) (hL : L ≤ 2048) (ke : ∀ (a b : HS) (lv : List (Nat × Value)) (k n : Nat), k ≤ 1200000 → n ≤ 5502250 → SimG X a b 1073 lv [] k n) : SimG X (e0H nnC) (e0H nnR) 0 [(0, .ref sb)] [] 0 0 := by
  have g1 : Good X (yL_law, cL_law, 4, ret, room_1, tb_L_0) := Good_tb g tk_L_0
  refine G_newO (pc := 0) (i := 0) (c := 8) (idx := 7) g1 (e0_fr nnC (by omega)) (by omega) nw_L_7 (Nat.le_of_ble_eq_true rfl) (Nat.le_of_ble_eq_true rfl) rfl (fun q1 => ?_)
  refine G_n g1 1 (pc' := 4) (lv' := [(0, .ref sb)]) (st' := [.ref q1, .ref q1]) rfl ?_
  have sC := in_X8 (newY (e0H nnC).1 0 q1 8) (va_up (e0H nnC).2.1 0 (fun _ => 0)) (va_up (e0H nnC).2.2.1 0 (fun _ => 0)) (e0H nnC).2.2.2.1 (e0H nnC).2.2.2.2 (e0_C nnC 0 q1 8) (e0_K nnC 0 q1 8) (e0_F nnC 0 q1 8) (e0_N nnC 0 q1 8)
  rw [e0_ad nnC 0 q1 8] at sC
  refine G_callI (pc := 4) (bq := q1) (As := []) (st := [.ref q1]) g1 sC mw_X8_init mi_X8_init rfl rfl lk_L_9 ⟨Nat.le_of_ble_eq_true rfl, Nat.le_of_ble_eq_true rfl⟩ rfl (Nat.le_of_ble_eq_true rfl) ⟨Nat.le_of_ble_eq_true rfl, Nat.le_of_ble_eq_true rfl⟩ rfl ?_
  rintro v1 Y1 I1 J1 A1 B1 ⟨rfl, ⟨ad1, rfl, had1⟩, hW, c1, c2, c3, c4⟩
  refine G_n g1 1 (pc' := 8) (lv' := [(0, .ref sb), (1, .ref q1)]) (st' := []) rfl ?_
  refine G_sw ?_
  refine G_newO (pc := 8) (i := 500) (c := 9) (idx := 10) g1 (e0_fr nnR (by omega)) (by omega) nw_L_10 (Nat.le_of_ble_eq_true rfl) (Nat.le_of_ble_eq_true rfl) rfl (fun q2 => ?_)
  refine G_n g1 1 (pc' := 12) (lv' := [(0, .ref sb), (1, .ref q1)]) (st' := [.ref q2, .ref q2]) rfl ?_
  have sR := in_X9 (newY (e0H nnR).1 500 q2 9) (va_up (e0H nnR).2.1 500 (fun _ => 0)) (va_up (e0H nnR).2.2.1 500 (fun _ => 0)) (e0H nnR).2.2.2.1 (e0H nnR).2.2.2.2 (e0_C nnR 500 q2 9) (e0_K nnR 500 q2 9) (e0_F nnR 500 q2 9) (e0_N nnR 500 q2 9)
  rw [e0_ad nnR 500 q2 9] at sR
  refine G_callI (pc := 12) (bq := q2) (As := []) (st := [.ref q2]) g1 sR mw_X9_init mi_X9_init rfl rfl lk_L_12 ⟨Nat.le_of_ble_eq_true rfl, Nat.le_of_ble_eq_true rfl⟩ rfl (Nat.le_of_ble_eq_true rfl) ⟨Nat.le_of_ble_eq_true rfl, Nat.le_of_ble_eq_true rfl⟩ rfl ?_
  rintro v2 Y2 I2 J2 A2 B2 ⟨rfl, ⟨ad2, rfl, had2⟩, hB, rfl, hA⟩
  refine G_sw ?_
  refine G_n g1 3 (pc' := 18) (lv' := [(0, .ref sb), (1, .ref q1), (2, .ref q2), (3, .int (nI (4 * 0)))]) (st' := []) rfl ?_
  refine G_wd (k' := 100 + 37 * 0) (n' := 6000 + 1820 * 0) (Nat.le_of_ble_eq_true rfl) (Nat.le_of_ble_eq_true rfl) ?_
  have hz : up2 (va_up (e0H nnR).2.1 500 (fun _ => 0)) 500 5 (-nI 1) 500 4 = nI 0 := rfl
  refine L_loop g hX hL ke (L + 1) 0 (by omega) (by omega) ((B2 501, B2 501, B2 501), (false, false), fun _ => 0, 0, -nI 1) ad1 ad2 _ _ _ _ _ _ _ _ ⟨WE_beg (by omega) (by omega) (by omega) (by omega) (by omega) hB, fun h => absurd (show false = true from h) Bool.false_ne_true, fun h => absurd (show false = true from h) Bool.false_ne_true⟩ ⟨hW _ hB, fun h => absurd (show false = true from h) Bool.false_ne_true, fun h => absurd (show false = true from h) Bool.false_ne_true, c1, ⟨Nat.zero_le 80, fun i hi => absurd hi (Nat.not_lt_zero i)⟩, c2, c3, c4⟩ ⟨rfl, ⟨by rw [hA]; rfl, by rw [hA]; rfl⟩, fun h => absurd (show false = true from h) Bool.false_ne_true, fun h => absurd (show false = true from h) Bool.false_ne_true, hz, ⟨Nat.zero_le 80, fun i hi => absurd hi (Nat.not_lt_zero i)⟩, rfl⟩ had1 had2
theorem whole_start {p : Program} {e : Env} {s : State} {m : MethodId} {below : List Frame} {meth : Method} {c : Code} (l : Launch) (hflags : l.flags = flags0) {b L : Nat} {xs : Nat → Int32} (hL : L ≤ 2048) (C0 : lw_At p s m meth c b L xs) : W p l e room_1 s m #[Value.ref b] below meth c s.heap [] 0 0 (lw_Z below #[Value.ref b] s) (entryFrame m ([Value.ref b] : List Value).toArray 4) := by
  obtain ⟨D, cy, hK⟩ := vaK_ex C0.2.2.2.2.2.1
  obtain ⟨hx, hb, hr, hml, hown, hts, hXs, hbl, hlk, hgv⟩ := C0
  have g : Good (p, l, e, room_1, s, m, #[Value.ref b], below, meth, c, lw_Z below #[Value.ref b] s, D, cy, (fun q => s.heap.size ≤ q), 4) M_L := ⟨hx, hb, hown, fun w hw => hts w (List.mem_filter.mp hw).1, nst_of hts, hK, hml, rfl, fun q h => h, (fun r hr => by cases hr), rfl⟩
  have hX : Scr (p, l, e, room_1, s, m, #[Value.ref b], below, meth, c, lw_Z below #[Value.ref b] s, D, cy, (fun q => s.heap.size ≤ q), 4) b L xs := ⟨hXs, hbl, Nat.not_le.mpr hbl⟩
  have ke : ∀ (a b' : HS) (lv : List (Nat × Value)) (k n : Nat), k ≤ 1200000 → n ≤ 5502250 → SimG (p, l, e, room_1, s, m, #[Value.ref b], below, meth, c, lw_Z below #[Value.ref b] s, D, cy, (fun q => s.heap.size ≤ q), 4) a b' 1073 lv [] k n := by
    intro a b' lv k n hk hn
    have g1 := Good_tb (M := M_L) g tk_L_head
    refine G_n g1 1 (pc' := 1074) (lv' := lv) (st' := [.int (nI 1)]) rfl ?_
    intro H locs ls hF hS hl
    refine va_forget (fun q hq => hS.2.2 q hq) (W.widen hk hn ?_)
    exact W.base (lw_ret (Drawn.sameBut.refl s.drawn lw_cs) hx hb hr hlk (fnd_dec tk_L_head (pc := 1074) rfl))
  have body := L_start g hX hL ke
  rw [lg_entry_eq]
  refine body s.heap [] _ ⟨⟨?_, ?_⟩, ⟨?_, ?_⟩, ?_⟩ va_S.rf (lv_entry [.ref b] (Nat.le_of_ble_eq_true rfl))
  · rw [e0_nil]; intro k q h; cases h
  · rw [e0_nil]; exact ⟨fun i j p q h => (by cases h), fun k q h => (by cases h)⟩
  · rw [e0_nil]; intro k q h; cases h
  · rw [e0_nil]; exact ⟨fun i j p q h => (by cases h), fun k q h => (by cases h)⟩
  · rw [e0_nil]; intro i j x y h; cases h
set_option maxHeartbeats 4000000 in
theorem lw_walk (l : Launch) (hflags : l.flags = flags0) (b : Addr) (xs : List Int32) : MetFree l x (headSpec (Jvm.Cond.code x code maxLocals ret :: tables_1) room_1) (lw_P b xs) (fun _ _ _ _ _ => True) lw_Q := by
  refine MetFree.of_bodyS (code := code) (maxLocals := maxLocals) (ret := ret) (by decide) ?_ ?_
  · intro args s m h hn
    obtain ⟨meth, c, h1, h2, h3, h4, h5, h6, -, -⟩ := Cond.code_spec hn (atoms_spec (ws := Jvm.Cond.code x code maxLocals ret :: tables_1) h _ List.mem_cons_self)
    exact ⟨meth, c, h1, h2, h3, h4, h5, h6⟩
  · intro p e s m args below meth c s₁ B hml0 hP _
    obtain ⟨rfl, hx, hbd, hgv⟩ := hP
    obtain ⟨scr, harrAt, hlist, hof, hsmall⟩ := hx
    obtain ⟨hcb, hkn, -, -⟩ := State.arrayAt?_spec harrAt
    have hown : s.vm.findClass R_law = some m.cls := findClass_of_methodNamed B.named
    have hts0 : ∀ c ∈ (Jvm.Cond.code x code maxLocals ret :: tables_1), c.before #[Value.ref b] s = true := atoms_spec (ws := Jvm.Cond.code x code maxLocals ret :: tables_1) B.pre
    have hts : ∀ w ∈ lw_tbl, w.before #[Value.ref b] s = true := k2_hts_sels lw_privs (fun w hw => hts0 w (List.mem_cons_of_mem _ hw)) lw_privs_ok
    have hml : c.maxLocals = 4 := B.maxLocals_eq (hts0 _ List.mem_cons_self)
    have X₀ : Stand p l e room_1 s m #[Value.ref b] below meth c s₁ [] 0 0 := Stand.of_body B
    have hh0 : s₁.heap = s.heap := by rw [B.state]; rfl
    have hsz : scr.slots.size = xs.length := by rw [← Array.length_toList, hlist, List.length_map]
    have hval : ∀ j : Nat, j < xs.length → scr.slots[j]? = some (.int (xs.getD j 0)) := fun j hj => by
      rw [← Array.getElem?_toList, hlist]
      simp [hj]
    have hbl : b < s.heap.size := (Array.getElem?_eq_some_iff.mp hcb).1
    have hX : va_X b xs.length (fun j => xs.getD j 0) s s.heap := ⟨scr, hcb, hof, hkn, hsz, hval⟩
    have K : W p l e room_1 s m #[Value.ref b] below meth c s₁.heap [] 0 0 (lw_Z below #[Value.ref b] s) (entryFrame m ([Value.ref b] : List Value).toArray 4) := by
      rw [hh0]
      exact whole_start l hflags hbd ⟨B.exec, B.bytes, B.returns, hml, hown, hts, hX, hbl, B.notSynchronized, hgv⟩
    obtain ⟨t, a1, o, b1, b2, b3⟩ := K s₁ rfl X₀
    exact ⟨t, o, a1, b1, b2, b3⟩
theorem lw_pre_spec {args : Array Value} {s : State} (h : (Jvm.Cond.and given_1 narrow_1).before args s = true) (hr : rest_1_c.before args s = true) : ∃ (b : Addr) (xs : List Int32), lw_P b xs args s := by
  have hs := flat_of_before _ h
  have hq := flat_of_before _ hr
  have hc : (Cond.count 1).before args s = true := hs _ (by decide +kernel)
  have harr : (Cond.arrayOf (.arg 0) .int).before args s = true := hs _ (by decide +kernel)
  have hle : (Cond.le (.length (.arg 0)) (.int 2048)).before args s = true := hs _ (by decide +kernel)
  have hlen : (Cond.isInt (.length (.arg 0))).before args s = true := hq _ (by decide +kernel)
  have hall : (Cond.all (.arg 0) (.isInt (.elem (.arg 0) (.index 0)))).before args s = true := hq _ (by decide +kernel)
  obtain ⟨b, xs, hb, hx⟩ := State.ints_of_pre rfl harr hlen hall
  have hsm : xs.length < 2 ^ 31 := hx.choose_spec.2.2.2
  have hev : (Term.length (.arg 0)).eval args s none [] s = some (.int xs.length.toInt32) := hx.length_eval hb
  have hv := Cond.le_ints hev (show (Term.int 2048).eval args s none [] s = some (.int 2048) from rfl)
  have hd : xs.length.toInt32 ≤ 2048 := by
    simpa [Cond.before, Cond.holds, hv] using hle
  have hN : xs.length ≤ 2048 := (Int32.ofNat_le_ofNat hsm (by decide)).mp (show Int32.ofNat xs.length ≤ Int32.ofNat 2048 from hd)
  exact ⟨b, xs, Cond.one_arg hc (show args[0]? = some (.ref b) from hb), hx, hN, h⟩
theorem lw_comes (l : Launch) (hflags : l.flags = flags0) : Comes l x (Jvm.Cond.code x code maxLocals ret :: tables_1) room_1 (fun tb e args s => Calls_1 tb e args s ∧ rest_1 tb e args s ∧ Pre_1 tb e args s)
    (fun _ _ args s o t => lw_Q args s o t) := by
  intro p e ha hc hk s m args below hf hfit hheap happ hpre
  obtain ⟨b, xs, hP⟩ := lw_pre_spec hpre.2.2 hpre.2.1
  obtain ⟨k, o, h1, h2, h3, hQ⟩ := lw_walk l hflags b xs p e ha hc hk s m args below hf ((Spec.applies_iff_loose hf).mp happ).1 hP trivial
  exact ⟨k, o, h1, h2, h3, hQ⟩
theorem lw_frame {s t : State} {o : Outcome} {args : Array Value} (h : State.butDraws s t lw_cs (fun t1 => Framed s o t1 [] 1200000 5502250)) :
    State.butDraws s t [Jvm.Choice.named "NaN.bits"] (fun t1 => Framed s o t1 (fieldLocs frame_1_writes args s ++ arrayLocs frame_1_arrays args s ++ staticLocs frame_1_statics s) 1200000 5502250) := h
theorem lw_limb (L : Cond) (hL : ∀ (args : Array Value) (s t : State), L.after args s (.returned (some (.int 1))) t = true) :
    ArmFor flags0 classFile x code maxLocals ret World_1 tables_1 room_1 Calls_1 rest_1 Pre_1
      (fun tb e a s o t => postC L tb e a s o t ∧ State.butDraws s t [Jvm.Choice.named "NaN.bits"] (fun t1 => Framed s o t1 (fieldLocs frame_1_writes a s ++ arrayLocs frame_1_arrays a s ++ staticLocs frame_1_statics s) 1200000 5502250)) := by
  intro l hflags _ _ p e ha hc hk s m args below hf hfit hheap happ hpre
  obtain ⟨k, o, h1, h2, h3, rfl, hF⟩ := lw_comes l hflags p e ha hc hk s m args below hf hfit hheap happ hpre
  exact ⟨k, _, h1, h2, h3, hL args s _, lw_frame hF⟩
theorem i_vc : Claimed_1_1 ∧ Claimed_1_2 := ⟨lw_limb limb_1_1 (fun args s t => by simp [limb_1_1, Cond.after, Cond.holds, Cond.value]), lw_limb limb_1_2 (fun args s t => Cond.after_iff.mpr (by
  first | (rw [show limb_1_2 = Cond.eq .result (.int 1) from rfl, Cond.eq_ints (x := 1) (y := 1) rfl rfl]; simp; done) | (simp [limb_1_2, Cond.value, Term.eval]; done)))⟩
