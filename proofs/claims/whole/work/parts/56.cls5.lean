/-! the class: drop, want, pending sums -/
theorem wnt_ok {y : Int32} {nf : Nat} (h1 : ¬ y < -nI 1) (h2 : y < nI nf) (hn : nf < 2 ^ 31) : y = -nI 1 ∨ isIx y nf = true := by
  rw [Int32.lt_iff_toInt_lt] at h1 h2
  have e : (-nI 1).toInt = -1 := by decide
  rw [nI_toInt hn] at h2
  rw [e] at h1
  by_cases q : y.toInt = -1
  · exact Or.inl (Int32.toInt_inj.mp (q.trans e.symm))
  · refine Or.inr (decide_eq_true ?_)
    omega
theorem wnt_lo {y : Int32} {nf : Nat} (h1 : y < -nI 1) : ¬ (y = -nI 1 ∨ isIx y nf = true) := by
  rw [Int32.lt_iff_toInt_lt] at h1
  have e : (-nI 1).toInt = -1 := by decide
  rintro (q | q)
  · rw [q] at h1; omega
  · have := of_decide_eq_true q; omega
theorem wnt_hi {y : Int32} {nf : Nat} (h1 : ¬ y < nI nf) (hn : nf < 2 ^ 31) : ¬ (y = -nI 1 ∨ isIx y nf = true) := by
  rw [Int32.lt_iff_toInt_lt, nI_toInt hn] at h1
  have e : (-nI 1).toInt = -1 := by decide
  rintro (q | q)
  · rw [q] at h1; omega
  · have := of_decide_eq_true q; omega
theorem i64_32 (y : Int32) : y.toInt64.toInt32 = y := Int32.toInt32_toInt64 y
theorem lnG_cong {m m' : Nat → Int64} {u : Nat} (h : m' (81 + u) = m (81 + u)) : lnG m' u = lnG m u := by unfold lnG; rw [h]
theorem RepW_push {m : Nat → Int64} {I : FI} {J : FJ} {A : FI} {B : FJ} (g : WG m) (h : RepW 100 m I J A B) (hq : gN (m 327) < 100) (s : Int64) (v : Int32) : RepW 100 (o_queues (gN (m 327)) m s).2 (up2 I 103 3 (nI (gN (m 327) + 1))) J (va_up A 105 (va_up (A 105) (gN (m 327)) v)) (va_up B 104 (va_up (B 104) (gN (m 327)) s)) := by
  obtain ⟨h0, h1, h2, h3, h4, h5, h6, h7, h8⟩ := h
  obtain ⟨g0, g1, g2, g3, g4, g5⟩ := WGn g
  obtain ⟨qn, hqn⟩ : ∃ qn, qn = gN (m 327) := ⟨_, rfl⟩
  have e : ∀ j, j < 327 ∨ 428 ≤ j → (o_queues qn m s).2 j = m j := fun j hj => (ne1 (by omega)).trans (ne1 (by omega))
  have e7 : (o_queues qn m s).2 327 = lN (qn + 1) := by
    show va_up (va_up m (328 + qn) s) 327 (lN (qn + 1)) 327 = _
    rw [va_up_self]
  unfold r6w at h6
  rw [← hqn] at h6 hq ⊢
  refine ⟨r0_h (r0_m h0 (fun j hj => e j (by omega))) (fun k _ => u2j (Or.inl (by omega))), r1_h (r1_m h1 g1 (fun j hj => e j (by omega))) (u2j (Or.inl (by omega))), r2_h (r2_m h2 (fun j a b => e j (by omega))) (va_up_ne _ _ (by omega)), r3_h (r3_m h3 (fun j a b => e j (by omega))) (fun _ _ => rfl) (fun w hw => u2j (Or.inl (by omega))), r4_h (r4_m h4 g5 (fun j a b => e j (by omega))) (fun w hw k => u2j (Or.inl (by omega))) (fun w hw => va_up_ne _ _ (by omega)), r5_h (r5_m h5 g0 g5 (fun j hj => e j (by omega))) (fun w hw => va_up_ne _ _ (by omega)), ?_, r7_h (r7_m h7 g3 (fun j a b => e j (by omega))) (fun k => u2j (Or.inl (by omega))) (va_up_ne _ _ (by omega)), r8_h (r8_m h8 g4 (fun j a b => e j (by omega))) (u2j (Or.inl (by omega))) (va_up_ne _ _ (by omega)) (va_up_ne _ _ (by omega)) (va_up_ne _ _ (by omega))⟩
  unfold r6w
  rw [e7, gN_lN (by omega)]
  refine ⟨(u2j (Or.inr (by decide))).trans h6.1, up2_same _ _ _ _, fun k hk => ?_⟩
  show va_up B 104 (va_up (B 104) qn s) 104 k = va_up (va_up m (328 + qn) s) 327 (lN (qn + 1)) (328 + k)
  rw [va_up_self, ne1 (show 328 + k ≠ 327 by omega)]
  by_cases q : k = qn
  · subst q; rw [va_up_self, va_up_self]
  · rw [va_up_ne _ _ q, ne1 (show 328 + k ≠ 328 + qn by omega)]
    exact h6.2.2 k (by omega)

set_option maxRecDepth 100000 in
set_option maxHeartbeats 4000000 in
theorem c_drop (ad : Nat → Nat) (z0 z1 : Bool) (I : FI) (J : FJ) (A : FI) (B : FJ) (x y : Int32) (m : Nat → Int64) (hG : WG m) (hR : RepW 100 m I J A B) : Spec M_X8_drop [.ref (ad 0), .int x, .int y] (YC ad z0 z1) I J A B (cP ad z0 z1 I J A B (.int (o_drop (gN (m 0)) (gN (m 1)) m x y).1) (o_drop (gN (m 0)) (gN (m 1)) m x y).2) := by
  obtain ⟨nf, hnf⟩ : ∃ nf, nf = gN (m 0) := ⟨_, rfl⟩
  obtain ⟨nu, hnu⟩ : ∃ nu, nu = gN (m 1) := ⟨_, rfl⟩
  obtain ⟨nc, hnc⟩ : ∃ nc, nc = gN (m 2) := ⟨_, rfl⟩
  have hD := hG.1
  unfold wc0 at hD
  rw [← hnf, ← hnu, ← hnc] at hD
  obtain ⟨hmF, hmU, hmC, h1, h2, h3, h4, h5⟩ := hD
  have hF : I 100 5 = nI nf := by rw [hR.1.1, hmF, lN_i]
  have hU : I 100 6 = nI nu := by rw [hR.1.2.1, hmU, lN_i]
  have hC : I 100 7 = nI nc := by rw [hR.1.2.2.1, hmC, lN_i]
  rw [← hnf, ← hnu]
  refine Spec_of (by decide) tk_X8_drop (Nat.le_of_ble_eq_true rfl) (fun X g rt => ?_)
  show Sim X (YC ad z0 z1) 0 [(0, .ref (ad 0)), (1, .int x), (2, .int y)] [] I J A B 0 0
  refine S_n g 1 (pc' := 1) (lv' := [(0, .ref (ad 0)), (1, .int x), (2, .int y)]) (st' := [.ref (ad 0)]) rfl ?_
  refine S_getR g (i := 0) (c := 8) (k := 0) (j := 100) (by decide) (by decide) rfl rfl rfl fl_X8_10 rfl ?_
  refine S_n g 1 (pc' := 5) (lv' := [(0, .ref (ad 0)), (1, .int x), (2, .int y)]) (st' := [.int x, .ref (ad 100)]) rfl ?_
  refine S_cV g (i := 100) (As := [.int x]) (st := []) (w_hasUser ad z0 z1 I J A B x nu hU h4) mw_X7_hasUser lk_X8_80 ⟨Nat.le_of_ble_eq_true rfl, Nat.le_of_ble_eq_true rfl⟩ (by decide) (by decide) rfl rfl (Nat.le_of_ble_eq_true rfl) ⟨Nat.le_of_ble_eq_true rfl, Nat.le_of_ble_eq_true rfl⟩ rfl ?_
  show Sim X (YC ad z0 z1) 8 [(0, .ref (ad 0)), (1, .int x), (2, .int y)] [.int (bI (isIx x nu))] I J A B 0 0
  refine S_ifB_eq g (tgt := 22) rfl (by decide) (fun qz8 => ?_) (fun qz8 => ?_)
  · skip
    refine S_n g 1 (pc' := 24) (lv' := [(0, .ref (ad 0)), (1, .int x), (2, .int y)]) (st' := [.int (-nI 101)]) rfl ?_
    exact rtI rt rfl rfl (⟨by simp [o_drop, qz8], rfl, by simp [o_drop, qz8]; exact hR, kpC_rf I J A B⟩)
  · skip
    refine S_n g 1 (pc' := 12) (lv' := [(0, .ref (ad 0)), (1, .int x), (2, .int y)]) (st' := [.ref (ad 0)]) rfl ?_
    refine S_getR g (i := 0) (c := 8) (k := 0) (j := 100) (by decide) (by decide) rfl rfl rfl fl_X8_10 rfl ?_
    refine S_n g 1 (pc' := 16) (lv' := [(0, .ref (ad 0)), (1, .int x), (2, .int y)]) (st' := [.int y, .ref (ad 100)]) rfl ?_
    refine S_cV g (i := 100) (As := [.int y]) (st := []) (w_hasPiece ad z0 z1 I J A B y nf hF h2) mw_X7_hasPiece lk_X8_64 ⟨Nat.le_of_ble_eq_true rfl, Nat.le_of_ble_eq_true rfl⟩ (by decide) (by decide) rfl rfl (Nat.le_of_ble_eq_true rfl) ⟨Nat.le_of_ble_eq_true rfl, Nat.le_of_ble_eq_true rfl⟩ rfl ?_
    show Sim X (YC ad z0 z1) 19 [(0, .ref (ad 0)), (1, .int x), (2, .int y)] [.int (bI (isIx y (12 * nf)))] I J A B 0 0
    refine S_ifB_ne g (tgt := 25) rfl (by decide) (fun qz19 => ?_) (fun qz19 => ?_)
    · skip
      obtain ⟨u, hu, hxu⟩ := isIx_t qz8
      subst hxu
      have hcu : (nI u).toNatClampNeg = u := nI_clamp (by omega)
      have hu : u < 6 := by omega
      have hJu : J (120 + 4 * u) 1 = m (63 + u) := (hR.2.2.2.1 u hu).1
      have hIu : I (120 + 4 * u) 2 = (m (69 + u)).toInt32 := (hR.2.2.2.1 u hu).2
      have hmb := mb7 (ad := ad) (z0 := z0) (z1 := z1) hu
      have hin : inP nf (m (63 + u)) := by rw [hnf]; exact (hG.2.2.2.2.2.2.2.1 u hu).1
      obtain ⟨p, hp, hxp⟩ := isIx_t qz19
      subst hxp
      have hcp : (nI p).toNatClampNeg = p := nI_clamp (by omega)
      have ho : o_drop nf nu m (nI u) (nI p) = if tb (m (63 + u)) p = true then (nI (ctb (m (63 + u) &&& (b1 p ^^^ -lN 1)) 60), va_up m (63 + u) (m (63 + u) &&& (b1 p ^^^ -lN 1))) else (-nI 102, m) := by simp only [o_drop, qz8, qz19, if_true, ix, hcu, hcp]
      have hin2 : inP nf (m (63 + u) &&& (b1 p ^^^ -lN 1)) := inP_and hin
      refine S_n g 1 (pc' := 26) (lv' := [(0, .ref (ad 0)), (1, .int (nI u)), (2, .int (nI p))]) (st' := [.ref (ad 0)]) rfl ?_
      refine S_getR g (i := 0) (c := 8) (k := 0) (j := 100) (by decide) (by decide) rfl rfl rfl fl_X8_10 rfl ?_
      refine S_getR g (i := 100) (c := 7) (k := 1) (j := 102) (by decide) (by decide) rfl rfl rfl fl_X8_83 rfl ?_
      refine S_n g 1 (pc' := 33) (lv' := [(0, .ref (ad 0)), (1, .int (nI u)), (2, .int (nI p))]) (st' := [.int (nI u), .ref (ad 102)]) rfl ?_
      refine S_aaldN g (i := 102) (e := u) (j := 120 + 4 * u) (by decide) rfl (show u < 6 from by omega) (show (6 : Nat) < 2 ^ 31 from by decide) rfl rfl ?_
      refine S_n g 3 (pc' := 37) (lv' := [(0, .ref (ad 0)), (1, .int (nI u)), (2, .int (nI p)), (3, .ref (ad (120 + 4 * u)))]) (st' := [.int (nI p), .ref (ad (120 + 4 * u))]) rfl ?_
      refine S_cV g (i := 120 + 4 * u) (As := [.int (nI p)]) (st := []) (mb_holds ad z0 z1 I J A B (120 + 4 * u) (by omega) hmb.1 p (by omega)) mw_X2_holds lk_X8_87 ⟨Nat.le_of_ble_eq_true rfl, Nat.le_of_ble_eq_true rfl⟩ (by omega) (by decide) (mb7 hu).1 rfl (Nat.le_of_ble_eq_true rfl) ⟨Nat.le_of_ble_eq_true rfl, Nat.le_of_ble_eq_true rfl⟩ rfl ?_
      rw [hJu]
      show Sim X (YC ad z0 z1) 40 [(0, .ref (ad 0)), (1, .int (nI u)), (2, .int (nI p)), (3, .ref (ad (120 + 4 * u)))] [.int (bI (tb (m (63 + u)) p))] I J A B 0 0
      refine S_ifB_ne g (tgt := 46) rfl (by decide) (fun qz40 => ?_) (fun qz40 => ?_)
      · skip
        rw [if_pos qz40] at ho
        refine S_n g 2 (pc' := 48) (lv' := [(0, .ref (ad 0)), (1, .int (nI u)), (2, .int (nI p)), (3, .ref (ad (120 + 4 * u)))]) (st' := [.ref (ad (120 + 4 * u)), .ref (ad (120 + 4 * u))]) rfl ?_
        refine S_getJ g (i := 120 + 4 * u) (c := 2) (k := 1) (by omega) (by decide) (mb7 hu).1 rfl fl_X8_98 rfl ?_
        rw [hJu]
        refine S_n g 3 (pc' := 54) (lv' := [(0, .ref (ad 0)), (1, .int (nI u)), (2, .int (nI p)), (3, .ref (ad (120 + 4 * u)))]) (st' := [.long ((lN 1) <<< ((nI p).toInt64 &&& 63)), .long (m (63 + u)), .ref (ad (120 + 4 * u))]) rfl ?_
        refine S_ldc2 g kc_X8_102 rfl ?_
        refine S_n g 2 (pc' := 59) (lv' := [(0, .ref (ad 0)), (1, .int (nI u)), (2, .int (nI p)), (3, .ref (ad (120 + 4 * u)))]) (st' := [.long ((m (63 + u)) &&& (((lN 1) <<< ((nI p).toInt64 &&& 63)) ^^^ (-lN 1))), .ref (ad (120 + 4 * u))]) rfl ?_
        refine S_putJ g (i := 120 + 4 * u) (c := 2) (k := 1) (by omega) (by decide) (mb7 hu).1 rfl fw_X8_98 rfl ?_
        refine S_n g 1 (pc' := 63) (lv' := [(0, .ref (ad 0)), (1, .int (nI u)), (2, .int (nI p)), (3, .ref (ad (120 + 4 * u)))]) (st' := [.ref (ad (120 + 4 * u))]) rfl ?_
        refine S_cV g (i := 120 + 4 * u) (As := []) (st := []) (mb_held ad z0 z1 I (up2 J (120 + 4 * u) 1 ((m (63 + u)) &&& (((lN 1) <<< ((nI p).toInt64 &&& 63)) ^^^ (-lN 1)))) A B (120 + 4 * u) (by omega) hmb.1) mw_X2_held lk_X8_92 ⟨Nat.le_of_ble_eq_true rfl, Nat.le_of_ble_eq_true rfl⟩ (by omega) (by decide) (mb7 hu).1 rfl (Nat.le_of_ble_eq_true rfl) ⟨Nat.le_of_ble_eq_true rfl, Nat.le_of_ble_eq_true rfl⟩ rfl ?_
        rw [up2_same, ctb_64 h2 hin2]
        show Sim X (YC ad z0 z1) 66 [(0, .ref (ad 0)), (1, .int (nI u)), (2, .int (nI p)), (3, .ref (ad (120 + 4 * u)))] [.int (nI (ctb (m (63 + u) &&& (b1 p ^^^ -lN 1)) 60))] I (up2 J (120 + 4 * u) 1 ((m (63 + u)) &&& (((lN 1) <<< ((nI p).toInt64 &&& 63)) ^^^ (-lN 1)))) A B 0 0
        exact rtI rt rfl rfl (⟨by rw [ho], rfl, by rw [ho]; exact RepW_cache hG hR hu _, fun i hi => ⟨rfl, u2r (by omega), rfl, rfl⟩, rfl, rfl, rfl, rfl, rfl⟩)
      · skip
        rw [if_neg (by rw [qz40]; decide)] at ho
        refine S_n g 1 (pc' := 45) (lv' := [(0, .ref (ad 0)), (1, .int (nI u)), (2, .int (nI p)), (3, .ref (ad (120 + 4 * u)))]) (st' := [.int (-nI 102)]) rfl ?_
        exact rtI rt rfl rfl (⟨by rw [ho], rfl, by rw [ho]; exact hR, kpC_rf I J A B⟩)
    · skip
      refine S_n g 1 (pc' := 24) (lv' := [(0, .ref (ad 0)), (1, .int x), (2, .int y)]) (st' := [.int (-nI 101)]) rfl ?_
      exact rtI rt rfl rfl (⟨by simp [o_drop, qz8, qz19], rfl, by simp [o_drop, qz8, qz19]; exact hR, kpC_rf I J A B⟩)

set_option maxRecDepth 100000 in
set_option maxHeartbeats 4000000 in
theorem c_want (ad : Nat → Nat) (z0 z1 : Bool) (I : FI) (J : FJ) (A : FI) (B : FJ) (x y : Int32) (m : Nat → Int64) (hG : WG m) (hR : RepW 100 m I J A B) : Spec M_X8_want [.ref (ad 0), .int x, .int y] (YC ad z0 z1) I J A B (cP ad z0 z1 I J A B (.int (k_want m x y).1) (k_want m x y).2) := by
  obtain ⟨nf, hnf⟩ : ∃ nf, nf = gN (m 0) := ⟨_, rfl⟩
  obtain ⟨nu, hnu⟩ : ∃ nu, nu = gN (m 1) := ⟨_, rfl⟩
  obtain ⟨nc, hnc⟩ : ∃ nc, nc = gN (m 2) := ⟨_, rfl⟩
  have hD := hG.1
  unfold wc0 at hD
  rw [← hnf, ← hnu, ← hnc] at hD
  obtain ⟨hmF, hmU, hmC, h1, h2, h3, h4, h5⟩ := hD
  have hF : I 100 5 = nI nf := by rw [hR.1.1, hmF, lN_i]
  have hU : I 100 6 = nI nu := by rw [hR.1.2.1, hmU, lN_i]
  have hC : I 100 7 = nI nc := by rw [hR.1.2.2.1, hmC, lN_i]
  unfold k_want
  rw [← hnf, ← hnu]
  refine Spec_of (by decide) tk_X8_want (Nat.le_of_ble_eq_true rfl) (fun X g rt => ?_)
  show Sim X (YC ad z0 z1) 0 [(0, .ref (ad 0)), (1, .int x), (2, .int y)] [] I J A B 0 0
  refine S_n g 1 (pc' := 1) (lv' := [(0, .ref (ad 0)), (1, .int x), (2, .int y)]) (st' := [.ref (ad 0)]) rfl ?_
  refine S_getR g (i := 0) (c := 8) (k := 0) (j := 100) (by decide) (by decide) rfl rfl rfl fl_X8_10 rfl ?_
  refine S_n g 1 (pc' := 5) (lv' := [(0, .ref (ad 0)), (1, .int x), (2, .int y)]) (st' := [.int x, .ref (ad 100)]) rfl ?_
  refine S_cV g (i := 100) (As := [.int x]) (st := []) (w_hasUser ad z0 z1 I J A B x nu hU h4) mw_X7_hasUser lk_X8_80 ⟨Nat.le_of_ble_eq_true rfl, Nat.le_of_ble_eq_true rfl⟩ (by decide) (by decide) rfl rfl (Nat.le_of_ble_eq_true rfl) ⟨Nat.le_of_ble_eq_true rfl, Nat.le_of_ble_eq_true rfl⟩ rfl ?_
  show Sim X (YC ad z0 z1) 8 [(0, .ref (ad 0)), (1, .int x), (2, .int y)] [.int (bI (isIx x nu))] I J A B 0 0
  refine S_ifB_eq g (tgt := 27) rfl (by decide) (fun qz8 => ?_) (fun qz8 => ?_)
  · skip
    refine S_n g 1 (pc' := 29) (lv' := [(0, .ref (ad 0)), (1, .int x), (2, .int y)]) (st' := [.int (-nI 101)]) rfl ?_
    exact rtI rt rfl rfl (⟨by simp [o_want, qz8], rfl, by simp [o_want, qz8]; exact hR, kpC_rf I J A B⟩)
  · skip
    refine S_n g 2 (pc' := 13) (lv' := [(0, .ref (ad 0)), (1, .int x), (2, .int y)]) (st' := [.int (-nI 1), .int y]) rfl ?_
    refine S_ic_lt g (tgt := 27) rfl (by decide) (fun qz13 => ?_) (fun qz13 => ?_)
    · skip
      have hno := wnt_lo (nf := nf) qz13
      refine S_n g 1 (pc' := 29) (lv' := [(0, .ref (ad 0)), (1, .int x), (2, .int y)]) (st' := [.int (-nI 101)]) rfl ?_
      exact rtI rt rfl rfl (⟨by simp only [o_want, qz8, if_true, if_neg hno], rfl, by simp only [o_want, qz8, if_true, if_neg hno]; exact hR, kpC_rf I J A B⟩)
    · skip
      refine S_n g 2 (pc' := 18) (lv' := [(0, .ref (ad 0)), (1, .int x), (2, .int y)]) (st' := [.ref (ad 0), .int y]) rfl ?_
      refine S_getR g (i := 0) (c := 8) (k := 0) (j := 100) (by decide) (by decide) rfl rfl rfl fl_X8_10 rfl ?_
      refine S_getI g (i := 100) (c := 7) (k := 5) (by decide) (by decide) rfl rfl fl_X8_125 rfl ?_
      rw [hF]
      refine S_ic_lt g (tgt := 30) rfl (by decide) (fun qz24 => ?_) (fun qz24 => ?_)
      · skip
        have hyes := wnt_ok qz13 qz24 (by omega)
        obtain ⟨u, hu, hxu⟩ := isIx_t qz8
        subst hxu
        have hcu : (nI u).toNatClampNeg = u := nI_clamp (by omega)
        have hu : u < 6 := by omega
        have hJu : J (120 + 4 * u) 1 = m (63 + u) := (hR.2.2.2.1 u hu).1
        have hIu : I (120 + 4 * u) 2 = (m (69 + u)).toInt32 := (hR.2.2.2.1 u hu).2
        have hmb := mb7 (ad := ad) (z0 := z0) (z1 := z1) hu
        have hin : inP nf (m (63 + u)) := by rw [hnf]; exact (hG.2.2.2.2.2.2.2.1 u hu).1
        have ho : o_want nf nu m (nI u) y = ((m (69 + u)).toInt32, va_up m (69 + u) y.toInt64) := by simp only [o_want, qz8, if_true, if_pos hyes, ix, hcu]
        refine S_n g 1 (pc' := 31) (lv' := [(0, .ref (ad 0)), (1, .int (nI u)), (2, .int y)]) (st' := [.ref (ad 0)]) rfl ?_
        refine S_getR g (i := 0) (c := 8) (k := 0) (j := 100) (by decide) (by decide) rfl rfl rfl fl_X8_10 rfl ?_
        refine S_getR g (i := 100) (c := 7) (k := 1) (j := 102) (by decide) (by decide) rfl rfl rfl fl_X8_83 rfl ?_
        refine S_n g 1 (pc' := 38) (lv' := [(0, .ref (ad 0)), (1, .int (nI u)), (2, .int y)]) (st' := [.int (nI u), .ref (ad 102)]) rfl ?_
        refine S_aaldN g (i := 102) (e := u) (j := 120 + 4 * u) (by decide) rfl (show u < 6 from by omega) (show (6 : Nat) < 2 ^ 31 from by decide) rfl rfl ?_
        refine S_n g 2 (pc' := 41) (lv' := [(0, .ref (ad 0)), (1, .int (nI u)), (2, .int y), (3, .ref (ad (120 + 4 * u)))]) (st' := [.ref (ad (120 + 4 * u))]) rfl ?_
        refine S_getI g (i := 120 + 4 * u) (c := 2) (k := 2) (by omega) (by decide) (mb7 hu).1 rfl fl_X8_158 rfl ?_
        rw [hIu]
        refine S_n g 3 (pc' := 48) (lv' := [(0, .ref (ad 0)), (1, .int (nI u)), (2, .int y), (3, .ref (ad (120 + 4 * u))), (4, .int (m (69 + u)).toInt32)]) (st' := [.int y, .ref (ad (120 + 4 * u))]) rfl ?_
        refine S_putI g (i := 120 + 4 * u) (c := 2) (k := 2) (kd := 0) (by omega) (by decide) (mb7 hu).1 rfl (by decide) fw_X8_158 rfl rfl rfl ?_
        refine S_n g 1 (pc' := 53) (lv' := [(0, .ref (ad 0)), (1, .int (nI u)), (2, .int y), (3, .ref (ad (120 + 4 * u))), (4, .int (m (69 + u)).toInt32)]) (st' := [.int (m (69 + u)).toInt32]) rfl ?_
        exact rtI rt rfl rfl (⟨by rw [ho], rfl, by rw [ho]; have h9 := RepW_want hG hR hu y.toInt64; rw [i64_32] at h9; exact h9, fun i hi => ⟨u2r (by omega), rfl, rfl, rfl⟩, u2r (by omega), rfl, u2j (Or.inl (by omega)), rfl, rfl⟩)
      · skip
        have hno := wnt_hi qz24 (by omega)
        refine S_n g 1 (pc' := 29) (lv' := [(0, .ref (ad 0)), (1, .int x), (2, .int y)]) (st' := [.int (-nI 101)]) rfl ?_
        exact rtI rt rfl rfl (⟨by simp only [o_want, qz8, if_true, if_neg hno], rfl, by simp only [o_want, qz8, if_true, if_neg hno]; exact hR, kpC_rf I J A B⟩)

set_option maxRecDepth 100000 in
set_option maxHeartbeats 4000000 in
theorem c_pending (ad : Nat → Nat) (z0 z1 : Bool) (I : FI) (J : FJ) (A : FI) (B : FJ) (x : Int32) (m : Nat → Int64) (hG : WG m) (hR : RepW 100 m I J A B) : Spec M_X8_pending [.ref (ad 0), .int x] (YC ad z0 z1) I J A B (cP ad z0 z1 I J A B (.long (o_at 328 (gN (m 327)) m x)) m) := by
  have hq := hR.2.2.2.2.2.2.1
  have hq1 := (WGn hG).2.2.1
  refine Spec_of (by decide) tk_X8_pending (Nat.le_of_ble_eq_true rfl) (fun X g rt => ?_)
  show Sim X (YC ad z0 z1) 0 [(0, .ref (ad 0)), (1, .int x)] [] I J A B 0 0
  refine S_n g 1 (pc' := 1) (lv' := [(0, .ref (ad 0)), (1, .int x)]) (st' := [.ref (ad 0)]) rfl ?_
  refine S_getR g (i := 0) (c := 8) (k := 0) (j := 100) (by decide) (by decide) rfl rfl rfl fl_X8_10 rfl ?_
  refine S_getR g (i := 100) (c := 7) (k := 2) (j := 103) (by decide) (by decide) rfl rfl rfl fl_X8_151 rfl ?_
  refine S_n g 1 (pc' := 8) (lv' := [(0, .ref (ad 0)), (1, .int x)]) (st' := [.int x, .ref (ad 103)]) rfl ?_
  refine S_cV g (i := 103) (As := [.int x]) (st := []) (sl_setAt ad z0 z1 I J A B 103 100 (gN (m 327)) (sl_q isW_100) (by decide) hq.2.1 hq1 x) mw_X6_setAt lk_X8_184 ⟨Nat.le_of_ble_eq_true rfl, Nat.le_of_ble_eq_true rfl⟩ (by decide) (by decide) rfl rfl (Nat.le_of_ble_eq_true rfl) ⟨Nat.le_of_ble_eq_true rfl, Nat.le_of_ble_eq_true rfl⟩ rfl ?_
  rw [show (if isIx x (gN (m 327)) = true then B (103 + 1) (ix x) else lN 0) = o_at 328 (gN (m 327)) m x from by unfold o_at; split; (· next h => exact hq.2.2 _ (ix_lt h)); (· rfl)]
  show Sim X (YC ad z0 z1) 11 [(0, .ref (ad 0)), (1, .int x)] [.long (o_at 328 (gN (m 327)) m x)] I J A B 0 0
  exact rtL rt rfl rfl (⟨rfl, rfl, hR, kpC_rf I J A B⟩)

set_option maxRecDepth 100000 in
set_option maxHeartbeats 4000000 in
theorem c_sent (ad : Nat → Nat) (z0 z1 : Bool) (I : FI) (J : FJ) (A : FI) (B : FJ) (x : Int32) (m : Nat → Int64) (hG : WG m) (hR : RepW 100 m I J A B) : Spec M_X8_sent [.ref (ad 0), .int x] (YC ad z0 z1) I J A B (cP ad z0 z1 I J A B (.long (o_at 429 (gN (m 428)) m x)) m) := by
  have hq := hR.2.2.2.2.2.2.2.1
  have hq1 := (WGn hG).2.2.2.1
  refine Spec_of (by decide) tk_X8_sent (Nat.le_of_ble_eq_true rfl) (fun X g rt => ?_)
  show Sim X (YC ad z0 z1) 0 [(0, .ref (ad 0)), (1, .int x)] [] I J A B 0 0
  refine S_n g 1 (pc' := 1) (lv' := [(0, .ref (ad 0)), (1, .int x)]) (st' := [.ref (ad 0)]) rfl ?_
  refine S_getR g (i := 0) (c := 8) (k := 0) (j := 100) (by decide) (by decide) rfl rfl rfl fl_X8_10 rfl ?_
  refine S_getR g (i := 100) (c := 7) (k := 3) (j := 106) (by decide) (by decide) rfl rfl rfl fl_X8_68 rfl ?_
  refine S_n g 1 (pc' := 8) (lv' := [(0, .ref (ad 0)), (1, .int x)]) (st' := [.int x, .ref (ad 106)]) rfl ?_
  refine S_cV g (i := 106) (As := [.int x]) (st := []) (sl_setAt ad z0 z1 I J A B 106 100 (gN (m 428)) (sl_h isW_100) (by decide) hq.2.1 hq1 x) mw_X6_setAt lk_X8_184 ⟨Nat.le_of_ble_eq_true rfl, Nat.le_of_ble_eq_true rfl⟩ (by decide) (by decide) rfl rfl (Nat.le_of_ble_eq_true rfl) ⟨Nat.le_of_ble_eq_true rfl, Nat.le_of_ble_eq_true rfl⟩ rfl ?_
  rw [show (if isIx x (gN (m 428)) = true then B (106 + 1) (ix x) else lN 0) = o_at 429 (gN (m 428)) m x from by unfold o_at; split; (· next h => exact hq.2.2 _ (ix_lt h)); (· rfl)]
  show Sim X (YC ad z0 z1) 11 [(0, .ref (ad 0)), (1, .int x)] [.long (o_at 429 (gN (m 428)) m x)] I J A B 0 0
  exact rtL rt rfl rfl (⟨rfl, rfl, hR, kpC_rf I J A B⟩)

set_option maxRecDepth 100000 in
set_option maxHeartbeats 4000000 in
theorem c_enqueue (ad : Nat → Nat) (z0 z1 : Bool) (I : FI) (J : FJ) (A : FI) (B : FJ) (s : Int64) (m : Nat → Int64) (hG : WG m) (hR : RepW 100 m I J A B) : Spec M_X8_enqueue [.ref (ad 0), .long s] (YC ad z0 z1) I J A B (cP ad z0 z1 I J A B (.int (if gN (m 327) = 100 then (-nI 103, m) else o_queues (gN (m 327)) m s).1) (if gN (m 327) = 100 then (-nI 103, m) else o_queues (gN (m 327)) m s).2) := by
  have hq := hR.2.2.2.2.2.2.1
  have hq1 := (WGn hG).2.2.1
  obtain ⟨qn, hqn⟩ : ∃ qn, qn = gN (m 327) := ⟨_, rfl⟩
  have hQ : I 103 3 = nI qn := by rw [hqn]; exact hq.2.1
  rw [← hqn] at hq1 ⊢
  refine Spec_of (by decide) tk_X8_enqueue (Nat.le_of_ble_eq_true rfl) (fun X g rt => ?_)
  show Sim X (YC ad z0 z1) 0 [(0, .ref (ad 0)), (1, .long s)] [] I J A B 0 0
  refine S_n g 1 (pc' := 1) (lv' := [(0, .ref (ad 0)), (1, .long s)]) (st' := [.ref (ad 0)]) rfl ?_
  refine S_getR g (i := 0) (c := 8) (k := 0) (j := 100) (by decide) (by decide) rfl rfl rfl fl_X8_10 rfl ?_
  refine S_getR g (i := 100) (c := 7) (k := 2) (j := 103) (by decide) (by decide) rfl rfl rfl fl_X8_151 rfl ?_
  refine S_getI g (i := 103) (c := 6) (k := 3) (by decide) (by decide) rfl rfl fl_X8_72 rfl ?_
  rw [hQ]
  refine S_n g 1 (pc' := 12) (lv' := [(0, .ref (ad 0)), (1, .long s)]) (st' := [.int (nI 100), .int (nI qn)]) rfl ?_
  refine S_icN_lt g (tgt := 18) (by omega) (by omega) rfl (by decide) (fun qz12 => ?_) (fun qz12 => ?_)
  · skip
    have hlt : ¬ qn = 100 := by omega
    refine S_n g 1 (pc' := 19) (lv' := [(0, .ref (ad 0)), (1, .long s)]) (st' := [.ref (ad 0)]) rfl ?_
    refine S_getR g (i := 0) (c := 8) (k := 0) (j := 100) (by decide) (by decide) rfl rfl rfl fl_X8_10 rfl ?_
    refine S_getR g (i := 100) (c := 7) (k := 2) (j := 103) (by decide) (by decide) rfl rfl rfl fl_X8_151 rfl ?_
    refine S_n g 2 (pc' := 27) (lv' := [(0, .ref (ad 0)), (1, .long s)]) (st' := [.int (nI 0), .long s, .ref (ad 103)]) rfl ?_
    refine S_cV g (i := 103) (As := [.long s, .int (nI 0)]) (st := []) (sl_append ad z0 z1 I J A B 103 100 qn (sl_q isW_100) (by decide) hQ hq1 hq.1 qz12 s (nI 0)) mw_X6_append lk_X8_174 ⟨Nat.le_of_ble_eq_true rfl, Nat.le_of_ble_eq_true rfl⟩ (by decide) (by decide) rfl rfl (Nat.le_of_ble_eq_true rfl) ⟨Nat.le_of_ble_eq_true rfl, Nat.le_of_ble_eq_true rfl⟩ rfl ?_
    show Sim X (YC ad z0 z1) 30 [(0, .ref (ad 0)), (1, .long s)] [] (up2 I 103 3 (nI (qn + 1))) J (va_up A 105 (va_up (A 105) qn (nI 0))) (va_up B 104 (va_up (B 104) qn s)) 0 0
    refine S_n g 1 (pc' := 31) (lv' := [(0, .ref (ad 0)), (1, .long s)]) (st' := [.ref (ad 0)]) rfl ?_
    refine S_getR g (i := 0) (c := 8) (k := 0) (j := 100) (by decide) (by decide) rfl rfl rfl fl_X8_10 rfl ?_
    refine S_getR g (i := 100) (c := 7) (k := 2) (j := 103) (by decide) (by decide) rfl rfl rfl fl_X8_151 rfl ?_
    refine S_getI g (i := 103) (c := 6) (k := 3) (by decide) (by decide) rfl rfl fl_X8_72 rfl ?_
    show Sim X (YC ad z0 z1) 40 [(0, .ref (ad 0)), (1, .long s)] [.int (nI (qn + 1))] (up2 I 103 3 (nI (qn + 1))) J (va_up A 105 (va_up (A 105) qn (nI 0))) (va_up B 104 (va_up (B 104) qn s)) 0 0
    exact rtI rt rfl rfl (⟨by rw [if_neg hlt]; rfl, rfl, by rw [if_neg hlt, hqn]; exact RepW_push hG hR (by omega) s (nI 0), fun i hi => ⟨u2r (by omega), rfl, va_up_ne _ _ (by omega), va_up_ne _ _ (by omega)⟩, rfl, rfl, rfl, rfl, rfl⟩)
  · skip
    have heq : qn = 100 := by omega
    refine S_n g 1 (pc' := 17) (lv' := [(0, .ref (ad 0)), (1, .long s)]) (st' := [.int (-nI 103)]) rfl ?_
    exact rtI rt rfl rfl (⟨by rw [if_pos heq], rfl, by rw [if_pos heq]; exact hR, kpC_rf I J A B⟩)
