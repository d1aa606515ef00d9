/-! the class: plan -/
theorem ix_le {z : Int32} {n : Nat} (h1 : ¬ z < 0) (h2 : z ≤ nI n) (hn : n < 2 ^ 31) : isIx z (n + 1) = true := by
  unfold isIx
  have h3 : 0 ≤ z.toInt := by rw [Int32.lt_iff_toInt_lt] at h1; have e : (0 : Int32).toInt = 0 := rfl; omega
  rw [Int32.le_iff_toInt_le, nI_toInt hn] at h2
  exact decide_eq_true (by omega)
theorem ix_gt {z : Int32} {n : Nat} (h2 : ¬ z ≤ nI n) (hn : n < 2 ^ 31) : isIx z (n + 1) = false := by
  unfold isIx
  rw [Int32.le_iff_toInt_le, nI_toInt hn] at h2
  exact decide_eq_false (by omega)
def plM (m : Nat → Int64) (pn a b c : Nat) : Nat → Int64 := va_up (va_up (va_up (va_up m (530 + 3 * pn) (lN a)) (530 + 3 * pn + 1) (lN b)) (530 + 3 * pn + 2) (lN c)) 529 (lN (pn + 1))
theorem RepW_plan {m : Nat → Int64} {I : FI} {J : FJ} {A : FI} {B : FJ} (g : WG m) (h : RepW 100 m I J A B) (hq : gN (m 529) < 30) (a b c : Nat) : RepW 100 (plM m (gN (m 529)) a b c) (up2 I 109 3 (nI (gN (m 529) + 1))) J (va_up (va_up (va_up A 110 (va_up (A 110) (gN (m 529)) (nI a))) 111 (va_up (A 111) (gN (m 529)) (nI b))) 112 (va_up (A 112) (gN (m 529)) (nI c))) B := by
  obtain ⟨h0, h1, h2, h3, h4, h5, h6, h7, h8⟩ := h
  obtain ⟨g0, g1, g2, g3, g4, g5⟩ := WGn g
  obtain ⟨pn, hpn⟩ : ∃ pn, pn = gN (m 529) := ⟨_, rfl⟩
  have e : ∀ j, j < 529 ∨ 620 ≤ j → plM m pn a b c j = m j := fun j hj => by
    rw [← hpn] at hq
    exact (ne1 (by omega)).trans ((ne1 (by omega)).trans ((ne1 (by omega)).trans (ne1 (by omega))))
  have e7 : plM m pn a b c 529 = lN (pn + 1) := by
    unfold plM
    rw [va_up_self]
  unfold r8w at h8
  rw [← hpn] at h8 hq ⊢
  have eA : ∀ i, i ≠ 110 → i ≠ 111 → i ≠ 112 → (va_up (va_up (va_up A 110 (va_up (A 110) pn (nI a))) 111 (va_up (A 111) pn (nI b))) 112 (va_up (A 112) pn (nI c))) i = A i := fun i x y z => by rw [va_up_ne _ _ z, va_up_ne _ _ y, va_up_ne _ _ x]
  refine ⟨r0_h (r0_m h0 (fun j hj => e j (by omega))) (fun k _ => u2j (Or.inl (by omega))), r1_h (r1_m h1 g1 (fun j hj => e j (by omega))) (u2j (Or.inl (by omega))), r2_h (r2_m h2 (fun j a b => e j (by omega))) (eA _ (by omega) (by omega) (by omega)), r3_h (r3_m h3 (fun j a b => e j (by omega))) (fun _ _ => rfl) (fun w hw => u2j (Or.inl (by omega))), r4_h (r4_m h4 g5 (fun j a b => e j (by omega))) (fun w hw k => u2j (Or.inl (by omega))) (fun w hw => rfl), r5_h (r5_m h5 g0 g5 (fun j hj => e j (by omega))) (fun w hw => eA _ (by omega) (by omega) (by omega)), r6_h (r6_m h6 g2 (fun j a b => e j (by omega))) (fun k => u2j (Or.inl (by omega))) rfl, r7_h (r7_m h7 g3 (fun j a b => e j (by omega))) (fun k => u2j (Or.inl (by omega))) rfl, ?_⟩
  unfold r8w
  rw [e7, gN_lN (by omega)]
  refine ⟨up2_same _ _ _ _, fun k hk => ?_⟩
  show (va_up (va_up (va_up A 110 (va_up (A 110) pn (nI a))) 111 (va_up (A 111) pn (nI b))) 112 (va_up (A 112) pn (nI c))) 110 k = _ ∧ (va_up (va_up (va_up A 110 (va_up (A 110) pn (nI a))) 111 (va_up (A 111) pn (nI b))) 112 (va_up (A 112) pn (nI c))) 111 k = _ ∧ (va_up (va_up (va_up A 110 (va_up (A 110) pn (nI a))) 111 (va_up (A 111) pn (nI b))) 112 (va_up (A 112) pn (nI c))) 112 k = _
  rw [va_up_ne _ _ (show 110 ≠ 112 by decide), va_up_ne _ _ (show 110 ≠ 111 by decide), va_up_self, va_up_ne _ _ (show 111 ≠ 112 by decide), va_up_self, va_up_self]
  by_cases q : k = pn
  · subst q
    unfold plM
    rw [va_up_self, va_up_self, va_up_self, ne1 (show 530 + 3 * k ≠ 529 by omega), ne1 (show 530 + 3 * k ≠ 530 + 3 * k + 2 by omega), ne1 (show 530 + 3 * k ≠ 530 + 3 * k + 1 by omega), va_up_self, ne1 (show 530 + 3 * k + 1 ≠ 529 by omega), ne1 (show 530 + 3 * k + 1 ≠ 530 + 3 * k + 2 by omega), va_up_self, ne1 (show 530 + 3 * k + 2 ≠ 529 by omega), va_up_self, lN_i, lN_i, lN_i]
    exact ⟨rfl, rfl, rfl⟩
  · rw [va_up_ne _ _ q, va_up_ne _ _ q, va_up_ne _ _ q]
    have ek : ∀ j, j < 3 → plM m pn a b c (530 + 3 * k + j) = m (530 + 3 * k + j) := fun j hj => (ne1 (by omega)).trans ((ne1 (by omega)).trans ((ne1 (by omega)).trans (ne1 (by omega))))
    rw [show plM m pn a b c (530 + 3 * k) = m (530 + 3 * k) from ek 0 (by decide), ek 1 (by decide), ek 2 (by decide)]
    exact h8.2 k (by omega)

set_option maxRecDepth 100000 in
set_option maxHeartbeats 4000000 in
theorem pl_append (ad : Nat → Nat) (z0 z1 : Bool) (I : FI) (J : FJ) (A : FI) (B : FJ) (pn : Nat) (hP : I 109 3 = nI pn) (hp : pn < 30) (a b c : Int32) : Spec M_X3_append [.ref (ad 109), .int a, .int b, .int c] (YC ad z0 z1) I J A B (eqP none (YC ad z0 z1) (up2 I 109 3 (nI (pn + 1))) J (va_up (va_up (va_up A 110 (va_up (A 110) pn a)) 111 (va_up (A 111) pn b)) 112 (va_up (A 112) pn c)) B) := by
  refine Spec_of (by decide) tk_X3_append (Nat.le_of_ble_eq_true rfl) (fun X g rt => ?_)
  show Sim X (YC ad z0 z1) 0 [(0, .ref (ad 109)), (1, .int a), (2, .int b), (3, .int c)] [] I J A B 0 0
  refine S_n g 1 (pc' := 1) (lv' := [(0, .ref (ad 109)), (1, .int a), (2, .int b), (3, .int c)]) (st' := [.ref (ad 109)]) rfl ?_
  refine S_getI g (i := 109) (c := 3) (k := 3) (by decide) (by decide) rfl rfl fl_X3_21 rfl ?_
  rw [hP]
  refine S_n g 1 (pc' := 6) (lv' := [(0, .ref (ad 109)), (1, .int a), (2, .int b), (3, .int c)]) (st' := [.int (nI 30), .int (nI pn)]) rfl ?_
  refine S_icN_ge g (tgt := 49) (by omega) (by omega) rfl (by decide) (fun qz6 => ?_) (fun qz6 => ?_)
  · skip
    omega
  · skip
    refine S_n g 1 (pc' := 10) (lv' := [(0, .ref (ad 109)), (1, .int a), (2, .int b), (3, .int c)]) (st' := [.ref (ad 109)]) rfl ?_
    refine S_getR g (i := 109) (c := 3) (k := 0) (j := 110) (by decide) (by decide) rfl rfl rfl fl_X3_9 rfl ?_
    refine S_n g 1 (pc' := 14) (lv' := [(0, .ref (ad 109)), (1, .int a), (2, .int b), (3, .int c)]) (st' := [.ref (ad 109), .ref (ad 110)]) rfl ?_
    refine S_getI g (i := 109) (c := 3) (k := 3) (by decide) (by decide) rfl rfl fl_X3_21 rfl ?_
    rw [hP]
    refine S_n g 1 (pc' := 18) (lv' := [(0, .ref (ad 109)), (1, .int a), (2, .int b), (3, .int c)]) (st' := [.int a, .int (nI pn), .ref (ad 110)]) rfl ?_
    refine S_iastN g (i := 110) (e := pn) (by decide) rfl (show pn < 30 from by omega) (show (30 : Nat) < 2 ^ 31 from by decide) rfl ?_
    show Sim X (YC ad z0 z1) 19 [(0, .ref (ad 109)), (1, .int a), (2, .int b), (3, .int c)] [] I J (va_up A 110 (va_up (A 110) pn a)) B 0 0
    refine S_n g 1 (pc' := 20) (lv' := [(0, .ref (ad 109)), (1, .int a), (2, .int b), (3, .int c)]) (st' := [.ref (ad 109)]) rfl ?_
    refine S_getR g (i := 109) (c := 3) (k := 1) (j := 111) (by decide) (by decide) rfl rfl rfl fl_X3_15 rfl ?_
    refine S_n g 1 (pc' := 24) (lv' := [(0, .ref (ad 109)), (1, .int a), (2, .int b), (3, .int c)]) (st' := [.ref (ad 109), .ref (ad 111)]) rfl ?_
    refine S_getI g (i := 109) (c := 3) (k := 3) (by decide) (by decide) rfl rfl fl_X3_21 rfl ?_
    rw [hP]
    refine S_n g 1 (pc' := 28) (lv' := [(0, .ref (ad 109)), (1, .int a), (2, .int b), (3, .int c)]) (st' := [.int b, .int (nI pn), .ref (ad 111)]) rfl ?_
    refine S_iastN g (i := 111) (e := pn) (by decide) rfl (show pn < 30 from by omega) (show (30 : Nat) < 2 ^ 31 from by decide) rfl ?_
    show Sim X (YC ad z0 z1) 29 [(0, .ref (ad 109)), (1, .int a), (2, .int b), (3, .int c)] [] I J (va_up (va_up A 110 (va_up (A 110) pn a)) 111 (va_up (A 111) pn b)) B 0 0
    refine S_n g 1 (pc' := 30) (lv' := [(0, .ref (ad 109)), (1, .int a), (2, .int b), (3, .int c)]) (st' := [.ref (ad 109)]) rfl ?_
    refine S_getR g (i := 109) (c := 3) (k := 2) (j := 112) (by decide) (by decide) rfl rfl rfl fl_X3_18 rfl ?_
    refine S_n g 1 (pc' := 34) (lv' := [(0, .ref (ad 109)), (1, .int a), (2, .int b), (3, .int c)]) (st' := [.ref (ad 109), .ref (ad 112)]) rfl ?_
    refine S_getI g (i := 109) (c := 3) (k := 3) (by decide) (by decide) rfl rfl fl_X3_21 rfl ?_
    rw [hP]
    refine S_n g 1 (pc' := 38) (lv' := [(0, .ref (ad 109)), (1, .int a), (2, .int b), (3, .int c)]) (st' := [.int c, .int (nI pn), .ref (ad 112)]) rfl ?_
    refine S_iastN g (i := 112) (e := pn) (by decide) rfl (show pn < 30 from by omega) (show (30 : Nat) < 2 ^ 31 from by decide) rfl ?_
    show Sim X (YC ad z0 z1) 39 [(0, .ref (ad 109)), (1, .int a), (2, .int b), (3, .int c)] [] I J (va_up (va_up (va_up A 110 (va_up (A 110) pn a)) 111 (va_up (A 111) pn b)) 112 (va_up (A 112) pn c)) B 0 0
    refine S_n g 2 (pc' := 41) (lv' := [(0, .ref (ad 109)), (1, .int a), (2, .int b), (3, .int c)]) (st' := [.ref (ad 109), .ref (ad 109)]) rfl ?_
    refine S_getI g (i := 109) (c := 3) (k := 3) (by decide) (by decide) rfl rfl fl_X3_21 rfl ?_
    rw [hP]
    refine S_n g 2 (pc' := 46) (lv' := [(0, .ref (ad 109)), (1, .int a), (2, .int b), (3, .int c)]) (st' := [.int ((nI pn) + (nI 1)), .ref (ad 109)]) rfl ?_
    rw [nI_add pn 1]
    refine S_putI g (i := 109) (c := 3) (k := 3) (kd := 0) (by decide) (by decide) rfl rfl (by decide) fw_X3_21 rfl rfl rfl ?_
    exact rtV rt rfl rfl eqP_rf

set_option maxRecDepth 100000 in
set_option maxHeartbeats 4000000 in
theorem c_plan (ad : Nat → Nat) (z0 z1 : Bool) (I : FI) (J : FJ) (A : FI) (B : FJ) (x y z : Int32) (m : Nat → Int64) (hG : WG m) (hR : RepW 100 m I J A B) : Spec M_X8_plan [.ref (ad 0), .int x, .int y, .int z] (YC ad z0 z1) I J A B (cP ad z0 z1 I J A B (.int (o_plan (gN (m 0)) (gN (m 1)) (gN (m 529)) m x y z).1) (o_plan (gN (m 0)) (gN (m 1)) (gN (m 529)) m x y z).2) := by
  obtain ⟨nf, hnf⟩ : ∃ nf, nf = gN (m 0) := ⟨_, rfl⟩
  obtain ⟨nu, hnu⟩ : ∃ nu, nu = gN (m 1) := ⟨_, rfl⟩
  obtain ⟨nc, hnc⟩ : ∃ nc, nc = gN (m 2) := ⟨_, rfl⟩
  have hD := hG.1
  unfold wc0 at hD
  rw [← hnf, ← hnu, ← hnc] at hD
  obtain ⟨hmF, hmU, hmC, h1, h2, h3, h4, h5⟩ := hD
  have hF : I 100 5 = nI nf := by rw [hR.1.1, hmF, lN_i]
  have hU : I 100 6 = nI nu := by rw [hR.1.2.1, hmU, lN_i]
  have hC : I 100 7 = nI nc := by rw [hR.1.2.2.1, hmC, lN_i]
  have hp1 := (WGn hG).2.2.2.2.1
  obtain ⟨pn, hpn⟩ : ∃ pn, pn = gN (m 529) := ⟨_, rfl⟩
  have hP : I 109 3 = nI pn := by rw [hpn]; exact hR.2.2.2.2.2.2.2.2.1
  rw [← hpn] at hp1 ⊢
  rw [← hnf, ← hnu]
  refine Spec_of (by decide) tk_X8_plan (Nat.le_of_ble_eq_true rfl) (fun X g rt => ?_)
  show Sim X (YC ad z0 z1) 0 [(0, .ref (ad 0)), (1, .int x), (2, .int y), (3, .int z)] [] I J A B 0 0
  refine S_n g 1 (pc' := 1) (lv' := [(0, .ref (ad 0)), (1, .int x), (2, .int y), (3, .int z)]) (st' := [.ref (ad 0)]) rfl ?_
  refine S_getR g (i := 0) (c := 8) (k := 0) (j := 100) (by decide) (by decide) rfl rfl rfl fl_X8_10 rfl ?_
  refine S_n g 1 (pc' := 5) (lv' := [(0, .ref (ad 0)), (1, .int x), (2, .int y), (3, .int z)]) (st' := [.int x, .ref (ad 100)]) rfl ?_
  refine S_cV g (i := 100) (As := [.int x]) (st := []) (w_hasUser ad z0 z1 I J A B x nu hU h4) mw_X7_hasUser lk_X8_80 ⟨Nat.le_of_ble_eq_true rfl, Nat.le_of_ble_eq_true rfl⟩ (by decide) (by decide) rfl rfl (Nat.le_of_ble_eq_true rfl) ⟨Nat.le_of_ble_eq_true rfl, Nat.le_of_ble_eq_true rfl⟩ rfl ?_
  show Sim X (YC ad z0 z1) 8 [(0, .ref (ad 0)), (1, .int x), (2, .int y), (3, .int z)] [.int (bI (isIx x nu))] I J A B 0 0
  refine S_ifB_eq g (tgt := 22) rfl (by decide) (fun qz8 => ?_) (fun qz8 => ?_)
  · skip
    refine S_n g 1 (pc' := 24) (lv' := [(0, .ref (ad 0)), (1, .int x), (2, .int y), (3, .int z)]) (st' := [.int (-nI 101)]) rfl ?_
    exact rtI rt rfl rfl (⟨by simp [o_plan, qz8], rfl, by simp [o_plan, qz8]; exact hR, kpC_rf I J A B⟩)
  · skip
    refine S_n g 1 (pc' := 12) (lv' := [(0, .ref (ad 0)), (1, .int x), (2, .int y), (3, .int z)]) (st' := [.ref (ad 0)]) rfl ?_
    refine S_getR g (i := 0) (c := 8) (k := 0) (j := 100) (by decide) (by decide) rfl rfl rfl fl_X8_10 rfl ?_
    refine S_n g 1 (pc' := 16) (lv' := [(0, .ref (ad 0)), (1, .int x), (2, .int y), (3, .int z)]) (st' := [.int y, .ref (ad 100)]) rfl ?_
    refine S_cV g (i := 100) (As := [.int y]) (st := []) (w_hasPiece ad z0 z1 I J A B y nf hF h2) mw_X7_hasPiece lk_X8_64 ⟨Nat.le_of_ble_eq_true rfl, Nat.le_of_ble_eq_true rfl⟩ (by decide) (by decide) rfl rfl (Nat.le_of_ble_eq_true rfl) ⟨Nat.le_of_ble_eq_true rfl, Nat.le_of_ble_eq_true rfl⟩ rfl ?_
    show Sim X (YC ad z0 z1) 19 [(0, .ref (ad 0)), (1, .int x), (2, .int y), (3, .int z)] [.int (bI (isIx y (12 * nf)))] I J A B 0 0
    refine S_ifB_ne g (tgt := 25) rfl (by decide) (fun qz19 => ?_) (fun qz19 => ?_)
    · skip
      refine S_n g 1 (pc' := 26) (lv' := [(0, .ref (ad 0)), (1, .int x), (2, .int y), (3, .int z)]) (st' := [.int z]) rfl ?_
      refine S_if_lt g (tgt := 35) rfl (by decide) (fun qz26 => ?_) (fun qz26 => ?_)
      · skip
        have hz := ix_lo (n := 10) qz26
        refine S_n g 1 (pc' := 37) (lv' := [(0, .ref (ad 0)), (1, .int x), (2, .int y), (3, .int z)]) (st' := [.int (-nI 101)]) rfl ?_
        exact rtI rt rfl rfl (⟨by simp [o_plan, qz8, qz19, hz], rfl, by simp [o_plan, qz8, qz19, hz]; exact hR, kpC_rf I J A B⟩)
      · skip
        refine S_n g 2 (pc' := 32) (lv' := [(0, .ref (ad 0)), (1, .int x), (2, .int y), (3, .int z)]) (st' := [.int (nI 9), .int z]) rfl ?_
        refine S_ic_le g (tgt := 38) rfl (by decide) (fun qz32 => ?_) (fun qz32 => ?_)
        · skip
          have hz := ix_le qz26 qz32 (by decide)
          refine S_n g 1 (pc' := 39) (lv' := [(0, .ref (ad 0)), (1, .int x), (2, .int y), (3, .int z)]) (st' := [.ref (ad 0)]) rfl ?_
          refine S_getR g (i := 0) (c := 8) (k := 0) (j := 100) (by decide) (by decide) rfl rfl rfl fl_X8_10 rfl ?_
          refine S_getR g (i := 100) (c := 7) (k := 4) (j := 109) (by decide) (by decide) rfl rfl rfl fl_X8_141 rfl ?_
          refine S_getI g (i := 109) (c := 3) (k := 3) (by decide) (by decide) rfl rfl fl_X8_145 rfl ?_
          rw [hP]
          refine S_n g 1 (pc' := 50) (lv' := [(0, .ref (ad 0)), (1, .int x), (2, .int y), (3, .int z)]) (st' := [.int (nI 30), .int (nI pn)]) rfl ?_
          refine S_icN_lt g (tgt := 56) (by omega) (by omega) rfl (by decide) (fun qz50 => ?_) (fun qz50 => ?_)
          · skip
            obtain ⟨u, hu, hxu⟩ := isIx_t qz8
            subst hxu
            have hcu : (nI u).toNatClampNeg = u := nI_clamp (by omega)
            have hu : u < 6 := by omega
            have hJu : J (120 + 4 * u) 1 = m (63 + u) := (hR.2.2.2.1 u hu).1
            have hIu : I (120 + 4 * u) 2 = (m (69 + u)).toInt32 := (hR.2.2.2.1 u hu).2
            have hmb := mb7 (ad := ad) (z0 := z0) (z1 := z1) hu
            have hin : inP nf (m (63 + u)) := by rw [hnf]; exact (hG.2.2.2.2.2.2.2.1 u hu).1
            obtain ⟨p, hp, hxp⟩ := isIx_t qz19
            subst hxp
            have hcp : (nI p).toNatClampNeg = p := nI_clamp (by omega)
            obtain ⟨c, hc, hxc⟩ := isIx_t hz
            subst hxc
            have hcc : (nI c).toNatClampNeg = c := nI_clamp (by omega)
            have ho : o_plan nf nu pn m (nI u) (nI p) (nI c) = (nI (pn + 1), plM m pn u p c) := by simp only [o_plan, qz8, qz19, hz, if_true, ix, hcu, hcp, hcc, if_neg (show ¬ pn = 30 by omega)]; rfl
            refine S_n g 1 (pc' := 57) (lv' := [(0, .ref (ad 0)), (1, .int (nI u)), (2, .int (nI p)), (3, .int (nI c))]) (st' := [.ref (ad 0)]) rfl ?_
            refine S_getR g (i := 0) (c := 8) (k := 0) (j := 100) (by decide) (by decide) rfl rfl rfl fl_X8_10 rfl ?_
            refine S_getR g (i := 100) (c := 7) (k := 4) (j := 109) (by decide) (by decide) rfl rfl rfl fl_X8_141 rfl ?_
            refine S_n g 3 (pc' := 66) (lv' := [(0, .ref (ad 0)), (1, .int (nI u)), (2, .int (nI p)), (3, .int (nI c))]) (st' := [.int (nI c), .int (nI p), .int (nI u), .ref (ad 109)]) rfl ?_
            refine S_cV g (i := 109) (As := [.int (nI u), .int (nI p), .int (nI c)]) (st := []) (pl_append ad z0 z1 I J A B pn hP (by omega) (nI u) (nI p) (nI c)) mw_X3_append lk_X8_148 ⟨Nat.le_of_ble_eq_true rfl, Nat.le_of_ble_eq_true rfl⟩ (by decide) (by decide) rfl rfl (Nat.le_of_ble_eq_true rfl) ⟨Nat.le_of_ble_eq_true rfl, Nat.le_of_ble_eq_true rfl⟩ rfl ?_
            show Sim X (YC ad z0 z1) 69 [(0, .ref (ad 0)), (1, .int (nI u)), (2, .int (nI p)), (3, .int (nI c))] [] (up2 I 109 3 (nI (pn + 1))) J (va_up (va_up (va_up A 110 (va_up (A 110) pn (nI u))) 111 (va_up (A 111) pn (nI p))) 112 (va_up (A 112) pn (nI c))) B 0 0
            refine S_n g 1 (pc' := 70) (lv' := [(0, .ref (ad 0)), (1, .int (nI u)), (2, .int (nI p)), (3, .int (nI c))]) (st' := [.ref (ad 0)]) rfl ?_
            refine S_getR g (i := 0) (c := 8) (k := 0) (j := 100) (by decide) (by decide) rfl rfl rfl fl_X8_10 rfl ?_
            refine S_getR g (i := 100) (c := 7) (k := 4) (j := 109) (by decide) (by decide) rfl rfl rfl fl_X8_141 rfl ?_
            refine S_getI g (i := 109) (c := 3) (k := 3) (by decide) (by decide) rfl rfl fl_X8_145 rfl ?_
            show Sim X (YC ad z0 z1) 79 [(0, .ref (ad 0)), (1, .int (nI u)), (2, .int (nI p)), (3, .int (nI c))] [.int (nI (pn + 1))] (up2 I 109 3 (nI (pn + 1))) J (va_up (va_up (va_up A 110 (va_up (A 110) pn (nI u))) 111 (va_up (A 111) pn (nI p))) 112 (va_up (A 112) pn (nI c))) B 0 0
            exact rtI rt rfl rfl (⟨by rw [ho], rfl, by rw [ho, hpn]; exact RepW_plan hG hR (by omega) u p c, fun i hi => ⟨u2r (by omega), rfl, (va_up_ne _ _ (by omega)).trans ((va_up_ne _ _ (by omega)).trans (va_up_ne _ _ (by omega))), rfl⟩, rfl, rfl, rfl, rfl, rfl⟩)
          · skip
            have h30 : pn = 30 := by omega
            refine S_n g 1 (pc' := 55) (lv' := [(0, .ref (ad 0)), (1, .int x), (2, .int y), (3, .int z)]) (st' := [.int (-nI 103)]) rfl ?_
            exact rtI rt rfl rfl (⟨by simp [o_plan, qz8, qz19, hz, h30], rfl, by simp [o_plan, qz8, qz19, hz, h30]; exact hR, kpC_rf I J A B⟩)
        · skip
          have hz := ix_gt qz32 (by decide)
          refine S_n g 1 (pc' := 37) (lv' := [(0, .ref (ad 0)), (1, .int x), (2, .int y), (3, .int z)]) (st' := [.int (-nI 101)]) rfl ?_
          exact rtI rt rfl rfl (⟨by simp [o_plan, qz8, qz19, hz], rfl, by simp [o_plan, qz8, qz19, hz]; exact hR, kpC_rf I J A B⟩)
    · skip
      refine S_n g 1 (pc' := 24) (lv' := [(0, .ref (ad 0)), (1, .int x), (2, .int y), (3, .int z)]) (st' := [.int (-nI 101)]) rfl ?_
      exact rtI rt rfl rfl (⟨by simp [o_plan, qz8, qz19], rfl, by simp [o_plan, qz8, qz19]; exact hR, kpC_rf I J A B⟩)
