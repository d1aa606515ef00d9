/-! the class: a plan is carried out, idle -/
theorem RepW_vain {m : Nat → Int64} {I : FI} {J : FJ} {A : FI} {B : FJ} (g : WG m) (h : RepW 100 m I J A B) (v : Int64) : RepW 100 (va_up m 620 v) (up2 I 100 9 v.toInt32) J A B := by
  obtain ⟨h0, h1, h2, h3, h4, h5, h6, h7, h8⟩ := h
  obtain ⟨g0, g1, g2, g3, g4, g5⟩ := WGn g
  refine ⟨?_, r1_h (r1_m h1 g1 (fun j hj => ne1 (by omega))) (u2j (Or.inr (by decide))), r2_m h2 (fun j a b => ne1 (by omega)), r3_h (r3_m h3 (fun j a b => ne1 (by omega))) (fun _ _ => rfl) (fun w hw => u2j (Or.inl (by omega))), r4_h (r4_m h4 g5 (fun j a b => ne1 (by omega))) (fun w hw k => u2j (Or.inl (by omega))) (fun _ _ => rfl), r5_m h5 g0 g5 (fun j hj => ne1 (by omega)), r6_h (r6_m h6 g2 (fun j a b => ne1 (by omega))) (fun k => u2j (Or.inl (by omega))) rfl, r7_h (r7_m h7 g3 (fun j a b => ne1 (by omega))) (fun k => u2j (Or.inl (by omega))) rfl, r8_h (r8_m h8 g4 (fun j a b => ne1 (by omega))) (u2j (Or.inl (by omega))) rfl rfl rfl⟩
  unfold r0w
  rw [ne1 (show 0 ≠ 620 by decide), ne1 (show 1 ≠ 620 by decide), ne1 (show 2 ≠ 620 by decide), va_up_self, u2j (Or.inr (by decide)), u2j (Or.inr (by decide)), u2j (Or.inr (by decide))]
  exact ⟨h0.1, h0.2.1, h0.2.2.1, up2_same _ _ _ _⟩
theorem RepW_rm {m : Nat → Int64} {I : FI} {J : FJ} {A : FI} {B : FJ} (g : WG m) (h : RepW 100 m I J A B) {b pn : Nat} (hpn : pn = gN (m 529)) (hb : b < pn) : RepW 100 (rmP m pn b (3 * (pn - 1))) (up2 I 109 3 (nI (pn - 1))) J (va_up (va_up (va_up A 110 (va_cpy (A 110) (A 110) (b + 1) b (pn - 1 - b))) 111 (va_cpy (A 111) (A 111) (b + 1) b (pn - 1 - b))) 112 (va_cpy (A 112) (A 112) (b + 1) b (pn - 1 - b))) B := by
  obtain ⟨h0, h1, h2, h3, h4, h5, h6, h7, h8⟩ := h
  obtain ⟨g0, g1, g2, g3, g4, g5⟩ := WGn g
  have e : ∀ j, j < 529 ∨ 620 ≤ j → rmP m pn b (3 * (pn - 1)) j = m j := fun j hj => by
    rcases hj with hj | hj
    · exact rmP_lo hj
    · exact rmP_hi (by omega)
  have eA : ∀ i, i ≠ 110 → i ≠ 111 → i ≠ 112 → (va_up (va_up (va_up A 110 (va_cpy (A 110) (A 110) (b + 1) b (pn - 1 - b))) 111 (va_cpy (A 111) (A 111) (b + 1) b (pn - 1 - b))) 112 (va_cpy (A 112) (A 112) (b + 1) b (pn - 1 - b))) i = A i := fun i x y z => by rw [va_up_ne _ _ z, va_up_ne _ _ y, va_up_ne _ _ x]
  refine ⟨r0_h (r0_m h0 (fun j hj => e j (by omega))) (fun k _ => u2j (Or.inl (by omega))), r1_h (r1_m h1 g1 (fun j hj => e j (by omega))) (u2j (Or.inl (by omega))), r2_h (r2_m h2 (fun j a b => e j (by omega))) (eA _ (by omega) (by omega) (by omega)), r3_h (r3_m h3 (fun j a b => e j (by omega))) (fun _ _ => rfl) (fun w hw => u2j (Or.inl (by omega))), r4_h (r4_m h4 g5 (fun j a b => e j (by omega))) (fun w hw k => u2j (Or.inl (by omega))) (fun w hw => rfl), r5_h (r5_m h5 g0 g5 (fun j hj => e j (by omega))) (fun w hw => eA _ (by omega) (by omega) (by omega)), r6_h (r6_m h6 g2 (fun j a b => e j (by omega))) (fun k => u2j (Or.inl (by omega))) rfl, r7_h (r7_m h7 g3 (fun j a b => e j (by omega))) (fun k => u2j (Or.inl (by omega))) rfl, ?_⟩
  unfold r8w at h8 ⊢
  rw [← hpn] at h8
  rw [rmP_529, gN_lN (by omega)]
  refine ⟨up2_same _ _ _ _, fun k hk => ?_⟩
  have a0 : va_up (va_up (va_up A 110 (va_cpy (A 110) (A 110) (b + 1) b (pn - 1 - b))) 111 (va_cpy (A 111) (A 111) (b + 1) b (pn - 1 - b))) 112 (va_cpy (A 112) (A 112) (b + 1) b (pn - 1 - b)) 110 = va_cpy (A 110) (A 110) (b + 1) b (pn - 1 - b) := by rw [va_up_ne _ _ (by decide), va_up_ne _ _ (by decide), va_up_self]
  have a1 : va_up (va_up (va_up A 110 (va_cpy (A 110) (A 110) (b + 1) b (pn - 1 - b))) 111 (va_cpy (A 111) (A 111) (b + 1) b (pn - 1 - b))) 112 (va_cpy (A 112) (A 112) (b + 1) b (pn - 1 - b)) 111 = va_cpy (A 111) (A 111) (b + 1) b (pn - 1 - b) := by rw [va_up_ne _ _ (by decide), va_up_self]
  have a2 : va_up (va_up (va_up A 110 (va_cpy (A 110) (A 110) (b + 1) b (pn - 1 - b))) 111 (va_cpy (A 111) (A 111) (b + 1) b (pn - 1 - b))) 112 (va_cpy (A 112) (A 112) (b + 1) b (pn - 1 - b)) 112 = va_cpy (A 112) (A 112) (b + 1) b (pn - 1 - b) := va_up_self _ _ _
  show va_up (va_up (va_up A 110 (va_cpy (A 110) (A 110) (b + 1) b (pn - 1 - b))) 111 (va_cpy (A 111) (A 111) (b + 1) b (pn - 1 - b))) 112 (va_cpy (A 112) (A 112) (b + 1) b (pn - 1 - b)) 110 k = _ ∧ va_up (va_up (va_up A 110 (va_cpy (A 110) (A 110) (b + 1) b (pn - 1 - b))) 111 (va_cpy (A 111) (A 111) (b + 1) b (pn - 1 - b))) 112 (va_cpy (A 112) (A 112) (b + 1) b (pn - 1 - b)) 111 k = _ ∧ va_up (va_up (va_up A 110 (va_cpy (A 110) (A 110) (b + 1) b (pn - 1 - b))) 111 (va_cpy (A 111) (A 111) (b + 1) b (pn - 1 - b))) 112 (va_cpy (A 112) (A 112) (b + 1) b (pn - 1 - b)) 112 k = _
  rw [a0, a1, a2]
  have ck : ∀ f : Nat → Int32, va_cpy f f (b + 1) b (pn - 1 - b) k = if b ≤ k then f (k + 1) else f k := fun f => by
    unfold va_cpy
    by_cases q : b ≤ k
    · rw [if_pos (by omega), if_pos q, show b + 1 + (k - b) = k + 1 by omega]
    · rw [if_neg (by omega), if_neg q]
  have rk : ∀ j, j < 3 → rmP m pn b (3 * (pn - 1)) (530 + 3 * k + j) = if b ≤ k then m (530 + 3 * (k + 1) + j) else m (530 + 3 * k + j) := fun j hj => by
    unfold rmP
    by_cases q : b ≤ k
    · rw [if_neg (by omega), if_pos (by omega), if_pos q, show 530 + 3 * k + j + 3 = 530 + 3 * (k + 1) + j by omega]
    · rw [if_neg (by omega), if_neg (by omega), if_neg q]
  rw [ck, ck, ck, rk 1 (by decide), rk 2 (by decide), show rmP m pn b (3 * (pn - 1)) (530 + 3 * k) = _ from rk 0 (by decide)]
  by_cases q : b ≤ k
  · rw [if_pos q, if_pos q, if_pos q, if_pos q, if_pos q, if_pos q]
    exact h8.2 (k + 1) (by omega)
  · rw [if_neg q, if_neg q, if_neg q, if_neg q, if_neg q, if_neg q]
    exact h8.2 k (by omega)
theorem ful_ge : ¬ (0 : Int32) ≤ -nI 102 ∧ ¬ (0 : Int32) ≤ -nI 103 := by decide
theorem ful_in {nf nu nc pn : Nat} {m : Nat → Int64} {u p : Nat} (hu : isIx (nI u) nu = true) (hp : isIx (nI p) (12 * nf) = true) (eu : ix (nI u) = u) (ep : ix (nI p) = p) (h6 : u < 6) (hmu : (m (530 + 3 * bst m pn)).toInt32 = nI u) (hmp : (m (530 + 3 * bst m pn + 1)).toInt32 = nI p) : (tb (m (63 + u)) p = true ∨ nc ≤ ctb (m (63 + u)) 60 → o_fulfils nf nu nc pn m = (nI 0, va_up (rmP m pn (bst m pn) (3 * (pn - 1))) 620 (rmP m pn (bst m pn) (3 * (pn - 1)) 620 + lN 1))) ∧ (tb (m (63 + u)) p = false → ¬ nc ≤ ctb (m (63 + u)) 60 → o_fulfils nf nu nc pn m = (nI 1, va_up (rmP m pn (bst m pn) (3 * (pn - 1))) (63 + u) (m (63 + u) ||| b1 p))) := by
  have e : rmP m pn (bst m pn) (3 * (pn - 1)) (63 + u) = m (63 + u) := rmP_lo (by omega)
  have ho : o_store nf nu nc (rmP m pn (bst m pn) (3 * (pn - 1))) (nI u) (nI p) = if tb (m (63 + u)) p = true then (-nI 102, rmP m pn (bst m pn) (3 * (pn - 1))) else if nc ≤ ctb (m (63 + u)) 60 then (-nI 103, rmP m pn (bst m pn) (3 * (pn - 1))) else (nI (ctb (m (63 + u) ||| b1 p) 60), va_up (rmP m pn (bst m pn) (3 * (pn - 1))) (63 + u) (m (63 + u) ||| b1 p)) := by
    unfold o_store
    rw [if_pos hu, if_pos hp, eu, ep, e]
  constructor
  · intro h
    unfold o_fulfils
    by_cases q : tb (m (63 + u)) p = true
    · rw [if_pos q] at ho
      rw [hmu, hmp, ho, if_neg ful_ge.1, if_neg ful_ge.1]
    · rw [if_neg q, if_pos (h.resolve_left q)] at ho
      rw [hmu, hmp, ho, if_neg ful_ge.2, if_neg ful_ge.2]
  · intro h1 h2
    have h3 := ctb_le (m (63 + u) ||| b1 p) 60
    rw [if_neg (by rw [h1]; decide), if_neg h2] at ho
    unfold o_fulfils
    rw [hmu, hmp, ho, if_pos (nlt32.mp (nI_pos (n := ctb (m (63 + u) ||| b1 p) 60) (by omega))), if_pos (nlt32.mp (nI_pos (n := ctb (m (63 + u) ||| b1 p) 60) (by omega))), show ∀ z : Int64, z + lN 0 = z from fun z => Int64.add_zero z, va_id]
theorem t32_1 (x : Int64) : (x + lN 1).toInt32 = x.toInt32 + nI 1 := by rw [Int64.toInt32_add, lN_i]
theorem Wf_g0 {m : Nat → Int64} {nf nu nc qn hn pn : Nat} {ln : Nat → Nat} (h : Wf m nf nu nc qn hn pn ln) : gN (m 0) = nf ∧ gN (m 1) = nu ∧ gN (m 2) = nc ∧ gN (m 327) = qn ∧ gN (m 428) = hn ∧ gN (m 529) = pn ∧ ∀ u, u < 6 → lnG m u = ln u := by
  obtain ⟨a0, a1, a2, a3, a4, _⟩ := h
  obtain ⟨b0, b1, b2, c1, c2, c3, c4, c5⟩ := a0
  refine ⟨by rw [b0]; exact gN_lN (by omega), by rw [b1]; exact gN_lN (by omega), by rw [b2]; exact gN_lN (by omega), by rw [a1.1]; exact gN_lN (by have := a1.2; omega), by rw [a2.1]; exact gN_lN (by have := a2.2; omega), by rw [a3.1]; exact gN_lN (by have := a3.2; omega), fun u hu => ?_⟩
  unfold lnG
  rw [(a4 u hu).1]
  exact gN_lN (by have := (a4 u hu).2; omega)

set_option maxRecDepth 100000 in
set_option maxHeartbeats 4000000 in
theorem w_carry (ad : Nat → Nat) (z0 z1 : Bool) (I : FI) (J : FJ) (A : FI) (B : FJ) (m : Nat → Int64) (nf nu nc qn hn pn : Nat) (ln : Nat → Nat) (hW : Wf m nf nu nc qn hn pn ln) (hR : RepW 100 m I J A B) (hp1 : 1 ≤ pn) : Spec M_X7_carryOutPlan [.ref (ad 100)] (YC ad z0 z1) I J A B (cP ad z0 z1 I J A B (.int (o_fulfils nf nu nc pn m).1) (o_fulfils nf nu nc pn m).2) := by
  have hG := WF_g (Wf_WF hW)
  have hg := Wf_g0 hW
  obtain ⟨hmF, hmU, hmC, h1, h2, h3, h4, h5⟩ := hW.1
  have hF : I 100 5 = nI nf := by rw [hR.1.1, hmF, lN_i]
  have hU : I 100 6 = nI nu := by rw [hR.1.2.1, hmU, lN_i]
  have hC : I 100 7 = nI nc := by rw [hR.1.2.2.1, hmC, lN_i]
  have hP : I 109 3 = nI pn := by rw [hR.2.2.2.2.2.2.2.2.1, hg.2.2.2.2.2.1]
  have hp2 := hW.2.2.2.1.2
  have hV : I 100 9 = (m 620).toInt32 := hR.1.2.2.2
  have hb0 := bst_lt m pn (by omega)
  have h12 := hW.2.2.2.2.2.2.2.2.2.2.2.2
  obtain ⟨b, hbb⟩ : ∃ b, b = bst m pn := ⟨_, rfl⟩
  rw [← hbb] at hb0
  obtain ⟨⟨u, hu0, hmu⟩, ⟨p, hp0, hmp⟩, _⟩ := h12 b hb0
  have hu : u < 6 := by omega
  have h8 := hR.2.2.2.2.2.2.2.2.2 b (by rw [hg.2.2.2.2.2.1]; exact hb0)
  have hAu : A 110 b = nI u := by rw [show A 110 b = (m (530 + 3 * b)).toInt32 from h8.1, hmu, lN_i]
  have hAp : A 111 b = nI p := by rw [show A 111 b = (m (530 + 3 * b + 1)).toInt32 from h8.2.1, hmp, lN_i]
  have hmb := mb7 (ad := ad) (z0 := z0) (z1 := z1) hu
  have hJu : J (120 + 4 * u) 1 = m (63 + u) := (hR.2.2.2.1 u hu).1
  have hin : inP nf (m (63 + u)) := (hW.2.2.2.2.2.2.2.1 u hu).1
  have hcl := ctb_le (m (63 + u)) 60
  have hpr : ∀ k, k < pn → A 112 k = nI (gN (m (530 + 3 * k + 2))) ∧ gN (m (530 + 3 * k + 2)) < 10 ∧ m (530 + 3 * k + 2) = lN (gN (m (530 + 3 * k + 2))) := fun k hk => by
    obtain ⟨_, _, ⟨c, hc, hmc⟩⟩ := h12 k hk
    have h9 := (hR.2.2.2.2.2.2.2.2.2 k (by rw [hg.2.2.2.2.2.1]; exact hk)).2.2
    have hgc : gN (m (530 + 3 * k + 2)) = c := by rw [hmc]; exact gN_lN (by omega)
    exact ⟨by rw [hgc]; exact h9.trans (by rw [hmc, lN_i]), by rw [hgc]; exact hc, by rw [hgc]; exact hmc⟩
  have hful := ful_in (nf := nf) (nu := nu) (nc := nc) (pn := pn) (m := m) (u := u) (p := p) (decide_eq_true (by rw [nI_toInt (by omega)]; omega)) (decide_eq_true (by rw [nI_toInt (by omega)]; omega)) (nI_clamp (by omega)) (nI_clamp (by omega)) hu (by rw [← hbb, hmu, lN_i]) (by rw [← hbb, hmp, lN_i])
  have hW1 := Wf_rm hW hb0
  have hG1 := WF_g (Wf_WF hW1)
  have hR1 := RepW_rm hG hR hg.2.2.2.2.2.1.symm hb0
  rw [← hbb] at hful
  refine Spec_of (by decide) tk_X7_carryOutPlan (Nat.le_of_ble_eq_true rfl) (fun X g rt => ?_)
  show Sim X (YC ad z0 z1) 0 [(0, .ref (ad 100))] [] I J A B 0 0
  refine S_n g 1 (pc' := 1) (lv' := [(0, .ref (ad 100))]) (st' := [.ref (ad 100)]) rfl ?_
  refine S_getR g (i := 100) (c := 7) (k := 4) (j := 109) (by decide) (by decide) rfl rfl rfl fl_X7_36 rfl ?_
  refine S_cV g (i := 109) (As := []) (st := []) (pl_urgent ad z0 z1 I J A B m (fun k => gN (m (530 + 3 * k + 2))) pn hP hp1 hp2 hpr) mw_X3_mostUrgent lk_X7_93 ⟨Nat.le_of_ble_eq_true rfl, Nat.le_of_ble_eq_true rfl⟩ (by decide) (by decide) rfl rfl (Nat.le_of_ble_eq_true rfl) ⟨Nat.le_of_ble_eq_true rfl, Nat.le_of_ble_eq_true rfl⟩ rfl ?_
  rw [← hbb]
  show Sim X (YC ad z0 z1) 7 [(0, .ref (ad 100))] [.int (nI b)] I J A B 0 0
  refine S_n g 2 (pc' := 9) (lv' := [(0, .ref (ad 100)), (1, .int (nI b))]) (st' := [.ref (ad 100)]) rfl ?_
  refine S_getR g (i := 100) (c := 7) (k := 1) (j := 102) (by decide) (by decide) rfl rfl rfl fl_X7_17 rfl ?_
  refine S_n g 1 (pc' := 13) (lv' := [(0, .ref (ad 100)), (1, .int (nI b))]) (st' := [.ref (ad 100), .ref (ad 102)]) rfl ?_
  refine S_getR g (i := 100) (c := 7) (k := 4) (j := 109) (by decide) (by decide) rfl rfl rfl fl_X7_36 rfl ?_
  refine S_getR g (i := 109) (c := 3) (k := 0) (j := 110) (by decide) (by decide) rfl rfl rfl fl_X7_96 rfl ?_
  refine S_n g 1 (pc' := 20) (lv' := [(0, .ref (ad 100)), (1, .int (nI b))]) (st' := [.int (nI b), .ref (ad 110), .ref (ad 102)]) rfl ?_
  refine S_ialdN g (i := 110) (e := b) (by decide) rfl (show b < 30 from by omega) (show (30 : Nat) < 2 ^ 31 from by decide) rfl ?_
  rw [hAu]
  refine S_aaldN g (i := 102) (e := u) (j := 120 + 4 * u) (by decide) rfl (show u < 6 from by omega) (show (6 : Nat) < 2 ^ 31 from by decide) rfl rfl ?_
  refine S_n g 2 (pc' := 24) (lv' := [(0, .ref (ad 100)), (1, .int (nI b)), (2, .ref (ad (120 + 4 * u)))]) (st' := [.ref (ad 100)]) rfl ?_
  refine S_getR g (i := 100) (c := 7) (k := 4) (j := 109) (by decide) (by decide) rfl rfl rfl fl_X7_36 rfl ?_
  refine S_getR g (i := 109) (c := 3) (k := 1) (j := 111) (by decide) (by decide) rfl rfl rfl fl_X7_98 rfl ?_
  refine S_n g 1 (pc' := 31) (lv' := [(0, .ref (ad 100)), (1, .int (nI b)), (2, .ref (ad (120 + 4 * u)))]) (st' := [.int (nI b), .ref (ad 111)]) rfl ?_
  refine S_ialdN g (i := 111) (e := b) (by decide) rfl (show b < 30 from by omega) (show (30 : Nat) < 2 ^ 31 from by decide) rfl ?_
  rw [hAp]
  refine S_n g 2 (pc' := 34) (lv' := [(0, .ref (ad 100)), (1, .int (nI b)), (2, .ref (ad (120 + 4 * u))), (3, .int (nI p))]) (st' := [.ref (ad 100)]) rfl ?_
  refine S_getR g (i := 100) (c := 7) (k := 4) (j := 109) (by decide) (by decide) rfl rfl rfl fl_X7_36 rfl ?_
  refine S_n g 1 (pc' := 38) (lv' := [(0, .ref (ad 100)), (1, .int (nI b)), (2, .ref (ad (120 + 4 * u))), (3, .int (nI p))]) (st' := [.int (nI b), .ref (ad 109)]) rfl ?_
  refine S_cV g (i := 109) (As := [.int (nI b)]) (st := []) (pl_remove ad z0 z1 I J A B b pn hP hb0 hp2) mw_X3_remove lk_X7_100 ⟨Nat.le_of_ble_eq_true rfl, Nat.le_of_ble_eq_true rfl⟩ (by decide) (by decide) rfl rfl (Nat.le_of_ble_eq_true rfl) ⟨Nat.le_of_ble_eq_true rfl, Nat.le_of_ble_eq_true rfl⟩ rfl ?_
  show Sim X (YC ad z0 z1) 41 [(0, .ref (ad 100)), (1, .int (nI b)), (2, .ref (ad (120 + 4 * u))), (3, .int (nI p))] [] (up2 I 109 3 (nI (pn - 1))) J (va_up (va_up (va_up A 110 (va_cpy (A 110) (A 110) (b + 1) b (pn - 1 - b))) 111 (va_cpy (A 111) (A 111) (b + 1) b (pn - 1 - b))) 112 (va_cpy (A 112) (A 112) (b + 1) b (pn - 1 - b))) B 0 0
  refine S_n g 2 (pc' := 43) (lv' := [(0, .ref (ad 100)), (1, .int (nI b)), (2, .ref (ad (120 + 4 * u))), (3, .int (nI p))]) (st' := [.int (nI p), .ref (ad (120 + 4 * u))]) rfl ?_
  refine S_cV g (i := 120 + 4 * u) (As := [.int (nI p)]) (st := []) (mb_holds ad z0 z1 (up2 I 109 3 (nI (pn - 1))) J (va_up (va_up (va_up A 110 (va_cpy (A 110) (A 110) (b + 1) b (pn - 1 - b))) 111 (va_cpy (A 111) (A 111) (b + 1) b (pn - 1 - b))) 112 (va_cpy (A 112) (A 112) (b + 1) b (pn - 1 - b))) B (120 + 4 * u) (by omega) hmb.1 p (by omega)) mw_X2_holds lk_X7_103 ⟨Nat.le_of_ble_eq_true rfl, Nat.le_of_ble_eq_true rfl⟩ (by omega) (by decide) (mb7 hu).1 rfl (Nat.le_of_ble_eq_true rfl) ⟨Nat.le_of_ble_eq_true rfl, Nat.le_of_ble_eq_true rfl⟩ rfl ?_
  rw [hJu]
  show Sim X (YC ad z0 z1) 46 [(0, .ref (ad 100)), (1, .int (nI b)), (2, .ref (ad (120 + 4 * u))), (3, .int (nI p))] [.int (bI (tb (m (63 + u)) p))] (up2 I 109 3 (nI (pn - 1))) J (va_up (va_up (va_up A 110 (va_cpy (A 110) (A 110) (b + 1) b (pn - 1 - b))) 111 (va_cpy (A 111) (A 111) (b + 1) b (pn - 1 - b))) 112 (va_cpy (A 112) (A 112) (b + 1) b (pn - 1 - b))) B 0 0
  refine S_ifB_ne g (tgt := 60) rfl (by decide) (fun qz46 => ?_) (fun qz46 => ?_)
  · skip
    have ho := hful.1 (Or.inl qz46)
    refine S_n g 2 (pc' := 62) (lv' := [(0, .ref (ad 100)), (1, .int (nI b)), (2, .ref (ad (120 + 4 * u))), (3, .int (nI p))]) (st' := [.ref (ad 100), .ref (ad 100)]) rfl ?_
    refine S_getI g (i := 100) (c := 7) (k := 9) (by decide) (by decide) rfl rfl fl_X7_54 rfl ?_
    show Sim X (YC ad z0 z1) 65 [(0, .ref (ad 100)), (1, .int (nI b)), (2, .ref (ad (120 + 4 * u))), (3, .int (nI p))] [.int (I 100 9), .ref (ad 100)] (up2 I 109 3 (nI (pn - 1))) J (va_up (va_up (va_up A 110 (va_cpy (A 110) (A 110) (b + 1) b (pn - 1 - b))) 111 (va_cpy (A 111) (A 111) (b + 1) b (pn - 1 - b))) 112 (va_cpy (A 112) (A 112) (b + 1) b (pn - 1 - b))) B 0 0
    rw [hV]
    refine S_n g 2 (pc' := 67) (lv' := [(0, .ref (ad 100)), (1, .int (nI b)), (2, .ref (ad (120 + 4 * u))), (3, .int (nI p))]) (st' := [.int ((m 620).toInt32 + (nI 1)), .ref (ad 100)]) rfl ?_
    refine S_putI g (i := 100) (c := 7) (k := 9) (kd := 0) (by decide) (by decide) rfl rfl (by decide) fw_X7_54 rfl rfl rfl ?_
    refine S_n g 1 (pc' := 71) (lv' := [(0, .ref (ad 100)), (1, .int (nI b)), (2, .ref (ad (120 + 4 * u))), (3, .int (nI p))]) (st' := [.int (nI 0)]) rfl ?_
    show Sim X (YC ad z0 z1) 71 [(0, .ref (ad 100)), (1, .int (nI b)), (2, .ref (ad (120 + 4 * u))), (3, .int (nI p))] [.int (bI false)] (up2 (up2 I 109 3 (nI (pn - 1))) 100 9 ((m 620).toInt32 + (nI 1))) J (va_up (va_up (va_up A 110 (va_cpy (A 110) (A 110) (b + 1) b (pn - 1 - b))) 111 (va_cpy (A 111) (A 111) (b + 1) b (pn - 1 - b))) 112 (va_cpy (A 112) (A 112) (b + 1) b (pn - 1 - b))) B 0 0
    exact rtZ rt rfl rfl (⟨by rw [ho]; rfl, rfl, by rw [ho]; have h9 := RepW_vain hG1 hR1 (rmP m pn b (3 * (pn - 1)) 620 + lN 1); rw [t32_1, rmP_hi (by omega)] at h9; rw [rmP_hi (by omega)]; exact h9, fun i hi => ⟨(u2r (by omega)).trans (u2r (by omega)), rfl, (va_up_ne _ _ (by omega)).trans ((va_up_ne _ _ (by omega)).trans (va_up_ne _ _ (by omega))), rfl⟩, rfl, rfl, rfl, rfl, rfl⟩)
  · skip
    refine S_n g 1 (pc' := 50) (lv' := [(0, .ref (ad 100)), (1, .int (nI b)), (2, .ref (ad (120 + 4 * u))), (3, .int (nI p))]) (st' := [.ref (ad (120 + 4 * u))]) rfl ?_
    refine S_cV g (i := 120 + 4 * u) (As := []) (st := []) (mb_held ad z0 z1 (up2 I 109 3 (nI (pn - 1))) J (va_up (va_up (va_up A 110 (va_cpy (A 110) (A 110) (b + 1) b (pn - 1 - b))) 111 (va_cpy (A 111) (A 111) (b + 1) b (pn - 1 - b))) 112 (va_cpy (A 112) (A 112) (b + 1) b (pn - 1 - b))) B (120 + 4 * u) (by omega) hmb.1) mw_X2_held lk_X7_107 ⟨Nat.le_of_ble_eq_true rfl, Nat.le_of_ble_eq_true rfl⟩ (by omega) (by decide) (mb7 hu).1 rfl (Nat.le_of_ble_eq_true rfl) ⟨Nat.le_of_ble_eq_true rfl, Nat.le_of_ble_eq_true rfl⟩ rfl ?_
    rw [hJu, ctb_64 h2 hin]
    show Sim X (YC ad z0 z1) 53 [(0, .ref (ad 100)), (1, .int (nI b)), (2, .ref (ad (120 + 4 * u))), (3, .int (nI p))] [.int (nI (ctb (m (63 + u)) 60))] (up2 I 109 3 (nI (pn - 1))) J (va_up (va_up (va_up A 110 (va_cpy (A 110) (A 110) (b + 1) b (pn - 1 - b))) 111 (va_cpy (A 111) (A 111) (b + 1) b (pn - 1 - b))) 112 (va_cpy (A 112) (A 112) (b + 1) b (pn - 1 - b))) B 0 0
    refine S_n g 1 (pc' := 54) (lv' := [(0, .ref (ad 100)), (1, .int (nI b)), (2, .ref (ad (120 + 4 * u))), (3, .int (nI p))]) (st' := [.ref (ad 100), .int (nI (ctb (m (63 + u)) 60))]) rfl ?_
    refine S_getI g (i := 100) (c := 7) (k := 7) (by decide) (by decide) rfl rfl fl_X7_48 rfl ?_
    show Sim X (YC ad z0 z1) 57 [(0, .ref (ad 100)), (1, .int (nI b)), (2, .ref (ad (120 + 4 * u))), (3, .int (nI p))] [.int (I 100 7), .int (nI (ctb (m (63 + u)) 60))] (up2 I 109 3 (nI (pn - 1))) J (va_up (va_up (va_up A 110 (va_cpy (A 110) (A 110) (b + 1) b (pn - 1 - b))) 111 (va_cpy (A 111) (A 111) (b + 1) b (pn - 1 - b))) 112 (va_cpy (A 112) (A 112) (b + 1) b (pn - 1 - b))) B 0 0
    rw [hC]
    refine S_icN_lt g (tgt := 72) (by omega) (by omega) rfl (by decide) (fun qz57 => ?_) (fun qz57 => ?_)
    · skip
      have ho := hful.2 qz46 (by omega)
      refine S_n g 2 (pc' := 74) (lv' := [(0, .ref (ad 100)), (1, .int (nI b)), (2, .ref (ad (120 + 4 * u))), (3, .int (nI p))]) (st' := [.ref (ad (120 + 4 * u)), .ref (ad (120 + 4 * u))]) rfl ?_
      refine S_getJ g (i := 120 + 4 * u) (c := 2) (k := 1) (by omega) (by decide) (mb7 hu).1 rfl fl_X7_110 rfl ?_
      rw [hJu]
      refine S_n g 4 (pc' := 81) (lv' := [(0, .ref (ad 100)), (1, .int (nI b)), (2, .ref (ad (120 + 4 * u))), (3, .int (nI p))]) (st' := [.long ((m (63 + u)) ||| ((lN 1) <<< ((nI p).toInt64 &&& 63))), .ref (ad (120 + 4 * u))]) rfl ?_
      refine S_putJ g (i := 120 + 4 * u) (c := 2) (k := 1) (by omega) (by decide) (mb7 hu).1 rfl fw_X7_110 rfl ?_
      refine S_n g 1 (pc' := 85) (lv' := [(0, .ref (ad 100)), (1, .int (nI b)), (2, .ref (ad (120 + 4 * u))), (3, .int (nI p))]) (st' := [.int (nI 1)]) rfl ?_
      show Sim X (YC ad z0 z1) 85 [(0, .ref (ad 100)), (1, .int (nI b)), (2, .ref (ad (120 + 4 * u))), (3, .int (nI p))] [.int (bI true)] (up2 I 109 3 (nI (pn - 1))) (up2 J (120 + 4 * u) 1 ((m (63 + u)) ||| ((lN 1) <<< ((nI p).toInt64 &&& 63)))) (va_up (va_up (va_up A 110 (va_cpy (A 110) (A 110) (b + 1) b (pn - 1 - b))) 111 (va_cpy (A 111) (A 111) (b + 1) b (pn - 1 - b))) 112 (va_cpy (A 112) (A 112) (b + 1) b (pn - 1 - b))) B 0 0
      exact rtZ rt rfl rfl (⟨by rw [ho]; rfl, rfl, by rw [ho]; exact RepW_cache hG1 hR1 hu _, fun i hi => ⟨u2r (by omega), u2r (by omega), (va_up_ne _ _ (by omega)).trans ((va_up_ne _ _ (by omega)).trans (va_up_ne _ _ (by omega))), rfl⟩, rfl, rfl, rfl, rfl, rfl⟩)
    · skip
      have ho := hful.1 (Or.inr (by omega))
      refine S_n g 2 (pc' := 62) (lv' := [(0, .ref (ad 100)), (1, .int (nI b)), (2, .ref (ad (120 + 4 * u))), (3, .int (nI p))]) (st' := [.ref (ad 100), .ref (ad 100)]) rfl ?_
      refine S_getI g (i := 100) (c := 7) (k := 9) (by decide) (by decide) rfl rfl fl_X7_54 rfl ?_
      show Sim X (YC ad z0 z1) 65 [(0, .ref (ad 100)), (1, .int (nI b)), (2, .ref (ad (120 + 4 * u))), (3, .int (nI p))] [.int (I 100 9), .ref (ad 100)] (up2 I 109 3 (nI (pn - 1))) J (va_up (va_up (va_up A 110 (va_cpy (A 110) (A 110) (b + 1) b (pn - 1 - b))) 111 (va_cpy (A 111) (A 111) (b + 1) b (pn - 1 - b))) 112 (va_cpy (A 112) (A 112) (b + 1) b (pn - 1 - b))) B 0 0
      rw [hV]
      refine S_n g 2 (pc' := 67) (lv' := [(0, .ref (ad 100)), (1, .int (nI b)), (2, .ref (ad (120 + 4 * u))), (3, .int (nI p))]) (st' := [.int ((m 620).toInt32 + (nI 1)), .ref (ad 100)]) rfl ?_
      refine S_putI g (i := 100) (c := 7) (k := 9) (kd := 0) (by decide) (by decide) rfl rfl (by decide) fw_X7_54 rfl rfl rfl ?_
      refine S_n g 1 (pc' := 71) (lv' := [(0, .ref (ad 100)), (1, .int (nI b)), (2, .ref (ad (120 + 4 * u))), (3, .int (nI p))]) (st' := [.int (nI 0)]) rfl ?_
      show Sim X (YC ad z0 z1) 71 [(0, .ref (ad 100)), (1, .int (nI b)), (2, .ref (ad (120 + 4 * u))), (3, .int (nI p))] [.int (bI false)] (up2 (up2 I 109 3 (nI (pn - 1))) 100 9 ((m 620).toInt32 + (nI 1))) J (va_up (va_up (va_up A 110 (va_cpy (A 110) (A 110) (b + 1) b (pn - 1 - b))) 111 (va_cpy (A 111) (A 111) (b + 1) b (pn - 1 - b))) 112 (va_cpy (A 112) (A 112) (b + 1) b (pn - 1 - b))) B 0 0
      exact rtZ rt rfl rfl (⟨by rw [ho]; rfl, rfl, by rw [ho]; have h9 := RepW_vain hG1 hR1 (rmP m pn b (3 * (pn - 1)) 620 + lN 1); rw [t32_1, rmP_hi (by omega)] at h9; rw [rmP_hi (by omega)]; exact h9, fun i hi => ⟨(u2r (by omega)).trans (u2r (by omega)), rfl, (va_up_ne _ _ (by omega)).trans ((va_up_ne _ _ (by omega)).trans (va_up_ne _ _ (by omega))), rfl⟩, rfl, rfl, rfl, rfl, rfl⟩)

theorem ful_01 {nf nu nc pn : Nat} {m : Nat → Int64} : (o_fulfils nf nu nc pn m).1 = nI 1 ∨ (o_fulfils nf nu nc pn m).1 = nI 0 := by
  unfold o_fulfils
  dsimp only
  split
  · exact Or.inl rfl
  · exact Or.inr rfl

set_option maxRecDepth 100000 in
set_option maxHeartbeats 4000000 in
theorem c_idle (ad : Nat → Nat) (z0 z1 : Bool) (I : FI) (J : FJ) (A : FI) (B : FJ) (x : Int32) (m : Nat → Int64) (hG : WG m) (hR : RepW 100 m I J A B) : Spec M_X8_idle [.ref (ad 0), .int x] (YC ad z0 z1) I J A B (cP ad z0 z1 I J A B (.int (k_idle m x).1) (k_idle m x).2) := by
  have hW : Wf m (gN (m 0)) (gN (m 1)) (gN (m 2)) (gN (m 327)) (gN (m 428)) (gN (m 529)) (lnG m) := hG
  unfold k_idle
  generalize gN (m 0) = nf at hW ⊢
  generalize gN (m 1) = nu at hW ⊢
  generalize gN (m 2) = nc at hW ⊢
  obtain ⟨qn, hqn⟩ : ∃ qn, qn = gN (m 327) := ⟨_, rfl⟩
  rw [← hqn] at hW ⊢
  generalize gN (m 428) = hn at hW
  obtain ⟨pn, hpn⟩ : ∃ pn, pn = gN (m 529) := ⟨_, rfl⟩
  rw [← hpn] at hW ⊢
  have hp2 := hW.2.2.2.1.2
  have hQ : I 103 3 = nI qn := by rw [hqn]; exact hR.2.2.2.2.2.2.1.2.1
  have hq1 := hW.2.1.2
  refine Spec_of (by decide) tk_X8_idle (Nat.le_of_ble_eq_true rfl) (fun X g rt => ?_)
  show Sim X (YC ad z0 z1) 0 [(0, .ref (ad 0)), (1, .int x)] [] I J A B 0 0
  refine S_n g 2 (pc' := 2) (lv' := [(0, .ref (ad 0)), (1, .int x)]) (st' := [.int (nI 1), .int x]) rfl ?_
  refine S_ic_lt g (tgt := 11) rfl (by decide) (fun qz2 => ?_) (fun qz2 => ?_)
  · skip
    refine S_n g 1 (pc' := 13) (lv' := [(0, .ref (ad 0)), (1, .int x)]) (st' := [.int (-nI 101)]) rfl ?_
    exact rtI rt rfl rfl (⟨by rw [o_idle, lt_1 (n := 50) qz2, if_neg (by decide)], rfl, by rw [o_idle, lt_1 (n := 50) qz2, if_neg (by decide)]; exact hR, kpC_rf I J A B⟩)
  · skip
    refine S_n g 2 (pc' := 8) (lv' := [(0, .ref (ad 0)), (1, .int x)]) (st' := [.int (nI 50), .int x]) rfl ?_
    refine S_ic_le g (tgt := 14) rfl (by decide) (fun qz8 => ?_) (fun qz8 => ?_)
    · skip
      have hx := in_n (n := 50) (by decide) qz2 qz8
      obtain ⟨n, hn9, en, fn⟩ := isIn_k hx
      have ho : o_idle nf nu nc pn qn m x = if 0 < qn then (-nI 102, m) else itI nf nu nc pn m (min n pn) := by rw [o_idle, if_pos hx, fn]
      subst en
      show Sim X (YC ad z0 z1) 14 [(0, .ref (ad 0)), (1, .int (nI n))] [] I J A B 0 0
      refine S_n g 1 (pc' := 15) (lv' := [(0, .ref (ad 0)), (1, .int (nI n))]) (st' := [.ref (ad 0)]) rfl ?_
      refine S_getR g (i := 0) (c := 8) (k := 0) (j := 100) (by decide) (by decide) rfl rfl rfl fl_X8_10 rfl ?_
      refine S_getR g (i := 100) (c := 7) (k := 2) (j := 103) (by decide) (by decide) rfl rfl rfl fl_X8_151 rfl ?_
      refine S_getI g (i := 103) (c := 6) (k := 3) (by decide) (by decide) rfl rfl fl_X8_72 rfl ?_
      rw [hQ]
      refine S_ifN_le g (tgt := 30) (by omega) rfl (by decide) (fun qz24 => ?_) (fun qz24 => ?_)
      · skip
        rw [if_neg (show ¬ 0 < qn by omega)] at ho
        refine S_n g 4 (pc' := 34) (lv' := [(0, .ref (ad 0)), (1, .int (nI n)), (2, .int (nI 0)), (3, .int (nI 0))]) (st' := []) rfl ?_
        have lp : ∀ (nn : Nat) (t : Nat) (I2 : FI) (J2 : FJ) (A2 : FI) (B2 : FJ), n - t = nn → (t ≤ n) → (t ≤ pn) → (RepW 100 (itI nf nu nc pn m t).2 I2 J2 A2 B2) → (kpC I J A B I2 J2 A2 B2) → Sim X (YC ad z0 z1) 34 [(0, .ref (ad 0)), (1, .int (nI n)), (2, .int (itI nf nu nc pn m t).1), (3, .int (nI t))] [] I2 J2 A2 B2 0 0 := by
          intro nn
          induction nn using Nat.strongRecOn with
          | ind nn ih =>
            intro t I2 J2 A2 B2 hmz ht1 ht2 hR2 hk2
            have lp := ih
            have hWt := Wf_it hW t ht2
            have hPt : I2 109 3 = nI (pn - t) := by rw [hR2.2.2.2.2.2.2.2.2.1, (Wf_g0 hWt).2.2.2.2.2.1]
            refine S_n g 2 (pc' := 36) (lv' := [(0, .ref (ad 0)), (1, .int (nI n)), (2, .int (itI nf nu nc pn m t).1), (3, .int (nI t))]) (st' := [.int (nI n), .int (nI t)]) rfl ?_
            refine S_icN_ge g (tgt := 71) (by omega) (by omega) rfl (by decide) (fun qz36 => ?_) (fun qz36 => ?_)
            · skip
              have e9 : t = min n pn := by omega
              refine S_n g 1 (pc' := 72) (lv' := [(0, .ref (ad 0)), (1, .int (nI n)), (2, .int (itI nf nu nc pn m t).1), (3, .int (nI t))]) (st' := [.int (itI nf nu nc pn m t).1]) rfl ?_
              exact rtI rt rfl rfl (by rw [ho, ← e9]; exact ⟨rfl, rfl, hR2, hk2⟩)
            · skip
              refine S_n g 1 (pc' := 40) (lv' := [(0, .ref (ad 0)), (1, .int (nI n)), (2, .int (itI nf nu nc pn m t).1), (3, .int (nI t))]) (st' := [.ref (ad 0)]) rfl ?_
              refine S_getR g (i := 0) (c := 8) (k := 0) (j := 100) (by decide) (by decide) rfl rfl rfl fl_X8_10 rfl ?_
              refine S_getR g (i := 100) (c := 7) (k := 4) (j := 109) (by decide) (by decide) rfl rfl rfl fl_X8_141 rfl ?_
              refine S_getI g (i := 109) (c := 3) (k := 3) (by decide) (by decide) rfl rfl fl_X8_145 rfl ?_
              rw [hPt]
              refine S_ifN_le g (tgt := 71) (by omega) rfl (by decide) (fun qz49 => ?_) (fun qz49 => ?_)
              · skip
                have e9 : t = min n pn := by omega
                refine S_n g 1 (pc' := 72) (lv' := [(0, .ref (ad 0)), (1, .int (nI n)), (2, .int (itI nf nu nc pn m t).1), (3, .int (nI t))]) (st' := [.int (itI nf nu nc pn m t).1]) rfl ?_
                exact rtI rt rfl rfl (by rw [ho, ← e9]; exact ⟨rfl, rfl, hR2, hk2⟩)
              · skip
                refine S_n g 1 (pc' := 53) (lv' := [(0, .ref (ad 0)), (1, .int (nI n)), (2, .int (itI nf nu nc pn m t).1), (3, .int (nI t))]) (st' := [.ref (ad 0)]) rfl ?_
                refine S_getR g (i := 0) (c := 8) (k := 0) (j := 100) (by decide) (by decide) rfl rfl rfl fl_X8_10 rfl ?_
                refine S_callV g (i := 100) (As := []) (st := []) (w_carry ad z0 z1 I2 J2 A2 B2 (itI nf nu nc pn m t).2 nf nu nc qn hn (pn - t) (lnG m) hWt hR2 (by omega)) mw_X7_carryOutPlan lk_X8_154 ⟨Nat.le_of_ble_eq_true rfl, Nat.le_of_ble_eq_true rfl⟩ (by decide) (by decide) rfl rfl (Nat.le_of_ble_eq_true rfl) ⟨Nat.le_of_ble_eq_true rfl, Nat.le_of_ble_eq_true rfl⟩ rfl (fun v' Y' I3 J3 A3 B3 hpo => ?_)
                obtain ⟨rfl, rfl, hq5, hqk⟩ := hpo
                show Sim X (YC ad z0 z1) 59 [(0, .ref (ad 0)), (1, .int (nI n)), (2, .int (itI nf nu nc pn m t).1), (3, .int (nI t))] [.int (o_fulfils nf nu nc (pn - t) (itI nf nu nc pn m t).2).1] I3 J3 A3 B3 0 0
                refine S_if_eq g (tgt := 65) rfl (by decide) (fun qz59 => ?_) (fun qz59 => ?_)
                · skip
                  refine S_lveq (lv' := [(0, .ref (ad 0)), (1, .int (nI n)), (2, .int (itI nf nu nc pn m (t + 1)).1), (3, .int (nI t))]) (by rw [(show (itI nf nu nc pn m t).1 = (itI nf nu nc pn m (t + 1)).1 from by rw [itI]; exact (show _ = _ + _ by rw [qz59]; exact (Int32.add_zero _).symm)).symm]) ?_
                  refine S_n g 1 (pc' := 68) (lv' := [(0, .ref (ad 0)), (1, .int (nI n)), (2, .int (itI nf nu nc pn m (t + 1)).1), (3, .int ((nI t) + nI 1))]) (st' := []) rfl ?_
                  rw [nI_add t 1]
                  refine S_n g 1 (pc' := 34) (lv' := [(0, .ref (ad 0)), (1, .int (nI n)), (2, .int (itI nf nu nc pn m (t + 1)).1), (3, .int (nI (t + 1)))]) (st' := []) rfl ?_
                  exact lp (n - (t + 1)) (by omega) (t + 1) I3 J3 A3 B3 rfl (by omega) (by omega) hq5 (kpC_tr hk2 hqk)
                · skip
                  refine S_n g 1 (pc' := 65) (lv' := [(0, .ref (ad 0)), (1, .int (nI n)), (2, .int ((itI nf nu nc pn m t).1 + nI 1)), (3, .int (nI t))]) (st' := []) rfl ?_
                  refine S_lveq (lv' := [(0, .ref (ad 0)), (1, .int (nI n)), (2, .int (itI nf nu nc pn m (t + 1)).1), (3, .int (nI t))]) (by rw [(show (itI nf nu nc pn m t).1 + nI 1 = (itI nf nu nc pn m (t + 1)).1 from by rw [itI]; exact (show _ = _ + _ by rw [(ful_01 (nf := nf) (nu := nu) (nc := nc) (pn := pn - t) (m := (itI nf nu nc pn m t).2)).resolve_right qz59])).symm]) ?_
                  refine S_n g 1 (pc' := 68) (lv' := [(0, .ref (ad 0)), (1, .int (nI n)), (2, .int (itI nf nu nc pn m (t + 1)).1), (3, .int ((nI t) + nI 1))]) (st' := []) rfl ?_
                  rw [nI_add t 1]
                  refine S_n g 1 (pc' := 34) (lv' := [(0, .ref (ad 0)), (1, .int (nI n)), (2, .int (itI nf nu nc pn m (t + 1)).1), (3, .int (nI (t + 1)))]) (st' := []) rfl ?_
                  exact lp (n - (t + 1)) (by omega) (t + 1) I3 J3 A3 B3 rfl (by omega) (by omega) hq5 (kpC_tr hk2 hqk)
        exact lp _ 0 I J A B rfl (Nat.zero_le _) (Nat.zero_le _) hR (kpC_rf I J A B)
      · skip
        have h9 : 0 < qn := by omega
        refine S_n g 1 (pc' := 29) (lv' := [(0, .ref (ad 0)), (1, .int (nI n))]) (st' := [.int (-nI 102)]) rfl ?_
        exact rtI rt rfl rfl (⟨by rw [ho, if_pos h9], rfl, by rw [ho, if_pos h9]; exact hR, kpC_rf I J A B⟩)
    · skip
      refine S_n g 1 (pc' := 13) (lv' := [(0, .ref (ad 0)), (1, .int x)]) (st' := [.int (-nI 101)]) rfl ?_
      exact rtI rt rfl rfl (⟨by rw [o_idle, gt_n (n := 50) (lo := 1) (by decide) qz8, if_neg (by decide)], rfl, by rw [o_idle, gt_n (n := 50) (lo := 1) (by decide) qz8, if_neg (by decide)]; exact hR, kpC_rf I J A B⟩)
