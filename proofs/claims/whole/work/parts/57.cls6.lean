/-! the class: sum, resend -/
theorem allP : ∀ nf, nf < 6 → 1 ≤ nf → b1 (12 * nf) - lN 1 = lN (2 ^ (12 * nf) - 1) := by decide +kernel
theorem inP_iff {nf : Nat} (hf : nf ≤ 5) {s : Int64} : s &&& (lN (2 ^ (12 * nf) - 1) ^^^ -lN 1) = lN 0 ↔ inP nf s := by
  constructor
  · intro h b hb
    by_cases hb6 : b < 64
    · have := congrArg (fun z => tb z b) h
      simp only [tb_and, tb_xor, tb_lN, tb_m1 hb6, Nat.testBit_two_pow_sub_one, tb_0, decide_eq_true hb6, Bool.true_and] at this
      rw [decide_eq_false (show ¬ b < 12 * nf by omega)] at this
      simpa using this
    · exact tb_big (by omega)
  · intro h
    apply tb_ext
    intro i hi
    rw [tb_and, tb_xor, tb_lN, tb_m1 hi, Nat.testBit_two_pow_sub_one, tb_0, decide_eq_true hi, Bool.true_and]
    by_cases q : i < 12 * nf
    · rw [decide_eq_true q]; simp
    · rw [h i (by omega)]; rfl
theorem pos_of {nf : Nat} (hf : nf ≤ 5) {s : Int64} (h0 : s ≠ lN 0) (h : inP nf s) : ¬ s ≤ lN 0 := by
  obtain ⟨N, hN, rfl⟩ := lN_all s
  have h1 := h 63 (by omega)
  rw [tb_lN, decide_eq_true (by decide), Bool.true_and, Nat.testBit_eq_decide_div_mod_eq] at h1
  have h2 := of_decide_eq_false h1
  have h3 : N < 2 ^ 63 := by omega
  rw [Int64.le_iff_toInt_le, pk_lT h3, pk_lT (by decide)]
  intro q
  apply h0
  rw [show N = 0 from by omega]
theorem sum_iff {nf : Nat} (hf : nf ≤ 5) {s : Int64} (h0 : s ≠ lN 0) (h : inP nf s) : ¬ (s ≤ lN 0 ∨ s >>> ((nI (12 * nf)).toInt64 &&& 63) ≠ lN 0) := by
  rintro (q | q)
  · exact pos_of hf h0 h q
  · apply q
    apply tb_ext
    intro i hi
    rw [tb_shr _ (by omega) _ hi, tb_0]
    split
    · exact h _ (by omega)
    · exact h _ (by omega)
theorem le0 : lN 0 ≤ lN 0 := by decide

set_option maxRecDepth 100000 in
set_option maxHeartbeats 4000000 in
theorem w_allPieces (ad : Nat → Nat) (z0 z1 : Bool) (I : FI) (J : FJ) (A : FI) (B : FJ) (nf : Nat) (hF : I 100 5 = nI nf) (h1 : 1 ≤ nf) (h2 : nf ≤ 5) : Spec M_X7_allPieces [.ref (ad 100)] (YC ad z0 z1) I J A B (eqP (some (.long (lN (2 ^ (12 * nf) - 1)))) (YC ad z0 z1) I J A B) := by
  refine Spec_of (by decide) tk_X7_allPieces (Nat.le_of_ble_eq_true rfl) (fun X g rt => ?_)
  show Sim X (YC ad z0 z1) 0 [(0, .ref (ad 100))] [] I J A B 0 0
  refine S_n g 2 (pc' := 2) (lv' := [(0, .ref (ad 100))]) (st' := [.ref (ad 100), .long (lN 1)]) rfl ?_
  refine S_cV g (i := 100) (As := []) (st := [.long (lN 1)]) (w_pieces ad z0 z1 I J A B nf hF) mw_X7_pieces lk_X7_80 ⟨Nat.le_of_ble_eq_true rfl, Nat.le_of_ble_eq_true rfl⟩ (by decide) (by decide) rfl rfl (Nat.le_of_ble_eq_true rfl) ⟨Nat.le_of_ble_eq_true rfl, Nat.le_of_ble_eq_true rfl⟩ rfl ?_
  show Sim X (YC ad z0 z1) 5 [(0, .ref (ad 100))] [.int (nI (12 * nf)), .long (lN 1)] I J A B 0 0
  refine S_n g 3 (pc' := 8) (lv' := [(0, .ref (ad 100))]) (st' := [.long (((lN 1) <<< ((nI (12 * nf)).toInt64 &&& 63)) - (lN 1))]) rfl ?_
  refine S_steq (st' := [.long (lN (2 ^ (12 * nf) - 1))]) (by rw [(show ((lN 1) <<< ((nI (12 * nf)).toInt64 &&& 63)) - (lN 1) = lN (2 ^ (12 * nf) - 1) from allP nf (by omega) h1).symm]) ?_
  exact rtL rt rfl rfl eqP_rf

set_option maxRecDepth 100000 in
set_option maxHeartbeats 4000000 in
theorem c_sum (ad : Nat → Nat) (z0 z1 : Bool) (I : FI) (J : FJ) (A : FI) (B : FJ) (s : Int64) (m : Nat → Int64) (hG : WG m) (hR : RepW 100 m I J A B) : Spec M_X8_sum [.ref (ad 0), .long s] (YC ad z0 z1) I J A B (cP ad z0 z1 I J A B (.int (o_sum (gN (m 0)) (gN (m 327)) m s).1) (o_sum (gN (m 0)) (gN (m 327)) m s).2) := by
  obtain ⟨nf, hnf⟩ : ∃ nf, nf = gN (m 0) := ⟨_, rfl⟩
  obtain ⟨nu, hnu⟩ : ∃ nu, nu = gN (m 1) := ⟨_, rfl⟩
  obtain ⟨nc, hnc⟩ : ∃ nc, nc = gN (m 2) := ⟨_, rfl⟩
  have hD := hG.1
  unfold wc0 at hD
  rw [← hnf, ← hnu, ← hnc] at hD
  obtain ⟨hmF, hmU, hmC, h1, h2, h3, h4, h5⟩ := hD
  have hF : I 100 5 = nI nf := by rw [hR.1.1, hmF, lN_i]
  have hU : I 100 6 = nI nu := by rw [hR.1.2.1, hmU, lN_i]
  have hC : I 100 7 = nI nc := by rw [hR.1.2.2.1, hmC, lN_i]
  rw [← hnf]
  refine Spec_of (by decide) tk_X8_sum (Nat.le_of_ble_eq_true rfl) (fun X g rt => ?_)
  show Sim X (YC ad z0 z1) 0 [(0, .ref (ad 0)), (1, .long s)] [] I J A B 0 0
  refine S_n g 2 (pc' := 2) (lv' := [(0, .ref (ad 0)), (1, .long s)]) (st' := [.long (lN 0), .long s]) rfl ?_
  refine S_lc_eq g (tgt := 24) rfl rfl (by decide) (fun qz2 => ?_) (fun qz2 => ?_)
  · skip
    refine S_n g 1 (pc' := 26) (lv' := [(0, .ref (ad 0)), (1, .long s)]) (st' := [.int (-nI 101)]) rfl ?_
    exact rtI rt rfl rfl (⟨by rw [o_sum, if_pos (Or.inl (by rw [qz2]; exact le0))], rfl, by rw [o_sum, if_pos (Or.inl (by rw [qz2]; exact le0))]; exact hR, kpC_rf I J A B⟩)
  · skip
    refine S_n g 2 (pc' := 8) (lv' := [(0, .ref (ad 0)), (1, .long s)]) (st' := [.ref (ad 0), .long s]) rfl ?_
    refine S_getR g (i := 0) (c := 8) (k := 0) (j := 100) (by decide) (by decide) rfl rfl rfl fl_X8_10 rfl ?_
    refine S_cV g (i := 100) (As := []) (st := [.long s]) (w_allPieces ad z0 z1 I J A B nf hF h1 h2) mw_X7_allPieces lk_X8_167 ⟨Nat.le_of_ble_eq_true rfl, Nat.le_of_ble_eq_true rfl⟩ (by decide) (by decide) rfl rfl (Nat.le_of_ble_eq_true rfl) ⟨Nat.le_of_ble_eq_true rfl, Nat.le_of_ble_eq_true rfl⟩ rfl ?_
    show Sim X (YC ad z0 z1) 14 [(0, .ref (ad 0)), (1, .long s)] [.long (lN (2 ^ (12 * nf) - 1)), .long s] I J A B 0 0
    refine S_ldc2 g kc_X8_102 rfl ?_
    refine S_n g 3 (pc' := 20) (lv' := [(0, .ref (ad 0)), (1, .long s)]) (st' := [.long (lN 0), .long (s &&& ((lN (2 ^ (12 * nf) - 1)) ^^^ (-lN 1)))]) rfl ?_
    refine S_lc_eq g (tgt := 27) rfl rfl (by decide) (fun qz20 => ?_) (fun qz20 => ?_)
    · skip
      have hok := sum_iff h2 qz2 ((inP_iff h2).mp qz20)
      refine S_n g 2 (pc' := 29) (lv' := [(0, .ref (ad 0)), (1, .long s)]) (st' := [.long s, .ref (ad 0)]) rfl ?_
      refine S_callV g (i := 0) (As := [.long s]) (st := []) (c_enqueue ad z0 z1 I J A B s m hG hR) mw_X8_enqueue lk_X8_171 ⟨Nat.le_of_ble_eq_true rfl, Nat.le_of_ble_eq_true rfl⟩ (by decide) (by decide) rfl rfl (Nat.le_of_ble_eq_true rfl) ⟨Nat.le_of_ble_eq_true rfl, Nat.le_of_ble_eq_true rfl⟩ rfl (fun v' Y' I2 J2 A2 B2 hpo => ?_)
      obtain ⟨rfl, rfl, hq5, hqk⟩ := hpo
      show Sim X (YC ad z0 z1) 32 [(0, .ref (ad 0)), (1, .long s)] [.int (if (gN (m 327)) = 100 then (-nI 103, m) else o_queues (gN (m 327)) m s).1] I2 J2 A2 B2 0 0
      exact rtI rt rfl rfl (⟨by rw [o_sum, if_neg hok], rfl, by rw [o_sum, if_neg hok]; exact hq5, hqk⟩)
    · skip
      have hbad : s ≤ lN 0 ∨ s >>> ((nI (12 * nf)).toInt64 &&& 63) ≠ lN 0 := Classical.byContradiction (fun q => qz20 ((inP_iff h2).mpr (sum_ok h2 q).2))
      refine S_n g 1 (pc' := 26) (lv' := [(0, .ref (ad 0)), (1, .long s)]) (st' := [.int (-nI 101)]) rfl ?_
      exact rtI rt rfl rfl (⟨by rw [o_sum, if_pos hbad], rfl, by rw [o_sum, if_pos hbad]; exact hR, kpC_rf I J A B⟩)

set_option maxRecDepth 100000 in
set_option maxHeartbeats 4000000 in
theorem c_resend (ad : Nat → Nat) (z0 z1 : Bool) (I : FI) (J : FJ) (A : FI) (B : FJ) (x : Int32) (m : Nat → Int64) (hG : WG m) (hR : RepW 100 m I J A B) : Spec M_X8_resend [.ref (ad 0), .int x] (YC ad z0 z1) I J A B (cP ad z0 z1 I J A B (.int (o_resend (gN (m 327)) (gN (m 428)) m x).1) (o_resend (gN (m 327)) (gN (m 428)) m x).2) := by
  have hq := hR.2.2.2.2.2.2.2.1
  have hq1 := (WGn hG).2.2.2.1
  obtain ⟨hn, hhn⟩ : ∃ hn, hn = gN (m 428) := ⟨_, rfl⟩
  have hH : I 106 3 = nI hn := by rw [hhn]; exact hq.2.1
  rw [← hhn] at hq1 ⊢
  refine Spec_of (by decide) tk_X8_resend (Nat.le_of_ble_eq_true rfl) (fun X g rt => ?_)
  show Sim X (YC ad z0 z1) 0 [(0, .ref (ad 0)), (1, .int x)] [] I J A B 0 0
  refine S_n g 1 (pc' := 1) (lv' := [(0, .ref (ad 0)), (1, .int x)]) (st' := [.int x]) rfl ?_
  refine S_if_lt g (tgt := 18) rfl (by decide) (fun qz1 => ?_) (fun qz1 => ?_)
  · skip
    refine S_n g 1 (pc' := 20) (lv' := [(0, .ref (ad 0)), (1, .int x)]) (st' := [.int (-nI 101)]) rfl ?_
    exact rtI rt rfl rfl (⟨by rw [o_resend, ix_lo qz1, if_neg (by decide)], rfl, by rw [o_resend, ix_lo qz1, if_neg (by decide)]; exact hR, kpC_rf I J A B⟩)
  · skip
    refine S_n g 2 (pc' := 6) (lv' := [(0, .ref (ad 0)), (1, .int x)]) (st' := [.ref (ad 0), .int x]) rfl ?_
    refine S_getR g (i := 0) (c := 8) (k := 0) (j := 100) (by decide) (by decide) rfl rfl rfl fl_X8_10 rfl ?_
    refine S_getR g (i := 100) (c := 7) (k := 3) (j := 106) (by decide) (by decide) rfl rfl rfl fl_X8_68 rfl ?_
    refine S_getI g (i := 106) (c := 6) (k := 3) (by decide) (by decide) rfl rfl fl_X8_72 rfl ?_
    rw [hH]
    refine S_ic_lt g (tgt := 21) rfl (by decide) (fun qz15 => ?_) (fun qz15 => ?_)
    · skip
      have hin : isIx x hn = true := isIx_of qz1 (fun q => absurd qz15 (nlt32.mpr q)) (by omega)
      refine S_n g 2 (pc' := 23) (lv' := [(0, .ref (ad 0)), (1, .int x)]) (st' := [.ref (ad 0), .ref (ad 0)]) rfl ?_
      refine S_getR g (i := 0) (c := 8) (k := 0) (j := 100) (by decide) (by decide) rfl rfl rfl fl_X8_10 rfl ?_
      refine S_getR g (i := 100) (c := 7) (k := 3) (j := 106) (by decide) (by decide) rfl rfl rfl fl_X8_68 rfl ?_
      refine S_n g 1 (pc' := 30) (lv' := [(0, .ref (ad 0)), (1, .int x)]) (st' := [.int x, .ref (ad 106), .ref (ad 0)]) rfl ?_
      refine S_cV g (i := 106) (As := [.int x]) (st := [.ref (ad 0)]) (sl_setAt ad z0 z1 I J A B 106 100 hn (sl_h isW_100) (by decide) hH hq1 x) mw_X6_setAt lk_X8_184 ⟨Nat.le_of_ble_eq_true rfl, Nat.le_of_ble_eq_true rfl⟩ (by decide) (by decide) rfl rfl (Nat.le_of_ble_eq_true rfl) ⟨Nat.le_of_ble_eq_true rfl, Nat.le_of_ble_eq_true rfl⟩ rfl ?_
      rw [if_pos hin, show B (106 + 1) (ix x) = m (429 + ix x) from hq.2.2 _ (by rw [← hhn]; exact ix_lt hin)]
      show Sim X (YC ad z0 z1) 33 [(0, .ref (ad 0)), (1, .int x)] [.long (m (429 + ix x)), .ref (ad 0)] I J A B 0 0
      refine S_callV g (i := 0) (As := [.long (m (429 + ix x))]) (st := []) (c_enqueue ad z0 z1 I J A B (m (429 + ix x)) m hG hR) mw_X8_enqueue lk_X8_171 ⟨Nat.le_of_ble_eq_true rfl, Nat.le_of_ble_eq_true rfl⟩ (by decide) (by decide) rfl rfl (Nat.le_of_ble_eq_true rfl) ⟨Nat.le_of_ble_eq_true rfl, Nat.le_of_ble_eq_true rfl⟩ rfl (fun v' Y' I2 J2 A2 B2 hpo => ?_)
      obtain ⟨rfl, rfl, hq5, hqk⟩ := hpo
      show Sim X (YC ad z0 z1) 36 [(0, .ref (ad 0)), (1, .int x)] [.int (if (gN (m 327)) = 100 then (-nI 103, m) else o_queues (gN (m 327)) m (m (429 + ix x))).1] I2 J2 A2 B2 0 0
      exact rtI rt rfl rfl (⟨by rw [o_resend, if_pos hin], rfl, by rw [o_resend, if_pos hin]; exact hq5, hqk⟩)
    · skip
      refine S_n g 1 (pc' := 20) (lv' := [(0, .ref (ad 0)), (1, .int x)]) (st' := [.int (-nI 101)]) rfl ?_
      exact rtI rt rfl rfl (⟨by rw [o_resend, ix_hi (nlt32.mp qz15) (by omega), if_neg (by decide)], rfl, by rw [o_resend, ix_hi (nlt32.mp qz15) (by omega), if_neg (by decide)]; exact hR, kpC_rf I J A B⟩)
