/-! the reference, part 25: rates, walked -/
set_option maxRecDepth 100000 in
set_option maxHeartbeats 4000000 in
theorem sp_rate (ad : Nat → Nat) (I : FI) (J : FJ) (A : FI) (B : FJ) (hn : Nat) (hH : B 501 428 = lN hn) (hh : hn ≤ 100) : Spec M_X9_rate [.ref (ad 500)] (YR ad) I J A B (eqP (some (.int (o_rate hn))) (YR ad) I J A B) := by
  obtain ⟨hn3, hsm⟩ := tst1 hn (by omega)
  refine Spec_of (by decide) tk_X9_rate (Nat.le_of_ble_eq_true rfl) (fun X g rt => ?_)
  show Sim X (YR ad) 0 [(0, .ref (ad 500))] [] I J A B 0 0
  refine S_n g 1 (pc' := 1) (lv' := [(0, .ref (ad 500))]) (st' := [.ref (ad 500)]) rfl ?_
  refine S_getR g (i := 500) (c := 9) (k := 0) (j := 501) (by decide) (by decide) rfl rfl rfl fl_X9_7 rfl ?_
  refine S_n g 1 (pc' := 7) (lv' := [(0, .ref (ad 500))]) (st' := [.int (nI 428), .ref (ad 501)]) rfl ?_
  refine S_laldN g (i := 501) (e := 428) (by decide) rfl (show 428 < 621 from by omega) (show (621 : Nat) < 2 ^ 31 from by decide) rfl ?_
  rw [hH]
  refine S_n g 1 (pc' := 9) (lv' := [(0, .ref (ad 500))]) (st' := [.int (lN hn).toInt32]) rfl ?_
  rw [lN_i hn]
  refine S_n g 1 (pc' := 10) (lv' := [(0, .ref (ad 500))]) (st' := [.float (FP.i2f (nI hn))]) rfl ?_
  refine S_ldcf g kc_X9_218 rfl ?_
  refine S_fdiv g (n3_t hn3) rfl ?_
  refine S_cS g (As := [.float (FP.fdiv (FP.i2f (nI hn)) 1094713344)]) (st := []) (sp_bitsOf (YR ad) I J A B (FP.fdiv (FP.i2f (nI hn)) 1094713344) (o_rate hn) (isS hsm)) mw_X9_bitsOf lk_X9_219 ⟨Nat.le_of_ble_eq_true rfl, Nat.le_of_ble_eq_true rfl⟩ rfl (Nat.le_of_ble_eq_true rfl) ⟨Nat.le_of_ble_eq_true rfl, Nat.le_of_ble_eq_true rfl⟩ rfl ?_
  show Sim X (YR ad) 16 [(0, .ref (ad 500))] [.int (o_rate hn)] I J A B 0 0
  exact rtI rt rfl rfl eqP_rf

set_option maxRecDepth 100000 in
set_option maxHeartbeats 4000000 in
theorem sp_rateOf (ad : Nat → Nat) (I : FI) (J : FJ) (A : FI) (B : FJ) (t nf nu nc : Nat) (hm : Dm (B 501) nf nu nc) (ht : t ≤ nu) : Spec M_X9_rateOf [.ref (ad 500), .int (nI t)] (YR ad) I J A B (eqP (some (.float (rvF nf nu t))) (YR ad) I J A B) := by
  obtain ⟨hF, hU, hC, h1, h2, h3, h4, h5⟩ := hm
  refine Spec_of (by decide) tk_X9_rateOf (Nat.le_of_ble_eq_true rfl) (fun X g rt => ?_)
  show Sim X (YR ad) 0 [(0, .ref (ad 500)), (1, .int (nI t))] [] I J A B 0 0
  refine S_n g 1 (pc' := 1) (lv' := [(0, .ref (ad 500)), (1, .int (nI t))]) (st' := [.ref (ad 500)]) rfl ?_
  refine S_cV g (i := 500) (As := []) (st := []) (sp_users ad I J A B nu hU) mw_X9_users lk_X9_71 ⟨Nat.le_of_ble_eq_true rfl, Nat.le_of_ble_eq_true rfl⟩ (by decide) (by decide) rfl rfl (Nat.le_of_ble_eq_true rfl) ⟨Nat.le_of_ble_eq_true rfl, Nat.le_of_ble_eq_true rfl⟩ rfl ?_
  show Sim X (YR ad) 4 [(0, .ref (ad 500)), (1, .int (nI t))] [.int (nI nu)] I J A B 0 0
  refine S_n g 2 (pc' := 6) (lv' := [(0, .ref (ad 500)), (1, .int (nI t)), (2, .int (nI nu))]) (st' := [.ref (ad 500)]) rfl ?_
  refine S_getR g (i := 500) (c := 9) (k := 0) (j := 501) (by decide) (by decide) rfl rfl rfl fl_X9_7 rfl ?_
  refine S_n g 1 (pc' := 10) (lv' := [(0, .ref (ad 500)), (1, .int (nI t)), (2, .int (nI nu))]) (st' := [.int (nI 0), .ref (ad 501)]) rfl ?_
  refine S_laldN g (i := 501) (e := 0) (by decide) rfl (show 0 < 621 from by omega) (show (621 : Nat) < 2 ^ 31 from by decide) rfl ?_
  rw [hF]
  refine S_n g 2 (pc' := 13) (lv' := [(0, .ref (ad 500)), (1, .int (nI t)), (2, .int (nI nu))]) (st' := [.long (nI nu).toInt64, .long (lN nf)]) rfl ?_
  rw [nI_l (n := nu) (by omega)]
  refine S_lcN_ge g (tgt := 27) (by omega) (by omega) rfl rfl (by decide) (fun qz13 => ?_) (fun qz13 => ?_)
  · skip
    refine S_n g 2 (pc' := 29) (lv' := [(0, .ref (ad 500)), (1, .int (nI t)), (2, .int (nI nu)), (3, .int (nI nu))]) (st' := []) rfl ?_
    refine S_lveq (lv' := [(0, .ref (ad 500)), (1, .int (nI t)), (2, .int (nI nu)), (3, .int (nI (lsN nf nu)))]) (by rw [(show nI nu = nI (lsN nf nu) from by rw [lsN, if_neg (by omega)]).symm]) ?_
    have hln : lsN nf nu ≤ nu := by unfold lsN; split <;> omega
    refine S_n g 4 (pc' := 33) (lv' := [(0, .ref (ad 500)), (1, .int (nI t)), (2, .int (nI nu)), (3, .int (nI (lsN nf nu)))]) (st' := [.int ((nI t) + (nI 1)), .int (nI nu)]) rfl ?_
    rw [nI_add t 1]
    refine S_cS g (As := [.int (nI nu), .int (nI (t + 1))]) (st := []) (sp_choose (YR ad) I J A B (nu) (t + 1) (by omega) (by omega)) mw_X9_choose lk_X9_223 ⟨Nat.le_of_ble_eq_true rfl, Nat.le_of_ble_eq_true rfl⟩ rfl (Nat.le_of_ble_eq_true rfl) ⟨Nat.le_of_ble_eq_true rfl, Nat.le_of_ble_eq_true rfl⟩ rfl ?_
    rw [nst_chs (nu) (by omega) (t + 1) (by omega)]
    show Sim X (YR ad) 36 [(0, .ref (ad 500)), (1, .int (nI t)), (2, .int (nI nu)), (3, .int (nI (lsN nf nu)))] [.int (nI (chs (nu) (t + 1)))] I J A B 0 0
    refine S_n g 3 (pc' := 39) (lv' := [(0, .ref (ad 500)), (1, .int (nI t)), (2, .int (nI nu)), (3, .int (nI (lsN nf nu)))]) (st' := [.int ((nI nu) - (nI (lsN nf nu))), .int (nI (chs (nu) (t + 1)))]) rfl ?_
    rw [pk_sub (a := nu) (b := lsN nf nu) (by omega)]
    refine S_n g 3 (pc' := 42) (lv' := [(0, .ref (ad 500)), (1, .int (nI t)), (2, .int (nI nu)), (3, .int (nI (lsN nf nu)))]) (st' := [.int ((nI t) + (nI 1)), .int (nI (nu - (lsN nf nu))), .int (nI (chs (nu) (t + 1)))]) rfl ?_
    rw [nI_add t 1]
    refine S_cS g (As := [.int (nI (nu - (lsN nf nu))), .int (nI (t + 1))]) (st := [.int (nI (chs (nu) (t + 1)))]) (sp_choose (YR ad) I J A B (nu - lsN nf nu) (t + 1) (by omega) (by omega)) mw_X9_choose lk_X9_223 ⟨Nat.le_of_ble_eq_true rfl, Nat.le_of_ble_eq_true rfl⟩ rfl (Nat.le_of_ble_eq_true rfl) ⟨Nat.le_of_ble_eq_true rfl, Nat.le_of_ble_eq_true rfl⟩ rfl ?_
    rw [nst_chs (nu - lsN nf nu) (by omega) (t + 1) (by omega)]
    show Sim X (YR ad) 45 [(0, .ref (ad 500)), (1, .int (nI t)), (2, .int (nI nu)), (3, .int (nI (lsN nf nu)))] [.int (nI (chs (nu - lsN nf nu) (t + 1))), .int (nI (chs (nu) (t + 1)))] I J A B 0 0
    refine S_n g 6 (pc' := 53) (lv' := [(0, .ref (ad 500)), (1, .int (nI t)), (2, .int (nI nu)), (3, .int (nI (lsN nf nu))), (4, .int ((nI (chs (nu) (t + 1))) - (nI (chs (nu - lsN nf nu) (t + 1)))))]) (st' := [.int (nI t), .int (nI nu), .float (FP.i2f ((nI (chs (nu) (t + 1))) - (nI (chs (nu - lsN nf nu) (t + 1)))))]) rfl ?_
    refine S_cS g (As := [.int (nI nu), .int (nI t)]) (st := [.float (FP.i2f ((nI (chs (nu) (t + 1))) - (nI (chs (nu - lsN nf nu) (t + 1)))))]) (sp_choose (YR ad) I J A B (nu) (t) (by omega) (by omega)) mw_X9_choose lk_X9_223 ⟨Nat.le_of_ble_eq_true rfl, Nat.le_of_ble_eq_true rfl⟩ rfl (Nat.le_of_ble_eq_true rfl) ⟨Nat.le_of_ble_eq_true rfl, Nat.le_of_ble_eq_true rfl⟩ rfl ?_
    rw [nst_chs (nu) (by omega) (t) (by omega)]
    show Sim X (YR ad) 56 [(0, .ref (ad 500)), (1, .int (nI t)), (2, .int (nI nu)), (3, .int (nI (lsN nf nu))), (4, .int ((nI (chs (nu) (t + 1))) - (nI (chs (nu - lsN nf nu) (t + 1)))))] [.int (nI (chs (nu) (t))), .float (FP.i2f ((nI (chs (nu) (t + 1))) - (nI (chs (nu - lsN nf nu) (t + 1)))))] I J A B 0 0
    refine S_n g 1 (pc' := 57) (lv' := [(0, .ref (ad 500)), (1, .int (nI t)), (2, .int (nI nu)), (3, .int (nI (lsN nf nu))), (4, .int ((nI (chs (nu) (t + 1))) - (nI (chs (nu - lsN nf nu) (t + 1)))))]) (st' := [.float (FP.i2f (nI (chs (nu) (t)))), .float (FP.i2f ((nI (chs (nu) (t + 1))) - (nI (chs (nu - lsN nf nu) (t + 1)))))]) rfl ?_
    refine S_fdiv g (n3_t (rvF_n nf (by omega) nu (by omega) t ht)) rfl ?_
    exact rtF rt rfl rfl eqP_rf
  · skip
    refine S_n g 1 (pc' := 18) (lv' := [(0, .ref (ad 500)), (1, .int (nI t)), (2, .int (nI nu))]) (st' := [.ref (ad 500)]) rfl ?_
    refine S_getR g (i := 500) (c := 9) (k := 0) (j := 501) (by decide) (by decide) rfl rfl rfl fl_X9_7 rfl ?_
    refine S_n g 1 (pc' := 22) (lv' := [(0, .ref (ad 500)), (1, .int (nI t)), (2, .int (nI nu))]) (st' := [.int (nI 0), .ref (ad 501)]) rfl ?_
    refine S_laldN g (i := 501) (e := 0) (by decide) rfl (show 0 < 621 from by omega) (show (621 : Nat) < 2 ^ 31 from by decide) rfl ?_
    rw [hF]
    refine S_n g 1 (pc' := 24) (lv' := [(0, .ref (ad 500)), (1, .int (nI t)), (2, .int (nI nu))]) (st' := [.int (lN nf).toInt32]) rfl ?_
    rw [lN_i nf]
    refine S_n g 2 (pc' := 29) (lv' := [(0, .ref (ad 500)), (1, .int (nI t)), (2, .int (nI nu)), (3, .int (nI nf))]) (st' := []) rfl ?_
    refine S_lveq (lv' := [(0, .ref (ad 500)), (1, .int (nI t)), (2, .int (nI nu)), (3, .int (nI (lsN nf nu)))]) (by rw [(show nI nf = nI (lsN nf nu) from by rw [lsN, if_pos (by omega)]).symm]) ?_
    have hln : lsN nf nu ≤ nu := by unfold lsN; split <;> omega
    refine S_n g 4 (pc' := 33) (lv' := [(0, .ref (ad 500)), (1, .int (nI t)), (2, .int (nI nu)), (3, .int (nI (lsN nf nu)))]) (st' := [.int ((nI t) + (nI 1)), .int (nI nu)]) rfl ?_
    rw [nI_add t 1]
    refine S_cS g (As := [.int (nI nu), .int (nI (t + 1))]) (st := []) (sp_choose (YR ad) I J A B (nu) (t + 1) (by omega) (by omega)) mw_X9_choose lk_X9_223 ⟨Nat.le_of_ble_eq_true rfl, Nat.le_of_ble_eq_true rfl⟩ rfl (Nat.le_of_ble_eq_true rfl) ⟨Nat.le_of_ble_eq_true rfl, Nat.le_of_ble_eq_true rfl⟩ rfl ?_
    rw [nst_chs (nu) (by omega) (t + 1) (by omega)]
    show Sim X (YR ad) 36 [(0, .ref (ad 500)), (1, .int (nI t)), (2, .int (nI nu)), (3, .int (nI (lsN nf nu)))] [.int (nI (chs (nu) (t + 1)))] I J A B 0 0
    refine S_n g 3 (pc' := 39) (lv' := [(0, .ref (ad 500)), (1, .int (nI t)), (2, .int (nI nu)), (3, .int (nI (lsN nf nu)))]) (st' := [.int ((nI nu) - (nI (lsN nf nu))), .int (nI (chs (nu) (t + 1)))]) rfl ?_
    rw [pk_sub (a := nu) (b := lsN nf nu) (by omega)]
    refine S_n g 3 (pc' := 42) (lv' := [(0, .ref (ad 500)), (1, .int (nI t)), (2, .int (nI nu)), (3, .int (nI (lsN nf nu)))]) (st' := [.int ((nI t) + (nI 1)), .int (nI (nu - (lsN nf nu))), .int (nI (chs (nu) (t + 1)))]) rfl ?_
    rw [nI_add t 1]
    refine S_cS g (As := [.int (nI (nu - (lsN nf nu))), .int (nI (t + 1))]) (st := [.int (nI (chs (nu) (t + 1)))]) (sp_choose (YR ad) I J A B (nu - lsN nf nu) (t + 1) (by omega) (by omega)) mw_X9_choose lk_X9_223 ⟨Nat.le_of_ble_eq_true rfl, Nat.le_of_ble_eq_true rfl⟩ rfl (Nat.le_of_ble_eq_true rfl) ⟨Nat.le_of_ble_eq_true rfl, Nat.le_of_ble_eq_true rfl⟩ rfl ?_
    rw [nst_chs (nu - lsN nf nu) (by omega) (t + 1) (by omega)]
    show Sim X (YR ad) 45 [(0, .ref (ad 500)), (1, .int (nI t)), (2, .int (nI nu)), (3, .int (nI (lsN nf nu)))] [.int (nI (chs (nu - lsN nf nu) (t + 1))), .int (nI (chs (nu) (t + 1)))] I J A B 0 0
    refine S_n g 6 (pc' := 53) (lv' := [(0, .ref (ad 500)), (1, .int (nI t)), (2, .int (nI nu)), (3, .int (nI (lsN nf nu))), (4, .int ((nI (chs (nu) (t + 1))) - (nI (chs (nu - lsN nf nu) (t + 1)))))]) (st' := [.int (nI t), .int (nI nu), .float (FP.i2f ((nI (chs (nu) (t + 1))) - (nI (chs (nu - lsN nf nu) (t + 1)))))]) rfl ?_
    refine S_cS g (As := [.int (nI nu), .int (nI t)]) (st := [.float (FP.i2f ((nI (chs (nu) (t + 1))) - (nI (chs (nu - lsN nf nu) (t + 1)))))]) (sp_choose (YR ad) I J A B (nu) (t) (by omega) (by omega)) mw_X9_choose lk_X9_223 ⟨Nat.le_of_ble_eq_true rfl, Nat.le_of_ble_eq_true rfl⟩ rfl (Nat.le_of_ble_eq_true rfl) ⟨Nat.le_of_ble_eq_true rfl, Nat.le_of_ble_eq_true rfl⟩ rfl ?_
    rw [nst_chs (nu) (by omega) (t) (by omega)]
    show Sim X (YR ad) 56 [(0, .ref (ad 500)), (1, .int (nI t)), (2, .int (nI nu)), (3, .int (nI (lsN nf nu))), (4, .int ((nI (chs (nu) (t + 1))) - (nI (chs (nu - lsN nf nu) (t + 1)))))] [.int (nI (chs (nu) (t))), .float (FP.i2f ((nI (chs (nu) (t + 1))) - (nI (chs (nu - lsN nf nu) (t + 1)))))] I J A B 0 0
    refine S_n g 1 (pc' := 57) (lv' := [(0, .ref (ad 500)), (1, .int (nI t)), (2, .int (nI nu)), (3, .int (nI (lsN nf nu))), (4, .int ((nI (chs (nu) (t + 1))) - (nI (chs (nu - lsN nf nu) (t + 1)))))]) (st' := [.float (FP.i2f (nI (chs (nu) (t)))), .float (FP.i2f ((nI (chs (nu) (t + 1))) - (nI (chs (nu - lsN nf nu) (t + 1)))))]) rfl ?_
    refine S_fdiv g (n3_t (rvF_n nf (by omega) nu (by omega) t ht)) rfl ?_
    exact rtF rt rfl rfl eqP_rf

set_option maxRecDepth 100000 in
set_option maxHeartbeats 4000000 in
theorem sp_formula (ad : Nat → Nat) (I : FI) (J : FJ) (A : FI) (B : FJ) (x : Int32) (nf nu nc : Nat) (hm : Dm (B 501) nf nu nc) : Spec M_X9_formula [.ref (ad 500), .int x] (YR ad) I J A B (eqP (some (.int (o_formula nf nu x))) (YR ad) I J A B) := by
  have hm2 := hm
  obtain ⟨hF, hU, hC, h1, h2, h3, h4, h5⟩ := hm
  refine Spec_of (by decide) tk_X9_formula (Nat.le_of_ble_eq_true rfl) (fun X g rt => ?_)
  show Sim X (YR ad) 0 [(0, .ref (ad 500)), (1, .int x)] [] I J A B 0 0
  refine S_n g 4 (pc' := 4) (lv' := [(0, .ref (ad 500)), (1, .int x)]) (st' := [.ref (ad 500), .long (lN 0), .long x.toInt64]) rfl ?_
  refine S_cV g (i := 500) (As := []) (st := [.long (lN 0), .long x.toInt64]) (sp_users ad I J A B nu hU) mw_X9_users lk_X9_71 ⟨Nat.le_of_ble_eq_true rfl, Nat.le_of_ble_eq_true rfl⟩ (by decide) (by decide) rfl rfl (Nat.le_of_ble_eq_true rfl) ⟨Nat.le_of_ble_eq_true rfl, Nat.le_of_ble_eq_true rfl⟩ rfl ?_
  show Sim X (YR ad) 7 [(0, .ref (ad 500)), (1, .int x)] [.int (nI nu), .long (lN 0), .long x.toInt64] I J A B 0 0
  refine S_n g 1 (pc' := 8) (lv' := [(0, .ref (ad 500)), (1, .int x)]) (st' := [.long (nI nu).toInt64, .long (lN 0), .long x.toInt64]) rfl ?_
  rw [nI_l (n := nu) (by omega)]
  refine S_cS g (As := [.long x.toInt64, .long (lN 0), .long (lN nu)]) (st := []) (sp_in (YR ad) I J A B x.toInt64 (lN 0) (lN nu)) mw_X9_in lk_X9_63 ⟨Nat.le_of_ble_eq_true rfl, Nat.le_of_ble_eq_true rfl⟩ rfl (Nat.le_of_ble_eq_true rfl) ⟨Nat.le_of_ble_eq_true rfl, Nat.le_of_ble_eq_true rfl⟩ rfl ?_
  show Sim X (YR ad) 11 [(0, .ref (ad 500)), (1, .int x)] [.int (bI (inL x.toInt64 (lN 0) (lN nu)))] I J A B 0 0
  refine S_steq (st' := [.int (bI (isIx x (nu + 1)))]) (by rw [(show bI (inL x.toInt64 (lN 0) (lN nu)) = bI (isIx x (nu + 1)) from by rw [in_ix2 (by omega)]).symm]) ?_
  refine S_ifB_eq g (tgt := 25) rfl (by decide) (fun qz11 => ?_) (fun qz11 => ?_)
  · skip
    refine S_n g 1 (pc' := 27) (lv' := [(0, .ref (ad 500)), (1, .int x)]) (st' := [.int (-nI 101)]) rfl ?_
    exact rtI rt rfl rfl (by rw [o_formula, qz11, if_neg (by decide)]; exact eqP_rf)
  · skip
    obtain ⟨t, ht, hxt⟩ := isIx_t qz11
    subst hxt
    have hct : (nI t).toNatClampNeg = t := nI_clamp (by omega)
    refine S_n g 2 (pc' := 16) (lv' := [(0, .ref (ad 500)), (1, .int (nI t))]) (st' := [.int (nI t), .ref (ad 500)]) rfl ?_
    refine S_cV g (i := 500) (As := [.int (nI t)]) (st := []) (sp_rateOf ad I J A B t nf nu nc hm2 (by omega)) mw_X9_rateOf lk_X9_226 ⟨Nat.le_of_ble_eq_true rfl, Nat.le_of_ble_eq_true rfl⟩ (by decide) (by decide) rfl rfl (Nat.le_of_ble_eq_true rfl) ⟨Nat.le_of_ble_eq_true rfl, Nat.le_of_ble_eq_true rfl⟩ rfl ?_
    show Sim X (YR ad) 19 [(0, .ref (ad 500)), (1, .int (nI t))] [.float (rvF nf nu t)] I J A B 0 0
    refine S_cS g (As := [.float (rvF nf nu t)]) (st := []) (sp_bitsOf (YR ad) I J A B (rvF nf nu t) _ (isS (fml_s nf (by omega) nu (by omega) t (by omega) h1))) mw_X9_bitsOf lk_X9_219 ⟨Nat.le_of_ble_eq_true rfl, Nat.le_of_ble_eq_true rfl⟩ rfl (Nat.le_of_ble_eq_true rfl) ⟨Nat.le_of_ble_eq_true rfl, Nat.le_of_ble_eq_true rfl⟩ rfl ?_
    show Sim X (YR ad) 22 [(0, .ref (ad 500)), (1, .int (nI t))] [.int ((bts (rvF nf nu t)).getD 0)] I J A B 0 0
    refine S_n g 1 (pc' := 27) (lv' := [(0, .ref (ad 500)), (1, .int (nI t))]) (st' := [.int ((bts (rvF nf nu t)).getD 0)]) rfl ?_
    exact rtI rt rfl rfl (by rw [o_formula, if_pos qz11, show ix (nI t) = t from hct]; exact eqP_rf)

set_option maxRecDepth 100000 in
set_option maxHeartbeats 4000000 in
theorem sp_sharedRate (ad : Nat → Nat) (I : FI) (J : FJ) (A : FI) (B : FJ) (nf nu nc : Nat) (hm : Dm (B 501) nf nu nc) : Spec M_X9_sharedRate [.ref (ad 500)] (YR ad) I J A B (eqP (some (.int (o_shared nf nu nc))) (YR ad) I J A B) := by
  have hm2 := hm
  obtain ⟨hF, hU, hC, h1, h2, h3, h4, h5⟩ := hm
  have hsc := shC_t nf (by omega) h1 nu (by omega) h3 nc (by omega)
  unfold shC at hsc
  simp only [Bool.and_eq_true] at hsc
  obtain ⟨⟨⟨⟨⟨s1, s2⟩, s3⟩, s4⟩, s5⟩, s6⟩ := hsc
  have s2 := of_decide_eq_true s2
  have s3 := of_decide_eq_true s3
  refine Spec_of (by decide) tk_X9_sharedRate (Nat.le_of_ble_eq_true rfl) (fun X g rt => ?_)
  show Sim X (YR ad) 0 [(0, .ref (ad 500))] [] I J A B 0 0
  refine S_n g 1 (pc' := 1) (lv' := [(0, .ref (ad 500))]) (st' := [.ref (ad 500)]) rfl ?_
  refine S_cV g (i := 500) (As := []) (st := []) (sp_users ad I J A B nu hU) mw_X9_users lk_X9_71 ⟨Nat.le_of_ble_eq_true rfl, Nat.le_of_ble_eq_true rfl⟩ (by decide) (by decide) rfl rfl (Nat.le_of_ble_eq_true rfl) ⟨Nat.le_of_ble_eq_true rfl, Nat.le_of_ble_eq_true rfl⟩ rfl ?_
  show Sim X (YR ad) 4 [(0, .ref (ad 500))] [.int (nI nu)] I J A B 0 0
  refine S_n g 3 (pc' := 7) (lv' := [(0, .ref (ad 500)), (1, .int (nI nu))]) (st' := [.ref (ad 500), .int (nI nu)]) rfl ?_
  refine S_getR g (i := 500) (c := 9) (k := 0) (j := 501) (by decide) (by decide) rfl rfl rfl fl_X9_7 rfl ?_
  refine S_n g 1 (pc' := 11) (lv' := [(0, .ref (ad 500)), (1, .int (nI nu))]) (st' := [.int (nI 2), .ref (ad 501), .int (nI nu)]) rfl ?_
  refine S_laldN g (i := 501) (e := 2) (by decide) rfl (show 2 < 621 from by omega) (show (621 : Nat) < 2 ^ 31 from by decide) rfl ?_
  rw [hC]
  refine S_n g 1 (pc' := 13) (lv' := [(0, .ref (ad 500)), (1, .int (nI nu))]) (st' := [.int (lN nc).toInt32, .int (nI nu)]) rfl ?_
  rw [lN_i nc]
  refine S_n g 1 (pc' := 14) (lv' := [(0, .ref (ad 500)), (1, .int (nI nu))]) (st' := [.int ((nI nu) * (nI nc))]) rfl ?_
  rw [pk_mul nu nc]
  refine S_n g 3 (pc' := 18) (lv' := [(0, .ref (ad 500)), (1, .int (nI nu))]) (st' := [.ref (ad 500), .int (nI 12), .float (FP.i2f (nI (nu * nc)))]) rfl ?_
  refine S_getR g (i := 500) (c := 9) (k := 0) (j := 501) (by decide) (by decide) rfl rfl rfl fl_X9_7 rfl ?_
  refine S_n g 1 (pc' := 22) (lv' := [(0, .ref (ad 500)), (1, .int (nI nu))]) (st' := [.int (nI 0), .ref (ad 501), .int (nI 12), .float (FP.i2f (nI (nu * nc)))]) rfl ?_
  refine S_laldN g (i := 501) (e := 0) (by decide) rfl (show 0 < 621 from by omega) (show (621 : Nat) < 2 ^ 31 from by decide) rfl ?_
  rw [hF]
  refine S_n g 1 (pc' := 24) (lv' := [(0, .ref (ad 500)), (1, .int (nI nu))]) (st' := [.int (lN nf).toInt32, .int (nI 12), .float (FP.i2f (nI (nu * nc)))]) rfl ?_
  rw [lN_i nf]
  refine S_n g 1 (pc' := 25) (lv' := [(0, .ref (ad 500)), (1, .int (nI nu))]) (st' := [.int ((nI 12) * (nI nf)), .float (FP.i2f (nI (nu * nc)))]) rfl ?_
  rw [pk_mul 12 nf]
  refine S_n g 1 (pc' := 26) (lv' := [(0, .ref (ad 500)), (1, .int (nI nu))]) (st' := [.float (FP.i2f (nI (12 * nf))), .float (FP.i2f (nI (nu * nc)))]) rfl ?_
  refine S_fdiv g (n3_t s1) rfl ?_
  refine S_n g 5 (pc' := 32) (lv' := [(0, .ref (ad 500)), (1, .int (nI nu)), (2, .float (FP.fdiv (FP.i2f (nI (nu * nc))) (FP.i2f (nI (12 * nf)))))]) (st' := [.int (Op.cmpValue (FP.fcmp (FP.fdiv (FP.i2f (nI (nu * nc))) (FP.i2f (nI (12 * nf)))) (FP.i2f (nI nu))) .l)]) rfl ?_
  refine S_if_le g (tgt := 40) rfl (by decide) (fun qz32 => ?_) (fun qz32 => ?_)
  · skip
    refine S_n g 2 (pc' := 42) (lv' := [(0, .ref (ad 500)), (1, .int (nI nu)), (2, .float (FP.fdiv (FP.i2f (nI (nu * nc))) (FP.i2f (nI (12 * nf)))))]) (st' := []) rfl ?_
    refine S_lveq (lv' := [(0, .ref (ad 500)), (1, .int (nI nu)), (2, .float (shX nf nu nc))]) (by rw [shX, if_pos qz32]) ?_
    refine S_n g 2 (pc' := 44) (lv' := [(0, .ref (ad 500)), (1, .int (nI nu)), (2, .float (shX nf nu nc))]) (st' := [.int (FP.f2i (shX nf nu nc))]) rfl ?_
    rw [s2]
    show Sim X (YR ad) 44 [(0, .ref (ad 500)), (1, .int (nI nu)), (2, .float (shX nf nu nc))] [.int (nI (shT nf nu nc))] I J A B 0 0
    refine S_n g 4 (pc' := 48) (lv' := [(0, .ref (ad 500)), (1, .int (nI nu)), (2, .float (shX nf nu nc)), (3, .int (nI (shT nf nu nc)))]) (st' := [.float (FP.i2f (nI (shT nf nu nc))), .float (shX nf nu nc)]) rfl ?_
    refine S_fsub g (n3_t s4) rfl ?_
    show Sim X (YR ad) 49 [(0, .ref (ad 500)), (1, .int (nI nu)), (2, .float (shX nf nu nc)), (3, .int (nI (shT nf nu nc)))] [.float (shY nf nu nc)] I J A B 0 0
    refine S_n g 3 (pc' := 53) (lv' := [(0, .ref (ad 500)), (1, .int (nI nu)), (2, .float (shX nf nu nc)), (3, .int (nI (shT nf nu nc))), (4, .float (shY nf nu nc))]) (st' := [.int (nI (shT nf nu nc)), .ref (ad 500)]) rfl ?_
    refine S_cV g (i := 500) (As := [.int (nI (shT nf nu nc))]) (st := []) (sp_rateOf ad I J A B (shT nf nu nc) nf nu nc hm2 s3) mw_X9_rateOf lk_X9_226 ⟨Nat.le_of_ble_eq_true rfl, Nat.le_of_ble_eq_true rfl⟩ (by decide) (by decide) rfl rfl (Nat.le_of_ble_eq_true rfl) ⟨Nat.le_of_ble_eq_true rfl, Nat.le_of_ble_eq_true rfl⟩ rfl ?_
    show Sim X (YR ad) 56 [(0, .ref (ad 500)), (1, .int (nI nu)), (2, .float (shX nf nu nc)), (3, .int (nI (shT nf nu nc))), (4, .float (shY nf nu nc))] [.float (rvF nf nu (shT nf nu nc))] I J A B 0 0
    refine S_n g 4 (pc' := 62) (lv' := [(0, .ref (ad 500)), (1, .int (nI nu)), (2, .float (shX nf nu nc)), (3, .int (nI (shT nf nu nc))), (4, .float (shY nf nu nc)), (5, .float (rvF nf nu (shT nf nu nc)))]) (st' := [.int (Op.cmpValue (FP.fcmp (shY nf nu nc) FP.fconst0) .l)]) rfl ?_
    refine S_if_ne g (tgt := 70) rfl (by decide) (fun qz62 => ?_) (fun qz62 => ?_)
    · skip
      rcases (Bool.or_eq_true _ _).mp s5 with q | s7
      · exact absurd (of_decide_eq_true q) qz62
      simp only [Bool.and_eq_true] at s7
      obtain ⟨⟨⟨t1, t2⟩, t3⟩, t4⟩ := s7
      have t1 := of_decide_eq_true t1
      have hzz : shZ nf nu nc = FP.fadd (rvF nf nu (shT nf nu nc)) (FP.fmul (shY nf nu nc) (FP.fsub (rvF nf nu (shT nf nu nc + 1)) (rvF nf nu (shT nf nu nc)))) := by rw [shZ, if_neg qz62]
      refine S_n g 6 (pc' := 78) (lv' := [(0, .ref (ad 500)), (1, .int (nI nu)), (2, .float (shX nf nu nc)), (3, .int (nI (shT nf nu nc))), (4, .float (shY nf nu nc)), (5, .float (rvF nf nu (shT nf nu nc)))]) (st' := [.int ((nI (shT nf nu nc)) + (nI 1)), .ref (ad 500), .float (shY nf nu nc), .float (rvF nf nu (shT nf nu nc))]) rfl ?_
      rw [nI_add (shT nf nu nc) 1]
      refine S_cV g (i := 500) (As := [.int (nI ((shT nf nu nc) + 1))]) (st := [.float (shY nf nu nc), .float (rvF nf nu (shT nf nu nc))]) (sp_rateOf ad I J A B (shT nf nu nc + 1) nf nu nc hm2 t1) mw_X9_rateOf lk_X9_226 ⟨Nat.le_of_ble_eq_true rfl, Nat.le_of_ble_eq_true rfl⟩ (by decide) (by decide) rfl rfl (Nat.le_of_ble_eq_true rfl) ⟨Nat.le_of_ble_eq_true rfl, Nat.le_of_ble_eq_true rfl⟩ rfl ?_
      show Sim X (YR ad) 81 [(0, .ref (ad 500)), (1, .int (nI nu)), (2, .float (shX nf nu nc)), (3, .int (nI (shT nf nu nc))), (4, .float (shY nf nu nc)), (5, .float (rvF nf nu (shT nf nu nc)))] [.float (rvF nf nu (shT nf nu nc + 1)), .float (shY nf nu nc), .float (rvF nf nu (shT nf nu nc))] I J A B 0 0
      refine S_n g 1 (pc' := 83) (lv' := [(0, .ref (ad 500)), (1, .int (nI nu)), (2, .float (shX nf nu nc)), (3, .int (nI (shT nf nu nc))), (4, .float (shY nf nu nc)), (5, .float (rvF nf nu (shT nf nu nc)))]) (st' := [.float (rvF nf nu (shT nf nu nc)), .float (rvF nf nu (shT nf nu nc + 1)), .float (shY nf nu nc), .float (rvF nf nu (shT nf nu nc))]) rfl ?_
      refine S_fsub g (n3_t t2) rfl ?_
      refine S_fmul g (n3_t t3) rfl ?_
      refine S_fadd g (n3_t (by rw [hzz] at t4; exact t4)) rfl ?_
      refine S_steq (st' := [.float (shZ nf nu nc)]) (by rw [hzz]) ?_
      refine S_cS g (As := [.float (shZ nf nu nc)]) (st := []) (sp_bitsOf (YR ad) I J A B (shZ nf nu nc) (o_shared nf nu nc) (isS s6)) mw_X9_bitsOf lk_X9_219 ⟨Nat.le_of_ble_eq_true rfl, Nat.le_of_ble_eq_true rfl⟩ rfl (Nat.le_of_ble_eq_true rfl) ⟨Nat.le_of_ble_eq_true rfl, Nat.le_of_ble_eq_true rfl⟩ rfl ?_
      show Sim X (YR ad) 89 [(0, .ref (ad 500)), (1, .int (nI nu)), (2, .float (shX nf nu nc)), (3, .int (nI (shT nf nu nc))), (4, .float (shY nf nu nc)), (5, .float (rvF nf nu (shT nf nu nc)))] [.int (o_shared nf nu nc)] I J A B 0 0
      exact rtI rt rfl rfl eqP_rf
    · skip
      have hzz : shZ nf nu nc = rvF nf nu (shT nf nu nc) := by rw [shZ, if_pos qz62]
      refine S_n g 2 (pc' := 86) (lv' := [(0, .ref (ad 500)), (1, .int (nI nu)), (2, .float (shX nf nu nc)), (3, .int (nI (shT nf nu nc))), (4, .float (shY nf nu nc)), (5, .float (rvF nf nu (shT nf nu nc)))]) (st' := [.float (rvF nf nu (shT nf nu nc))]) rfl ?_
      refine S_steq (st' := [.float (shZ nf nu nc)]) (by rw [hzz]) ?_
      refine S_cS g (As := [.float (shZ nf nu nc)]) (st := []) (sp_bitsOf (YR ad) I J A B (shZ nf nu nc) (o_shared nf nu nc) (isS s6)) mw_X9_bitsOf lk_X9_219 ⟨Nat.le_of_ble_eq_true rfl, Nat.le_of_ble_eq_true rfl⟩ rfl (Nat.le_of_ble_eq_true rfl) ⟨Nat.le_of_ble_eq_true rfl, Nat.le_of_ble_eq_true rfl⟩ rfl ?_
      show Sim X (YR ad) 89 [(0, .ref (ad 500)), (1, .int (nI nu)), (2, .float (shX nf nu nc)), (3, .int (nI (shT nf nu nc))), (4, .float (shY nf nu nc)), (5, .float (rvF nf nu (shT nf nu nc)))] [.int (o_shared nf nu nc)] I J A B 0 0
      exact rtI rt rfl rfl eqP_rf
  · skip
    refine S_n g 4 (pc' := 42) (lv' := [(0, .ref (ad 500)), (1, .int (nI nu)), (2, .float (FP.i2f (nI nu)))]) (st' := []) rfl ?_
    refine S_lveq (lv' := [(0, .ref (ad 500)), (1, .int (nI nu)), (2, .float (shX nf nu nc))]) (by rw [shX, if_neg qz32]) ?_
    refine S_n g 2 (pc' := 44) (lv' := [(0, .ref (ad 500)), (1, .int (nI nu)), (2, .float (shX nf nu nc))]) (st' := [.int (FP.f2i (shX nf nu nc))]) rfl ?_
    rw [s2]
    show Sim X (YR ad) 44 [(0, .ref (ad 500)), (1, .int (nI nu)), (2, .float (shX nf nu nc))] [.int (nI (shT nf nu nc))] I J A B 0 0
    refine S_n g 4 (pc' := 48) (lv' := [(0, .ref (ad 500)), (1, .int (nI nu)), (2, .float (shX nf nu nc)), (3, .int (nI (shT nf nu nc)))]) (st' := [.float (FP.i2f (nI (shT nf nu nc))), .float (shX nf nu nc)]) rfl ?_
    refine S_fsub g (n3_t s4) rfl ?_
    show Sim X (YR ad) 49 [(0, .ref (ad 500)), (1, .int (nI nu)), (2, .float (shX nf nu nc)), (3, .int (nI (shT nf nu nc)))] [.float (shY nf nu nc)] I J A B 0 0
    refine S_n g 3 (pc' := 53) (lv' := [(0, .ref (ad 500)), (1, .int (nI nu)), (2, .float (shX nf nu nc)), (3, .int (nI (shT nf nu nc))), (4, .float (shY nf nu nc))]) (st' := [.int (nI (shT nf nu nc)), .ref (ad 500)]) rfl ?_
    refine S_cV g (i := 500) (As := [.int (nI (shT nf nu nc))]) (st := []) (sp_rateOf ad I J A B (shT nf nu nc) nf nu nc hm2 s3) mw_X9_rateOf lk_X9_226 ⟨Nat.le_of_ble_eq_true rfl, Nat.le_of_ble_eq_true rfl⟩ (by decide) (by decide) rfl rfl (Nat.le_of_ble_eq_true rfl) ⟨Nat.le_of_ble_eq_true rfl, Nat.le_of_ble_eq_true rfl⟩ rfl ?_
    show Sim X (YR ad) 56 [(0, .ref (ad 500)), (1, .int (nI nu)), (2, .float (shX nf nu nc)), (3, .int (nI (shT nf nu nc))), (4, .float (shY nf nu nc))] [.float (rvF nf nu (shT nf nu nc))] I J A B 0 0
    refine S_n g 4 (pc' := 62) (lv' := [(0, .ref (ad 500)), (1, .int (nI nu)), (2, .float (shX nf nu nc)), (3, .int (nI (shT nf nu nc))), (4, .float (shY nf nu nc)), (5, .float (rvF nf nu (shT nf nu nc)))]) (st' := [.int (Op.cmpValue (FP.fcmp (shY nf nu nc) FP.fconst0) .l)]) rfl ?_
    refine S_if_ne g (tgt := 70) rfl (by decide) (fun qz62 => ?_) (fun qz62 => ?_)
    · skip
      rcases (Bool.or_eq_true _ _).mp s5 with q | s7
      · exact absurd (of_decide_eq_true q) qz62
      simp only [Bool.and_eq_true] at s7
      obtain ⟨⟨⟨t1, t2⟩, t3⟩, t4⟩ := s7
      have t1 := of_decide_eq_true t1
      have hzz : shZ nf nu nc = FP.fadd (rvF nf nu (shT nf nu nc)) (FP.fmul (shY nf nu nc) (FP.fsub (rvF nf nu (shT nf nu nc + 1)) (rvF nf nu (shT nf nu nc)))) := by rw [shZ, if_neg qz62]
      refine S_n g 6 (pc' := 78) (lv' := [(0, .ref (ad 500)), (1, .int (nI nu)), (2, .float (shX nf nu nc)), (3, .int (nI (shT nf nu nc))), (4, .float (shY nf nu nc)), (5, .float (rvF nf nu (shT nf nu nc)))]) (st' := [.int ((nI (shT nf nu nc)) + (nI 1)), .ref (ad 500), .float (shY nf nu nc), .float (rvF nf nu (shT nf nu nc))]) rfl ?_
      rw [nI_add (shT nf nu nc) 1]
      refine S_cV g (i := 500) (As := [.int (nI ((shT nf nu nc) + 1))]) (st := [.float (shY nf nu nc), .float (rvF nf nu (shT nf nu nc))]) (sp_rateOf ad I J A B (shT nf nu nc + 1) nf nu nc hm2 t1) mw_X9_rateOf lk_X9_226 ⟨Nat.le_of_ble_eq_true rfl, Nat.le_of_ble_eq_true rfl⟩ (by decide) (by decide) rfl rfl (Nat.le_of_ble_eq_true rfl) ⟨Nat.le_of_ble_eq_true rfl, Nat.le_of_ble_eq_true rfl⟩ rfl ?_
      show Sim X (YR ad) 81 [(0, .ref (ad 500)), (1, .int (nI nu)), (2, .float (shX nf nu nc)), (3, .int (nI (shT nf nu nc))), (4, .float (shY nf nu nc)), (5, .float (rvF nf nu (shT nf nu nc)))] [.float (rvF nf nu (shT nf nu nc + 1)), .float (shY nf nu nc), .float (rvF nf nu (shT nf nu nc))] I J A B 0 0
      refine S_n g 1 (pc' := 83) (lv' := [(0, .ref (ad 500)), (1, .int (nI nu)), (2, .float (shX nf nu nc)), (3, .int (nI (shT nf nu nc))), (4, .float (shY nf nu nc)), (5, .float (rvF nf nu (shT nf nu nc)))]) (st' := [.float (rvF nf nu (shT nf nu nc)), .float (rvF nf nu (shT nf nu nc + 1)), .float (shY nf nu nc), .float (rvF nf nu (shT nf nu nc))]) rfl ?_
      refine S_fsub g (n3_t t2) rfl ?_
      refine S_fmul g (n3_t t3) rfl ?_
      refine S_fadd g (n3_t (by rw [hzz] at t4; exact t4)) rfl ?_
      refine S_steq (st' := [.float (shZ nf nu nc)]) (by rw [hzz]) ?_
      refine S_cS g (As := [.float (shZ nf nu nc)]) (st := []) (sp_bitsOf (YR ad) I J A B (shZ nf nu nc) (o_shared nf nu nc) (isS s6)) mw_X9_bitsOf lk_X9_219 ⟨Nat.le_of_ble_eq_true rfl, Nat.le_of_ble_eq_true rfl⟩ rfl (Nat.le_of_ble_eq_true rfl) ⟨Nat.le_of_ble_eq_true rfl, Nat.le_of_ble_eq_true rfl⟩ rfl ?_
      show Sim X (YR ad) 89 [(0, .ref (ad 500)), (1, .int (nI nu)), (2, .float (shX nf nu nc)), (3, .int (nI (shT nf nu nc))), (4, .float (shY nf nu nc)), (5, .float (rvF nf nu (shT nf nu nc)))] [.int (o_shared nf nu nc)] I J A B 0 0
      exact rtI rt rfl rfl eqP_rf
    · skip
      have hzz : shZ nf nu nc = rvF nf nu (shT nf nu nc) := by rw [shZ, if_pos qz62]
      refine S_n g 2 (pc' := 86) (lv' := [(0, .ref (ad 500)), (1, .int (nI nu)), (2, .float (shX nf nu nc)), (3, .int (nI (shT nf nu nc))), (4, .float (shY nf nu nc)), (5, .float (rvF nf nu (shT nf nu nc)))]) (st' := [.float (rvF nf nu (shT nf nu nc))]) rfl ?_
      refine S_steq (st' := [.float (shZ nf nu nc)]) (by rw [hzz]) ?_
      refine S_cS g (As := [.float (shZ nf nu nc)]) (st := []) (sp_bitsOf (YR ad) I J A B (shZ nf nu nc) (o_shared nf nu nc) (isS s6)) mw_X9_bitsOf lk_X9_219 ⟨Nat.le_of_ble_eq_true rfl, Nat.le_of_ble_eq_true rfl⟩ rfl (Nat.le_of_ble_eq_true rfl) ⟨Nat.le_of_ble_eq_true rfl, Nat.le_of_ble_eq_true rfl⟩ rfl ?_
      show Sim X (YR ad) 89 [(0, .ref (ad 500)), (1, .int (nI nu)), (2, .float (shX nf nu nc)), (3, .int (nI (shT nf nu nc))), (4, .float (shY nf nu nc)), (5, .float (rvF nf nu (shT nf nu nc)))] [.int (o_shared nf nu nc)] I J A B 0 0
      exact rtI rt rfl rfl eqP_rf
