/-! the reference, part 15: sets of users, storeSubsets, storeRandom -/
/-- how many sets below n have t members -/
def nst (t : Nat) : Nat → Nat
  | 0 => 0
  | s + 1 => nst t s + (decide (ctb (lN s) 60 = t)).toNat
/-- the i-th of them below n: one more than it, or 0 -/
def sfn (t i : Nat) : Nat → Nat
  | 0 => 0
  | s + 1 => if ctb (lN s) 60 = t ∧ nst t s = i then s + 1 else sfn t i s
theorem nst_le (t : Nat) : ∀ n, nst t n ≤ n
  | 0 => Nat.le_refl 0
  | n + 1 => by
    have := nst_le t n
    have := Bool.toNat_le (decide (ctb (lN n) 60 = t))
    unfold nst
    omega
theorem nst_mono (t : Nat) {p : Nat} : ∀ n, p ≤ n → nst t p ≤ nst t n
  | 0, h => by rw [Nat.le_zero.mp h]; exact Nat.le_refl _
  | n + 1, h => by
    by_cases e : p = n + 1
    · rw [e]; exact Nat.le_refl _
    · exact Nat.le_trans (nst_mono t n (by omega)) (Nat.le_add_right _ _)
theorem nst_t {t s : Nat} (h : ctb (lN s) 60 = t) : nst t (s + 1) = nst t s + 1 := by rw [nst, decide_eq_true h]; rfl
theorem nst_f {t s : Nat} (h : ¬ ctb (lN s) 60 = t) : nst t (s + 1) = nst t s := by rw [nst, decide_eq_false h]; rfl
theorem sfn_at {t i s : Nat} (h1 : ctb (lN s) 60 = t) (h2 : nst t s = i) : ∀ n, s < n → sfn t i n = s + 1
  | 0, h => absurd h (Nat.not_lt_zero s)
  | n + 1, h => by
    unfold sfn
    by_cases e : s = n
    · subst e; rw [if_pos ⟨h1, h2⟩]
    · have h3 : nst t (s + 1) ≤ nst t n := nst_mono t n (by omega)
      have h4 := nst_t h1
      rw [if_neg (fun q => by omega)]
      exact sfn_at h1 h2 n (by omega)
theorem sfn_le (t i : Nat) : ∀ n, sfn t i n ≤ n
  | 0 => Nat.le_refl 0
  | n + 1 => by
    have := sfn_le t i n
    unfold sfn
    split <;> omega
theorem sfn_pos {t i : Nat} : ∀ n, i < nst t n → 0 < sfn t i n
  | 0, h => absurd h (Nat.not_lt_zero i)
  | n + 1, h => by
    unfold sfn
    split
    · omega
    · next q =>
      apply sfn_pos n
      by_cases e : ctb (lN n) 60 = t
      · rw [nst_t e] at h
        have : ¬ nst t n = i := fun w => q ⟨e, w⟩
        omega
      · rw [nst_f e] at h; exact h
theorem ctb_low : ∀ t, t < 7 → ctb (lN (2 ^ t - 1)) 60 = t := by decide +kernel
theorem nst_pos {t nu : Nat} (h : t ≤ nu) (hn : nu ≤ 6) : 0 < nst t (2 ^ nu) := by
  have h1 := nst_t (ctb_low t (by omega))
  have h2 : 2 ^ t ≤ 2 ^ nu := Nat.pow_le_pow_right (by decide) h
  have h3 : 0 < 2 ^ t := Nat.two_pow_pos t
  have h4 := nst_mono t (p := 2 ^ t - 1 + 1) (2 ^ nu) (by omega)
  omega

set_option maxRecDepth 100000 in
set_option maxHeartbeats 4000000 in
theorem sp_sets (ad : Nat → Nat) (I : FI) (J : FJ) (A : FI) (B : FJ) (nu t : Nat) (hU : B 501 1 = lN nu) (h2 : nu ≤ 6) (ht : t < 100) : Spec M_X9_sets [.ref (ad 500), .int (nI t)] (YR ad) I J A B (eqP (some (.int (nI (nst t (2 ^ nu))))) (YR ad) I J A B) := by
  have hpw : 2 ^ nu ≤ 64 := Nat.pow_le_pow_right (by decide) h2
  refine Spec_of (by decide) tk_X9_sets (Nat.le_of_ble_eq_true rfl) (fun X g rt => ?_)
  show Sim X (YR ad) 0 [(0, .ref (ad 500)), (1, .int (nI t))] [] I J A B 0 0
  refine S_n g 4 (pc' := 4) (lv' := [(0, .ref (ad 500)), (1, .int (nI t)), (2, .int (nI 0)), (3, .int (nI 0))]) (st' := []) rfl ?_
  have lp : ∀ (nn : Nat) (s : Nat), 2 ^ nu - s = nn → (s ≤ 2 ^ nu) → Sim X (YR ad) 4 [(0, .ref (ad 500)), (1, .int (nI t)), (2, .int (nI (nst t s))), (3, .int (nI s))] [] I J A B 0 0 := by
    intro nn
    induction nn using Nat.strongRecOn with
    | ind nn ih =>
      intro s hmz hs
      have lp := ih
      have hnl := nst_le t s
      refine S_n g 3 (pc' := 7) (lv' := [(0, .ref (ad 500)), (1, .int (nI t)), (2, .int (nI (nst t s))), (3, .int (nI s))]) (st' := [.ref (ad 500), .int (nI 1), .int (nI s)]) rfl ?_
      refine S_cV g (i := 500) (As := []) (st := [.int (nI 1), .int (nI s)]) (sp_users ad I J A B nu hU) mw_X9_users lk_X9_71 ⟨Nat.le_of_ble_eq_true rfl, Nat.le_of_ble_eq_true rfl⟩ (by decide) (by decide) rfl rfl (Nat.le_of_ble_eq_true rfl) ⟨Nat.le_of_ble_eq_true rfl, Nat.le_of_ble_eq_true rfl⟩ rfl ?_
      show Sim X (YR ad) 10 [(0, .ref (ad 500)), (1, .int (nI t)), (2, .int (nI (nst t s))), (3, .int (nI s))] [.int (nI nu), .int (nI 1), .int (nI s)] I J A B 0 0
      refine S_n g 1 (pc' := 11) (lv' := [(0, .ref (ad 500)), (1, .int (nI t)), (2, .int (nI (nst t s))), (3, .int (nI s))]) (st' := [.int ((nI 1) <<< ((nI nu) &&& 31)), .int (nI s)]) rfl ?_
      refine S_steq (st' := [.int (nI (2 ^ nu)), .int (nI s)]) (by rw [(show (nI 1) <<< ((nI nu) &&& 31) = nI (2 ^ nu) from i1_nI (by omega)).symm]) ?_
      refine S_icN_ge g (tgt := 37) (by omega) (by omega) rfl (by decide) (fun qz11 => ?_) (fun qz11 => ?_)
      · skip
        have hs9 : s = 2 ^ nu := by omega
        refine S_n g 1 (pc' := 38) (lv' := [(0, .ref (ad 500)), (1, .int (nI t)), (2, .int (nI (nst t s))), (3, .int (nI s))]) (st' := [.int (nI (nst t s))]) rfl ?_
        exact rtI rt rfl rfl (by rw [hs9]; exact eqP_rf)
      · skip
        have hct := ctb_le (lN s) 60
        refine S_n g 3 (pc' := 17) (lv' := [(0, .ref (ad 500)), (1, .int (nI t)), (2, .int (nI (nst t s))), (3, .int (nI s))]) (st' := [.long (nI s).toInt64, .int (nI (nst t s))]) rfl ?_
        rw [nI_l (n := s) (by omega)]
        refine S_cS g (As := [.long (lN s)]) (st := [.int (nI (nst t s))]) (sp_many (YR ad) I J A B (lN s)) mw_X9_many lk_X9_91 ⟨Nat.le_of_ble_eq_true rfl, Nat.le_of_ble_eq_true rfl⟩ rfl (Nat.le_of_ble_eq_true rfl) ⟨Nat.le_of_ble_eq_true rfl, Nat.le_of_ble_eq_true rfl⟩ rfl ?_
        show Sim X (YR ad) 20 [(0, .ref (ad 500)), (1, .int (nI t)), (2, .int (nI (nst t s))), (3, .int (nI s))] [.int (nI (ctb (lN s) 60)), .int (nI (nst t s))] I J A B 0 0
        refine S_n g 1 (pc' := 21) (lv' := [(0, .ref (ad 500)), (1, .int (nI t)), (2, .int (nI (nst t s))), (3, .int (nI s))]) (st' := [.int (nI t), .int (nI (ctb (lN s) 60)), .int (nI (nst t s))]) rfl ?_
        refine S_icN_ne g (tgt := 28) (by omega) (by omega) rfl (by decide) (fun qz21 => ?_) (fun qz21 => ?_)
        · skip
          refine S_n g 2 (pc' := 30) (lv' := [(0, .ref (ad 500)), (1, .int (nI t)), (2, .int (nI (nst t s))), (3, .int (nI s))]) (st' := [.int ((nI (nst t s)) + (nI 0))]) rfl ?_
          rw [nI_add (nst t s) 0]
          refine S_steq (st' := [.int (nI (nst t (s + 1)))]) (by rw [(show nI ((nst t s) + 0) = nI (nst t (s + 1)) from congrArg nI (nst_f qz21).symm).symm]) ?_
          refine S_n g 2 (pc' := 34) (lv' := [(0, .ref (ad 500)), (1, .int (nI t)), (2, .int (nI (nst t (s + 1)))), (3, .int ((nI s) + nI 1))]) (st' := []) rfl ?_
          rw [nI_add s 1]
          refine S_n g 1 (pc' := 4) (lv' := [(0, .ref (ad 500)), (1, .int (nI t)), (2, .int (nI (nst t (s + 1)))), (3, .int (nI (s + 1)))]) (st' := []) rfl ?_
          exact lp (2 ^ nu - (s + 1)) (by omega) (s + 1) rfl (by omega)
        · skip
          refine S_n g 3 (pc' := 30) (lv' := [(0, .ref (ad 500)), (1, .int (nI t)), (2, .int (nI (nst t s))), (3, .int (nI s))]) (st' := [.int ((nI (nst t s)) + (nI 1))]) rfl ?_
          rw [nI_add (nst t s) 1]
          refine S_steq (st' := [.int (nI (nst t (s + 1)))]) (by rw [(show nI ((nst t s) + 1) = nI (nst t (s + 1)) from congrArg nI (nst_t qz21).symm).symm]) ?_
          refine S_n g 2 (pc' := 34) (lv' := [(0, .ref (ad 500)), (1, .int (nI t)), (2, .int (nI (nst t (s + 1)))), (3, .int ((nI s) + nI 1))]) (st' := []) rfl ?_
          rw [nI_add s 1]
          refine S_n g 1 (pc' := 4) (lv' := [(0, .ref (ad 500)), (1, .int (nI t)), (2, .int (nI (nst t (s + 1)))), (3, .int (nI (s + 1)))]) (st' := []) rfl ?_
          exact lp (2 ^ nu - (s + 1)) (by omega) (s + 1) rfl (by omega)
  exact lp _ 0 rfl (Nat.zero_le _)

set_option maxRecDepth 100000 in
set_option maxHeartbeats 4000000 in
theorem sp_choose (Y : PS) (I : FI) (J : FJ) (A : FI) (B : FJ) (nu t : Nat) (h2 : nu ≤ 6) (ht : t < 100) : Spec M_X9_choose [.int (nI nu), .int (nI t)] Y I J A B (eqP (some (.int (nI (nst t (2 ^ nu))))) Y I J A B) := by
  have hpw : 2 ^ nu ≤ 64 := Nat.pow_le_pow_right (by decide) h2
  refine Spec_of (by decide) tk_X9_choose (Nat.le_of_ble_eq_true rfl) (fun X g rt => ?_)
  show Sim X Y 0 [(0, .int (nI nu)), (1, .int (nI t))] [] I J A B 0 0
  refine S_n g 4 (pc' := 4) (lv' := [(0, .int (nI nu)), (1, .int (nI t)), (2, .int (nI 0)), (3, .int (nI 0))]) (st' := []) rfl ?_
  have lp : ∀ (nn : Nat) (s : Nat), 2 ^ nu - s = nn → (s ≤ 2 ^ nu) → Sim X Y 4 [(0, .int (nI nu)), (1, .int (nI t)), (2, .int (nI (nst t s))), (3, .int (nI s))] [] I J A B 0 0 := by
    intro nn
    induction nn using Nat.strongRecOn with
    | ind nn ih =>
      intro s hmz hs
      have lp := ih
      have hnl := nst_le t s
      refine S_n g 4 (pc' := 8) (lv' := [(0, .int (nI nu)), (1, .int (nI t)), (2, .int (nI (nst t s))), (3, .int (nI s))]) (st' := [.int ((nI 1) <<< ((nI nu) &&& 31)), .int (nI s)]) rfl ?_
      refine S_steq (st' := [.int (nI (2 ^ nu)), .int (nI s)]) (by rw [(show (nI 1) <<< ((nI nu) &&& 31) = nI (2 ^ nu) from i1_nI (by omega)).symm]) ?_
      refine S_icN_ge g (tgt := 34) (by omega) (by omega) rfl (by decide) (fun qz8 => ?_) (fun qz8 => ?_)
      · skip
        have hs9 : s = 2 ^ nu := by omega
        refine S_n g 1 (pc' := 35) (lv' := [(0, .int (nI nu)), (1, .int (nI t)), (2, .int (nI (nst t s))), (3, .int (nI s))]) (st' := [.int (nI (nst t s))]) rfl ?_
        exact rtI rt rfl rfl (by rw [hs9]; exact eqP_rf)
      · skip
        have hct := ctb_le (lN s) 60
        refine S_n g 3 (pc' := 14) (lv' := [(0, .int (nI nu)), (1, .int (nI t)), (2, .int (nI (nst t s))), (3, .int (nI s))]) (st' := [.long (nI s).toInt64, .int (nI (nst t s))]) rfl ?_
        rw [nI_l (n := s) (by omega)]
        refine S_cS g (As := [.long (lN s)]) (st := [.int (nI (nst t s))]) (sp_many Y I J A B (lN s)) mw_X9_many lk_X9_91 ⟨Nat.le_of_ble_eq_true rfl, Nat.le_of_ble_eq_true rfl⟩ rfl (Nat.le_of_ble_eq_true rfl) ⟨Nat.le_of_ble_eq_true rfl, Nat.le_of_ble_eq_true rfl⟩ rfl ?_
        show Sim X Y 17 [(0, .int (nI nu)), (1, .int (nI t)), (2, .int (nI (nst t s))), (3, .int (nI s))] [.int (nI (ctb (lN s) 60)), .int (nI (nst t s))] I J A B 0 0
        refine S_n g 1 (pc' := 18) (lv' := [(0, .int (nI nu)), (1, .int (nI t)), (2, .int (nI (nst t s))), (3, .int (nI s))]) (st' := [.int (nI t), .int (nI (ctb (lN s) 60)), .int (nI (nst t s))]) rfl ?_
        refine S_icN_ne g (tgt := 25) (by omega) (by omega) rfl (by decide) (fun qz18 => ?_) (fun qz18 => ?_)
        · skip
          refine S_n g 2 (pc' := 27) (lv' := [(0, .int (nI nu)), (1, .int (nI t)), (2, .int (nI (nst t s))), (3, .int (nI s))]) (st' := [.int ((nI (nst t s)) + (nI 0))]) rfl ?_
          rw [nI_add (nst t s) 0]
          refine S_steq (st' := [.int (nI (nst t (s + 1)))]) (by rw [(show nI ((nst t s) + 0) = nI (nst t (s + 1)) from congrArg nI (nst_f qz18).symm).symm]) ?_
          refine S_n g 2 (pc' := 31) (lv' := [(0, .int (nI nu)), (1, .int (nI t)), (2, .int (nI (nst t (s + 1)))), (3, .int ((nI s) + nI 1))]) (st' := []) rfl ?_
          rw [nI_add s 1]
          refine S_n g 1 (pc' := 4) (lv' := [(0, .int (nI nu)), (1, .int (nI t)), (2, .int (nI (nst t (s + 1)))), (3, .int (nI (s + 1)))]) (st' := []) rfl ?_
          exact lp (2 ^ nu - (s + 1)) (by omega) (s + 1) rfl (by omega)
        · skip
          refine S_n g 3 (pc' := 27) (lv' := [(0, .int (nI nu)), (1, .int (nI t)), (2, .int (nI (nst t s))), (3, .int (nI s))]) (st' := [.int ((nI (nst t s)) + (nI 1))]) rfl ?_
          rw [nI_add (nst t s) 1]
          refine S_steq (st' := [.int (nI (nst t (s + 1)))]) (by rw [(show nI ((nst t s) + 1) = nI (nst t (s + 1)) from congrArg nI (nst_t qz18).symm).symm]) ?_
          refine S_n g 2 (pc' := 31) (lv' := [(0, .int (nI nu)), (1, .int (nI t)), (2, .int (nI (nst t (s + 1)))), (3, .int ((nI s) + nI 1))]) (st' := []) rfl ?_
          rw [nI_add s 1]
          refine S_n g 1 (pc' := 4) (lv' := [(0, .int (nI nu)), (1, .int (nI t)), (2, .int (nI (nst t (s + 1)))), (3, .int (nI (s + 1)))]) (st' := []) rfl ?_
          exact lp (2 ^ nu - (s + 1)) (by omega) (s + 1) rfl (by omega)
  exact lp _ 0 rfl (Nat.zero_le _)

set_option maxRecDepth 100000 in
set_option maxHeartbeats 4000000 in
theorem sp_setOf (ad : Nat → Nat) (I : FI) (J : FJ) (A : FI) (B : FJ) (nu t i : Nat) (hU : B 501 1 = lN nu) (h2 : nu ≤ 6) (ht : t < 100) (hi : i < nst t (2 ^ nu)) : Spec M_X9_setOf [.ref (ad 500), .int (nI t), .int (nI i)] (YR ad) I J A B (eqP (some (.int (nI (sfn t i (2 ^ nu) - 1)))) (YR ad) I J A B) := by
  have hpw : 2 ^ nu ≤ 64 := Nat.pow_le_pow_right (by decide) h2
  have hi6 := nst_le t (2 ^ nu)
  have hsp := sfn_pos (2 ^ nu) hi
  refine Spec_of (by decide) tk_X9_setOf (Nat.le_of_ble_eq_true rfl) (fun X g rt => ?_)
  show Sim X (YR ad) 0 [(0, .ref (ad 500)), (1, .int (nI t)), (2, .int (nI i))] [] I J A B 0 0
  refine S_n g 4 (pc' := 5) (lv' := [(0, .ref (ad 500)), (1, .int (nI t)), (2, .int (nI i)), (3, .int (nI i)), (4, .int (nI 0))]) (st' := []) rfl ?_
  have lp : ∀ (nn : Nat) (s : Nat), 2 ^ nu - s = nn → (s ≤ 2 ^ nu) → (nst t s ≤ i) → (sfn t i s = 0) → Sim X (YR ad) 5 [(0, .ref (ad 500)), (1, .int (nI t)), (2, .int (nI i)), (3, .int (nI (i - nst t s))), (4, .int (nI s))] [] I J A B 0 0 := by
    intro nn
    induction nn using Nat.strongRecOn with
    | ind nn ih =>
      intro s hmz hs hlc hz
      have lp := ih
      refine S_n g 3 (pc' := 9) (lv' := [(0, .ref (ad 500)), (1, .int (nI t)), (2, .int (nI i)), (3, .int (nI (i - nst t s))), (4, .int (nI s))]) (st' := [.ref (ad 500), .int (nI 1), .int (nI s)]) rfl ?_
      refine S_cV g (i := 500) (As := []) (st := [.int (nI 1), .int (nI s)]) (sp_users ad I J A B nu hU) mw_X9_users lk_X9_71 ⟨Nat.le_of_ble_eq_true rfl, Nat.le_of_ble_eq_true rfl⟩ (by decide) (by decide) rfl rfl (Nat.le_of_ble_eq_true rfl) ⟨Nat.le_of_ble_eq_true rfl, Nat.le_of_ble_eq_true rfl⟩ rfl ?_
      show Sim X (YR ad) 12 [(0, .ref (ad 500)), (1, .int (nI t)), (2, .int (nI i)), (3, .int (nI (i - nst t s))), (4, .int (nI s))] [.int (nI nu), .int (nI 1), .int (nI s)] I J A B 0 0
      refine S_n g 1 (pc' := 13) (lv' := [(0, .ref (ad 500)), (1, .int (nI t)), (2, .int (nI i)), (3, .int (nI (i - nst t s))), (4, .int (nI s))]) (st' := [.int ((nI 1) <<< ((nI nu) &&& 31)), .int (nI s)]) rfl ?_
      refine S_steq (st' := [.int (nI (2 ^ nu)), .int (nI s)]) (by rw [(show (nI 1) <<< ((nI nu) &&& 31) = nI (2 ^ nu) from i1_nI (by omega)).symm]) ?_
      refine S_icN_ge g (tgt := 42) (by omega) (by omega) rfl (by decide) (fun qz13 => ?_) (fun qz13 => ?_)
      · skip
        have hs9 : s = 2 ^ nu := by omega
        rw [← hs9, hz] at hsp
        exact absurd hsp (Nat.lt_irrefl 0)
      · skip
        have hct := ctb_le (lN s) 60
        refine S_n g 2 (pc' := 19) (lv' := [(0, .ref (ad 500)), (1, .int (nI t)), (2, .int (nI i)), (3, .int (nI (i - nst t s))), (4, .int (nI s))]) (st' := [.long (nI s).toInt64]) rfl ?_
        rw [nI_l (n := s) (by omega)]
        refine S_cS g (As := [.long (lN s)]) (st := []) (sp_many (YR ad) I J A B (lN s)) mw_X9_many lk_X9_91 ⟨Nat.le_of_ble_eq_true rfl, Nat.le_of_ble_eq_true rfl⟩ rfl (Nat.le_of_ble_eq_true rfl) ⟨Nat.le_of_ble_eq_true rfl, Nat.le_of_ble_eq_true rfl⟩ rfl ?_
        show Sim X (YR ad) 22 [(0, .ref (ad 500)), (1, .int (nI t)), (2, .int (nI i)), (3, .int (nI (i - nst t s))), (4, .int (nI s))] [.int (nI (ctb (lN s) 60))] I J A B 0 0
        refine S_n g 1 (pc' := 23) (lv' := [(0, .ref (ad 500)), (1, .int (nI t)), (2, .int (nI i)), (3, .int (nI (i - nst t s))), (4, .int (nI s))]) (st' := [.int (nI t), .int (nI (ctb (lN s) 60))]) rfl ?_
        refine S_icN_ne g (tgt := 36) (by omega) (by omega) rfl (by decide) (fun qz23 => ?_) (fun qz23 => ?_)
        · skip
          refine S_lveq (lv' := [(0, .ref (ad 500)), (1, .int (nI t)), (2, .int (nI i)), (3, .int (nI (i - nst t (s + 1)))), (4, .int (nI s))]) (by rw [(show nI (i - nst t s) = nI (i - nst t (s + 1)) from by rw [nst_f qz23]).symm]) ?_
          refine S_n g 1 (pc' := 39) (lv' := [(0, .ref (ad 500)), (1, .int (nI t)), (2, .int (nI i)), (3, .int (nI (i - nst t (s + 1)))), (4, .int ((nI s) + nI 1))]) (st' := []) rfl ?_
          rw [nI_add s 1]
          refine S_n g 1 (pc' := 5) (lv' := [(0, .ref (ad 500)), (1, .int (nI t)), (2, .int (nI i)), (3, .int (nI (i - nst t (s + 1)))), (4, .int (nI (s + 1)))]) (st' := []) rfl ?_
          exact lp (2 ^ nu - (s + 1)) (by omega) (s + 1) rfl (by omega) (by rw [nst_f qz23]; exact hlc) (by rw [sfn, if_neg (fun q => qz23 q.1)]; exact hz)
        · skip
          refine S_n g 1 (pc' := 27) (lv' := [(0, .ref (ad 500)), (1, .int (nI t)), (2, .int (nI i)), (3, .int (nI (i - nst t s))), (4, .int (nI s))]) (st' := [.int (nI (i - nst t s))]) rfl ?_
          refine S_ifN_ne g (tgt := 33) (by omega) rfl (by decide) (fun qz27 => ?_) (fun qz27 => ?_)
          · skip
            refine S_n g 1 (pc' := 36) (lv' := [(0, .ref (ad 500)), (1, .int (nI t)), (2, .int (nI i)), (3, .int ((nI (i - nst t s)) + -nI 1)), (4, .int (nI s))]) (st' := []) rfl ?_
            rw [iinc_neg (a := i - nst t s) (b := 1) (by omega)]
            refine S_lveq (lv' := [(0, .ref (ad 500)), (1, .int (nI t)), (2, .int (nI i)), (3, .int (nI (i - nst t (s + 1)))), (4, .int (nI s))]) (by rw [(show nI (i - nst t s - 1) = nI (i - nst t (s + 1)) from by rw [nst_t qz23]; exact congrArg nI (show _ = _ by omega)).symm]) ?_
            refine S_n g 1 (pc' := 39) (lv' := [(0, .ref (ad 500)), (1, .int (nI t)), (2, .int (nI i)), (3, .int (nI (i - nst t (s + 1)))), (4, .int ((nI s) + nI 1))]) (st' := []) rfl ?_
            rw [nI_add s 1]
            refine S_n g 1 (pc' := 5) (lv' := [(0, .ref (ad 500)), (1, .int (nI t)), (2, .int (nI i)), (3, .int (nI (i - nst t (s + 1)))), (4, .int (nI (s + 1)))]) (st' := []) rfl ?_
            exact lp (2 ^ nu - (s + 1)) (by omega) (s + 1) rfl (by omega) (by rw [nst_t qz23]; omega) (by rw [sfn, if_neg (fun q => by omega)]; exact hz)
          · skip
            refine S_n g 1 (pc' := 32) (lv' := [(0, .ref (ad 500)), (1, .int (nI t)), (2, .int (nI i)), (3, .int (nI (i - nst t s))), (4, .int (nI s))]) (st' := [.int (nI s)]) rfl ?_
            exact rtI rt rfl rfl (by rw [sfn_at qz23 (by omega) (2 ^ nu) (by omega), Nat.add_sub_cancel]; exact eqP_rf)
  exact lp _ 0 rfl (by omega) (Nat.zero_le _) rfl

/-- the pieces below n that user u gets -/
def flS (t nu u : Nat) : Nat → Int64
  | 0 => lN 0
  | p + 1 => flS t nu u p ||| (if (sfn t (p % 12 % nst t (2 ^ nu)) (2 ^ nu) - 1).testBit u = true then b1 p else lN 0)
def ftS (t nu nf nc : Nat) : Nat → Bool
  | 0 => true
  | u + 1 => ftS t nu nf nc u && decide (ctb (flS t nu u (12 * nf)) 60 ≤ nc)
def cpS (t nu nf : Nat) (m : Nat → Int64) : Nat → Nat → Int64
  | 0 => m
  | u + 1 => va_up (cpS t nu nf m u) (63 + u) (flS t nu u (12 * nf))
def o_storeSubsets (nf nu nc : Nat) (m : Nat → Int64) (x : Int32) : Int32 × (Nat → Int64) :=
  if isIx x (nu + 1) = true then (if ftS (ix x) nu nf nc nu = true then (nI (nst (ix x) (2 ^ nu)), cpS (ix x) nu nf m nu) else (-nI 103, m)) else (-nI 101, m)
theorem cpS_lo (t nu nf : Nat) (m : Nat → Int64) {j : Nat} (hj : j < 63) : ∀ u, cpS t nu nf m u j = m j
  | 0 => rfl
  | u + 1 => by rw [cpS, va_up_ne _ _ (by omega)]; exact cpS_lo t nu nf m hj u
theorem fr_s {r f : Nat → Int64} {u : Nat} (h : ∀ v, v < u → r v = f v) {x : Int64} (hx : x = f u) : ∀ v, v < u + 1 → va_up r u x v = f v := by
  intro v hv
  by_cases e : v = u
  · subst e; rw [va_up_self]; exact hx
  · rw [va_up_ne _ _ e]; exact h v (by omega)
theorem fr_k {r f : Nat → Int64} {u : Nat} (h : ∀ v, v < u → r v = f v) {x : Int64} : ∀ v, v < u → va_up r u x v = f v := by
  intro v hv
  rw [va_up_ne _ _ (by omega)]; exact h v hv

set_option maxRecDepth 100000 in
set_option maxHeartbeats 4000000 in
theorem sp_storeSubsets (ad : Nat → Nat) (I : FI) (J : FJ) (A : FI) (B : FJ) (x : Int32) (nf nu nc : Nat) (hm : Dm (B 501) nf nu nc) : Spec M_X9_storeSubsets [.ref (ad 500), .int x] (YR ad) I J A B (fun v' Y' I' J' A' B' => v' = some (.int (o_storeSubsets nf nu nc (B 501) x).1) ∧ Y' = YR ad ∧ I' = I ∧ J' = J ∧ A' = A ∧ ∃ f, B' = va_up (va_up B 505 f) 501 (o_storeSubsets nf nu nc (B 501) x).2) := by
  obtain ⟨hF, hU, hC, h1, h2, h3, h4, h5⟩ := hm
  refine Spec_of (by decide) tk_X9_storeSubsets (Nat.le_of_ble_eq_true rfl) (fun X g rt => ?_)
  show Sim X (YR ad) 0 [(0, .ref (ad 500)), (1, .int x)] [] I J A B 0 0
  refine S_n g 4 (pc' := 4) (lv' := [(0, .ref (ad 500)), (1, .int x)]) (st' := [.ref (ad 500), .long (lN 0), .long x.toInt64]) rfl ?_
  refine S_cV g (i := 500) (As := []) (st := [.long (lN 0), .long x.toInt64]) (sp_users ad I J A B nu hU) mw_X9_users lk_X9_71 ⟨Nat.le_of_ble_eq_true rfl, Nat.le_of_ble_eq_true rfl⟩ (by decide) (by decide) rfl rfl (Nat.le_of_ble_eq_true rfl) ⟨Nat.le_of_ble_eq_true rfl, Nat.le_of_ble_eq_true rfl⟩ rfl ?_
  show Sim X (YR ad) 7 [(0, .ref (ad 500)), (1, .int x)] [.int (nI nu), .long (lN 0), .long x.toInt64] I J A B 0 0
  refine S_n g 1 (pc' := 8) (lv' := [(0, .ref (ad 500)), (1, .int x)]) (st' := [.long (nI nu).toInt64, .long (lN 0), .long x.toInt64]) rfl ?_
  rw [nI_l (n := nu) (by omega)]
  refine S_cS g (As := [.long x.toInt64, .long (lN 0), .long (lN nu)]) (st := []) (sp_in (YR ad) I J A B x.toInt64 (lN 0) (lN nu)) mw_X9_in lk_X9_63 ⟨Nat.le_of_ble_eq_true rfl, Nat.le_of_ble_eq_true rfl⟩ rfl (Nat.le_of_ble_eq_true rfl) ⟨Nat.le_of_ble_eq_true rfl, Nat.le_of_ble_eq_true rfl⟩ rfl ?_
  show Sim X (YR ad) 11 [(0, .ref (ad 500)), (1, .int x)] [.int (bI (inL x.toInt64 (lN 0) (lN nu)))] I J A B 0 0
  refine S_steq (st' := [.int (bI (isIx x (nu + 1)))]) (by rw [(show bI (inL x.toInt64 (lN 0) (lN nu)) = bI (isIx x (nu + 1)) from by rw [in_ix2 (by omega)]).symm]) ?_
  refine S_ifB_ne g (tgt := 17) rfl (by decide) (fun qz11 => ?_) (fun qz11 => ?_)
  · skip
    obtain ⟨t, ht, hxt⟩ := isIx_t qz11
    subst hxt
    have hct : (nI t).toNatClampNeg = t := nI_clamp (by omega)
    have ho : o_storeSubsets nf nu nc (B 501) (nI t) = if ftS t nu nf nc nu = true then (nI (nst t (2 ^ nu)), cpS t nu nf (B 501) nu) else (-nI 103, B 501) := by unfold o_storeSubsets; rw [if_pos qz11, show ix (nI t) = t from hct]
    have hpw : 2 ^ nu ≤ 64 := Nat.pow_le_pow_right (by decide) h4
    have hnp := nst_pos (show t ≤ nu by omega) h4
    have hnl := nst_le t (2 ^ nu)
    refine S_n g 2 (pc' := 19) (lv' := [(0, .ref (ad 500)), (1, .int (nI t))]) (st' := [.int (nI t), .ref (ad 500)]) rfl ?_
    refine S_cV g (i := 500) (As := [.int (nI t)]) (st := []) (sp_sets ad I J A B nu t hU h4 (by omega)) mw_X9_sets lk_X9_95 ⟨Nat.le_of_ble_eq_true rfl, Nat.le_of_ble_eq_true rfl⟩ (by decide) (by decide) rfl rfl (Nat.le_of_ble_eq_true rfl) ⟨Nat.le_of_ble_eq_true rfl, Nat.le_of_ble_eq_true rfl⟩ rfl ?_
    show Sim X (YR ad) 22 [(0, .ref (ad 500)), (1, .int (nI t))] [.int (nI (nst t (2 ^ nu)))] I J A B 0 0
    refine S_n g 5 (pc' := 28) (lv' := [(0, .ref (ad 500)), (1, .int (nI t)), (2, .int (nI (nst t (2 ^ nu)))), (3, .int (nI 1)), (4, .int (nI 0))]) (st' := []) rfl ?_
    show Sim X (YR ad) 28 [(0, .ref (ad 500)), (1, .int (nI t)), (2, .int (nI (nst t (2 ^ nu)))), (3, .int (bI (ftS t nu nf nc 0))), (4, .int (nI 0))] [] I J A B 0 0
    have lp : ∀ (nn : Nat) (u : Nat) (r : Nat → Int64), nu - u = nn → (u ≤ nu) → (∀ v, v < u → r v = flS t nu v (12 * nf)) → Sim X (YR ad) 28 [(0, .ref (ad 500)), (1, .int (nI t)), (2, .int (nI (nst t (2 ^ nu)))), (3, .int (bI (ftS t nu nf nc u))), (4, .int (nI u))] [] I J A (va_up B 505 r) 0 0 := by
      intro nn
      induction nn using Nat.strongRecOn with
      | ind nn ih =>
        intro u r hmz hu hr
        have lp := ih
        refine S_n g 2 (pc' := 31) (lv' := [(0, .ref (ad 500)), (1, .int (nI t)), (2, .int (nI (nst t (2 ^ nu)))), (3, .int (bI (ftS t nu nf nc u))), (4, .int (nI u))]) (st' := [.ref (ad 500), .int (nI u)]) rfl ?_
        refine S_cV g (i := 500) (As := []) (st := [.int (nI u)]) (sp_users ad I J A (va_up B 505 r) nu hU) mw_X9_users lk_X9_71 ⟨Nat.le_of_ble_eq_true rfl, Nat.le_of_ble_eq_true rfl⟩ (by decide) (by decide) rfl rfl (Nat.le_of_ble_eq_true rfl) ⟨Nat.le_of_ble_eq_true rfl, Nat.le_of_ble_eq_true rfl⟩ rfl ?_
        show Sim X (YR ad) 34 [(0, .ref (ad 500)), (1, .int (nI t)), (2, .int (nI (nst t (2 ^ nu)))), (3, .int (bI (ftS t nu nf nc u))), (4, .int (nI u))] [.int (nI nu), .int (nI u)] I J A (va_up B 505 r) 0 0
        refine S_icN_ge g (tgt := 143) (by omega) (by omega) rfl (by decide) (fun qz34 => ?_) (fun qz34 => ?_)
        · skip
          have hu9 : u = nu := by omega
          refine S_lveq (lv' := [(0, .ref (ad 500)), (1, .int (nI t)), (2, .int (nI (nst t (2 ^ nu)))), (3, .int (bI (ftS t nu nf nc nu))), (4, .int (nI u))]) (by rw [(show bI (ftS t nu nf nc u) = bI (ftS t nu nf nc nu) from by rw [hu9]).symm]) ?_
          refine S_n g 2 (pc' := 146) (lv' := [(0, .ref (ad 500)), (1, .int (nI t)), (2, .int (nI (nst t (2 ^ nu)))), (3, .int (bI (ftS t nu nf nc nu))), (4, .int (nI 0))]) (st' := []) rfl ?_
          have lp2 : ∀ (nn : Nat) (v : Nat), nu - v = nn → (v ≤ nu) → (ftS t nu nf nc nu = false → v = 0) → Sim X (YR ad) 146 [(0, .ref (ad 500)), (1, .int (nI t)), (2, .int (nI (nst t (2 ^ nu)))), (3, .int (bI (ftS t nu nf nc nu))), (4, .int (nI v))] [] I J A (va_up (va_up B 505 r) 501 (cpS t nu nf (B 501) v)) 0 0 := by
            intro nn
            induction nn using Nat.strongRecOn with
            | ind nn ih =>
              intro v hmz hv hvf
              have lp2 := ih
              refine S_n g 2 (pc' := 149) (lv' := [(0, .ref (ad 500)), (1, .int (nI t)), (2, .int (nI (nst t (2 ^ nu)))), (3, .int (bI (ftS t nu nf nc nu))), (4, .int (nI v))]) (st' := [.ref (ad 500), .int (nI v)]) rfl ?_
              refine S_cV g (i := 500) (As := []) (st := [.int (nI v)]) (sp_users ad I J A (va_up (va_up B 505 r) 501 (cpS t nu nf (B 501) v)) nu ((cpS_lo t nu nf (B 501) (by decide) v).trans hU)) mw_X9_users lk_X9_71 ⟨Nat.le_of_ble_eq_true rfl, Nat.le_of_ble_eq_true rfl⟩ (by decide) (by decide) rfl rfl (Nat.le_of_ble_eq_true rfl) ⟨Nat.le_of_ble_eq_true rfl, Nat.le_of_ble_eq_true rfl⟩ rfl ?_
              show Sim X (YR ad) 152 [(0, .ref (ad 500)), (1, .int (nI t)), (2, .int (nI (nst t (2 ^ nu)))), (3, .int (bI (ftS t nu nf nc nu))), (4, .int (nI v))] [.int (nI nu), .int (nI v)] I J A (va_up (va_up B 505 r) 501 (cpS t nu nf (B 501) v)) 0 0
              refine S_icN_ge g (tgt := 182) (by omega) (by omega) rfl (by decide) (fun qz152 => ?_) (fun qz152 => ?_)
              · skip
                have hv9 : ftS t nu nf nc nu = true → v = nu := fun _ => by omega
                have hv0 : ftS t nu nf nc nu = false → v = 0 := hvf
                refine S_n g 1 (pc' := 183) (lv' := [(0, .ref (ad 500)), (1, .int (nI t)), (2, .int (nI (nst t (2 ^ nu)))), (3, .int (bI (ftS t nu nf nc nu))), (4, .int (nI v))]) (st' := [.int (bI (ftS t nu nf nc nu))]) rfl ?_
                refine S_ifB_eq g (tgt := 190) rfl (by decide) (fun qz183 => ?_) (fun qz183 => ?_)
                · skip
                  refine S_n g 1 (pc' := 192) (lv' := [(0, .ref (ad 500)), (1, .int (nI t)), (2, .int (nI (nst t (2 ^ nu)))), (3, .int (bI (ftS t nu nf nc nu))), (4, .int (nI v))]) (st' := [.int (-nI 103)]) rfl ?_
                  exact rtI rt rfl rfl (⟨by rw [ho, if_neg (by rw [qz183]; decide)], rfl, rfl, rfl, rfl, r, by rw [ho, if_neg (by rw [qz183]; decide), hv0 qz183]; rfl⟩)
                · skip
                  refine S_n g 2 (pc' := 192) (lv' := [(0, .ref (ad 500)), (1, .int (nI t)), (2, .int (nI (nst t (2 ^ nu)))), (3, .int (bI (ftS t nu nf nc nu))), (4, .int (nI v))]) (st' := [.int (nI (nst t (2 ^ nu)))]) rfl ?_
                  exact rtI rt rfl rfl (⟨by rw [ho, if_pos qz183], rfl, rfl, rfl, rfl, r, by rw [ho, if_pos qz183, hv9 qz183]⟩)
              · skip
                refine S_n g 1 (pc' := 156) (lv' := [(0, .ref (ad 500)), (1, .int (nI t)), (2, .int (nI (nst t (2 ^ nu)))), (3, .int (bI (ftS t nu nf nc nu))), (4, .int (nI v))]) (st' := [.int (bI (ftS t nu nf nc nu))]) rfl ?_
                refine S_ifB_eq g (tgt := 182) rfl (by decide) (fun qz156 => ?_) (fun qz156 => ?_)
                · skip
                  have hv9 : ftS t nu nf nc nu = true → v = nu := fun q => absurd (q.symm.trans qz156) (by decide)
                  have hv0 : ftS t nu nf nc nu = false → v = 0 := hvf
                  refine S_n g 1 (pc' := 183) (lv' := [(0, .ref (ad 500)), (1, .int (nI t)), (2, .int (nI (nst t (2 ^ nu)))), (3, .int (bI (ftS t nu nf nc nu))), (4, .int (nI v))]) (st' := [.int (bI (ftS t nu nf nc nu))]) rfl ?_
                  refine S_ifB_eq g (tgt := 190) rfl (by decide) (fun qz183 => ?_) (fun qz183 => ?_)
                  · skip
                    refine S_n g 1 (pc' := 192) (lv' := [(0, .ref (ad 500)), (1, .int (nI t)), (2, .int (nI (nst t (2 ^ nu)))), (3, .int (bI (ftS t nu nf nc nu))), (4, .int (nI v))]) (st' := [.int (-nI 103)]) rfl ?_
                    exact rtI rt rfl rfl (⟨by rw [ho, if_neg (by rw [qz183]; decide)], rfl, rfl, rfl, rfl, r, by rw [ho, if_neg (by rw [qz183]; decide), hv0 qz183]; rfl⟩)
                  · skip
                    refine S_n g 2 (pc' := 192) (lv' := [(0, .ref (ad 500)), (1, .int (nI t)), (2, .int (nI (nst t (2 ^ nu)))), (3, .int (bI (ftS t nu nf nc nu))), (4, .int (nI v))]) (st' := [.int (nI (nst t (2 ^ nu)))]) rfl ?_
                    exact rtI rt rfl rfl (⟨by rw [ho, if_pos qz183], rfl, rfl, rfl, rfl, r, by rw [ho, if_pos qz183, hv9 qz183]⟩)
                · skip
                  refine S_n g 1 (pc' := 160) (lv' := [(0, .ref (ad 500)), (1, .int (nI t)), (2, .int (nI (nst t (2 ^ nu)))), (3, .int (bI (ftS t nu nf nc nu))), (4, .int (nI v))]) (st' := [.ref (ad 500)]) rfl ?_
                  refine S_getR g (i := 500) (c := 9) (k := 0) (j := 501) (by decide) (by decide) rfl rfl rfl fl_X9_7 rfl ?_
                  refine S_n g 3 (pc' := 168) (lv' := [(0, .ref (ad 500)), (1, .int (nI t)), (2, .int (nI (nst t (2 ^ nu)))), (3, .int (bI (ftS t nu nf nc nu))), (4, .int (nI v))]) (st' := [.int ((nI 63) + (nI v)), .ref (ad 501)]) rfl ?_
                  rw [nI_add 63 v]
                  refine S_n g 1 (pc' := 169) (lv' := [(0, .ref (ad 500)), (1, .int (nI t)), (2, .int (nI (nst t (2 ^ nu)))), (3, .int (bI (ftS t nu nf nc nu))), (4, .int (nI v))]) (st' := [.ref (ad 500), .int (nI (63 + v)), .ref (ad 501)]) rfl ?_
                  refine S_getR g (i := 500) (c := 9) (k := 6) (j := 505) (by decide) (by decide) rfl rfl rfl fl_X9_28 rfl ?_
                  refine S_n g 1 (pc' := 174) (lv' := [(0, .ref (ad 500)), (1, .int (nI t)), (2, .int (nI (nst t (2 ^ nu)))), (3, .int (bI (ftS t nu nf nc nu))), (4, .int (nI v))]) (st' := [.int (nI v), .ref (ad 505), .int (nI (63 + v)), .ref (ad 501)]) rfl ?_
                  refine S_laldN g (i := 505) (e := v) (by decide) rfl (show v < 6 from by omega) (show (6 : Nat) < 2 ^ 31 from by decide) rfl ?_
                  show Sim X (YR ad) 175 [(0, .ref (ad 500)), (1, .int (nI t)), (2, .int (nI (nst t (2 ^ nu)))), (3, .int (bI (ftS t nu nf nc nu))), (4, .int (nI v))] [.long (r v), .int (nI (63 + v)), .ref (ad 501)] I J A (va_up (va_up B 505 r) 501 (cpS t nu nf (B 501) v)) 0 0
                  rw [hr v (by omega)]
                  refine S_lastN g (i := 501) (e := 63 + v) (by decide) rfl (show 63 + v < 621 from by omega) (show (621 : Nat) < 2 ^ 31 from by decide) rfl ?_
                  rw [up2_r1 (i := 501)]
                  refine S_n g 1 (pc' := 179) (lv' := [(0, .ref (ad 500)), (1, .int (nI t)), (2, .int (nI (nst t (2 ^ nu)))), (3, .int (bI (ftS t nu nf nc nu))), (4, .int ((nI v) + nI 1))]) (st' := []) rfl ?_
                  rw [nI_add v 1]
                  refine S_n g 1 (pc' := 146) (lv' := [(0, .ref (ad 500)), (1, .int (nI t)), (2, .int (nI (nst t (2 ^ nu)))), (3, .int (bI (ftS t nu nf nc nu))), (4, .int (nI (v + 1)))]) (st' := []) rfl ?_
                  exact lp2 (nu - (v + 1)) (by omega) (v + 1) rfl (by omega) (fun q => absurd (q.symm.trans qz156) (by decide))
          have h0 := lp2 _ 0 rfl (by omega) (fun _ => rfl)
          rw [show va_up (va_up B 505 r) 501 (cpS t nu nf (B 501) 0) = va_up B 505 r from va_id (va_up B 505 r) 501] at h0
          exact h0
        · skip
          refine S_n g 1 (pc' := 38) (lv' := [(0, .ref (ad 500)), (1, .int (nI t)), (2, .int (nI (nst t (2 ^ nu)))), (3, .int (bI (ftS t nu nf nc u))), (4, .int (nI u))]) (st' := [.ref (ad 500)]) rfl ?_
          refine S_getR g (i := 500) (c := 9) (k := 6) (j := 505) (by decide) (by decide) rfl rfl rfl fl_X9_28 rfl ?_
          refine S_n g 2 (pc' := 44) (lv' := [(0, .ref (ad 500)), (1, .int (nI t)), (2, .int (nI (nst t (2 ^ nu)))), (3, .int (bI (ftS t nu nf nc u))), (4, .int (nI u))]) (st' := [.long (lN 0), .int (nI u), .ref (ad 505)]) rfl ?_
          refine S_lastN g (i := 505) (e := u) (by decide) rfl (show u < 6 from by omega) (show (6 : Nat) < 2 ^ 31 from by decide) rfl ?_
          rw [up2_r1 (i := 505)]
          refine S_n g 2 (pc' := 48) (lv' := [(0, .ref (ad 500)), (1, .int (nI t)), (2, .int (nI (nst t (2 ^ nu)))), (3, .int (bI (ftS t nu nf nc u))), (4, .int (nI u)), (5, .int (nI 0))]) (st' := []) rfl ?_
          rw [show lN 0 = flS t nu u 0 from rfl]
          have lp3 : ∀ (nn : Nat) (p : Nat) (r2 : Nat → Int64), 12 * nf - p = nn → (p ≤ 12 * nf) → (∀ v, v < u → r2 v = flS t nu v (12 * nf)) → Sim X (YR ad) 48 [(0, .ref (ad 500)), (1, .int (nI t)), (2, .int (nI (nst t (2 ^ nu)))), (3, .int (bI (ftS t nu nf nc u))), (4, .int (nI u)), (5, .int (nI p))] [] I J A (va_up B 505 (va_up r2 u (flS t nu u p))) 0 0 := by
            intro nn
            induction nn using Nat.strongRecOn with
            | ind nn ih =>
              intro p r2 hmz hp hr2
              have lp3 := ih
              refine S_n g 2 (pc' := 51) (lv' := [(0, .ref (ad 500)), (1, .int (nI t)), (2, .int (nI (nst t (2 ^ nu)))), (3, .int (bI (ftS t nu nf nc u))), (4, .int (nI u)), (5, .int (nI p))]) (st' := [.ref (ad 500), .int (nI p)]) rfl ?_
              refine S_cV g (i := 500) (As := []) (st := [.int (nI p)]) (sp_pieces ad I J A (va_up B 505 (va_up r2 u (flS t nu u p))) nf hF) mw_X9_pieces lk_X9_75 ⟨Nat.le_of_ble_eq_true rfl, Nat.le_of_ble_eq_true rfl⟩ (by decide) (by decide) rfl rfl (Nat.le_of_ble_eq_true rfl) ⟨Nat.le_of_ble_eq_true rfl, Nat.le_of_ble_eq_true rfl⟩ rfl ?_
              show Sim X (YR ad) 54 [(0, .ref (ad 500)), (1, .int (nI t)), (2, .int (nI (nst t (2 ^ nu)))), (3, .int (bI (ftS t nu nf nc u))), (4, .int (nI u)), (5, .int (nI p))] [.int (nI (12 * nf)), .int (nI p)] I J A (va_up B 505 (va_up r2 u (flS t nu u p))) 0 0
              refine S_icN_ge g (tgt := 106) (by omega) (by omega) rfl (by decide) (fun qz54 => ?_) (fun qz54 => ?_)
              · skip
                have hp9 : p = 12 * nf := by omega
                refine S_n g 1 (pc' := 107) (lv' := [(0, .ref (ad 500)), (1, .int (nI t)), (2, .int (nI (nst t (2 ^ nu)))), (3, .int (bI (ftS t nu nf nc u))), (4, .int (nI u)), (5, .int (nI p))]) (st' := [.int (bI (ftS t nu nf nc u))]) rfl ?_
                refine S_ifB_eq g (tgt := 135) rfl (by decide) (fun qz107 => ?_) (fun qz107 => ?_)
                · skip
                  refine S_n g 2 (pc' := 137) (lv' := [(0, .ref (ad 500)), (1, .int (nI t)), (2, .int (nI (nst t (2 ^ nu)))), (3, .int (nI 0)), (4, .int (nI u)), (5, .int (nI p))]) (st' := []) rfl ?_
                  refine S_lveq (lv' := [(0, .ref (ad 500)), (1, .int (nI t)), (2, .int (nI (nst t (2 ^ nu)))), (3, .int (bI (ftS t nu nf nc (u + 1)))), (4, .int (nI u)), (5, .int (nI p))]) (by rw [(show nI 0 = bI (ftS t nu nf nc (u + 1)) from by rw [ftS, qz107]; rfl).symm]) ?_
                  refine S_n g 1 (pc' := 140) (lv' := [(0, .ref (ad 500)), (1, .int (nI t)), (2, .int (nI (nst t (2 ^ nu)))), (3, .int (bI (ftS t nu nf nc (u + 1)))), (4, .int ((nI u) + nI 1)), (5, .int (nI p))]) (st' := []) rfl ?_
                  rw [nI_add u 1]
                  refine S_n g 1 (pc' := 28) (lv' := [(0, .ref (ad 500)), (1, .int (nI t)), (2, .int (nI (nst t (2 ^ nu)))), (3, .int (bI (ftS t nu nf nc (u + 1)))), (4, .int (nI (u + 1))), (5, .int (nI p))]) (st' := []) rfl ?_
                  refine S_keep (lv' := [(0, .ref (ad 500)), (1, .int (nI t)), (2, .int (nI (nst t (2 ^ nu)))), (3, .int (bI (ftS t nu nf nc (u + 1)))), (4, .int (nI (u + 1)))]) [0, 1, 2, 3, 4] rfl ?_
                  exact lp (nu - (u + 1)) (by omega) (u + 1) (va_up r2 u (flS t nu u p)) rfl (by omega) (fr_s hr2 (by rw [hp9]))
                · skip
                  refine S_n g 1 (pc' := 111) (lv' := [(0, .ref (ad 500)), (1, .int (nI t)), (2, .int (nI (nst t (2 ^ nu)))), (3, .int (bI (ftS t nu nf nc u))), (4, .int (nI u)), (5, .int (nI p))]) (st' := [.ref (ad 500)]) rfl ?_
                  refine S_getR g (i := 500) (c := 9) (k := 6) (j := 505) (by decide) (by decide) rfl rfl rfl fl_X9_28 rfl ?_
                  refine S_n g 1 (pc' := 116) (lv' := [(0, .ref (ad 500)), (1, .int (nI t)), (2, .int (nI (nst t (2 ^ nu)))), (3, .int (bI (ftS t nu nf nc u))), (4, .int (nI u)), (5, .int (nI p))]) (st' := [.int (nI u), .ref (ad 505)]) rfl ?_
                  refine S_laldN g (i := 505) (e := u) (by decide) rfl (show u < 6 from by omega) (show (6 : Nat) < 2 ^ 31 from by decide) rfl ?_
                  show Sim X (YR ad) 117 [(0, .ref (ad 500)), (1, .int (nI t)), (2, .int (nI (nst t (2 ^ nu)))), (3, .int (bI (ftS t nu nf nc u))), (4, .int (nI u)), (5, .int (nI p))] [.long (va_up r2 u (flS t nu u p) u)] I J A (va_up B 505 (va_up r2 u (flS t nu u p))) 0 0
                  rw [va_up_self]
                  have hcb := ctb_le (flS t nu u p) 60
                  refine S_cS g (As := [.long (flS t nu u p)]) (st := []) (sp_many (YR ad) I J A (va_up B 505 (va_up r2 u (flS t nu u p))) (flS t nu u p)) mw_X9_many lk_X9_91 ⟨Nat.le_of_ble_eq_true rfl, Nat.le_of_ble_eq_true rfl⟩ rfl (Nat.le_of_ble_eq_true rfl) ⟨Nat.le_of_ble_eq_true rfl, Nat.le_of_ble_eq_true rfl⟩ rfl ?_
                  show Sim X (YR ad) 120 [(0, .ref (ad 500)), (1, .int (nI t)), (2, .int (nI (nst t (2 ^ nu)))), (3, .int (bI (ftS t nu nf nc u))), (4, .int (nI u)), (5, .int (nI p))] [.int (nI (ctb (flS t nu u p) 60))] I J A (va_up B 505 (va_up r2 u (flS t nu u p))) 0 0
                  refine S_n g 1 (pc' := 121) (lv' := [(0, .ref (ad 500)), (1, .int (nI t)), (2, .int (nI (nst t (2 ^ nu)))), (3, .int (bI (ftS t nu nf nc u))), (4, .int (nI u)), (5, .int (nI p))]) (st' := [.long (nI (ctb (flS t nu u p) 60)).toInt64]) rfl ?_
                  rw [nI_l (n := ctb (flS t nu u p) 60) (by omega)]
                  refine S_n g 1 (pc' := 122) (lv' := [(0, .ref (ad 500)), (1, .int (nI t)), (2, .int (nI (nst t (2 ^ nu)))), (3, .int (bI (ftS t nu nf nc u))), (4, .int (nI u)), (5, .int (nI p))]) (st' := [.ref (ad 500), .long (lN (ctb (flS t nu u p) 60))]) rfl ?_
                  refine S_getR g (i := 500) (c := 9) (k := 0) (j := 501) (by decide) (by decide) rfl rfl rfl fl_X9_7 rfl ?_
                  refine S_n g 1 (pc' := 126) (lv' := [(0, .ref (ad 500)), (1, .int (nI t)), (2, .int (nI (nst t (2 ^ nu)))), (3, .int (bI (ftS t nu nf nc u))), (4, .int (nI u)), (5, .int (nI p))]) (st' := [.int (nI 2), .ref (ad 501), .long (lN (ctb (flS t nu u p) 60))]) rfl ?_
                  refine S_laldN g (i := 501) (e := 2) (by decide) rfl (show 2 < 621 from by omega) (show (621 : Nat) < 2 ^ 31 from by decide) rfl ?_
                  show Sim X (YR ad) 127 [(0, .ref (ad 500)), (1, .int (nI t)), (2, .int (nI (nst t (2 ^ nu)))), (3, .int (bI (ftS t nu nf nc u))), (4, .int (nI u)), (5, .int (nI p))] [.long (B 501 2), .long (lN (ctb (flS t nu u p) 60))] I J A (va_up B 505 (va_up r2 u (flS t nu u p))) 0 0
                  rw [hC]
                  refine S_lcN_gt g (tgt := 135) (by omega) (by omega) rfl rfl (by decide) (fun qz127 => ?_) (fun qz127 => ?_)
                  · skip
                    refine S_n g 2 (pc' := 137) (lv' := [(0, .ref (ad 500)), (1, .int (nI t)), (2, .int (nI (nst t (2 ^ nu)))), (3, .int (nI 0)), (4, .int (nI u)), (5, .int (nI p))]) (st' := []) rfl ?_
                    refine S_lveq (lv' := [(0, .ref (ad 500)), (1, .int (nI t)), (2, .int (nI (nst t (2 ^ nu)))), (3, .int (bI (ftS t nu nf nc (u + 1)))), (4, .int (nI u)), (5, .int (nI p))]) (by rw [(show nI 0 = bI (ftS t nu nf nc (u + 1)) from by rw [ftS, qz107, decide_eq_false (by rw [← hp9]; omega)]; rfl).symm]) ?_
                    refine S_n g 1 (pc' := 140) (lv' := [(0, .ref (ad 500)), (1, .int (nI t)), (2, .int (nI (nst t (2 ^ nu)))), (3, .int (bI (ftS t nu nf nc (u + 1)))), (4, .int ((nI u) + nI 1)), (5, .int (nI p))]) (st' := []) rfl ?_
                    rw [nI_add u 1]
                    refine S_n g 1 (pc' := 28) (lv' := [(0, .ref (ad 500)), (1, .int (nI t)), (2, .int (nI (nst t (2 ^ nu)))), (3, .int (bI (ftS t nu nf nc (u + 1)))), (4, .int (nI (u + 1))), (5, .int (nI p))]) (st' := []) rfl ?_
                    refine S_keep (lv' := [(0, .ref (ad 500)), (1, .int (nI t)), (2, .int (nI (nst t (2 ^ nu)))), (3, .int (bI (ftS t nu nf nc (u + 1)))), (4, .int (nI (u + 1)))]) [0, 1, 2, 3, 4] rfl ?_
                    exact lp (nu - (u + 1)) (by omega) (u + 1) (va_up r2 u (flS t nu u p)) rfl (by omega) (fr_s hr2 (by rw [hp9]))
                  · skip
                    refine S_n g 3 (pc' := 137) (lv' := [(0, .ref (ad 500)), (1, .int (nI t)), (2, .int (nI (nst t (2 ^ nu)))), (3, .int (nI 1)), (4, .int (nI u)), (5, .int (nI p))]) (st' := []) rfl ?_
                    refine S_lveq (lv' := [(0, .ref (ad 500)), (1, .int (nI t)), (2, .int (nI (nst t (2 ^ nu)))), (3, .int (bI (ftS t nu nf nc (u + 1)))), (4, .int (nI u)), (5, .int (nI p))]) (by rw [(show nI 1 = bI (ftS t nu nf nc (u + 1)) from by rw [ftS, qz107, decide_eq_true (by rw [← hp9]; omega)]; rfl).symm]) ?_
                    refine S_n g 1 (pc' := 140) (lv' := [(0, .ref (ad 500)), (1, .int (nI t)), (2, .int (nI (nst t (2 ^ nu)))), (3, .int (bI (ftS t nu nf nc (u + 1)))), (4, .int ((nI u) + nI 1)), (5, .int (nI p))]) (st' := []) rfl ?_
                    rw [nI_add u 1]
                    refine S_n g 1 (pc' := 28) (lv' := [(0, .ref (ad 500)), (1, .int (nI t)), (2, .int (nI (nst t (2 ^ nu)))), (3, .int (bI (ftS t nu nf nc (u + 1)))), (4, .int (nI (u + 1))), (5, .int (nI p))]) (st' := []) rfl ?_
                    refine S_keep (lv' := [(0, .ref (ad 500)), (1, .int (nI t)), (2, .int (nI (nst t (2 ^ nu)))), (3, .int (bI (ftS t nu nf nc (u + 1)))), (4, .int (nI (u + 1)))]) [0, 1, 2, 3, 4] rfl ?_
                    exact lp (nu - (u + 1)) (by omega) (u + 1) (va_up r2 u (flS t nu u p)) rfl (by omega) (fr_s hr2 (by rw [hp9]))
              · skip
                have hml : p % 12 % nst t (2 ^ nu) < nst t (2 ^ nu) := Nat.mod_lt _ hnp
                have hsl := sfn_le t (p % 12 % nst t (2 ^ nu)) (2 ^ nu)
                refine S_n g 4 (pc' := 63) (lv' := [(0, .ref (ad 500)), (1, .int (nI t)), (2, .int (nI (nst t (2 ^ nu)))), (3, .int (bI (ftS t nu nf nc u))), (4, .int (nI u)), (5, .int (nI p))]) (st' := [.int (nI 12), .int (nI p), .int (nI t), .ref (ad 500)]) rfl ?_
                refine S_irem g (nI_z1 (by omega) (by omega)) rfl ?_
                rw [pk_rem (a := p) (d := 12) (by omega) (by omega) (by omega)]
                refine S_n g 1 (pc' := 65) (lv' := [(0, .ref (ad 500)), (1, .int (nI t)), (2, .int (nI (nst t (2 ^ nu)))), (3, .int (bI (ftS t nu nf nc u))), (4, .int (nI u)), (5, .int (nI p))]) (st' := [.int (nI (nst t (2 ^ nu))), .int (nI (p % 12)), .int (nI t), .ref (ad 500)]) rfl ?_
                refine S_irem g (nI_z1 (by omega) (by omega)) rfl ?_
                rw [pk_rem (a := p % 12) (d := nst t (2 ^ nu)) (by omega) (by omega) (by omega)]
                refine S_cV g (i := 500) (As := [.int (nI t), .int (nI ((p % 12) % (nst t (2 ^ nu))))]) (st := []) (sp_setOf ad I J A (va_up B 505 (va_up r2 u (flS t nu u p))) nu t (p % 12 % nst t (2 ^ nu)) hU h4 (by omega) hml) mw_X9_setOf lk_X9_99 ⟨Nat.le_of_ble_eq_true rfl, Nat.le_of_ble_eq_true rfl⟩ (by decide) (by decide) rfl rfl (Nat.le_of_ble_eq_true rfl) ⟨Nat.le_of_ble_eq_true rfl, Nat.le_of_ble_eq_true rfl⟩ rfl ?_
                show Sim X (YR ad) 69 [(0, .ref (ad 500)), (1, .int (nI t)), (2, .int (nI (nst t (2 ^ nu)))), (3, .int (bI (ftS t nu nf nc u))), (4, .int (nI u)), (5, .int (nI p))] [.int (nI (sfn t (p % 12 % nst t (2 ^ nu)) (2 ^ nu) - 1))] I J A (va_up B 505 (va_up r2 u (flS t nu u p))) 0 0
                refine S_n g 2 (pc' := 72) (lv' := [(0, .ref (ad 500)), (1, .int (nI t)), (2, .int (nI (nst t (2 ^ nu)))), (3, .int (bI (ftS t nu nf nc u))), (4, .int (nI u)), (5, .int (nI p)), (6, .int (nI (sfn t (p % 12 % nst t (2 ^ nu)) (2 ^ nu) - 1)))]) (st' := [.ref (ad 500)]) rfl ?_
                refine S_getR g (i := 500) (c := 9) (k := 6) (j := 505) (by decide) (by decide) rfl rfl rfl fl_X9_28 rfl ?_
                refine S_n g 2 (pc' := 78) (lv' := [(0, .ref (ad 500)), (1, .int (nI t)), (2, .int (nI (nst t (2 ^ nu)))), (3, .int (bI (ftS t nu nf nc u))), (4, .int (nI u)), (5, .int (nI p)), (6, .int (nI (sfn t (p % 12 % nst t (2 ^ nu)) (2 ^ nu) - 1)))]) (st' := [.int (nI u), .ref (ad 505), .int (nI u), .ref (ad 505)]) rfl ?_
                refine S_laldN g (i := 505) (e := u) (by decide) rfl (show u < 6 from by omega) (show (6 : Nat) < 2 ^ 31 from by decide) rfl ?_
                show Sim X (YR ad) 79 [(0, .ref (ad 500)), (1, .int (nI t)), (2, .int (nI (nst t (2 ^ nu)))), (3, .int (bI (ftS t nu nf nc u))), (4, .int (nI u)), (5, .int (nI p)), (6, .int (nI (sfn t (p % 12 % nst t (2 ^ nu)) (2 ^ nu) - 1)))] [.long (va_up r2 u (flS t nu u p) u), .int (nI u), .ref (ad 505)] I J A (va_up B 505 (va_up r2 u (flS t nu u p))) 0 0
                rw [va_up_self]
                show Sim X (YR ad) 79 [(0, .ref (ad 500)), (1, .int (nI t)), (2, .int (nI (nst t (2 ^ nu)))), (3, .int (bI (ftS t nu nf nc u))), (4, .int (nI u)), (5, .int (nI p)), (6, .int (nI (sfn t (p % 12 % nst t (2 ^ nu)) (2 ^ nu) - 1)))] [.long (flS t nu u p), .int (nI u), .ref (ad 505)] I J A (va_up B 505 (va_up r2 u (flS t nu u p))) 0 0
                refine S_n g 5 (pc' := 86) (lv' := [(0, .ref (ad 500)), (1, .int (nI t)), (2, .int (nI (nst t (2 ^ nu)))), (3, .int (bI (ftS t nu nf nc u))), (4, .int (nI u)), (5, .int (nI p)), (6, .int (nI (sfn t (p % 12 % nst t (2 ^ nu)) (2 ^ nu) - 1)))]) (st' := [.int (((nI (sfn t (p % 12 % nst t (2 ^ nu)) (2 ^ nu) - 1)) >>> ((nI u) &&& 31)) &&& (nI 1)), .long (flS t nu u p), .int (nI u), .ref (ad 505)]) rfl ?_
                refine S_steq (st' := [.int (nI ((sfn t (p % 12 % nst t (2 ^ nu)) (2 ^ nu) - 1).testBit u).toNat), .long (flS t nu u p), .int (nI u), .ref (ad 505)]) (by rw [(show ((nI (sfn t (p % 12 % nst t (2 ^ nu)) (2 ^ nu) - 1)) >>> ((nI u) &&& 31)) &&& (nI 1) = nI ((sfn t (p % 12 % nst t (2 ^ nu)) (2 ^ nu) - 1).testBit u).toNat from bit_nat (by omega)).symm]) ?_
                have hb1 : ((sfn t (p % 12 % nst t (2 ^ nu)) (2 ^ nu) - 1).testBit u).toNat ≤ 1 := Bool.toNat_le _
                refine S_n g 1 (pc' := 87) (lv' := [(0, .ref (ad 500)), (1, .int (nI t)), (2, .int (nI (nst t (2 ^ nu)))), (3, .int (bI (ftS t nu nf nc u))), (4, .int (nI u)), (5, .int (nI p)), (6, .int (nI (sfn t (p % 12 % nst t (2 ^ nu)) (2 ^ nu) - 1)))]) (st' := [.int (nI 1), .int (nI ((sfn t (p % 12 % nst t (2 ^ nu)) (2 ^ nu) - 1).testBit u).toNat), .long (flS t nu u p), .int (nI u), .ref (ad 505)]) rfl ?_
                refine S_icN_ne g (tgt := 97) (by omega) (by omega) rfl (by decide) (fun qz87 => ?_) (fun qz87 => ?_)
                · skip
                  refine S_n g 2 (pc' := 99) (lv' := [(0, .ref (ad 500)), (1, .int (nI t)), (2, .int (nI (nst t (2 ^ nu)))), (3, .int (bI (ftS t nu nf nc u))), (4, .int (nI u)), (5, .int (nI p)), (6, .int (nI (sfn t (p % 12 % nst t (2 ^ nu)) (2 ^ nu) - 1)))]) (st' := [.long ((flS t nu u p) ||| (lN 0)), .int (nI u), .ref (ad 505)]) rfl ?_
                  refine S_steq (st' := [.long (flS t nu u (p + 1)), .int (nI u), .ref (ad 505)]) (by rw [(show (flS t nu u p) ||| (lN 0) = flS t nu u (p + 1) from by rw [flS, if_neg (by cases hbv : (sfn t (p % 12 % nst t (2 ^ nu)) (2 ^ nu) - 1).testBit u <;> simp_all)]).symm]) ?_
                  refine S_lastN g (i := 505) (e := u) (by decide) rfl (show u < 6 from by omega) (show (6 : Nat) < 2 ^ 31 from by decide) rfl ?_
                  rw [up2_r1 (i := 505)]
                  refine S_n g 1 (pc' := 103) (lv' := [(0, .ref (ad 500)), (1, .int (nI t)), (2, .int (nI (nst t (2 ^ nu)))), (3, .int (bI (ftS t nu nf nc u))), (4, .int (nI u)), (5, .int ((nI p) + nI 1)), (6, .int (nI (sfn t (p % 12 % nst t (2 ^ nu)) (2 ^ nu) - 1)))]) (st' := []) rfl ?_
                  rw [nI_add p 1]
                  refine S_n g 1 (pc' := 48) (lv' := [(0, .ref (ad 500)), (1, .int (nI t)), (2, .int (nI (nst t (2 ^ nu)))), (3, .int (bI (ftS t nu nf nc u))), (4, .int (nI u)), (5, .int (nI (p + 1))), (6, .int (nI (sfn t (p % 12 % nst t (2 ^ nu)) (2 ^ nu) - 1)))]) (st' := []) rfl ?_
                  rw [va_up1]
                  refine S_keep (lv' := [(0, .ref (ad 500)), (1, .int (nI t)), (2, .int (nI (nst t (2 ^ nu)))), (3, .int (bI (ftS t nu nf nc u))), (4, .int (nI u)), (5, .int (nI (p + 1)))]) [0, 1, 2, 3, 4, 5] rfl ?_
                  exact lp3 (12 * nf - (p + 1)) (by omega) (p + 1) r2 rfl (by omega) hr2
                · skip
                  refine S_n g 5 (pc' := 99) (lv' := [(0, .ref (ad 500)), (1, .int (nI t)), (2, .int (nI (nst t (2 ^ nu)))), (3, .int (bI (ftS t nu nf nc u))), (4, .int (nI u)), (5, .int (nI p)), (6, .int (nI (sfn t (p % 12 % nst t (2 ^ nu)) (2 ^ nu) - 1)))]) (st' := [.long ((flS t nu u p) ||| ((lN 1) <<< ((nI p).toInt64 &&& 63))), .int (nI u), .ref (ad 505)]) rfl ?_
                  refine S_steq (st' := [.long (flS t nu u (p + 1)), .int (nI u), .ref (ad 505)]) (by rw [(show (flS t nu u p) ||| ((lN 1) <<< ((nI p).toInt64 &&& 63)) = flS t nu u (p + 1) from by rw [flS, if_pos (by cases hbv : (sfn t (p % 12 % nst t (2 ^ nu)) (2 ^ nu) - 1).testBit u <;> simp_all)]).symm]) ?_
                  refine S_lastN g (i := 505) (e := u) (by decide) rfl (show u < 6 from by omega) (show (6 : Nat) < 2 ^ 31 from by decide) rfl ?_
                  rw [up2_r1 (i := 505)]
                  refine S_n g 1 (pc' := 103) (lv' := [(0, .ref (ad 500)), (1, .int (nI t)), (2, .int (nI (nst t (2 ^ nu)))), (3, .int (bI (ftS t nu nf nc u))), (4, .int (nI u)), (5, .int ((nI p) + nI 1)), (6, .int (nI (sfn t (p % 12 % nst t (2 ^ nu)) (2 ^ nu) - 1)))]) (st' := []) rfl ?_
                  rw [nI_add p 1]
                  refine S_n g 1 (pc' := 48) (lv' := [(0, .ref (ad 500)), (1, .int (nI t)), (2, .int (nI (nst t (2 ^ nu)))), (3, .int (bI (ftS t nu nf nc u))), (4, .int (nI u)), (5, .int (nI (p + 1))), (6, .int (nI (sfn t (p % 12 % nst t (2 ^ nu)) (2 ^ nu) - 1)))]) (st' := []) rfl ?_
                  rw [va_up1]
                  refine S_keep (lv' := [(0, .ref (ad 500)), (1, .int (nI t)), (2, .int (nI (nst t (2 ^ nu)))), (3, .int (bI (ftS t nu nf nc u))), (4, .int (nI u)), (5, .int (nI (p + 1)))]) [0, 1, 2, 3, 4, 5] rfl ?_
                  exact lp3 (12 * nf - (p + 1)) (by omega) (p + 1) r2 rfl (by omega) hr2
          exact lp3 _ 0 r rfl (by omega) hr
    have h0 := lp _ 0 (B 505) rfl (by omega) (fun v hv => absurd hv (Nat.not_lt_zero v))
    rw [va_id] at h0
    exact h0
  · skip
    refine S_n g 1 (pc' := 16) (lv' := [(0, .ref (ad 500)), (1, .int x)]) (st' := [.int (-nI 101)]) rfl ?_
    exact rtI rt rfl rfl (⟨by simp [o_storeSubsets, qz11], rfl, rfl, rfl, rfl, B 505, by simp only [o_storeSubsets, qz11, if_neg (show ¬ false = true from by decide)]; rw [va_id]; exact (va_id B 501).symm⟩)
