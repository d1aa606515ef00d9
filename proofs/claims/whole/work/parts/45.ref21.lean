/-! the reference, part 21: save, restore, count, digest -/
def svR (s m : Nat → Int64) (o k : Nat) : Nat → Int64 := fun j => if o ≤ j ∧ j < o + k then m (j - o) else s j
theorem svR_0 (s m : Nat → Int64) (o : Nat) : svR s m o 0 = s := by funext j; unfold svR; rw [if_neg (by omega)]
theorem svR_s (s m : Nat → Int64) (o k : Nat) : va_up (svR s m o k) (o + k) (m k) = svR s m o (k + 1) := by
  funext j
  unfold svR
  by_cases e : j = o + k
  · subst e; rw [va_up_self, if_pos (by omega), Nat.add_sub_cancel_left]
  · rw [va_up_ne _ _ e]
    by_cases q : o ≤ j ∧ j < o + k
    · rw [if_pos q, if_pos (by omega)]
    · rw [if_neg q, if_neg (by omega)]
def rsR (m s : Nat → Int64) (o k : Nat) : Nat → Int64 := fun j => if j < k then s (o + j) else m j
theorem rsR_0 (m s : Nat → Int64) (o : Nat) : rsR m s o 0 = m := by funext j; unfold rsR; rw [if_neg (by omega)]
theorem rsR_s (m s : Nat → Int64) (o k : Nat) : va_up (rsR m s o k) k (s (o + k)) = rsR m s o (k + 1) := by
  funext j
  unfold rsR
  by_cases e : j = k
  · subst e; rw [va_up_self, if_pos (by omega)]
  · rw [va_up_ne _ _ e]
    by_cases q : j < k
    · rw [if_pos q, if_pos (by omega)]
    · rw [if_neg q, if_neg (by omega)]

set_option maxRecDepth 100000 in
set_option maxHeartbeats 4000000 in
theorem sp_save (ad : Nat → Nat) (I : FI) (J : FJ) (A : FI) (B : FJ) (x : Int32) : Spec M_X9_save [.ref (ad 500), .int x] (YR ad) I J A B (eqP (some (.int (if isIx x 2 = true then (B 501 428).toInt32 else -nI 101))) (YR ad) I J (if isIx x 2 = true then va_up A 503 (va_up (A 503) (ix x) (nI 1)) else A) (if isIx x 2 = true then va_up B 502 (svR (B 502) (B 501) (621 * ix x) 621) else B)) := by
  refine Spec_of (by decide) tk_X9_save (Nat.le_of_ble_eq_true rfl) (fun X g rt => ?_)
  show Sim X (YR ad) 0 [(0, .ref (ad 500)), (1, .int x)] [] I J A B 0 0
  refine S_n g 4 (pc' := 4) (lv' := [(0, .ref (ad 500)), (1, .int x)]) (st' := [.long (lN 1), .long (lN 0), .long x.toInt64]) rfl ?_
  refine S_cS g (As := [.long x.toInt64, .long (lN 0), .long (lN 1)]) (st := []) (sp_in (YR ad) I J A B x.toInt64 (lN 0) (lN 1)) mw_X9_in lk_X9_63 ⟨Nat.le_of_ble_eq_true rfl, Nat.le_of_ble_eq_true rfl⟩ rfl (Nat.le_of_ble_eq_true rfl) ⟨Nat.le_of_ble_eq_true rfl, Nat.le_of_ble_eq_true rfl⟩ rfl ?_
  show Sim X (YR ad) 7 [(0, .ref (ad 500)), (1, .int x)] [.int (bI (inL x.toInt64 (lN 0) (lN 1)))] I J A B 0 0
  refine S_steq (st' := [.int (bI (isIx x 2))]) (by rw [(show bI (inL x.toInt64 (lN 0) (lN 1)) = bI (isIx x 2) from by rw [show lN 1 = lN (2 - 1) from rfl, inL_ix (by decide) (by decide)]).symm]) ?_
  refine S_ifB_ne g (tgt := 13) rfl (by decide) (fun qz7 => ?_) (fun qz7 => ?_)
  · skip
    obtain ⟨t, ht, hxt⟩ := isIx_t qz7
    subst hxt
    have hct : (nI t).toNatClampNeg = t := nI_clamp (by omega)
    refine S_n g 2 (pc' := 15) (lv' := [(0, .ref (ad 500)), (1, .int (nI t)), (2, .int (nI 0))]) (st' := []) rfl ?_
    have lp : ∀ (nn : Nat) (k : Nat), 621 - k = nn → (k ≤ 621) → Sim X (YR ad) 15 [(0, .ref (ad 500)), (1, .int (nI t)), (2, .int (nI k))] [] I J A (va_up B 502 (svR (B 502) (B 501) (621 * t) k)) 0 0 := by
      intro nn
      induction nn using Nat.strongRecOn with
      | ind nn ih =>
        intro k hmz hk
        have lp := ih
        refine S_n g 2 (pc' := 19) (lv' := [(0, .ref (ad 500)), (1, .int (nI t)), (2, .int (nI k))]) (st' := [.int (nI 621), .int (nI k)]) rfl ?_
        refine S_icN_ge g (tgt := 46) (by omega) (by omega) rfl (by decide) (fun qz19 => ?_) (fun qz19 => ?_)
        · skip
          have hk9 : k = 621 := by omega
          refine S_n g 1 (pc' := 47) (lv' := [(0, .ref (ad 500)), (1, .int (nI t)), (2, .int (nI k))]) (st' := [.ref (ad 500)]) rfl ?_
          refine S_getR g (i := 500) (c := 9) (k := 2) (j := 503) (by decide) (by decide) rfl rfl rfl fl_X9_16 rfl ?_
          refine S_n g 2 (pc' := 52) (lv' := [(0, .ref (ad 500)), (1, .int (nI t)), (2, .int (nI k))]) (st' := [.int (nI 1), .int (nI t), .ref (ad 503)]) rfl ?_
          refine S_zastN g (i := 503) (e := t) (by decide) rfl (show t < 2 from by omega) (show (2 : Nat) < 2 ^ 31 from by decide) rfl rfl ?_
          show Sim X (YR ad) 53 [(0, .ref (ad 500)), (1, .int (nI t)), (2, .int (nI k))] [] I J (va_up A 503 (va_up (A 503) t (nI 1))) (va_up B 502 (svR (B 502) (B 501) (621 * t) k)) 0 0
          refine S_n g 1 (pc' := 54) (lv' := [(0, .ref (ad 500)), (1, .int (nI t)), (2, .int (nI k))]) (st' := [.ref (ad 500)]) rfl ?_
          refine S_getR g (i := 500) (c := 9) (k := 0) (j := 501) (by decide) (by decide) rfl rfl rfl fl_X9_7 rfl ?_
          refine S_n g 1 (pc' := 60) (lv' := [(0, .ref (ad 500)), (1, .int (nI t)), (2, .int (nI k))]) (st' := [.int (nI 428), .ref (ad 501)]) rfl ?_
          refine S_laldN g (i := 501) (e := 428) (by decide) rfl (show 428 < 621 from by omega) (show (621 : Nat) < 2 ^ 31 from by decide) rfl ?_
          show Sim X (YR ad) 61 [(0, .ref (ad 500)), (1, .int (nI t)), (2, .int (nI k))] [.long (B 501 428)] I J (va_up A 503 (va_up (A 503) t (nI 1))) (va_up B 502 (svR (B 502) (B 501) (621 * t) k)) 0 0
          refine S_n g 1 (pc' := 62) (lv' := [(0, .ref (ad 500)), (1, .int (nI t)), (2, .int (nI k))]) (st' := [.int (B 501 428).toInt32]) rfl ?_
          exact rtI rt rfl rfl (by rw [if_pos qz7, if_pos qz7, if_pos qz7, show ix (nI t) = t from hct, hk9]; exact eqP_rf)
        · skip
          refine S_n g 1 (pc' := 23) (lv' := [(0, .ref (ad 500)), (1, .int (nI t)), (2, .int (nI k))]) (st' := [.ref (ad 500)]) rfl ?_
          refine S_getR g (i := 500) (c := 9) (k := 1) (j := 502) (by decide) (by decide) rfl rfl rfl fl_X9_13 rfl ?_
          refine S_n g 3 (pc' := 31) (lv' := [(0, .ref (ad 500)), (1, .int (nI t)), (2, .int (nI k))]) (st' := [.int ((nI 621) * (nI t)), .ref (ad 502)]) rfl ?_
          rw [pk_mul 621 t]
          refine S_n g 2 (pc' := 33) (lv' := [(0, .ref (ad 500)), (1, .int (nI t)), (2, .int (nI k))]) (st' := [.int ((nI (621 * t)) + (nI k)), .ref (ad 502)]) rfl ?_
          rw [nI_add (621 * t) k]
          refine S_n g 1 (pc' := 34) (lv' := [(0, .ref (ad 500)), (1, .int (nI t)), (2, .int (nI k))]) (st' := [.ref (ad 500), .int (nI ((621 * t) + k)), .ref (ad 502)]) rfl ?_
          refine S_getR g (i := 500) (c := 9) (k := 0) (j := 501) (by decide) (by decide) rfl rfl rfl fl_X9_7 rfl ?_
          refine S_n g 1 (pc' := 38) (lv' := [(0, .ref (ad 500)), (1, .int (nI t)), (2, .int (nI k))]) (st' := [.int (nI k), .ref (ad 501), .int (nI ((621 * t) + k)), .ref (ad 502)]) rfl ?_
          refine S_laldN g (i := 501) (e := k) (by decide) rfl (show k < 621 from by omega) (show (621 : Nat) < 2 ^ 31 from by decide) rfl ?_
          show Sim X (YR ad) 39 [(0, .ref (ad 500)), (1, .int (nI t)), (2, .int (nI k))] [.long (B 501 k), .int (nI ((621 * t) + k)), .ref (ad 502)] I J A (va_up B 502 (svR (B 502) (B 501) (621 * t) k)) 0 0
          refine S_lastN g (i := 502) (e := (621 * t) + k) (by decide) rfl (show (621 * t) + k < 1242 from by omega) (show (1242 : Nat) < 2 ^ 31 from by decide) rfl ?_
          rw [up2_r1 (i := 502)]
          rw [svR_s]
          show Sim X (YR ad) 40 [(0, .ref (ad 500)), (1, .int (nI t)), (2, .int (nI k))] [] I J A (va_up B 502 (svR (B 502) (B 501) (621 * t) (k + 1))) 0 0
          refine S_n g 1 (pc' := 43) (lv' := [(0, .ref (ad 500)), (1, .int (nI t)), (2, .int ((nI k) + nI 1))]) (st' := []) rfl ?_
          rw [nI_add k 1]
          refine S_n g 1 (pc' := 15) (lv' := [(0, .ref (ad 500)), (1, .int (nI t)), (2, .int (nI (k + 1)))]) (st' := []) rfl ?_
          exact lp (621 - (k + 1)) (by omega) (k + 1) rfl (by omega)
    have h0 := lp _ 0 rfl (Nat.zero_le _)
    rw [svR_0, va_id] at h0
    exact h0
  · skip
    refine S_n g 1 (pc' := 12) (lv' := [(0, .ref (ad 500)), (1, .int x)]) (st' := [.int (-nI 101)]) rfl ?_
    exact rtI rt rfl rfl (by rw [qz7, if_neg (by decide), if_neg (by decide), if_neg (by decide)]; exact eqP_rf)

set_option maxRecDepth 100000 in
set_option maxHeartbeats 4000000 in
theorem sp_restore (ad : Nat → Nat) (I : FI) (J : FJ) (A : FI) (B : FJ) (x : Int32) (z : Nat → Bool) (hz : ∀ i, i < 2 → A 503 i = bI (z i)) : Spec M_X9_restore [.ref (ad 500), .int x] (YR ad) I J A B (eqP (some (.int (if isIx x 2 = true then (if z (ix x) = true then (B 502 (621 * ix x + 428)).toInt32 else -nI 102) else -nI 101))) (YR ad) I J A (va_up B 501 (if isIx x 2 = true ∧ z (ix x) = true then rsR (B 501) (B 502) (621 * ix x) 621 else B 501))) := by
  refine Spec_of (by decide) tk_X9_restore (Nat.le_of_ble_eq_true rfl) (fun X g rt => ?_)
  show Sim X (YR ad) 0 [(0, .ref (ad 500)), (1, .int x)] [] I J A B 0 0
  refine S_n g 4 (pc' := 4) (lv' := [(0, .ref (ad 500)), (1, .int x)]) (st' := [.long (lN 1), .long (lN 0), .long x.toInt64]) rfl ?_
  refine S_cS g (As := [.long x.toInt64, .long (lN 0), .long (lN 1)]) (st := []) (sp_in (YR ad) I J A B x.toInt64 (lN 0) (lN 1)) mw_X9_in lk_X9_63 ⟨Nat.le_of_ble_eq_true rfl, Nat.le_of_ble_eq_true rfl⟩ rfl (Nat.le_of_ble_eq_true rfl) ⟨Nat.le_of_ble_eq_true rfl, Nat.le_of_ble_eq_true rfl⟩ rfl ?_
  show Sim X (YR ad) 7 [(0, .ref (ad 500)), (1, .int x)] [.int (bI (inL x.toInt64 (lN 0) (lN 1)))] I J A B 0 0
  refine S_steq (st' := [.int (bI (isIx x 2))]) (by rw [(show bI (inL x.toInt64 (lN 0) (lN 1)) = bI (isIx x 2) from by rw [show lN 1 = lN (2 - 1) from rfl, inL_ix (by decide) (by decide)]).symm]) ?_
  refine S_ifB_ne g (tgt := 13) rfl (by decide) (fun qz7 => ?_) (fun qz7 => ?_)
  · skip
    obtain ⟨t, ht, hxt⟩ := isIx_t qz7
    subst hxt
    have hct : (nI t).toNatClampNeg = t := nI_clamp (by omega)
    refine S_n g 1 (pc' := 14) (lv' := [(0, .ref (ad 500)), (1, .int (nI t))]) (st' := [.ref (ad 500)]) rfl ?_
    refine S_getR g (i := 500) (c := 9) (k := 2) (j := 503) (by decide) (by decide) rfl rfl rfl fl_X9_16 rfl ?_
    refine S_n g 1 (pc' := 18) (lv' := [(0, .ref (ad 500)), (1, .int (nI t))]) (st' := [.int (nI t), .ref (ad 503)]) rfl ?_
    refine S_zaldN g (i := 503) (e := t) (by decide) rfl (show t < 2 from by omega) (show (2 : Nat) < 2 ^ 31 from by decide) rfl ?_
    rw [hz t ht]
    refine S_ifB_ne g (tgt := 25) rfl (by decide) (fun qz19 => ?_) (fun qz19 => ?_)
    · skip
      refine S_n g 2 (pc' := 27) (lv' := [(0, .ref (ad 500)), (1, .int (nI t)), (2, .int (nI 0))]) (st' := []) rfl ?_
      have lp : ∀ (nn : Nat) (k : Nat), 621 - k = nn → (k ≤ 621) → Sim X (YR ad) 27 [(0, .ref (ad 500)), (1, .int (nI t)), (2, .int (nI k))] [] I J A (va_up B 501 (rsR (B 501) (B 502) (621 * t) k)) 0 0 := by
        intro nn
        induction nn using Nat.strongRecOn with
        | ind nn ih =>
          intro k hmz hk
          have lp := ih
          refine S_n g 2 (pc' := 31) (lv' := [(0, .ref (ad 500)), (1, .int (nI t)), (2, .int (nI k))]) (st' := [.int (nI 621), .int (nI k)]) rfl ?_
          refine S_icN_ge g (tgt := 58) (by omega) (by omega) rfl (by decide) (fun qz31 => ?_) (fun qz31 => ?_)
          · skip
            have hk9 : k = 621 := by omega
            refine S_n g 1 (pc' := 59) (lv' := [(0, .ref (ad 500)), (1, .int (nI t)), (2, .int (nI k))]) (st' := [.ref (ad 500)]) rfl ?_
            refine S_getR g (i := 500) (c := 9) (k := 0) (j := 501) (by decide) (by decide) rfl rfl rfl fl_X9_7 rfl ?_
            refine S_n g 1 (pc' := 65) (lv' := [(0, .ref (ad 500)), (1, .int (nI t)), (2, .int (nI k))]) (st' := [.int (nI 428), .ref (ad 501)]) rfl ?_
            refine S_laldN g (i := 501) (e := 428) (by decide) rfl (show 428 < 621 from by omega) (show (621 : Nat) < 2 ^ 31 from by decide) rfl ?_
            show Sim X (YR ad) 66 [(0, .ref (ad 500)), (1, .int (nI t)), (2, .int (nI k))] [.long (rsR (B 501) (B 502) (621 * t) k 428)] I J A (va_up B 501 (rsR (B 501) (B 502) (621 * t) k)) 0 0
            refine S_n g 1 (pc' := 67) (lv' := [(0, .ref (ad 500)), (1, .int (nI t)), (2, .int (nI k))]) (st' := [.int (rsR (B 501) (B 502) (621 * t) k 428).toInt32]) rfl ?_
            exact rtI rt rfl rfl (by rw [if_pos qz7, show ix (nI t) = t from hct, if_pos qz19, if_pos ⟨qz7, qz19⟩, hk9]; exact eqP_rf)
          · skip
            refine S_n g 1 (pc' := 35) (lv' := [(0, .ref (ad 500)), (1, .int (nI t)), (2, .int (nI k))]) (st' := [.ref (ad 500)]) rfl ?_
            refine S_getR g (i := 500) (c := 9) (k := 0) (j := 501) (by decide) (by decide) rfl rfl rfl fl_X9_7 rfl ?_
            refine S_n g 2 (pc' := 40) (lv' := [(0, .ref (ad 500)), (1, .int (nI t)), (2, .int (nI k))]) (st' := [.ref (ad 500), .int (nI k), .ref (ad 501)]) rfl ?_
            refine S_getR g (i := 500) (c := 9) (k := 1) (j := 502) (by decide) (by decide) rfl rfl rfl fl_X9_13 rfl ?_
            refine S_n g 3 (pc' := 48) (lv' := [(0, .ref (ad 500)), (1, .int (nI t)), (2, .int (nI k))]) (st' := [.int ((nI 621) * (nI t)), .ref (ad 502), .int (nI k), .ref (ad 501)]) rfl ?_
            rw [pk_mul 621 t]
            refine S_n g 2 (pc' := 50) (lv' := [(0, .ref (ad 500)), (1, .int (nI t)), (2, .int (nI k))]) (st' := [.int ((nI (621 * t)) + (nI k)), .ref (ad 502), .int (nI k), .ref (ad 501)]) rfl ?_
            rw [nI_add (621 * t) k]
            refine S_laldN g (i := 502) (e := (621 * t) + k) (by decide) rfl (show (621 * t) + k < 1242 from by omega) (show (1242 : Nat) < 2 ^ 31 from by decide) rfl ?_
            show Sim X (YR ad) 51 [(0, .ref (ad 500)), (1, .int (nI t)), (2, .int (nI k))] [.long (B 502 ((621 * t) + k)), .int (nI k), .ref (ad 501)] I J A (va_up B 501 (rsR (B 501) (B 502) (621 * t) k)) 0 0
            refine S_lastN g (i := 501) (e := k) (by decide) rfl (show k < 621 from by omega) (show (621 : Nat) < 2 ^ 31 from by decide) rfl ?_
            rw [up2_r1 (i := 501)]
            rw [rsR_s]
            show Sim X (YR ad) 52 [(0, .ref (ad 500)), (1, .int (nI t)), (2, .int (nI k))] [] I J A (va_up B 501 (rsR (B 501) (B 502) (621 * t) (k + 1))) 0 0
            refine S_n g 1 (pc' := 55) (lv' := [(0, .ref (ad 500)), (1, .int (nI t)), (2, .int ((nI k) + nI 1))]) (st' := []) rfl ?_
            rw [nI_add k 1]
            refine S_n g 1 (pc' := 27) (lv' := [(0, .ref (ad 500)), (1, .int (nI t)), (2, .int (nI (k + 1)))]) (st' := []) rfl ?_
            exact lp (621 - (k + 1)) (by omega) (k + 1) rfl (by omega)
      have h0 := lp _ 0 rfl (Nat.zero_le _)
      rw [rsR_0, va_id] at h0
      exact h0
    · skip
      refine S_n g 1 (pc' := 24) (lv' := [(0, .ref (ad 500)), (1, .int (nI t))]) (st' := [.int (-nI 102)]) rfl ?_
      exact rtI rt rfl rfl (by rw [if_pos qz7, show ix (nI t) = t from hct, if_neg (by rw [qz19]; decide), if_neg (fun q => by rw [qz19] at q; exact absurd q.2 (by decide)), va_id]; exact eqP_rf)
  · skip
    refine S_n g 1 (pc' := 12) (lv' := [(0, .ref (ad 500)), (1, .int x)]) (st' := [.int (-nI 101)]) rfl ?_
    exact rtI rt rfl rfl (by rw [qz7, if_neg (by decide), if_neg (fun q => absurd q.1 (by decide)), va_id]; exact eqP_rf)

def amF (m : Nat → Int64) (ln : Nat → Nat) : Nat → Nat
  | 0 => 0
  | u + 1 => amF m ln u + ctb (msF m u (ln u)) 60
theorem amF_le (m : Nat → Int64) (ln : Nat → Nat) : ∀ u, amF m ln u ≤ 60 * u
  | 0 => Nat.le_refl 0
  | u + 1 => by
    have := amF_le m ln u
    have := ctb_le (msF m u (ln u)) 60
    unfold amF
    omega
/-- a value; all that counts as it was -/
def seP (ad : Nat → Nat) (I : FI) (J : FJ) (A : FI) (B : FJ) (v : Value) : PO := fun v' Y' I' J' A' B' => v' = some v ∧ Y' = YR ad ∧ B' 501 = B 501 ∧ kpR I J A B I' J' A' B'
theorem se_sc {ad : Nat → Nat} {I : FI} {J : FJ} {A : FI} {B : FJ} {v : Value} {v' : Option Value} {Y' : PS} {I' : FI} {J' : FJ} {A' : FI} {B' : FJ} (h : scP (some v) (YR ad) I J A B v' Y' I' J' A' B') : seP ad I J A B v v' Y' I' J' A' B' := by
  obtain ⟨h1, h2, h3, h4⟩ := h
  subst h3
  exact ⟨h1, h2, scr_501 h4, kpR_scr h4⟩

set_option maxRecDepth 100000 in
set_option maxHeartbeats 4000000 in
theorem sp_allMissing (ad : Nat → Nat) (I : FI) (J : FJ) (A : FI) (B : FJ) (m0 : Nat → Int64) (hm0 : B 501 = m0) (hG : WG m0) : Spec M_X9_allMissing [.ref (ad 500)] (YR ad) I J A B (seP ad I J A B (.int (nI (amF m0 (lnG m0) (gN (m0 1)))))) := by
  obtain ⟨hF, hU, hC, h1, h2, h3, h4, h5⟩ := hG.1
  have hLs : ∀ u, u < 6 → m0 (81 + u) = lN (lnG m0 u) := fun u hu => (hG.2.2.2.2.1 u hu).1
  have hls : ∀ u, u < 6 → lnG m0 u ≤ 40 := fun u hu => (hG.2.2.2.2.1 u hu).2
  have hWs : ∀ u, u < 6 → okW m0 u (gN (m0 0)) := fun u hu => (hG.2.2.2.2.2.1 u hu).1
  obtain ⟨nu, hnu⟩ : ∃ nu, nu = gN (m0 1) := ⟨_, rfl⟩
  rw [← hnu] at hU h3 h4
  obtain ⟨nf, hnf⟩ : ∃ nf, nf = gN (m0 0) := ⟨_, rfl⟩
  rw [← hnf] at hF h1 h2 hWs
  rw [← hnu]
  refine Spec_of (by decide) tk_X9_allMissing (Nat.le_of_ble_eq_true rfl) (fun X g rt => ?_)
  show Sim X (YR ad) 0 [(0, .ref (ad 500))] [] I J A B 0 0
  refine S_n g 4 (pc' := 4) (lv' := [(0, .ref (ad 500)), (1, .int (nI 0)), (2, .int (nI 0))]) (st' := []) rfl ?_
  have lp : ∀ (nn : Nat) (u : Nat) (I2 : FI) (J2 : FJ) (B2 : FJ), nu - u = nn → (u ≤ nu) → (B2 501 = m0) → (kpR I J A B I2 J2 A B2) → Sim X (YR ad) 4 [(0, .ref (ad 500)), (1, .int (nI (amF m0 (lnG m0) u))), (2, .int (nI u))] [] I2 J2 A B2 0 0 := by
    intro nn
    induction nn using Nat.strongRecOn with
    | ind nn ih =>
      intro u I2 J2 B2 hmz hu hb1 hkp
      have lp := ih
      have ham := amF_le m0 (lnG m0) u
      refine S_n g 2 (pc' := 6) (lv' := [(0, .ref (ad 500)), (1, .int (nI (amF m0 (lnG m0) u))), (2, .int (nI u))]) (st' := [.ref (ad 500), .int (nI u)]) rfl ?_
      refine S_cV g (i := 500) (As := []) (st := [.int (nI u)]) (sp_users ad I2 J2 A B2 nu (by rw [hb1]; exact hU)) mw_X9_users lk_X9_71 ⟨Nat.le_of_ble_eq_true rfl, Nat.le_of_ble_eq_true rfl⟩ (by decide) (by decide) rfl rfl (Nat.le_of_ble_eq_true rfl) ⟨Nat.le_of_ble_eq_true rfl, Nat.le_of_ble_eq_true rfl⟩ rfl ?_
      show Sim X (YR ad) 9 [(0, .ref (ad 500)), (1, .int (nI (amF m0 (lnG m0) u))), (2, .int (nI u))] [.int (nI nu), .int (nI u)] I2 J2 A B2 0 0
      refine S_icN_ge g (tgt := 29) (by omega) (by omega) rfl (by decide) (fun qz9 => ?_) (fun qz9 => ?_)
      · skip
        have hu9 : u = nu := by omega
        refine S_n g 1 (pc' := 30) (lv' := [(0, .ref (ad 500)), (1, .int (nI (amF m0 (lnG m0) u))), (2, .int (nI u))]) (st' := [.int (nI (amF m0 (lnG m0) u))]) rfl ?_
        exact rtI rt rfl rfl (⟨by rw [hu9], rfl, hb1.trans hm0.symm, hkp⟩)
      · skip
        refine S_n g 3 (pc' := 15) (lv' := [(0, .ref (ad 500)), (1, .int (nI (amF m0 (lnG m0) u))), (2, .int (nI u))]) (st' := [.int (nI u), .ref (ad 500), .int (nI (amF m0 (lnG m0) u))]) rfl ?_
        refine S_callV g (i := 500) (As := [.int (nI u)]) (st := [.int (nI (amF m0 (lnG m0) u))]) (sp_missing ad I2 J2 A B2 u (lnG m0 u) nf (by omega) (by rw [hb1]; exact hLs u (by omega)) (hls u (by omega)) h2 (by rw [hb1]; exact hWs u (by omega))) mw_X9_missing lk_X9_172 ⟨Nat.le_of_ble_eq_true rfl, Nat.le_of_ble_eq_true rfl⟩ (by decide) (by decide) rfl rfl (Nat.le_of_ble_eq_true rfl) ⟨Nat.le_of_ble_eq_true rfl, Nat.le_of_ble_eq_true rfl⟩ rfl (fun v' Y' I3 J3 A' B3 hpo => ?_)
        obtain ⟨rfl, rfl, hqA, hsc⟩ := hpo
        rw [hqA, hb1]
        show Sim X (YR ad) 18 [(0, .ref (ad 500)), (1, .int (nI (amF m0 (lnG m0) u))), (2, .int (nI u))] [.long (msF m0 u (lnG m0 u)), .int (nI (amF m0 (lnG m0) u))] I3 J3 A B3 0 0
        refine S_cS g (As := [.long (msF m0 u (lnG m0 u))]) (st := [.int (nI (amF m0 (lnG m0) u))]) (sp_many (YR ad) I3 J3 A B3 (msF m0 u (lnG m0 u))) mw_X9_many lk_X9_91 ⟨Nat.le_of_ble_eq_true rfl, Nat.le_of_ble_eq_true rfl⟩ rfl (Nat.le_of_ble_eq_true rfl) ⟨Nat.le_of_ble_eq_true rfl, Nat.le_of_ble_eq_true rfl⟩ rfl ?_
        show Sim X (YR ad) 21 [(0, .ref (ad 500)), (1, .int (nI (amF m0 (lnG m0) u))), (2, .int (nI u))] [.int (nI (ctb (msF m0 u (lnG m0 u)) 60)), .int (nI (amF m0 (lnG m0) u))] I3 J3 A B3 0 0
        refine S_n g 1 (pc' := 22) (lv' := [(0, .ref (ad 500)), (1, .int (nI (amF m0 (lnG m0) u))), (2, .int (nI u))]) (st' := [.int ((nI (amF m0 (lnG m0) u)) + (nI (ctb (msF m0 u (lnG m0 u)) 60)))]) rfl ?_
        rw [nI_add (amF m0 (lnG m0) u) (ctb (msF m0 u (lnG m0 u)) 60)]
        refine S_n g 2 (pc' := 26) (lv' := [(0, .ref (ad 500)), (1, .int (nI ((amF m0 (lnG m0) u) + (ctb (msF m0 u (lnG m0 u)) 60)))), (2, .int ((nI u) + nI 1))]) (st' := []) rfl ?_
        rw [nI_add u 1]
        refine S_n g 1 (pc' := 4) (lv' := [(0, .ref (ad 500)), (1, .int (nI ((amF m0 (lnG m0) u) + (ctb (msF m0 u (lnG m0 u)) 60)))), (2, .int (nI (u + 1)))]) (st' := []) rfl ?_
        exact lp (nu - (u + 1)) (by omega) (u + 1) I3 J3 B3 rfl (by omega) ((scr_501 hsc).trans hb1) (kpR_tr hkp (kpR_scr hsc))
  exact lp _ 0 I J B rfl (Nat.zero_le _) hm0 (kpR_rf I J A B)

def o_count (m : Nat → Int64) (n : Nat) (x : Int32) : Int32 :=
  if isIx x 10 = true then (match ix x with
    | 0 => (m 0).toInt32
    | 1 => (m 1).toInt32
    | 2 => (m 2).toInt32
    | 3 => (m 327).toInt32
    | 4 => (m 428).toInt32
    | 5 => (m 529).toInt32
    | 6 => (m 620).toInt32
    | 7 => nI (amF m (lnG m) (gN (m 1)))
    | 8 => preS m (gN (m 1))
    | _ => nI n) else -nI 101

set_option maxRecDepth 100000 in
set_option maxHeartbeats 4000000 in
theorem sp_count (ad : Nat → Nat) (I : FI) (J : FJ) (A : FI) (B : FJ) (x : Int32) (n : Nat) (hI4 : I 500 4 = nI n) (m0 : Nat → Int64) (hm0 : B 501 = m0) (hG : WG m0) : Spec M_X9_count [.ref (ad 500), .int x] (YR ad) I J A B (seP ad I J A B (.int (o_count m0 n x))) := by
  refine Spec_of (by decide) tk_X9_count (Nat.le_of_ble_eq_true rfl) (fun X g rt => ?_)
  show Sim X (YR ad) 0 [(0, .ref (ad 500)), (1, .int x)] [] I J A B 0 0
  by_cases hin : isIx x 10 = true
  · skip
    obtain ⟨k, hk, hxk⟩ := isIx_t hin
    subst hxk
    have hck : (nI k).toNatClampNeg = k := nI_clamp (by omega)
    refine S_n g 1 (pc' := 1) (lv' := [(0, .ref (ad 500)), (1, .int (nI k))]) (st' := [.int (nI k)]) rfl ?_
    rcases (show k = 0 ∨ k = 1 ∨ k = 2 ∨ k = 3 ∨ k = 4 ∨ k = 5 ∨ k = 6 ∨ k = 7 ∨ k = 8 ∨ k = 9 by omega) with rfl | rfl | rfl | rfl | rfl | rfl | rfl | rfl | rfl | rfl
    · skip
      refine S_swIn g (off := 55) (tgt := 56) rfl (by decide) (by decide) rfl rfl ?_
      refine S_n g 1 (pc' := 57) (lv' := [(0, .ref (ad 500)), (1, .int (nI 0))]) (st' := [.ref (ad 500)]) rfl ?_
      refine S_getR g (i := 500) (c := 9) (k := 0) (j := 501) (by decide) (by decide) rfl rfl rfl fl_X9_7 rfl ?_
      refine S_n g 1 (pc' := 61) (lv' := [(0, .ref (ad 500)), (1, .int (nI 0))]) (st' := [.int (nI 0), .ref (ad 501)]) rfl ?_
      refine S_laldN g (i := 501) (e := 0) (by decide) rfl (show 0 < 621 from by omega) (show (621 : Nat) < 2 ^ 31 from by decide) rfl ?_
      refine S_n g 1 (pc' := 63) (lv' := [(0, .ref (ad 500)), (1, .int (nI 0))]) (st' := [.int (B 501 0).toInt32]) rfl ?_
      exact rtI rt rfl rfl (⟨by simp only [o_count, hin, if_true, ix, hck, hm0], rfl, rfl, kpR_rf I J A B⟩)
    · skip
      refine S_swIn g (off := 55) (tgt := 56) rfl (by decide) (by decide) rfl rfl ?_
      refine S_n g 1 (pc' := 57) (lv' := [(0, .ref (ad 500)), (1, .int (nI 1))]) (st' := [.ref (ad 500)]) rfl ?_
      refine S_getR g (i := 500) (c := 9) (k := 0) (j := 501) (by decide) (by decide) rfl rfl rfl fl_X9_7 rfl ?_
      refine S_n g 1 (pc' := 61) (lv' := [(0, .ref (ad 500)), (1, .int (nI 1))]) (st' := [.int (nI 1), .ref (ad 501)]) rfl ?_
      refine S_laldN g (i := 501) (e := 1) (by decide) rfl (show 1 < 621 from by omega) (show (621 : Nat) < 2 ^ 31 from by decide) rfl ?_
      refine S_n g 1 (pc' := 63) (lv' := [(0, .ref (ad 500)), (1, .int (nI 1))]) (st' := [.int (B 501 1).toInt32]) rfl ?_
      exact rtI rt rfl rfl (⟨by simp only [o_count, hin, if_true, ix, hck, hm0], rfl, rfl, kpR_rf I J A B⟩)
    · skip
      refine S_swIn g (off := 55) (tgt := 56) rfl (by decide) (by decide) rfl rfl ?_
      refine S_n g 1 (pc' := 57) (lv' := [(0, .ref (ad 500)), (1, .int (nI 2))]) (st' := [.ref (ad 500)]) rfl ?_
      refine S_getR g (i := 500) (c := 9) (k := 0) (j := 501) (by decide) (by decide) rfl rfl rfl fl_X9_7 rfl ?_
      refine S_n g 1 (pc' := 61) (lv' := [(0, .ref (ad 500)), (1, .int (nI 2))]) (st' := [.int (nI 2), .ref (ad 501)]) rfl ?_
      refine S_laldN g (i := 501) (e := 2) (by decide) rfl (show 2 < 621 from by omega) (show (621 : Nat) < 2 ^ 31 from by decide) rfl ?_
      refine S_n g 1 (pc' := 63) (lv' := [(0, .ref (ad 500)), (1, .int (nI 2))]) (st' := [.int (B 501 2).toInt32]) rfl ?_
      exact rtI rt rfl rfl (⟨by simp only [o_count, hin, if_true, ix, hck, hm0], rfl, rfl, kpR_rf I J A B⟩)
    · skip
      refine S_swIn g (off := 63) (tgt := 64) rfl (by decide) (by decide) rfl rfl ?_
      refine S_n g 1 (pc' := 65) (lv' := [(0, .ref (ad 500)), (1, .int (nI 3))]) (st' := [.ref (ad 500)]) rfl ?_
      refine S_getR g (i := 500) (c := 9) (k := 0) (j := 501) (by decide) (by decide) rfl rfl rfl fl_X9_7 rfl ?_
      refine S_n g 1 (pc' := 71) (lv' := [(0, .ref (ad 500)), (1, .int (nI 3))]) (st' := [.int (nI 327), .ref (ad 501)]) rfl ?_
      refine S_laldN g (i := 501) (e := 327) (by decide) rfl (show 327 < 621 from by omega) (show (621 : Nat) < 2 ^ 31 from by decide) rfl ?_
      refine S_n g 1 (pc' := 73) (lv' := [(0, .ref (ad 500)), (1, .int (nI 3))]) (st' := [.int (B 501 327).toInt32]) rfl ?_
      exact rtI rt rfl rfl (⟨by simp only [o_count, hin, if_true, ix, hck, hm0], rfl, rfl, kpR_rf I J A B⟩)
    · skip
      refine S_swIn g (off := 73) (tgt := 74) rfl (by decide) (by decide) rfl rfl ?_
      refine S_n g 1 (pc' := 75) (lv' := [(0, .ref (ad 500)), (1, .int (nI 4))]) (st' := [.ref (ad 500)]) rfl ?_
      refine S_getR g (i := 500) (c := 9) (k := 0) (j := 501) (by decide) (by decide) rfl rfl rfl fl_X9_7 rfl ?_
      refine S_n g 1 (pc' := 81) (lv' := [(0, .ref (ad 500)), (1, .int (nI 4))]) (st' := [.int (nI 428), .ref (ad 501)]) rfl ?_
      refine S_laldN g (i := 501) (e := 428) (by decide) rfl (show 428 < 621 from by omega) (show (621 : Nat) < 2 ^ 31 from by decide) rfl ?_
      refine S_n g 1 (pc' := 83) (lv' := [(0, .ref (ad 500)), (1, .int (nI 4))]) (st' := [.int (B 501 428).toInt32]) rfl ?_
      exact rtI rt rfl rfl (⟨by simp only [o_count, hin, if_true, ix, hck, hm0], rfl, rfl, kpR_rf I J A B⟩)
    · skip
      refine S_swIn g (off := 83) (tgt := 84) rfl (by decide) (by decide) rfl rfl ?_
      refine S_n g 1 (pc' := 85) (lv' := [(0, .ref (ad 500)), (1, .int (nI 5))]) (st' := [.ref (ad 500)]) rfl ?_
      refine S_getR g (i := 500) (c := 9) (k := 0) (j := 501) (by decide) (by decide) rfl rfl rfl fl_X9_7 rfl ?_
      refine S_n g 1 (pc' := 91) (lv' := [(0, .ref (ad 500)), (1, .int (nI 5))]) (st' := [.int (nI 529), .ref (ad 501)]) rfl ?_
      refine S_laldN g (i := 501) (e := 529) (by decide) rfl (show 529 < 621 from by omega) (show (621 : Nat) < 2 ^ 31 from by decide) rfl ?_
      refine S_n g 1 (pc' := 93) (lv' := [(0, .ref (ad 500)), (1, .int (nI 5))]) (st' := [.int (B 501 529).toInt32]) rfl ?_
      exact rtI rt rfl rfl (⟨by simp only [o_count, hin, if_true, ix, hck, hm0], rfl, rfl, kpR_rf I J A B⟩)
    · skip
      refine S_swIn g (off := 93) (tgt := 94) rfl (by decide) (by decide) rfl rfl ?_
      refine S_n g 1 (pc' := 95) (lv' := [(0, .ref (ad 500)), (1, .int (nI 6))]) (st' := [.ref (ad 500)]) rfl ?_
      refine S_getR g (i := 500) (c := 9) (k := 0) (j := 501) (by decide) (by decide) rfl rfl rfl fl_X9_7 rfl ?_
      refine S_n g 1 (pc' := 101) (lv' := [(0, .ref (ad 500)), (1, .int (nI 6))]) (st' := [.int (nI 620), .ref (ad 501)]) rfl ?_
      refine S_laldN g (i := 501) (e := 620) (by decide) rfl (show 620 < 621 from by omega) (show (621 : Nat) < 2 ^ 31 from by decide) rfl ?_
      refine S_n g 1 (pc' := 103) (lv' := [(0, .ref (ad 500)), (1, .int (nI 6))]) (st' := [.int (B 501 620).toInt32]) rfl ?_
      exact rtI rt rfl rfl (⟨by simp only [o_count, hin, if_true, ix, hck, hm0], rfl, rfl, kpR_rf I J A B⟩)
    · skip
      refine S_swIn g (off := 103) (tgt := 104) rfl (by decide) (by decide) rfl rfl ?_
      refine S_n g 1 (pc' := 105) (lv' := [(0, .ref (ad 500)), (1, .int (nI 7))]) (st' := [.ref (ad 500)]) rfl ?_
      refine S_callV g (i := 500) (As := []) (st := []) (sp_allMissing ad I J A B m0 hm0 hG) mw_X9_allMissing lk_X9_291 ⟨Nat.le_of_ble_eq_true rfl, Nat.le_of_ble_eq_true rfl⟩ (by decide) (by decide) rfl rfl (Nat.le_of_ble_eq_true rfl) ⟨Nat.le_of_ble_eq_true rfl, Nat.le_of_ble_eq_true rfl⟩ rfl (fun v' Y' I2 J2 A2 B2 hpo => ?_)
      obtain ⟨rfl, rfl, hq5, hqk⟩ := hpo
      show Sim X (YR ad) 108 [(0, .ref (ad 500)), (1, .int (nI 7))] [.int (nI (amF m0 (lnG m0) (gN (m0 1))))] I2 J2 A2 B2 0 0
      exact rtI rt rfl rfl (⟨by simp only [o_count, hin, if_true, ix, hck], rfl, hq5, hqk⟩)
    · skip
      refine S_swIn g (off := 108) (tgt := 109) rfl (by decide) (by decide) rfl rfl ?_
      refine S_n g 1 (pc' := 110) (lv' := [(0, .ref (ad 500)), (1, .int (nI 8))]) (st' := [.ref (ad 500)]) rfl ?_
      refine S_cV g (i := 500) (As := []) (st := []) (sp_presents ad I J A B (gN (m0 1)) (by rw [hm0]; exact hG.1.2.1) hG.1.2.2.2.2.2.2.1) mw_X9_presents lk_X9_123 ⟨Nat.le_of_ble_eq_true rfl, Nat.le_of_ble_eq_true rfl⟩ (by decide) (by decide) rfl rfl (Nat.le_of_ble_eq_true rfl) ⟨Nat.le_of_ble_eq_true rfl, Nat.le_of_ble_eq_true rfl⟩ rfl ?_
      show Sim X (YR ad) 113 [(0, .ref (ad 500)), (1, .int (nI 8))] [.int (preS (B 501) (gN (m0 1)))] I J A B 0 0
      exact rtI rt rfl rfl (⟨by simp only [o_count, hin, if_true, ix, hck, hm0], rfl, rfl, kpR_rf I J A B⟩)
    · skip
      refine S_swIn g (off := 113) (tgt := 114) rfl (by decide) (by decide) rfl rfl ?_
      refine S_n g 1 (pc' := 115) (lv' := [(0, .ref (ad 500)), (1, .int (nI 9))]) (st' := [.ref (ad 500)]) rfl ?_
      refine S_getI g (i := 500) (c := 9) (k := 4) (by decide) (by decide) rfl rfl fl_X9_232 rfl ?_
      rw [hI4]
      exact rtI rt rfl rfl (⟨by simp only [o_count, hin, if_true, ix, hck, hm0], rfl, rfl, kpR_rf I J A B⟩)
  · skip
    have hto : x.toInt < 0 ∨ 9 < x.toInt := by unfold isIx at hin; have := of_decide_eq_false (Bool.eq_false_iff.mpr hin); omega
    refine S_n g 1 (pc' := 1) (lv' := [(0, .ref (ad 500)), (1, .int x)]) (st' := [.int x]) rfl ?_
    refine S_swOut g (tgt := 119) rfl hto rfl ?_
    refine S_n g 1 (pc' := 121) (lv' := [(0, .ref (ad 500)), (1, .int x)]) (st' := [.int (-nI 101)]) rfl ?_
    exact rtI rt rfl rfl (⟨by simp only [o_count, hin, if_false]; rfl, rfl, rfl, kpR_rf I J A B⟩)

set_option maxRecDepth 100000 in
set_option maxHeartbeats 4000000 in
theorem sp_mixes (ad : Nat → Nat) (I : FI) (J : FJ) (A : FI) (B : FJ) (v : Int64) : Spec M_X9_mixes [.ref (ad 500), .long v] (YR ad) I J A B (eqP none (YR ad) I (up2 J 500 21 (lN 31 * J 500 21 + v)) A B) := by
  refine Spec_of (by decide) tk_X9_mixes (Nat.le_of_ble_eq_true rfl) (fun X g rt => ?_)
  show Sim X (YR ad) 0 [(0, .ref (ad 500)), (1, .long v)] [] I J A B 0 0
  refine S_n g 1 (pc' := 1) (lv' := [(0, .ref (ad 500)), (1, .long v)]) (st' := [.ref (ad 500)]) rfl ?_
  refine S_ldc2 g kc_X9_294 rfl ?_
  refine S_n g 1 (pc' := 5) (lv' := [(0, .ref (ad 500)), (1, .long v)]) (st' := [.ref (ad 500), .long (lN 31), .ref (ad 500)]) rfl ?_
  refine S_getJ g (i := 500) (c := 9) (k := 21) (by decide) (by decide) rfl rfl fl_X9_296 rfl ?_
  refine S_n g 3 (pc' := 11) (lv' := [(0, .ref (ad 500)), (1, .long v)]) (st' := [.long (((lN 31) * (J 500 21)) + v), .ref (ad 500)]) rfl ?_
  refine S_putJ g (i := 500) (c := 9) (k := 21) (by decide) (by decide) rfl rfl fw_X9_296 rfl ?_
  exact rtV rt rfl rfl eqP_rf
