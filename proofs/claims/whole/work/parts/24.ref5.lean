/-! the reference, part 5: receiving, sending -/
def shf (m : Nat → Int64) (u k : Nat) : Nat → Int64 := fun j => if 87 + 40 * u ≤ j ∧ j < 87 + 40 * u + k then m (j + 1) else m j
theorem shf_0 {m : Nat → Int64} {u : Nat} : shf m u 0 = m := by funext j; unfold shf; rw [if_neg (by omega)]
theorem shf_hi {m : Nat → Int64} {u k j : Nat} (h : 87 + 40 * u + k ≤ j) : shf m u k j = m j := by unfold shf; rw [if_neg (by omega)]
theorem shf_lo {m : Nat → Int64} {u k j : Nat} (h : j < 87 + 40 * u) : shf m u k j = m j := by unfold shf; rw [if_neg (by omega)]
theorem shf_s {m : Nat → Int64} {u k : Nat} : va_up (shf m u k) (87 + 40 * u + k) (shf m u k (87 + 40 * u + k + 1)) = shf m u (k + 1) := by
  funext j
  by_cases e : j = 87 + 40 * u + k
  · subst e
    rw [va_up_self, shf_hi (by omega)]
    unfold shf
    rw [if_pos (by omega)]
  · rw [va_up_ne _ _ e]
    unfold shf
    by_cases h2 : 87 + 40 * u ≤ j ∧ j < 87 + 40 * u + k
    · rw [if_pos h2, if_pos (by omega)]
    · rw [if_neg h2, if_neg (by omega)]
/-- a sum comes to a user's list of n sums -/
def recvF (m : Nat → Int64) (u n : Nat) (s : Int64) : Nat → Int64 :=
  if n = 40 then va_up (va_up (va_up (shf m u 39) (81 + u) (lN 39)) (87 + 40 * u + 39) s) (81 + u) (lN 40) else va_up (va_up m (87 + 40 * u + n) s) (81 + u) (lN (n + 1))
theorem recvF_keep {m : Nat → Int64} {u n : Nat} {s : Int64} (hn : n ≤ 40) {j : Nat} (h1 : j ≠ 81 + u) (h2 : j < 87 + 40 * u ∨ 87 + 40 * u + 40 ≤ j) : recvF m u n s j = m j := by
  unfold recvF
  split
  · rw [va_up_ne _ _ h1, va_up_ne _ _ (by omega), va_up_ne _ _ h1]
    unfold shf
    rw [if_neg (by omega)]
  · rw [va_up_ne _ _ h1, va_up_ne _ _ (by omega)]

set_option maxRecDepth 100000 in
set_option maxHeartbeats 4000000 in
theorem sp_receives (ad : Nat → Nat) (I : FI) (J : FJ) (A : FI) (B : FJ) (s : Int64) (u n : Nat) (hu : u < 6) (hL : B 501 (81 + u) = lN n) (hn : n ≤ 40) : Spec M_X9_receives [.ref (ad 500), .int (nI u), .long s] (YR ad) I J A B (eqP none (YR ad) I J A (va_up B 501 (recvF (B 501) u n s))) := by
  refine Spec_of (by decide) tk_X9_receives (Nat.le_of_ble_eq_true rfl) (fun X g rt => ?_)
  show Sim X (YR ad) 0 [(0, .ref (ad 500)), (1, .int (nI u)), (2, .long s)] [] I J A B 0 0
  refine S_n g 1 (pc' := 1) (lv' := [(0, .ref (ad 500)), (1, .int (nI u)), (2, .long s)]) (st' := [.ref (ad 500)]) rfl ?_
  refine S_getR g (i := 500) (c := 9) (k := 0) (j := 501) (by decide) (by decide) rfl rfl rfl fl_X9_7 rfl ?_
  refine S_n g 3 (pc' := 8) (lv' := [(0, .ref (ad 500)), (1, .int (nI u)), (2, .long s)]) (st' := [.int ((nI 81) + (nI u)), .ref (ad 501)]) rfl ?_
  rw [nI_add 81 u]
  refine S_laldN g (i := 501) (e := 81 + u) (by decide) rfl (show 81 + u < 621 from by omega) (show (621 : Nat) < 2 ^ 31 from by decide) rfl ?_
  rw [hL]
  refine S_ldc2 g kc_X9_141 rfl ?_
  refine S_lcN_ne g (tgt := 77) (by omega) (by omega) rfl rfl (by decide) (fun qz12 => ?_) (fun qz12 => ?_)
  · skip
    refine S_n g 1 (pc' := 78) (lv' := [(0, .ref (ad 500)), (1, .int (nI u)), (2, .long s)]) (st' := [.ref (ad 500)]) rfl ?_
    refine S_getR g (i := 500) (c := 9) (k := 0) (j := 501) (by decide) (by decide) rfl rfl rfl fl_X9_7 rfl ?_
    refine S_n g 4 (pc' := 87) (lv' := [(0, .ref (ad 500)), (1, .int (nI u)), (2, .long s)]) (st' := [.int ((nI 40) * (nI u)), .int (nI 87), .ref (ad 501)]) rfl ?_
    rw [pk_mul 40 u]
    refine S_n g 1 (pc' := 88) (lv' := [(0, .ref (ad 500)), (1, .int (nI u)), (2, .long s)]) (st' := [.int ((nI 87) + (nI (40 * u))), .ref (ad 501)]) rfl ?_
    rw [nI_add 87 (40 * u)]
    refine S_n g 1 (pc' := 89) (lv' := [(0, .ref (ad 500)), (1, .int (nI u)), (2, .long s)]) (st' := [.ref (ad 500), .int (nI (87 + (40 * u))), .ref (ad 501)]) rfl ?_
    refine S_getR g (i := 500) (c := 9) (k := 0) (j := 501) (by decide) (by decide) rfl rfl rfl fl_X9_7 rfl ?_
    refine S_n g 3 (pc' := 96) (lv' := [(0, .ref (ad 500)), (1, .int (nI u)), (2, .long s)]) (st' := [.int ((nI 81) + (nI u)), .ref (ad 501), .int (nI (87 + (40 * u))), .ref (ad 501)]) rfl ?_
    rw [nI_add 81 u]
    refine S_laldN g (i := 501) (e := 81 + u) (by decide) rfl (show 81 + u < 621 from by omega) (show (621 : Nat) < 2 ^ 31 from by decide) rfl ?_
    rw [hL]
    refine S_n g 1 (pc' := 98) (lv' := [(0, .ref (ad 500)), (1, .int (nI u)), (2, .long s)]) (st' := [.int (lN n).toInt32, .int (nI (87 + (40 * u))), .ref (ad 501)]) rfl ?_
    rw [lN_i n]
    refine S_n g 1 (pc' := 99) (lv' := [(0, .ref (ad 500)), (1, .int (nI u)), (2, .long s)]) (st' := [.int ((nI (87 + (40 * u))) + (nI n)), .ref (ad 501)]) rfl ?_
    rw [nI_add (87 + (40 * u)) n]
    refine S_n g 1 (pc' := 100) (lv' := [(0, .ref (ad 500)), (1, .int (nI u)), (2, .long s)]) (st' := [.long s, .int (nI ((87 + (40 * u)) + n)), .ref (ad 501)]) rfl ?_
    refine S_lastN g (i := 501) (e := (87 + (40 * u)) + n) (by decide) rfl (show (87 + (40 * u)) + n < 621 from by omega) (show (621 : Nat) < 2 ^ 31 from by decide) rfl ?_
    show Sim X (YR ad) 101 [(0, .ref (ad 500)), (1, .int (nI u)), (2, .long s)] [] I J A (va_up B 501 (va_up (B 501) ((87 + (40 * u)) + n) s)) 0 0
    refine S_n g 1 (pc' := 102) (lv' := [(0, .ref (ad 500)), (1, .int (nI u)), (2, .long s)]) (st' := [.ref (ad 500)]) rfl ?_
    refine S_getR g (i := 500) (c := 9) (k := 0) (j := 501) (by decide) (by decide) rfl rfl rfl fl_X9_7 rfl ?_
    refine S_n g 3 (pc' := 109) (lv' := [(0, .ref (ad 500)), (1, .int (nI u)), (2, .long s)]) (st' := [.int ((nI 81) + (nI u)), .ref (ad 501)]) rfl ?_
    rw [nI_add 81 u]
    refine S_n g 1 (pc' := 110) (lv' := [(0, .ref (ad 500)), (1, .int (nI u)), (2, .long s)]) (st' := [.int (nI (81 + u)), .ref (ad 501), .int (nI (81 + u)), .ref (ad 501)]) rfl ?_
    refine S_laldN g (i := 501) (e := 81 + u) (by decide) rfl (show 81 + u < 621 from by omega) (show (621 : Nat) < 2 ^ 31 from by decide) rfl ?_
    show Sim X (YR ad) 111 [(0, .ref (ad 500)), (1, .int (nI u)), (2, .long s)] [.long ((va_up (B 501) ((87 + (40 * u)) + n) s) (81 + u)), .int (nI (81 + u)), .ref (ad 501)] I J A (va_up B 501 (va_up (B 501) ((87 + (40 * u)) + n) s)) 0 0
    rw [va_up_ne _ _ (show 81 + u ≠ (87 + (40 * u)) + n from by omega)]
    rw [hL]
    refine S_n g 2 (pc' := 113) (lv' := [(0, .ref (ad 500)), (1, .int (nI u)), (2, .long s)]) (st' := [.long ((lN n) + (lN 1)), .int (nI (81 + u)), .ref (ad 501)]) rfl ?_
    rw [lN_add n 1]
    refine S_lastN g (i := 501) (e := 81 + u) (by decide) rfl (show 81 + u < 621 from by omega) (show (621 : Nat) < 2 ^ 31 from by decide) rfl ?_
    rw [up2_r1 (i := 501)]
    exact rtV rt rfl rfl (by unfold recvF; rw [if_neg (by omega)]; exact eqP_rf)
  · skip
    refine S_n g 2 (pc' := 19) (lv' := [(0, .ref (ad 500)), (1, .int (nI u)), (2, .long s), (4, .int (nI 0))]) (st' := []) rfl ?_
    have hn9 : n = 40 := by omega
    have lp : ∀ (nn : Nat) (k : Nat), 39 - k = nn → (k ≤ 39) → Sim X (YR ad) 19 [(0, .ref (ad 500)), (1, .int (nI u)), (2, .long s), (4, .int (nI k))] [] I J A (va_up B 501 (shf (B 501) u k)) 0 0 := by
      intro nn
      induction nn using Nat.strongRecOn with
      | ind nn ih =>
        intro k hmz hk
        have lp := ih
        refine S_n g 2 (pc' := 23) (lv' := [(0, .ref (ad 500)), (1, .int (nI u)), (2, .long s), (4, .int (nI k))]) (st' := [.int (nI 39), .int (nI k)]) rfl ?_
        refine S_icN_ge g (tgt := 64) (by omega) (by omega) rfl (by decide) (fun qz23 => ?_) (fun qz23 => ?_)
        · skip
          have hk9 : k = 39 := by omega
          rw [hk9]
          refine S_keep (lv' := [(0, .ref (ad 500)), (1, .int (nI u)), (2, .long s)]) [0, 1, 2] rfl ?_
          refine S_n g 1 (pc' := 65) (lv' := [(0, .ref (ad 500)), (1, .int (nI u)), (2, .long s)]) (st' := [.ref (ad 500)]) rfl ?_
          refine S_getR g (i := 500) (c := 9) (k := 0) (j := 501) (by decide) (by decide) rfl rfl rfl fl_X9_7 rfl ?_
          refine S_n g 3 (pc' := 72) (lv' := [(0, .ref (ad 500)), (1, .int (nI u)), (2, .long s)]) (st' := [.int ((nI 81) + (nI u)), .ref (ad 501)]) rfl ?_
          rw [nI_add 81 u]
          refine S_n g 1 (pc' := 73) (lv' := [(0, .ref (ad 500)), (1, .int (nI u)), (2, .long s)]) (st' := [.int (nI (81 + u)), .ref (ad 501), .int (nI (81 + u)), .ref (ad 501)]) rfl ?_
          refine S_laldN g (i := 501) (e := 81 + u) (by decide) rfl (show 81 + u < 621 from by omega) (show (621 : Nat) < 2 ^ 31 from by decide) rfl ?_
          show Sim X (YR ad) 74 [(0, .ref (ad 500)), (1, .int (nI u)), (2, .long s)] [.long (shf (B 501) u 39 (81 + u)), .int (nI (81 + u)), .ref (ad 501)] I J A (va_up B 501 (shf (B 501) u 39)) 0 0
          rw [shf_lo (by omega), hL, hn9]
          refine S_n g 2 (pc' := 76) (lv' := [(0, .ref (ad 500)), (1, .int (nI u)), (2, .long s)]) (st' := [.long ((lN 40) - (lN 1)), .int (nI (81 + u)), .ref (ad 501)]) rfl ?_
          rw [lN_sub (a := 40) (b := 1) (by omega)]
          refine S_lastN g (i := 501) (e := 81 + u) (by decide) rfl (show 81 + u < 621 from by omega) (show (621 : Nat) < 2 ^ 31 from by decide) rfl ?_
          rw [up2_r1 (i := 501)]
          refine S_n g 1 (pc' := 78) (lv' := [(0, .ref (ad 500)), (1, .int (nI u)), (2, .long s)]) (st' := [.ref (ad 500)]) rfl ?_
          refine S_getR g (i := 500) (c := 9) (k := 0) (j := 501) (by decide) (by decide) rfl rfl rfl fl_X9_7 rfl ?_
          refine S_n g 4 (pc' := 87) (lv' := [(0, .ref (ad 500)), (1, .int (nI u)), (2, .long s)]) (st' := [.int ((nI 40) * (nI u)), .int (nI 87), .ref (ad 501)]) rfl ?_
          rw [pk_mul 40 u]
          refine S_n g 1 (pc' := 88) (lv' := [(0, .ref (ad 500)), (1, .int (nI u)), (2, .long s)]) (st' := [.int ((nI 87) + (nI (40 * u))), .ref (ad 501)]) rfl ?_
          rw [nI_add 87 (40 * u)]
          refine S_n g 1 (pc' := 89) (lv' := [(0, .ref (ad 500)), (1, .int (nI u)), (2, .long s)]) (st' := [.ref (ad 500), .int (nI (87 + (40 * u))), .ref (ad 501)]) rfl ?_
          refine S_getR g (i := 500) (c := 9) (k := 0) (j := 501) (by decide) (by decide) rfl rfl rfl fl_X9_7 rfl ?_
          refine S_n g 3 (pc' := 96) (lv' := [(0, .ref (ad 500)), (1, .int (nI u)), (2, .long s)]) (st' := [.int ((nI 81) + (nI u)), .ref (ad 501), .int (nI (87 + (40 * u))), .ref (ad 501)]) rfl ?_
          rw [nI_add 81 u]
          refine S_laldN g (i := 501) (e := 81 + u) (by decide) rfl (show 81 + u < 621 from by omega) (show (621 : Nat) < 2 ^ 31 from by decide) rfl ?_
          show Sim X (YR ad) 97 [(0, .ref (ad 500)), (1, .int (nI u)), (2, .long s)] [.long ((va_up (shf (B 501) u 39) (81 + u) (lN (40 - 1))) (81 + u)), .int (nI (87 + (40 * u))), .ref (ad 501)] I J A (va_up B 501 (va_up (shf (B 501) u 39) (81 + u) (lN (40 - 1)))) 0 0
          rw [va_up_self]
          refine S_n g 1 (pc' := 98) (lv' := [(0, .ref (ad 500)), (1, .int (nI u)), (2, .long s)]) (st' := [.int (lN (40 - 1)).toInt32, .int (nI (87 + (40 * u))), .ref (ad 501)]) rfl ?_
          rw [lN_i (40 - 1)]
          refine S_n g 1 (pc' := 99) (lv' := [(0, .ref (ad 500)), (1, .int (nI u)), (2, .long s)]) (st' := [.int ((nI (87 + (40 * u))) + (nI (40 - 1))), .ref (ad 501)]) rfl ?_
          rw [nI_add (87 + (40 * u)) (40 - 1)]
          refine S_n g 1 (pc' := 100) (lv' := [(0, .ref (ad 500)), (1, .int (nI u)), (2, .long s)]) (st' := [.long s, .int (nI ((87 + (40 * u)) + (40 - 1))), .ref (ad 501)]) rfl ?_
          refine S_lastN g (i := 501) (e := (87 + (40 * u)) + (40 - 1)) (by decide) rfl (show (87 + (40 * u)) + (40 - 1) < 621 from by omega) (show (621 : Nat) < 2 ^ 31 from by decide) rfl ?_
          rw [up2_r1 (i := 501)]
          refine S_n g 1 (pc' := 102) (lv' := [(0, .ref (ad 500)), (1, .int (nI u)), (2, .long s)]) (st' := [.ref (ad 500)]) rfl ?_
          refine S_getR g (i := 500) (c := 9) (k := 0) (j := 501) (by decide) (by decide) rfl rfl rfl fl_X9_7 rfl ?_
          refine S_n g 3 (pc' := 109) (lv' := [(0, .ref (ad 500)), (1, .int (nI u)), (2, .long s)]) (st' := [.int ((nI 81) + (nI u)), .ref (ad 501)]) rfl ?_
          rw [nI_add 81 u]
          refine S_n g 1 (pc' := 110) (lv' := [(0, .ref (ad 500)), (1, .int (nI u)), (2, .long s)]) (st' := [.int (nI (81 + u)), .ref (ad 501), .int (nI (81 + u)), .ref (ad 501)]) rfl ?_
          refine S_laldN g (i := 501) (e := 81 + u) (by decide) rfl (show 81 + u < 621 from by omega) (show (621 : Nat) < 2 ^ 31 from by decide) rfl ?_
          show Sim X (YR ad) 111 [(0, .ref (ad 500)), (1, .int (nI u)), (2, .long s)] [.long ((va_up (va_up (shf (B 501) u 39) (81 + u) (lN (40 - 1))) ((87 + (40 * u)) + (40 - 1)) s) (81 + u)), .int (nI (81 + u)), .ref (ad 501)] I J A (va_up B 501 (va_up (va_up (shf (B 501) u 39) (81 + u) (lN (40 - 1))) ((87 + (40 * u)) + (40 - 1)) s)) 0 0
          rw [va_up_ne _ _ (show 81 + u ≠ (87 + (40 * u)) + (40 - 1) from by omega)]
          rw [va_up_self]
          refine S_n g 2 (pc' := 113) (lv' := [(0, .ref (ad 500)), (1, .int (nI u)), (2, .long s)]) (st' := [.long ((lN (40 - 1)) + (lN 1)), .int (nI (81 + u)), .ref (ad 501)]) rfl ?_
          rw [lN_add (40 - 1) 1]
          refine S_lastN g (i := 501) (e := 81 + u) (by decide) rfl (show 81 + u < 621 from by omega) (show (621 : Nat) < 2 ^ 31 from by decide) rfl ?_
          rw [up2_r1 (i := 501)]
          exact rtV rt rfl rfl (by unfold recvF; rw [if_pos hn9]; exact eqP_rf)
        · skip
          refine S_n g 1 (pc' := 27) (lv' := [(0, .ref (ad 500)), (1, .int (nI u)), (2, .long s), (4, .int (nI k))]) (st' := [.ref (ad 500)]) rfl ?_
          refine S_getR g (i := 500) (c := 9) (k := 0) (j := 501) (by decide) (by decide) rfl rfl rfl fl_X9_7 rfl ?_
          refine S_n g 4 (pc' := 36) (lv' := [(0, .ref (ad 500)), (1, .int (nI u)), (2, .long s), (4, .int (nI k))]) (st' := [.int ((nI 40) * (nI u)), .int (nI 87), .ref (ad 501)]) rfl ?_
          rw [pk_mul 40 u]
          refine S_n g 1 (pc' := 37) (lv' := [(0, .ref (ad 500)), (1, .int (nI u)), (2, .long s), (4, .int (nI k))]) (st' := [.int ((nI 87) + (nI (40 * u))), .ref (ad 501)]) rfl ?_
          rw [nI_add 87 (40 * u)]
          refine S_n g 2 (pc' := 40) (lv' := [(0, .ref (ad 500)), (1, .int (nI u)), (2, .long s), (4, .int (nI k))]) (st' := [.int ((nI (87 + (40 * u))) + (nI k)), .ref (ad 501)]) rfl ?_
          rw [nI_add (87 + (40 * u)) k]
          refine S_n g 1 (pc' := 41) (lv' := [(0, .ref (ad 500)), (1, .int (nI u)), (2, .long s), (4, .int (nI k))]) (st' := [.ref (ad 500), .int (nI ((87 + (40 * u)) + k)), .ref (ad 501)]) rfl ?_
          refine S_getR g (i := 500) (c := 9) (k := 0) (j := 501) (by decide) (by decide) rfl rfl rfl fl_X9_7 rfl ?_
          refine S_n g 4 (pc' := 50) (lv' := [(0, .ref (ad 500)), (1, .int (nI u)), (2, .long s), (4, .int (nI k))]) (st' := [.int ((nI 40) * (nI u)), .int (nI 87), .ref (ad 501), .int (nI ((87 + (40 * u)) + k)), .ref (ad 501)]) rfl ?_
          rw [pk_mul 40 u]
          refine S_n g 1 (pc' := 51) (lv' := [(0, .ref (ad 500)), (1, .int (nI u)), (2, .long s), (4, .int (nI k))]) (st' := [.int ((nI 87) + (nI (40 * u))), .ref (ad 501), .int (nI ((87 + (40 * u)) + k)), .ref (ad 501)]) rfl ?_
          rw [nI_add 87 (40 * u)]
          refine S_n g 2 (pc' := 54) (lv' := [(0, .ref (ad 500)), (1, .int (nI u)), (2, .long s), (4, .int (nI k))]) (st' := [.int ((nI (87 + (40 * u))) + (nI k)), .ref (ad 501), .int (nI ((87 + (40 * u)) + k)), .ref (ad 501)]) rfl ?_
          rw [nI_add (87 + (40 * u)) k]
          refine S_n g 2 (pc' := 56) (lv' := [(0, .ref (ad 500)), (1, .int (nI u)), (2, .long s), (4, .int (nI k))]) (st' := [.int ((nI ((87 + (40 * u)) + k)) + (nI 1)), .ref (ad 501), .int (nI ((87 + (40 * u)) + k)), .ref (ad 501)]) rfl ?_
          rw [nI_add ((87 + (40 * u)) + k) 1]
          refine S_laldN g (i := 501) (e := ((87 + (40 * u)) + k) + 1) (by decide) rfl (show ((87 + (40 * u)) + k) + 1 < 621 from by omega) (show (621 : Nat) < 2 ^ 31 from by decide) rfl ?_
          show Sim X (YR ad) 57 [(0, .ref (ad 500)), (1, .int (nI u)), (2, .long s), (4, .int (nI k))] [.long (shf (B 501) u k (((87 + (40 * u)) + k) + 1)), .int (nI ((87 + (40 * u)) + k)), .ref (ad 501)] I J A (va_up B 501 (shf (B 501) u k)) 0 0
          refine S_lastN g (i := 501) (e := (87 + (40 * u)) + k) (by decide) rfl (show (87 + (40 * u)) + k < 621 from by omega) (show (621 : Nat) < 2 ^ 31 from by decide) rfl ?_
          rw [up2_r1 (i := 501)]
          refine S_n g 1 (pc' := 61) (lv' := [(0, .ref (ad 500)), (1, .int (nI u)), (2, .long s), (4, .int ((nI k) + nI 1))]) (st' := []) rfl ?_
          rw [nI_add k 1]
          refine S_n g 1 (pc' := 19) (lv' := [(0, .ref (ad 500)), (1, .int (nI u)), (2, .long s), (4, .int (nI (k + 1)))]) (st' := []) rfl ?_
          rw [shf_s]
          exact lp (39 - (k + 1)) (by omega) (k + 1) rfl (by omega)
    have h0 := lp _ 0 rfl (by omega)
    rw [shf_0, va_id] at h0
    exact h0

/-- the first of qn pending sums leaves: up to place k -/
def deq (m : Nat → Int64) (qn k : Nat) : Nat → Int64 := fun j => if j = 327 then lN (qn - 1) else if 328 ≤ j ∧ j < 328 + k then m (j + 1) else m j
theorem deq_327 {m : Nat → Int64} {qn k : Nat} : deq m qn k 327 = lN (qn - 1) := by unfold deq; rw [if_pos rfl]
theorem deq_ne {m : Nat → Int64} {qn k j : Nat} (h : j ≠ 327) (h2 : j < 328 ∨ 328 + k ≤ j) : deq m qn k j = m j := by unfold deq; rw [if_neg h, if_neg (by omega)]
theorem deq_0 {m : Nat → Int64} {qn : Nat} : va_up m 327 (lN (qn - 1)) = deq m qn 0 := by
  funext j
  unfold deq
  by_cases h : j = 327
  · subst h; rw [va_up_self, if_pos rfl]
  · rw [va_up_ne _ _ h, if_neg h, if_neg (by omega)]
theorem deq_s {m : Nat → Int64} {qn k : Nat} : va_up (deq m qn k) (328 + k) (deq m qn k (328 + k + 1)) = deq m qn (k + 1) := by
  funext j
  by_cases e : j = 328 + k
  · subst e
    rw [va_up_self, deq_ne (by omega) (by omega)]
    unfold deq
    rw [if_neg (by omega), if_pos (by omega)]
  · rw [va_up_ne _ _ e]
    unfold deq
    by_cases h1 : j = 327
    · rw [if_pos h1, if_pos h1]
    · rw [if_neg h1, if_neg h1]
      by_cases h2 : 328 ≤ j ∧ j < 328 + k
      · rw [if_pos h2, if_pos (by omega)]
      · rw [if_neg h2, if_neg (by omega)]
/-- the first pending sum has come to the history -/
def mov (qn hn : Nat) (m : Nat → Int64) : Nat → Int64 := va_up (va_up (deq m qn (qn - 1)) (429 + hn) (m 328)) 428 (lN (hn + 1))
theorem mov_lo {qn hn : Nat} {m : Nat → Int64} {j : Nat} (h : j < 327) : mov qn hn m j = m j := by unfold mov; rw [va_up_ne _ _ (by omega), va_up_ne _ _ (by omega), deq_ne (by omega) (by omega)]
/-- who of the first u users is in rc receives s -/
def sendL (m : Nat → Int64) (ln : Nat → Nat) (rc : Int32) (s : Int64) : Nat → (Nat → Int64)
  | 0 => m
  | u + 1 => if ti rc u = true then recvF (sendL m ln rc s u) u (ln u) s else sendL m ln rc s u
theorem sendL_keep {m : Nat → Int64} {ln : Nat → Nat} (hl : ∀ u, u < 6 → ln u ≤ 40) {rc : Int32} {s : Int64} {j : Nat} : ∀ u, u ≤ 6 → j < 81 ∨ (81 + u ≤ j ∧ j < 87) ∨ 87 + 40 * u ≤ j → sendL m ln rc s u j = m j
  | 0, _, _ => rfl
  | u + 1, hu, h => by
    unfold sendL
    split
    · rw [recvF_keep (hl u (by omega)) (by omega) (by omega)]
      exact sendL_keep hl u (by omega) (by omega)
    · exact sendL_keep hl u (by omega) (by omega)
def o_send (nu qn hn : Nat) (ln : Nat → Nat) (m : Nat → Int64) (x : Int32) : Int32 × (Nat → Int64) :=
  if isIx x 64 = true then (if qn = 0 then (-nI 102, m) else if hn = 100 then (-nI 103, m) else (preS (mov qn hn m) nu &&& (x ^^^ -nI 1), sendL (mov qn hn m) ln (preS (mov qn hn m) nu &&& (x ^^^ -nI 1)) (m 328) nu)) else (-nI 101, m)

set_option maxRecDepth 100000 in
set_option maxHeartbeats 4000000 in
theorem sp_send (ad : Nat → Nat) (I : FI) (J : FJ) (A : FI) (B : FJ) (x : Int32) (nf nu nc qn hn : Nat) (hm : Dm (B 501) nf nu nc) (hQ : B 501 327 = lN qn) (hq : qn ≤ 100) (hH : B 501 428 = lN hn) (hh : hn ≤ 100) (ln : Nat → Nat) (hL : ∀ u, u < 6 → B 501 (81 + u) = lN (ln u)) (hl : ∀ u, u < 6 → ln u ≤ 40) : Spec M_X9_send [.ref (ad 500), .int x] (YR ad) I J A B (eqP (some (.int (o_send nu qn hn ln (B 501) x).1)) (YR ad) I J A (va_up B 501 (o_send nu qn hn ln (B 501) x).2)) := by
  obtain ⟨hF, hU, hC, h1, h2, h3, h4, h5⟩ := hm
  refine Spec_of (by decide) tk_X9_send (Nat.le_of_ble_eq_true rfl) (fun X g rt => ?_)
  show Sim X (YR ad) 0 [(0, .ref (ad 500)), (1, .int x)] [] I J A B 0 0
  refine S_n g 3 (pc' := 3) (lv' := [(0, .ref (ad 500)), (1, .int x)]) (st' := [.long (lN 0), .long x.toInt64]) rfl ?_
  refine S_ldc2 g kc_X9_135 rfl ?_
  refine S_cS g (As := [.long x.toInt64, .long (lN 0), .long (lN 63)]) (st := []) (sp_in (YR ad) I J A B x.toInt64 (lN 0) (lN 63)) mw_X9_in lk_X9_63 ⟨Nat.le_of_ble_eq_true rfl, Nat.le_of_ble_eq_true rfl⟩ rfl (Nat.le_of_ble_eq_true rfl) ⟨Nat.le_of_ble_eq_true rfl, Nat.le_of_ble_eq_true rfl⟩ rfl ?_
  show Sim X (YR ad) 9 [(0, .ref (ad 500)), (1, .int x)] [.int (bI (inL x.toInt64 (lN 0) (lN 63)))] I J A B 0 0
  refine S_steq (st' := [.int (bI (isIx x 64))]) (by rw [(show bI (inL x.toInt64 (lN 0) (lN 63)) = bI (isIx x 64) from by rw [in_ix2 (by decide)]).symm]) ?_
  refine S_ifB_ne g (tgt := 15) rfl (by decide) (fun qz9 => ?_) (fun qz9 => ?_)
  · skip
    refine S_n g 1 (pc' := 16) (lv' := [(0, .ref (ad 500)), (1, .int x)]) (st' := [.ref (ad 500)]) rfl ?_
    refine S_getR g (i := 500) (c := 9) (k := 0) (j := 501) (by decide) (by decide) rfl rfl rfl fl_X9_7 rfl ?_
    refine S_n g 1 (pc' := 22) (lv' := [(0, .ref (ad 500)), (1, .int x)]) (st' := [.int (nI 327), .ref (ad 501)]) rfl ?_
    refine S_laldN g (i := 501) (e := 327) (by decide) rfl (show 327 < 621 from by omega) (show (621 : Nat) < 2 ^ 31 from by decide) rfl ?_
    rw [hQ]
    refine S_n g 1 (pc' := 24) (lv' := [(0, .ref (ad 500)), (1, .int x)]) (st' := [.long (lN 0), .long (lN qn)]) rfl ?_
    refine S_lcN_ne g (tgt := 31) (by omega) (by omega) rfl rfl (by decide) (fun qz24 => ?_) (fun qz24 => ?_)
    · skip
      refine S_n g 1 (pc' := 32) (lv' := [(0, .ref (ad 500)), (1, .int x)]) (st' := [.ref (ad 500)]) rfl ?_
      refine S_getR g (i := 500) (c := 9) (k := 0) (j := 501) (by decide) (by decide) rfl rfl rfl fl_X9_7 rfl ?_
      refine S_n g 1 (pc' := 38) (lv' := [(0, .ref (ad 500)), (1, .int x)]) (st' := [.int (nI 428), .ref (ad 501)]) rfl ?_
      refine S_laldN g (i := 501) (e := 428) (by decide) rfl (show 428 < 621 from by omega) (show (621 : Nat) < 2 ^ 31 from by decide) rfl ?_
      rw [hH]
      refine S_ldc2 g kc_X9_130 rfl ?_
      refine S_lcN_ne g (tgt := 49) (by omega) (by omega) rfl rfl (by decide) (fun qz42 => ?_) (fun qz42 => ?_)
      · skip
        refine S_n g 1 (pc' := 50) (lv' := [(0, .ref (ad 500)), (1, .int x)]) (st' := [.ref (ad 500)]) rfl ?_
        refine S_getR g (i := 500) (c := 9) (k := 0) (j := 501) (by decide) (by decide) rfl rfl rfl fl_X9_7 rfl ?_
        refine S_n g 1 (pc' := 56) (lv' := [(0, .ref (ad 500)), (1, .int x)]) (st' := [.int (nI 328), .ref (ad 501)]) rfl ?_
        refine S_laldN g (i := 501) (e := 328) (by decide) rfl (show 328 < 621 from by omega) (show (621 : Nat) < 2 ^ 31 from by decide) rfl ?_
        refine S_n g 2 (pc' := 59) (lv' := [(0, .ref (ad 500)), (1, .int x), (2, .long (B 501 328))]) (st' := [.ref (ad 500)]) rfl ?_
        refine S_getR g (i := 500) (c := 9) (k := 0) (j := 501) (by decide) (by decide) rfl rfl rfl fl_X9_7 rfl ?_
        refine S_n g 2 (pc' := 66) (lv' := [(0, .ref (ad 500)), (1, .int x), (2, .long (B 501 328))]) (st' := [.int (nI 327), .ref (ad 501), .int (nI 327), .ref (ad 501)]) rfl ?_
        refine S_laldN g (i := 501) (e := 327) (by decide) rfl (show 327 < 621 from by omega) (show (621 : Nat) < 2 ^ 31 from by decide) rfl ?_
        rw [hQ]
        refine S_n g 2 (pc' := 69) (lv' := [(0, .ref (ad 500)), (1, .int x), (2, .long (B 501 328))]) (st' := [.long ((lN qn) - (lN 1)), .int (nI 327), .ref (ad 501)]) rfl ?_
        rw [lN_sub (a := qn) (b := 1) (by omega)]
        refine S_lastN g (i := 501) (e := 327) (by decide) rfl (show 327 < 621 from by omega) (show (621 : Nat) < 2 ^ 31 from by decide) rfl ?_
        show Sim X (YR ad) 70 [(0, .ref (ad 500)), (1, .int x), (2, .long (B 501 328))] [] I J A (va_up B 501 (va_up (B 501) 327 (lN (qn - 1)))) 0 0
        refine S_n g 2 (pc' := 73) (lv' := [(0, .ref (ad 500)), (1, .int x), (2, .long (B 501 328)), (4, .int (nI 0))]) (st' := []) rfl ?_
        rw [deq_0]
        have lp : ∀ (nn : Nat) (k : Nat), qn - 1 - k = nn → (k ≤ qn - 1) → Sim X (YR ad) 73 [(0, .ref (ad 500)), (1, .int x), (2, .long (B 501 328)), (4, .int (nI k))] [] I J A (va_up B 501 (deq (B 501) qn k)) 0 0 := by
          intro nn
          induction nn using Nat.strongRecOn with
          | ind nn ih =>
            intro k hmz hk
            have lp := ih
            refine S_n g 2 (pc' := 76) (lv' := [(0, .ref (ad 500)), (1, .int x), (2, .long (B 501 328)), (4, .int (nI k))]) (st' := [.long (nI k).toInt64]) rfl ?_
            rw [nI_l (n := k) (by omega)]
            refine S_n g 1 (pc' := 77) (lv' := [(0, .ref (ad 500)), (1, .int x), (2, .long (B 501 328)), (4, .int (nI k))]) (st' := [.ref (ad 500), .long (lN k)]) rfl ?_
            refine S_getR g (i := 500) (c := 9) (k := 0) (j := 501) (by decide) (by decide) rfl rfl rfl fl_X9_7 rfl ?_
            refine S_n g 1 (pc' := 83) (lv' := [(0, .ref (ad 500)), (1, .int x), (2, .long (B 501 328)), (4, .int (nI k))]) (st' := [.int (nI 327), .ref (ad 501), .long (lN k)]) rfl ?_
            refine S_laldN g (i := 501) (e := 327) (by decide) rfl (show 327 < 621 from by omega) (show (621 : Nat) < 2 ^ 31 from by decide) rfl ?_
            show Sim X (YR ad) 84 [(0, .ref (ad 500)), (1, .int x), (2, .long (B 501 328)), (4, .int (nI k))] [.long (deq (B 501) qn k 327), .long (lN k)] I J A (va_up B 501 (deq (B 501) qn k)) 0 0
            rw [deq_327]
            refine S_lcN_ge g (tgt := 118) (by omega) (by omega) rfl rfl (by decide) (fun qz84 => ?_) (fun qz84 => ?_)
            · skip
              have hk9 : k = qn - 1 := by omega
              rw [hk9]
              refine S_keep (lv' := [(0, .ref (ad 500)), (1, .int x), (2, .long (B 501 328))]) [0, 1, 2] rfl ?_
              refine S_n g 1 (pc' := 119) (lv' := [(0, .ref (ad 500)), (1, .int x), (2, .long (B 501 328))]) (st' := [.ref (ad 500)]) rfl ?_
              refine S_getR g (i := 500) (c := 9) (k := 0) (j := 501) (by decide) (by decide) rfl rfl rfl fl_X9_7 rfl ?_
              refine S_n g 2 (pc' := 126) (lv' := [(0, .ref (ad 500)), (1, .int x), (2, .long (B 501 328))]) (st' := [.ref (ad 500), .int (nI 429), .ref (ad 501)]) rfl ?_
              refine S_getR g (i := 500) (c := 9) (k := 0) (j := 501) (by decide) (by decide) rfl rfl rfl fl_X9_7 rfl ?_
              refine S_n g 1 (pc' := 132) (lv' := [(0, .ref (ad 500)), (1, .int x), (2, .long (B 501 328))]) (st' := [.int (nI 428), .ref (ad 501), .int (nI 429), .ref (ad 501)]) rfl ?_
              refine S_laldN g (i := 501) (e := 428) (by decide) rfl (show 428 < 621 from by omega) (show (621 : Nat) < 2 ^ 31 from by decide) rfl ?_
              show Sim X (YR ad) 133 [(0, .ref (ad 500)), (1, .int x), (2, .long (B 501 328))] [.long (deq (B 501) qn (qn - 1) 428), .int (nI 429), .ref (ad 501)] I J A (va_up B 501 (deq (B 501) qn (qn - 1))) 0 0
              rw [deq_ne (by decide) (by omega), hH]
              refine S_n g 1 (pc' := 134) (lv' := [(0, .ref (ad 500)), (1, .int x), (2, .long (B 501 328))]) (st' := [.int (lN hn).toInt32, .int (nI 429), .ref (ad 501)]) rfl ?_
              rw [lN_i hn]
              refine S_n g 1 (pc' := 135) (lv' := [(0, .ref (ad 500)), (1, .int x), (2, .long (B 501 328))]) (st' := [.int ((nI 429) + (nI hn)), .ref (ad 501)]) rfl ?_
              rw [nI_add 429 hn]
              refine S_n g 1 (pc' := 136) (lv' := [(0, .ref (ad 500)), (1, .int x), (2, .long (B 501 328))]) (st' := [.long (B 501 328), .int (nI (429 + hn)), .ref (ad 501)]) rfl ?_
              refine S_lastN g (i := 501) (e := 429 + hn) (by decide) rfl (show 429 + hn < 621 from by omega) (show (621 : Nat) < 2 ^ 31 from by decide) rfl ?_
              rw [up2_r1 (i := 501)]
              refine S_n g 1 (pc' := 138) (lv' := [(0, .ref (ad 500)), (1, .int x), (2, .long (B 501 328))]) (st' := [.ref (ad 500)]) rfl ?_
              refine S_getR g (i := 500) (c := 9) (k := 0) (j := 501) (by decide) (by decide) rfl rfl rfl fl_X9_7 rfl ?_
              refine S_n g 2 (pc' := 145) (lv' := [(0, .ref (ad 500)), (1, .int x), (2, .long (B 501 328))]) (st' := [.int (nI 428), .ref (ad 501), .int (nI 428), .ref (ad 501)]) rfl ?_
              refine S_laldN g (i := 501) (e := 428) (by decide) rfl (show 428 < 621 from by omega) (show (621 : Nat) < 2 ^ 31 from by decide) rfl ?_
              show Sim X (YR ad) 146 [(0, .ref (ad 500)), (1, .int x), (2, .long (B 501 328))] [.long ((va_up (deq (B 501) qn (qn - 1)) (429 + hn) (B 501 328)) 428), .int (nI 428), .ref (ad 501)] I J A (va_up B 501 (va_up (deq (B 501) qn (qn - 1)) (429 + hn) (B 501 328))) 0 0
              rw [va_up_ne _ _ (show 428 ≠ 429 + hn from by omega)]
              rw [deq_ne (by decide) (by omega), hH]
              refine S_n g 2 (pc' := 148) (lv' := [(0, .ref (ad 500)), (1, .int x), (2, .long (B 501 328))]) (st' := [.long ((lN hn) + (lN 1)), .int (nI 428), .ref (ad 501)]) rfl ?_
              rw [lN_add hn 1]
              refine S_lastN g (i := 501) (e := 428) (by decide) rfl (show 428 < 621 from by omega) (show (621 : Nat) < 2 ^ 31 from by decide) rfl ?_
              rw [up2_r1 (i := 501)]
              refine S_n g 1 (pc' := 150) (lv' := [(0, .ref (ad 500)), (1, .int x), (2, .long (B 501 328))]) (st' := [.ref (ad 500)]) rfl ?_
              show Sim X (YR ad) 150 [(0, .ref (ad 500)), (1, .int x), (2, .long (B 501 328))] [.ref (ad 500)] I J A (va_up B 501 (mov qn hn (B 501))) 0 0
              refine S_cV g (i := 500) (As := []) (st := []) (sp_presents ad I J A (va_up B 501 (mov qn hn (B 501))) nu ((mov_lo (by decide)).trans hU) (by omega)) mw_X9_presents lk_X9_123 ⟨Nat.le_of_ble_eq_true rfl, Nat.le_of_ble_eq_true rfl⟩ (by decide) (by decide) rfl rfl (Nat.le_of_ble_eq_true rfl) ⟨Nat.le_of_ble_eq_true rfl, Nat.le_of_ble_eq_true rfl⟩ rfl ?_
              show Sim X (YR ad) 153 [(0, .ref (ad 500)), (1, .int x), (2, .long (B 501 328))] [.int (preS (mov qn hn (B 501)) nu)] I J A (va_up B 501 (mov qn hn (B 501))) 0 0
              refine S_n g 7 (pc' := 162) (lv' := [(0, .ref (ad 500)), (1, .int x), (2, .long (B 501 328)), (4, .int ((preS (mov qn hn (B 501)) nu) &&& (x ^^^ (-nI 1)))), (5, .int (nI 0))]) (st' := []) rfl ?_
              obtain ⟨rc, hrc⟩ : ∃ rc, rc = preS (mov qn hn (B 501)) nu &&& (x ^^^ -nI 1) := ⟨_, rfl⟩
              rw [← hrc]
              have lp2 : ∀ (nn : Nat) (u : Nat), nu - u = nn → (u ≤ nu) → Sim X (YR ad) 162 [(0, .ref (ad 500)), (1, .int x), (2, .long (B 501 328)), (4, .int rc), (5, .int (nI u))] [] I J A (va_up B 501 (sendL (mov qn hn (B 501)) ln rc (B 501 328) u)) 0 0 := by
                intro nn
                induction nn using Nat.strongRecOn with
                | ind nn ih =>
                  intro u hmz hu
                  have lp2 := ih
                  refine S_n g 2 (pc' := 165) (lv' := [(0, .ref (ad 500)), (1, .int x), (2, .long (B 501 328)), (4, .int rc), (5, .int (nI u))]) (st' := [.ref (ad 500), .int (nI u)]) rfl ?_
                  refine S_cV g (i := 500) (As := []) (st := [.int (nI u)]) (sp_users ad I J A (va_up B 501 (sendL (mov qn hn (B 501)) ln rc (B 501 328) u)) nu ((sendL_keep hl u (by omega) (by omega)).trans ((mov_lo (by decide)).trans hU))) mw_X9_users lk_X9_71 ⟨Nat.le_of_ble_eq_true rfl, Nat.le_of_ble_eq_true rfl⟩ (by decide) (by decide) rfl rfl (Nat.le_of_ble_eq_true rfl) ⟨Nat.le_of_ble_eq_true rfl, Nat.le_of_ble_eq_true rfl⟩ rfl ?_
                  show Sim X (YR ad) 168 [(0, .ref (ad 500)), (1, .int x), (2, .long (B 501 328)), (4, .int rc), (5, .int (nI u))] [.int (nI nu), .int (nI u)] I J A (va_up B 501 (sendL (mov qn hn (B 501)) ln rc (B 501 328) u)) 0 0
                  refine S_icN_ge g (tgt := 195) (by omega) (by omega) rfl (by decide) (fun qz168 => ?_) (fun qz168 => ?_)
                  · skip
                    have hu9 : u = nu := by omega
                    refine S_n g 1 (pc' := 197) (lv' := [(0, .ref (ad 500)), (1, .int x), (2, .long (B 501 328)), (4, .int rc), (5, .int (nI u))]) (st' := [.int rc]) rfl ?_
                    exact rtI rt rfl rfl (eq_o (by simp only [o_send, qz9, if_true, show ¬ qn = 0 from by omega, if_false, show ¬ hn = 100 from by omega, ← hrc, hu9]) rfl)
                  · skip
                    refine S_n g 5 (pc' := 178) (lv' := [(0, .ref (ad 500)), (1, .int x), (2, .long (B 501 328)), (4, .int rc), (5, .int (nI u))]) (st' := [.int ((rc >>> ((nI u) &&& 31)) &&& (nI 1))]) rfl ?_
                    refine S_steq (st' := [.int (nI (ti rc u).toNat)]) (by rw [(show (rc >>> ((nI u) &&& 31)) &&& (nI 1) = nI (ti rc u).toNat from bit32 (by omega) rc).symm]) ?_
                    have hb1 : (ti rc u).toNat ≤ 1 := Bool.toNat_le _
                    refine S_n g 1 (pc' := 179) (lv' := [(0, .ref (ad 500)), (1, .int x), (2, .long (B 501 328)), (4, .int rc), (5, .int (nI u))]) (st' := [.int (nI 1), .int (nI (ti rc u).toNat)]) rfl ?_
                    refine S_icN_ne g (tgt := 189) (by omega) (by omega) rfl (by decide) (fun qz179 => ?_) (fun qz179 => ?_)
                    · skip
                      have hs : sendL (mov qn hn (B 501)) ln rc (B 501 328) (u + 1) = sendL (mov qn hn (B 501)) ln rc (B 501 328) u := by rw [sendL, if_neg (by cases h : ti rc u <;> simp_all)]
                      rw [← hs]
                      refine S_n g 1 (pc' := 192) (lv' := [(0, .ref (ad 500)), (1, .int x), (2, .long (B 501 328)), (4, .int rc), (5, .int ((nI u) + nI 1))]) (st' := []) rfl ?_
                      rw [nI_add u 1]
                      refine S_n g 1 (pc' := 162) (lv' := [(0, .ref (ad 500)), (1, .int x), (2, .long (B 501 328)), (4, .int rc), (5, .int (nI (u + 1)))]) (st' := []) rfl ?_
                      exact lp2 (nu - (u + 1)) (by omega) (u + 1) rfl (by omega)
                    · skip
                      refine S_n g 3 (pc' := 186) (lv' := [(0, .ref (ad 500)), (1, .int x), (2, .long (B 501 328)), (4, .int rc), (5, .int (nI u))]) (st' := [.long (B 501 328), .int (nI u), .ref (ad 500)]) rfl ?_
                      refine S_cV g (i := 500) (As := [.int (nI u), .long (B 501 328)]) (st := []) (sp_receives ad I J A (va_up B 501 (sendL (mov qn hn (B 501)) ln rc (B 501 328) u)) (B 501 328) u (ln u) (by omega) ((sendL_keep hl u (by omega) (by omega)).trans ((mov_lo (by omega)).trans (hL u (by omega)))) (hl u (by omega))) mw_X9_receives lk_X9_137 ⟨Nat.le_of_ble_eq_true rfl, Nat.le_of_ble_eq_true rfl⟩ (by decide) (by decide) rfl rfl (Nat.le_of_ble_eq_true rfl) ⟨Nat.le_of_ble_eq_true rfl, Nat.le_of_ble_eq_true rfl⟩ rfl ?_
                      rw [va_up1, va_up_self]
                      have hs : sendL (mov qn hn (B 501)) ln rc (B 501 328) (u + 1) = recvF (sendL (mov qn hn (B 501)) ln rc (B 501 328) u) u (ln u) (B 501 328) := by rw [sendL, if_pos (by cases h : ti rc u <;> simp_all)]
                      rw [← hs]
                      show Sim X (YR ad) 189 [(0, .ref (ad 500)), (1, .int x), (2, .long (B 501 328)), (4, .int rc), (5, .int (nI u))] [] I J A (va_up B 501 (sendL (mov qn hn (B 501)) ln rc (B 501 328) (u + 1))) 0 0
                      refine S_n g 1 (pc' := 192) (lv' := [(0, .ref (ad 500)), (1, .int x), (2, .long (B 501 328)), (4, .int rc), (5, .int ((nI u) + nI 1))]) (st' := []) rfl ?_
                      rw [nI_add u 1]
                      refine S_n g 1 (pc' := 162) (lv' := [(0, .ref (ad 500)), (1, .int x), (2, .long (B 501 328)), (4, .int rc), (5, .int (nI (u + 1)))]) (st' := []) rfl ?_
                      exact lp2 (nu - (u + 1)) (by omega) (u + 1) rfl (by omega)
              exact lp2 _ 0 rfl (by omega)
            · skip
              refine S_n g 1 (pc' := 89) (lv' := [(0, .ref (ad 500)), (1, .int x), (2, .long (B 501 328)), (4, .int (nI k))]) (st' := [.ref (ad 500)]) rfl ?_
              refine S_getR g (i := 500) (c := 9) (k := 0) (j := 501) (by decide) (by decide) rfl rfl rfl fl_X9_7 rfl ?_
              refine S_n g 3 (pc' := 98) (lv' := [(0, .ref (ad 500)), (1, .int x), (2, .long (B 501 328)), (4, .int (nI k))]) (st' := [.int ((nI 328) + (nI k)), .ref (ad 501)]) rfl ?_
              rw [nI_add 328 k]
              refine S_n g 1 (pc' := 99) (lv' := [(0, .ref (ad 500)), (1, .int x), (2, .long (B 501 328)), (4, .int (nI k))]) (st' := [.ref (ad 500), .int (nI (328 + k)), .ref (ad 501)]) rfl ?_
              refine S_getR g (i := 500) (c := 9) (k := 0) (j := 501) (by decide) (by decide) rfl rfl rfl fl_X9_7 rfl ?_
              refine S_n g 3 (pc' := 108) (lv' := [(0, .ref (ad 500)), (1, .int x), (2, .long (B 501 328)), (4, .int (nI k))]) (st' := [.int ((nI 328) + (nI k)), .ref (ad 501), .int (nI (328 + k)), .ref (ad 501)]) rfl ?_
              rw [nI_add 328 k]
              refine S_n g 2 (pc' := 110) (lv' := [(0, .ref (ad 500)), (1, .int x), (2, .long (B 501 328)), (4, .int (nI k))]) (st' := [.int ((nI (328 + k)) + (nI 1)), .ref (ad 501), .int (nI (328 + k)), .ref (ad 501)]) rfl ?_
              rw [nI_add (328 + k) 1]
              refine S_laldN g (i := 501) (e := (328 + k) + 1) (by decide) rfl (show (328 + k) + 1 < 621 from by omega) (show (621 : Nat) < 2 ^ 31 from by decide) rfl ?_
              show Sim X (YR ad) 111 [(0, .ref (ad 500)), (1, .int x), (2, .long (B 501 328)), (4, .int (nI k))] [.long (deq (B 501) qn k ((328 + k) + 1)), .int (nI (328 + k)), .ref (ad 501)] I J A (va_up B 501 (deq (B 501) qn k)) 0 0
              refine S_lastN g (i := 501) (e := 328 + k) (by decide) rfl (show 328 + k < 621 from by omega) (show (621 : Nat) < 2 ^ 31 from by decide) rfl ?_
              rw [up2_r1 (i := 501)]
              refine S_n g 1 (pc' := 115) (lv' := [(0, .ref (ad 500)), (1, .int x), (2, .long (B 501 328)), (4, .int ((nI k) + nI 1))]) (st' := []) rfl ?_
              rw [nI_add k 1]
              refine S_n g 1 (pc' := 73) (lv' := [(0, .ref (ad 500)), (1, .int x), (2, .long (B 501 328)), (4, .int (nI (k + 1)))]) (st' := []) rfl ?_
              rw [deq_s]
              exact lp (qn - 1 - (k + 1)) (by omega) (k + 1) rfl (by omega)
        exact lp _ 0 rfl (by omega)
      · skip
        refine S_n g 1 (pc' := 48) (lv' := [(0, .ref (ad 500)), (1, .int x)]) (st' := [.int (-nI 103)]) rfl ?_
        exact rtI rt rfl rfl (eq_o (by simp [o_send, qz9, show ¬ qn = 0 from by omega, show hn = 100 from by omega]) (va_id _ _).symm)
    · skip
      refine S_n g 1 (pc' := 30) (lv' := [(0, .ref (ad 500)), (1, .int x)]) (st' := [.int (-nI 102)]) rfl ?_
      exact rtI rt rfl rfl (eq_o (by simp [o_send, qz9, show qn = 0 from by omega]) (va_id _ _).symm)
  · skip
    refine S_n g 1 (pc' := 14) (lv' := [(0, .ref (ad 500)), (1, .int x)]) (st' := [.int (-nI 101)]) rfl ?_
    exact rtI rt rfl rfl (eq_o (by simp [o_send, qz9]) (va_id _ _).symm)
