/-! the reference, part 8: missing, known, user, decode, proof, need -/
/-- what the scratch cells of the linear algebra held is forgotten -/
def scr (I : FI) (J : FJ) (B : FJ) (I' : FI) (J' : FJ) (B' : FJ) : Prop := ∃ (r : Int32) (t f : Nat → Int64) (l q : Int64), I' = up2 I 500 9 r ∧ J' = up2 (up2 J 500 10 l) 500 11 q ∧ B' = va_up (va_up B 506 t) 507 f
theorem scr_rf (I : FI) (J : FJ) (B : FJ) : scr I J B I J B := ⟨_, _, _, _, _, (up2_id I 500 9).symm, by rw [up2_id, up2_id], by rw [va_id, va_id]⟩
theorem bb {B : FJ} {t f t2 f2 : Nat → Int64} : va_up (va_up (va_up (va_up B 506 t) 507 f) 506 t2) 507 f2 = va_up (va_up B 506 t2) 507 f2 := by
  rw [va_up2 (f := va_up B 506 t) (i := 506) (j := 507) (by decide), va_up1, va_up1]
theorem scr_tr {I I' I2 : FI} {J J' J2 B B' B2 : FJ} (h : scr I J B I' J' B') (h2 : scr I' J' B' I2 J2 B2) : scr I J B I2 J2 B2 := by
  obtain ⟨r, t, f, l, q, rfl, rfl, rfl⟩ := h
  obtain ⟨r2, t2, f2, l2, q2, rfl, rfl, rfl⟩ := h2
  exact ⟨r2, t2, f2, l2, q2, up2_c1, jj, bb⟩
/-- a value, and nothing else but scratch -/
def scP (v : Option Value) (Y : PS) (I : FI) (J : FJ) (A : FI) (B : FJ) : PO := fun v' Y' I' J' A' B' => v' = v ∧ Y' = Y ∧ A' = A ∧ scr I J B I' J' B'
/-- the rows of user u with n sums -/
def rowE (m : Nat → Int64) (u n : Nat) : EE := elL (m (63 + u)) (fun i => m (87 + 40 * u + i)) n
/-- pieces 12 f + j of which the user doesn't know them, j below k -/
def msE (E : EE) (f : Nat) : Nat → Int64
  | 0 => lN 0
  | j + 1 => msE E f j ||| (if knE E (12 * f + j) = true then lN 0 else b1 (12 * f + j))
def msF (m : Nat → Int64) (u n : Nat) : Int64 := if m (69 + u) = -lN 1 then lN 0 else msE (rowE m u n) (m (69 + u)).toInt.toNat 12
/-- how many pieces below k are known -/
def kct (E : EE) : Nat → Nat
  | 0 => 0
  | p + 1 => kct E p + (knE E p).toNat
theorem kct_le (E : EE) : ∀ k, kct E k ≤ k
  | 0 => Nat.le_refl 0
  | k + 1 => by
    have := kct_le E k
    have := Bool.toNat_le (knE E k)
    unfold kct
    omega
/-- what a user may want: nothing, or a file -/
def okW (m : Nat → Int64) (u nf : Nat) : Prop := m (69 + u) = -lN 1 ∨ ∃ f, f < nf ∧ m (69 + u) = lN f
theorem lN_m1 {f : Nat} (h : f < 100) : lN f ≠ -lN 1 := fun q => by
  have := congrArg Int64.toInt q
  rw [pk_lT (by omega)] at this
  have e : (-lN 1).toInt = -1 := by decide
  omega
theorem lN_nat' {f : Nat} (h : f < 100) : (lN f).toInt.toNat = f := by rw [pk_lT (by omega)]; omega

set_option maxRecDepth 100000 in
set_option maxHeartbeats 4000000 in
theorem sp_missing (ad : Nat → Nat) (I : FI) (J : FJ) (A : FI) (B : FJ) (u n nf : Nat) (hu : u < 6) (hL : B 501 (81 + u) = lN n) (hn : n ≤ 40) (hnf : nf ≤ 5) (hW : okW (B 501) u nf) : Spec M_X9_missing [.ref (ad 500), .int (nI u)] (YR ad) I J A B (scP (some (.long (msF (B 501) u n))) (YR ad) I J A B) := by
  refine Spec_of (by decide) tk_X9_missing (Nat.le_of_ble_eq_true rfl) (fun X g rt => ?_)
  show Sim X (YR ad) 0 [(0, .ref (ad 500)), (1, .int (nI u))] [] I J A B 0 0
  refine S_n g 1 (pc' := 1) (lv' := [(0, .ref (ad 500)), (1, .int (nI u))]) (st' := [.ref (ad 500)]) rfl ?_
  refine S_getR g (i := 500) (c := 9) (k := 0) (j := 501) (by decide) (by decide) rfl rfl rfl fl_X9_7 rfl ?_
  refine S_n g 3 (pc' := 8) (lv' := [(0, .ref (ad 500)), (1, .int (nI u))]) (st' := [.int ((nI 69) + (nI u)), .ref (ad 501)]) rfl ?_
  rw [nI_add 69 u]
  refine S_laldN g (i := 501) (e := 69 + u) (by decide) rfl (show 69 + u < 621 from by omega) (show (621 : Nat) < 2 ^ 31 from by decide) rfl ?_
  refine S_ldc2 g kc_X9_59 rfl ?_
  refine S_lc_ne g (tgt := 18) rfl rfl (by decide) (fun qz12 => ?_) (fun qz12 => ?_)
  · skip
    obtain ⟨fl, hfl, hWf⟩ := hW.resolve_left qz12
    refine S_n g 2 (pc' := 20) (lv' := [(0, .ref (ad 500)), (1, .int (nI u))]) (st' := [.int (nI u), .ref (ad 500)]) rfl ?_
    refine S_callV g (i := 500) (As := [.int (nI u)]) (st := []) (sp_looksAt ad I J A B u n hu hL hn) mw_X9_looksAt lk_X9_160 ⟨Nat.le_of_ble_eq_true rfl, Nat.le_of_ble_eq_true rfl⟩ (by decide) (by decide) rfl rfl (Nat.le_of_ble_eq_true rfl) ⟨Nat.le_of_ble_eq_true rfl, Nat.le_of_ble_eq_true rfl⟩ rfl (fun v' Y' I' J' A' B' hpo => ?_)
    obtain ⟨rfl, rfl, hqA, r, t, f, l, q0, hE, hqI, hqJ, hqB⟩ := hpo
    rw [hqA, hqI, hqJ, hqB]
    show Sim X (YR ad) 23 [(0, .ref (ad 500)), (1, .int (nI u))] [] (up2 I 500 9 (nI r)) (up2 (up2 J 500 10 l) 500 11 q0) A (va_up (va_up B 506 t) 507 f) 0 0
    refine S_n g 4 (pc' := 28) (lv' := [(0, .ref (ad 500)), (1, .int (nI u)), (2, .long (lN 0)), (4, .int (nI 0))]) (st' := []) rfl ?_
    have lp : ∀ (nn : Nat) (j : Nat) (lz : Int64) (qz : Int64), 12 - j = nn → (j ≤ 12) → Sim X (YR ad) 28 [(0, .ref (ad 500)), (1, .int (nI u)), (2, .long (msE (rowE (B 501) u n) fl j)), (4, .int (nI j))] [] (up2 I 500 9 (nI r)) (up2 (up2 J 500 10 lz) 500 11 qz) A (va_up (va_up B 506 t) 507 f) 0 0 := by
      intro nn
      induction nn using Nat.strongRecOn with
      | ind nn ih =>
        intro j lz qz hmz hj
        have lp := ih
        refine S_n g 2 (pc' := 32) (lv' := [(0, .ref (ad 500)), (1, .int (nI u)), (2, .long (msE (rowE (B 501) u n) fl j)), (4, .int (nI j))]) (st' := [.int (nI 12), .int (nI j)]) rfl ?_
        refine S_icN_ge g (tgt := 79) (by omega) (by omega) rfl (by decide) (fun qz32 => ?_) (fun qz32 => ?_)
        · skip
          have hj9 : j = 12 := by omega
          refine S_n g 1 (pc' := 80) (lv' := [(0, .ref (ad 500)), (1, .int (nI u)), (2, .long (msE (rowE (B 501) u n) fl j)), (4, .int (nI j))]) (st' := [.long (msE (rowE (B 501) u n) fl j)]) rfl ?_
          exact rtL rt rfl rfl (⟨by rw [hj9]; unfold msF; rw [if_neg qz12, hWf, lN_nat' (by omega)], rfl, rfl, _, _, _, _, _, rfl, rfl, rfl⟩)
        · skip
          refine S_n g 2 (pc' := 38) (lv' := [(0, .ref (ad 500)), (1, .int (nI u)), (2, .long (msE (rowE (B 501) u n) fl j)), (4, .int (nI j))]) (st' := [.ref (ad 500), .int (nI 12)]) rfl ?_
          refine S_getR g (i := 500) (c := 9) (k := 0) (j := 501) (by decide) (by decide) rfl rfl rfl fl_X9_7 rfl ?_
          refine S_n g 3 (pc' := 45) (lv' := [(0, .ref (ad 500)), (1, .int (nI u)), (2, .long (msE (rowE (B 501) u n) fl j)), (4, .int (nI j))]) (st' := [.int ((nI 69) + (nI u)), .ref (ad 501), .int (nI 12)]) rfl ?_
          rw [nI_add 69 u]
          refine S_laldN g (i := 501) (e := 69 + u) (by decide) rfl (show 69 + u < 621 from by omega) (show (621 : Nat) < 2 ^ 31 from by decide) rfl ?_
          show Sim X (YR ad) 46 [(0, .ref (ad 500)), (1, .int (nI u)), (2, .long (msE (rowE (B 501) u n) fl j)), (4, .int (nI j))] [.long (B 501 (69 + u)), .int (nI 12)] (up2 I 500 9 (nI r)) (up2 (up2 J 500 10 lz) 500 11 qz) A (va_up (va_up B 506 t) 507 f) 0 0
          rw [hWf]
          refine S_n g 1 (pc' := 47) (lv' := [(0, .ref (ad 500)), (1, .int (nI u)), (2, .long (msE (rowE (B 501) u n) fl j)), (4, .int (nI j))]) (st' := [.int (lN fl).toInt32, .int (nI 12)]) rfl ?_
          rw [lN_i fl]
          refine S_n g 1 (pc' := 48) (lv' := [(0, .ref (ad 500)), (1, .int (nI u)), (2, .long (msE (rowE (B 501) u n) fl j)), (4, .int (nI j))]) (st' := [.int ((nI 12) * (nI fl))]) rfl ?_
          rw [pk_mul 12 fl]
          refine S_n g 2 (pc' := 51) (lv' := [(0, .ref (ad 500)), (1, .int (nI u)), (2, .long (msE (rowE (B 501) u n) fl j)), (4, .int (nI j))]) (st' := [.int ((nI (12 * fl)) + (nI j))]) rfl ?_
          rw [nI_add (12 * fl) j]
          refine S_n g 4 (pc' := 57) (lv' := [(0, .ref (ad 500)), (1, .int (nI u)), (2, .long (msE (rowE (B 501) u n) fl j)), (4, .int (nI j)), (5, .int (nI ((12 * fl) + j)))]) (st' := [.int (nI ((12 * fl) + j)), .ref (ad 500), .long (msE (rowE (B 501) u n) fl j)]) rfl ?_
          refine S_callV g (i := 500) (As := [.int (nI ((12 * fl) + j))]) (st := [.long (msE (rowE (B 501) u n) fl j)]) (sp_knows ad I J A B (rowE (B 501) u n) r t f lz qz hE (12 * fl + j)) mw_X9_knows lk_X9_164 ⟨Nat.le_of_ble_eq_true rfl, Nat.le_of_ble_eq_true rfl⟩ (by decide) (by decide) rfl rfl (Nat.le_of_ble_eq_true rfl) ⟨Nat.le_of_ble_eq_true rfl, Nat.le_of_ble_eq_true rfl⟩ rfl (fun v' Y' I' J' A' B' hpo => ?_)
          obtain ⟨rfl, rfl, hqI2, hqA2, hqB2, lx2, hqJ2⟩ := hpo
          rw [hqI2, hqA2, hqB2, hqJ2]
          show Sim X (YR ad) 60 [(0, .ref (ad 500)), (1, .int (nI u)), (2, .long (msE (rowE (B 501) u n) fl j)), (4, .int (nI j)), (5, .int (nI ((12 * fl) + j)))] [.int (bI (knE (rowE (B 501) u n) (12 * fl + j))), .long (msE (rowE (B 501) u n) fl j)] (up2 I 500 9 (nI r)) (up2 (up2 J 500 10 lx2) 500 11 (knQ (rowE (B 501) u n) (12 * fl + j))) A (va_up (va_up B 506 t) 507 f) 0 0
          refine S_ifB_eq g (tgt := 67) rfl (by decide) (fun qz60 => ?_) (fun qz60 => ?_)
          · skip
            refine S_n g 5 (pc' := 73) (lv' := [(0, .ref (ad 500)), (1, .int (nI u)), (2, .long ((msE (rowE (B 501) u n) fl j) ||| ((lN 1) <<< ((nI ((12 * fl) + j)).toInt64 &&& 63)))), (4, .int (nI j)), (5, .int (nI ((12 * fl) + j)))]) (st' := []) rfl ?_
            refine S_lveq (lv' := [(0, .ref (ad 500)), (1, .int (nI u)), (2, .long (msE (rowE (B 501) u n) fl (j + 1))), (4, .int (nI j)), (5, .int (nI ((12 * fl) + j)))]) (by rw [(show (msE (rowE (B 501) u n) fl j) ||| ((lN 1) <<< ((nI ((12 * fl) + j)).toInt64 &&& 63)) = msE (rowE (B 501) u n) fl (j + 1) from by rw [msE, if_neg (by rw [qz60]; decide)]).symm]) ?_
            refine S_n g 1 (pc' := 76) (lv' := [(0, .ref (ad 500)), (1, .int (nI u)), (2, .long (msE (rowE (B 501) u n) fl (j + 1))), (4, .int ((nI j) + nI 1)), (5, .int (nI ((12 * fl) + j)))]) (st' := []) rfl ?_
            rw [nI_add j 1]
            refine S_n g 1 (pc' := 28) (lv' := [(0, .ref (ad 500)), (1, .int (nI u)), (2, .long (msE (rowE (B 501) u n) fl (j + 1))), (4, .int (nI (j + 1))), (5, .int (nI ((12 * fl) + j)))]) (st' := []) rfl ?_
            refine S_keep (lv' := [(0, .ref (ad 500)), (1, .int (nI u)), (2, .long (msE (rowE (B 501) u n) fl (j + 1))), (4, .int (nI (j + 1)))]) [0, 1, 2, 4] rfl ?_
            exact lp (12 - (j + 1)) (by omega) (j + 1) lx2 (knQ (rowE (B 501) u n) (12 * fl + j)) rfl (by omega)
          · skip
            refine S_n g 4 (pc' := 73) (lv' := [(0, .ref (ad 500)), (1, .int (nI u)), (2, .long ((msE (rowE (B 501) u n) fl j) ||| (lN 0))), (4, .int (nI j)), (5, .int (nI ((12 * fl) + j)))]) (st' := []) rfl ?_
            refine S_lveq (lv' := [(0, .ref (ad 500)), (1, .int (nI u)), (2, .long (msE (rowE (B 501) u n) fl (j + 1))), (4, .int (nI j)), (5, .int (nI ((12 * fl) + j)))]) (by rw [(show (msE (rowE (B 501) u n) fl j) ||| (lN 0) = msE (rowE (B 501) u n) fl (j + 1) from by rw [msE, if_pos qz60]).symm]) ?_
            refine S_n g 1 (pc' := 76) (lv' := [(0, .ref (ad 500)), (1, .int (nI u)), (2, .long (msE (rowE (B 501) u n) fl (j + 1))), (4, .int ((nI j) + nI 1)), (5, .int (nI ((12 * fl) + j)))]) (st' := []) rfl ?_
            rw [nI_add j 1]
            refine S_n g 1 (pc' := 28) (lv' := [(0, .ref (ad 500)), (1, .int (nI u)), (2, .long (msE (rowE (B 501) u n) fl (j + 1))), (4, .int (nI (j + 1))), (5, .int (nI ((12 * fl) + j)))]) (st' := []) rfl ?_
            refine S_keep (lv' := [(0, .ref (ad 500)), (1, .int (nI u)), (2, .long (msE (rowE (B 501) u n) fl (j + 1))), (4, .int (nI (j + 1)))]) [0, 1, 2, 4] rfl ?_
            exact lp (12 - (j + 1)) (by omega) (j + 1) lx2 (knQ (rowE (B 501) u n) (12 * fl + j)) rfl (by omega)
    exact lp _ 0 l q0 rfl (by omega)
  · skip
    refine S_n g 1 (pc' := 17) (lv' := [(0, .ref (ad 500)), (1, .int (nI u))]) (st' := [.long (lN 0)]) rfl ?_
    exact rtL rt rfl rfl (⟨by unfold msF; rw [if_pos qz12], rfl, rfl, scr_rf I J B⟩)

set_option maxRecDepth 100000 in
set_option maxHeartbeats 4000000 in
theorem sp_known (ad : Nat → Nat) (I : FI) (J : FJ) (A : FI) (B : FJ) (E : EE) (r : Nat) (t f : Nat → Int64) (l q0 : Int64) (hE : EL E r t f) (nf : Nat) (hF : B 501 0 = lN nf) (hnf : nf ≤ 5) : Spec M_X9_known [.ref (ad 500)] (YR ad) (up2 I 500 9 (nI r)) (up2 (up2 J 500 10 l) 500 11 q0) A (va_up (va_up B 506 t) 507 f) (fun v' Y' I' J' A' B' => v' = some (.int (nI (kct E (12 * nf)))) ∧ Y' = YR ad ∧ I' = up2 I 500 9 (nI r) ∧ A' = A ∧ B' = va_up (va_up B 506 t) 507 f ∧ ∃ l2 q2, J' = up2 (up2 J 500 10 l2) 500 11 q2) := by
  refine Spec_of (by decide) tk_X9_known (Nat.le_of_ble_eq_true rfl) (fun X g rt => ?_)
  show Sim X (YR ad) 0 [(0, .ref (ad 500))] [] (up2 I 500 9 (nI r)) (up2 (up2 J 500 10 l) 500 11 q0) A (va_up (va_up B 506 t) 507 f) 0 0
  refine S_n g 4 (pc' := 4) (lv' := [(0, .ref (ad 500)), (1, .int (nI 0)), (2, .int (nI 0))]) (st' := []) rfl ?_
  have lp : ∀ (nn : Nat) (p : Nat) (lz : Int64) (qz : Int64), 12 * nf - p = nn → (p ≤ 12 * nf) → Sim X (YR ad) 4 [(0, .ref (ad 500)), (1, .int (nI (kct E p))), (2, .int (nI p))] [] (up2 I 500 9 (nI r)) (up2 (up2 J 500 10 lz) 500 11 qz) A (va_up (va_up B 506 t) 507 f) 0 0 := by
    intro nn
    induction nn using Nat.strongRecOn with
    | ind nn ih =>
      intro p lz qz hmz hp
      have lp := ih
      refine S_n g 2 (pc' := 6) (lv' := [(0, .ref (ad 500)), (1, .int (nI (kct E p))), (2, .int (nI p))]) (st' := [.ref (ad 500), .int (nI p)]) rfl ?_
      refine S_cV g (i := 500) (As := []) (st := [.int (nI p)]) (sp_pieces ad (up2 I 500 9 (nI r)) (up2 (up2 J 500 10 lz) 500 11 qz) A (va_up (va_up B 506 t) 507 f) nf hF) mw_X9_pieces lk_X9_75 ⟨Nat.le_of_ble_eq_true rfl, Nat.le_of_ble_eq_true rfl⟩ (by decide) (by decide) rfl rfl (Nat.le_of_ble_eq_true rfl) ⟨Nat.le_of_ble_eq_true rfl, Nat.le_of_ble_eq_true rfl⟩ rfl ?_
      show Sim X (YR ad) 9 [(0, .ref (ad 500)), (1, .int (nI (kct E p))), (2, .int (nI p))] [.int (nI (12 * nf)), .int (nI p)] (up2 I 500 9 (nI r)) (up2 (up2 J 500 10 lz) 500 11 qz) A (va_up (va_up B 506 t) 507 f) 0 0
      refine S_icN_ge g (tgt := 34) (by omega) (by omega) rfl (by decide) (fun qz9 => ?_) (fun qz9 => ?_)
      · skip
        have hp9 : p = 12 * nf := by omega
        refine S_n g 1 (pc' := 35) (lv' := [(0, .ref (ad 500)), (1, .int (nI (kct E p))), (2, .int (nI p))]) (st' := [.int (nI (kct E p))]) rfl ?_
        exact rtI rt rfl rfl (⟨by rw [hp9], rfl, rfl, rfl, rfl, _, _, rfl⟩)
      · skip
        have hkc := kct_le E p
        refine S_n g 3 (pc' := 15) (lv' := [(0, .ref (ad 500)), (1, .int (nI (kct E p))), (2, .int (nI p))]) (st' := [.int (nI p), .ref (ad 500), .int (nI (kct E p))]) rfl ?_
        refine S_callV g (i := 500) (As := [.int (nI p)]) (st := [.int (nI (kct E p))]) (sp_knows ad I J A B E r t f lz qz hE p) mw_X9_knows lk_X9_164 ⟨Nat.le_of_ble_eq_true rfl, Nat.le_of_ble_eq_true rfl⟩ (by decide) (by decide) rfl rfl (Nat.le_of_ble_eq_true rfl) ⟨Nat.le_of_ble_eq_true rfl, Nat.le_of_ble_eq_true rfl⟩ rfl (fun v' Y' I' J' A' B' hpo => ?_)
        obtain ⟨rfl, rfl, hqI2, hqA2, hqB2, lx2, hqJ2⟩ := hpo
        rw [hqI2, hqA2, hqB2, hqJ2]
        show Sim X (YR ad) 18 [(0, .ref (ad 500)), (1, .int (nI (kct E p))), (2, .int (nI p))] [.int (bI (knE E p)), .int (nI (kct E p))] (up2 I 500 9 (nI r)) (up2 (up2 J 500 10 lx2) 500 11 (knQ E p)) A (va_up (va_up B 506 t) 507 f) 0 0
        refine S_ifB_eq g (tgt := 25) rfl (by decide) (fun qz18 => ?_) (fun qz18 => ?_)
        · skip
          refine S_n g 2 (pc' := 27) (lv' := [(0, .ref (ad 500)), (1, .int (nI (kct E p))), (2, .int (nI p))]) (st' := [.int ((nI (kct E p)) + (nI 0))]) rfl ?_
          rw [nI_add (kct E p) 0]
          refine S_n g 1 (pc' := 28) (lv' := [(0, .ref (ad 500)), (1, .int (nI ((kct E p) + 0))), (2, .int (nI p))]) (st' := []) rfl ?_
          refine S_lveq (lv' := [(0, .ref (ad 500)), (1, .int (nI (kct E (p + 1)))), (2, .int (nI p))]) (by rw [(show nI ((kct E p) + 0) = nI (kct E (p + 1)) from by rw [kct, qz18]; rfl).symm]) ?_
          refine S_n g 1 (pc' := 31) (lv' := [(0, .ref (ad 500)), (1, .int (nI (kct E (p + 1)))), (2, .int ((nI p) + nI 1))]) (st' := []) rfl ?_
          rw [nI_add p 1]
          refine S_n g 1 (pc' := 4) (lv' := [(0, .ref (ad 500)), (1, .int (nI (kct E (p + 1)))), (2, .int (nI (p + 1)))]) (st' := []) rfl ?_
          exact lp (12 * nf - (p + 1)) (by omega) (p + 1) lx2 (knQ E p) rfl (by omega)
        · skip
          refine S_n g 3 (pc' := 27) (lv' := [(0, .ref (ad 500)), (1, .int (nI (kct E p))), (2, .int (nI p))]) (st' := [.int ((nI (kct E p)) + (nI 1))]) rfl ?_
          rw [nI_add (kct E p) 1]
          refine S_n g 1 (pc' := 28) (lv' := [(0, .ref (ad 500)), (1, .int (nI ((kct E p) + 1))), (2, .int (nI p))]) (st' := []) rfl ?_
          refine S_lveq (lv' := [(0, .ref (ad 500)), (1, .int (nI (kct E (p + 1)))), (2, .int (nI p))]) (by rw [(show nI ((kct E p) + 1) = nI (kct E (p + 1)) from by rw [kct, qz18]; rfl).symm]) ?_
          refine S_n g 1 (pc' := 31) (lv' := [(0, .ref (ad 500)), (1, .int (nI (kct E (p + 1)))), (2, .int ((nI p) + nI 1))]) (st' := []) rfl ?_
          rw [nI_add p 1]
          refine S_n g 1 (pc' := 4) (lv' := [(0, .ref (ad 500)), (1, .int (nI (kct E (p + 1)))), (2, .int (nI (p + 1)))]) (st' := []) rfl ?_
          exact lp (12 * nf - (p + 1)) (by omega) (p + 1) lx2 (knQ E p) rfl (by omega)
  exact lp _ 0 l q0 rfl (by omega)

def o_user (nf nu : Nat) (ln : Nat → Nat) (m : Nat → Int64) (x y : Int32) : Int32 :=
  if isIx x nu = true then (if isIx y 8 = true then (match ix y with
    | 0 => (m (69 + ix x)).toInt32
    | 1 => (m (75 + ix x)).toInt32
    | 2 => nI (ctb (m (63 + ix x)) 60)
    | 3 => nI (ln (ix x))
    | 4 => nI (rowE m (ix x) (ln (ix x))).1
    | 5 => nI (ctb (m (63 + ix x)) 60 + ln (ix x)) - nI (rowE m (ix x) (ln (ix x))).1
    | 6 => nI (kct (rowE m (ix x) (ln (ix x))) (12 * nf))
    | _ => nI (ctb (msF m (ix x) (ln (ix x))) 60)) else -nI 101) else -nI 101

set_option maxRecDepth 100000 in
set_option maxHeartbeats 4000000 in
theorem sp_user (ad : Nat → Nat) (I : FI) (J : FJ) (A : FI) (B : FJ) (x y : Int32) (nf nu nc : Nat) (hm : Dm (B 501) nf nu nc) (ln : Nat → Nat) (hLs : ∀ u, u < 6 → B 501 (81 + u) = lN (ln u)) (hls : ∀ u, u < 6 → ln u ≤ 40) (hWs : ∀ u, u < 6 → okW (B 501) u nf) : Spec M_X9_user [.ref (ad 500), .int x, .int y] (YR ad) I J A B (scP (some (.int (o_user nf nu ln (B 501) x y))) (YR ad) I J A B) := by
  obtain ⟨hF, hU, hC, h1, h2, h3, h4, h5⟩ := hm
  refine Spec_of (by decide) tk_X9_user (Nat.le_of_ble_eq_true rfl) (fun X g rt => ?_)
  show Sim X (YR ad) 0 [(0, .ref (ad 500)), (1, .int x), (2, .int y)] [] I J A B 0 0
  refine S_n g 2 (pc' := 2) (lv' := [(0, .ref (ad 500)), (1, .int x), (2, .int y)]) (st' := [.int x, .ref (ad 500)]) rfl ?_
  refine S_cV g (i := 500) (As := [.int x]) (st := []) (sp_isUser ad I J A B x nu hU (by omega) (by omega)) mw_X9_isUser lk_X9_84 ⟨Nat.le_of_ble_eq_true rfl, Nat.le_of_ble_eq_true rfl⟩ (by decide) (by decide) rfl rfl (Nat.le_of_ble_eq_true rfl) ⟨Nat.le_of_ble_eq_true rfl, Nat.le_of_ble_eq_true rfl⟩ rfl ?_
  show Sim X (YR ad) 5 [(0, .ref (ad 500)), (1, .int x), (2, .int y)] [.int (bI (isIx x nu))] I J A B 0 0
  refine S_ifB_eq g (tgt := 20) rfl (by decide) (fun qz5 => ?_) (fun qz5 => ?_)
  · skip
    refine S_n g 1 (pc' := 22) (lv' := [(0, .ref (ad 500)), (1, .int x), (2, .int y)]) (st' := [.int (-nI 101)]) rfl ?_
    exact rtI rt rfl rfl (⟨by simp [o_user, qz5], rfl, rfl, scr_rf I J B⟩)
  · skip
    refine S_n g 3 (pc' := 11) (lv' := [(0, .ref (ad 500)), (1, .int x), (2, .int y)]) (st' := [.long (lN 0), .long y.toInt64]) rfl ?_
    refine S_ldc2 g kc_X9_167 rfl ?_
    refine S_cS g (As := [.long y.toInt64, .long (lN 0), .long (lN 7)]) (st := []) (sp_in (YR ad) I J A B y.toInt64 (lN 0) (lN 7)) mw_X9_in lk_X9_63 ⟨Nat.le_of_ble_eq_true rfl, Nat.le_of_ble_eq_true rfl⟩ rfl (Nat.le_of_ble_eq_true rfl) ⟨Nat.le_of_ble_eq_true rfl, Nat.le_of_ble_eq_true rfl⟩ rfl ?_
    show Sim X (YR ad) 17 [(0, .ref (ad 500)), (1, .int x), (2, .int y)] [.int (bI (inL y.toInt64 (lN 0) (lN 7)))] I J A B 0 0
    refine S_steq (st' := [.int (bI (isIx y 8))]) (by rw [(show bI (inL y.toInt64 (lN 0) (lN 7)) = bI (isIx y 8) from by rw [in_ix2 (by decide)]).symm]) ?_
    refine S_ifB_ne g (tgt := 23) rfl (by decide) (fun qz17 => ?_) (fun qz17 => ?_)
    · skip
      obtain ⟨u, huu, hxu⟩ := isIx_t qz5
      subst hxu
      have hcu : (nI u).toNatClampNeg = u := nI_clamp (by omega)
      obtain ⟨k, hk, hxk⟩ := isIx_t qz17
      subst hxk
      have hck : (nI k).toNatClampNeg = k := nI_clamp (by omega)
      have hu6 : u < 6 := by omega
      have hu : u < 6 := hu6
      obtain ⟨n, hnn⟩ : ∃ n, n = ln u := ⟨_, rfl⟩
      have hL : B 501 (81 + u) = lN n := by rw [hnn]; exact hLs u hu6
      have hn : n ≤ 40 := by rw [hnn]; exact hls u hu6
      have hW := hWs u hu6
      refine S_n g 2 (pc' := 25) (lv' := [(0, .ref (ad 500)), (1, .int (nI u)), (2, .int (nI k))]) (st' := [.int (nI u), .ref (ad 500)]) rfl ?_
      refine S_callV g (i := 500) (As := [.int (nI u)]) (st := []) (sp_looksAt ad I J A B u n hu hL hn) mw_X9_looksAt lk_X9_160 ⟨Nat.le_of_ble_eq_true rfl, Nat.le_of_ble_eq_true rfl⟩ (by decide) (by decide) rfl rfl (Nat.le_of_ble_eq_true rfl) ⟨Nat.le_of_ble_eq_true rfl, Nat.le_of_ble_eq_true rfl⟩ rfl (fun v' Y' I' J' A' B' hpo => ?_)
      obtain ⟨rfl, rfl, hqA, r, t, f, l, q0, hE, hqI, hqJ, hqB⟩ := hpo
      rw [hqA, hqI, hqJ, hqB]
      show Sim X (YR ad) 28 [(0, .ref (ad 500)), (1, .int (nI u)), (2, .int (nI k))] [] (up2 I 500 9 (nI r)) (up2 (up2 J 500 10 l) 500 11 q0) A (va_up (va_up B 506 t) 507 f) 0 0
      refine S_n g 1 (pc' := 29) (lv' := [(0, .ref (ad 500)), (1, .int (nI u)), (2, .int (nI k))]) (st' := [.ref (ad 500)]) rfl ?_
      refine S_getR g (i := 500) (c := 9) (k := 0) (j := 501) (by decide) (by decide) rfl rfl rfl fl_X9_7 rfl ?_
      refine S_n g 3 (pc' := 36) (lv' := [(0, .ref (ad 500)), (1, .int (nI u)), (2, .int (nI k))]) (st' := [.int ((nI 63) + (nI u)), .ref (ad 501)]) rfl ?_
      rw [nI_add 63 u]
      refine S_laldN g (i := 501) (e := 63 + u) (by decide) rfl (show 63 + u < 621 from by omega) (show (621 : Nat) < 2 ^ 31 from by decide) rfl ?_
      show Sim X (YR ad) 37 [(0, .ref (ad 500)), (1, .int (nI u)), (2, .int (nI k))] [.long (B 501 (63 + u))] (up2 I 500 9 (nI r)) (up2 (up2 J 500 10 l) 500 11 q0) A (va_up (va_up B 506 t) 507 f) 0 0
      refine S_cS g (As := [.long (B 501 (63 + u))]) (st := []) (sp_many (YR ad) (up2 I 500 9 (nI r)) (up2 (up2 J 500 10 l) 500 11 q0) A (va_up (va_up B 506 t) 507 f) (B 501 (63 + u))) mw_X9_many lk_X9_91 ⟨Nat.le_of_ble_eq_true rfl, Nat.le_of_ble_eq_true rfl⟩ rfl (Nat.le_of_ble_eq_true rfl) ⟨Nat.le_of_ble_eq_true rfl, Nat.le_of_ble_eq_true rfl⟩ rfl ?_
      show Sim X (YR ad) 40 [(0, .ref (ad 500)), (1, .int (nI u)), (2, .int (nI k))] [.int (nI (ctb (B 501 (63 + u)) 60))] (up2 I 500 9 (nI r)) (up2 (up2 J 500 10 l) 500 11 q0) A (va_up (va_up B 506 t) 507 f) 0 0
      refine S_n g 2 (pc' := 42) (lv' := [(0, .ref (ad 500)), (1, .int (nI u)), (2, .int (nI k)), (3, .int (nI (ctb (B 501 (63 + u)) 60)))]) (st' := [.ref (ad 500)]) rfl ?_
      refine S_getR g (i := 500) (c := 9) (k := 0) (j := 501) (by decide) (by decide) rfl rfl rfl fl_X9_7 rfl ?_
      refine S_n g 3 (pc' := 49) (lv' := [(0, .ref (ad 500)), (1, .int (nI u)), (2, .int (nI k)), (3, .int (nI (ctb (B 501 (63 + u)) 60)))]) (st' := [.int ((nI 81) + (nI u)), .ref (ad 501)]) rfl ?_
      rw [nI_add 81 u]
      refine S_laldN g (i := 501) (e := 81 + u) (by decide) rfl (show 81 + u < 621 from by omega) (show (621 : Nat) < 2 ^ 31 from by decide) rfl ?_
      show Sim X (YR ad) 50 [(0, .ref (ad 500)), (1, .int (nI u)), (2, .int (nI k)), (3, .int (nI (ctb (B 501 (63 + u)) 60)))] [.long (B 501 (81 + u))] (up2 I 500 9 (nI r)) (up2 (up2 J 500 10 l) 500 11 q0) A (va_up (va_up B 506 t) 507 f) 0 0
      rw [hL]
      refine S_n g 1 (pc' := 51) (lv' := [(0, .ref (ad 500)), (1, .int (nI u)), (2, .int (nI k)), (3, .int (nI (ctb (B 501 (63 + u)) 60)))]) (st' := [.int (lN n).toInt32]) rfl ?_
      rw [lN_i n]
      refine S_n g 2 (pc' := 54) (lv' := [(0, .ref (ad 500)), (1, .int (nI u)), (2, .int (nI k)), (3, .int (nI (ctb (B 501 (63 + u)) 60))), (4, .int (nI n))]) (st' := [.int (nI k)]) rfl ?_
      rcases (show k = 0 ∨ k = 1 ∨ k = 2 ∨ k = 3 ∨ k = 4 ∨ k = 5 ∨ k = 6 ∨ k = 7 by omega) with rfl | rfl | rfl | rfl | rfl | rfl | rfl | rfl
      · skip
        refine S_swIn g (off := 42) (tgt := 96) rfl (by decide) (by decide) rfl rfl ?_
        refine S_n g 1 (pc' := 97) (lv' := [(0, .ref (ad 500)), (1, .int (nI u)), (2, .int (nI 0)), (3, .int (nI (ctb (B 501 (63 + u)) 60))), (4, .int (nI n))]) (st' := [.ref (ad 500)]) rfl ?_
        refine S_getR g (i := 500) (c := 9) (k := 0) (j := 501) (by decide) (by decide) rfl rfl rfl fl_X9_7 rfl ?_
        refine S_n g 3 (pc' := 104) (lv' := [(0, .ref (ad 500)), (1, .int (nI u)), (2, .int (nI 0)), (3, .int (nI (ctb (B 501 (63 + u)) 60))), (4, .int (nI n))]) (st' := [.int ((nI 69) + (nI u)), .ref (ad 501)]) rfl ?_
        rw [nI_add 69 u]
        refine S_laldN g (i := 501) (e := 69 + u) (by decide) rfl (show 69 + u < 621 from by omega) (show (621 : Nat) < 2 ^ 31 from by decide) rfl ?_
        show Sim X (YR ad) 105 [(0, .ref (ad 500)), (1, .int (nI u)), (2, .int (nI 0)), (3, .int (nI (ctb (B 501 (63 + u)) 60))), (4, .int (nI n))] [.long (B 501 (69 + u))] (up2 I 500 9 (nI r)) (up2 (up2 J 500 10 l) 500 11 q0) A (va_up (va_up B 506 t) 507 f) 0 0
        refine S_n g 1 (pc' := 106) (lv' := [(0, .ref (ad 500)), (1, .int (nI u)), (2, .int (nI 0)), (3, .int (nI (ctb (B 501 (63 + u)) 60))), (4, .int (nI n))]) (st' := [.int (B 501 (69 + u)).toInt32]) rfl ?_
        exact rtI rt rfl rfl (⟨by simp only [o_user, qz5, qz17, if_true, ix, hcu, ← hnn, hck], rfl, rfl, _, _, _, _, _, rfl, rfl, rfl⟩)
      · skip
        refine S_swIn g (off := 53) (tgt := 107) rfl (by decide) (by decide) rfl rfl ?_
        refine S_n g 1 (pc' := 108) (lv' := [(0, .ref (ad 500)), (1, .int (nI u)), (2, .int (nI 1)), (3, .int (nI (ctb (B 501 (63 + u)) 60))), (4, .int (nI n))]) (st' := [.ref (ad 500)]) rfl ?_
        refine S_getR g (i := 500) (c := 9) (k := 0) (j := 501) (by decide) (by decide) rfl rfl rfl fl_X9_7 rfl ?_
        refine S_n g 3 (pc' := 115) (lv' := [(0, .ref (ad 500)), (1, .int (nI u)), (2, .int (nI 1)), (3, .int (nI (ctb (B 501 (63 + u)) 60))), (4, .int (nI n))]) (st' := [.int ((nI 75) + (nI u)), .ref (ad 501)]) rfl ?_
        rw [nI_add 75 u]
        refine S_laldN g (i := 501) (e := 75 + u) (by decide) rfl (show 75 + u < 621 from by omega) (show (621 : Nat) < 2 ^ 31 from by decide) rfl ?_
        show Sim X (YR ad) 116 [(0, .ref (ad 500)), (1, .int (nI u)), (2, .int (nI 1)), (3, .int (nI (ctb (B 501 (63 + u)) 60))), (4, .int (nI n))] [.long (B 501 (75 + u))] (up2 I 500 9 (nI r)) (up2 (up2 J 500 10 l) 500 11 q0) A (va_up (va_up B 506 t) 507 f) 0 0
        refine S_n g 1 (pc' := 117) (lv' := [(0, .ref (ad 500)), (1, .int (nI u)), (2, .int (nI 1)), (3, .int (nI (ctb (B 501 (63 + u)) 60))), (4, .int (nI n))]) (st' := [.int (B 501 (75 + u)).toInt32]) rfl ?_
        exact rtI rt rfl rfl (⟨by simp only [o_user, qz5, qz17, if_true, ix, hcu, ← hnn, hck], rfl, rfl, _, _, _, _, _, rfl, rfl, rfl⟩)
      · skip
        refine S_swIn g (off := 64) (tgt := 118) rfl (by decide) (by decide) rfl rfl ?_
        refine S_n g 1 (pc' := 119) (lv' := [(0, .ref (ad 500)), (1, .int (nI u)), (2, .int (nI 2)), (3, .int (nI (ctb (B 501 (63 + u)) 60))), (4, .int (nI n))]) (st' := [.int (nI (ctb (B 501 (63 + u)) 60))]) rfl ?_
        exact rtI rt rfl rfl (⟨by simp only [o_user, qz5, qz17, if_true, ix, hcu, ← hnn, hck], rfl, rfl, _, _, _, _, _, rfl, rfl, rfl⟩)
      · skip
        refine S_swIn g (off := 66) (tgt := 120) rfl (by decide) (by decide) rfl rfl ?_
        refine S_n g 1 (pc' := 122) (lv' := [(0, .ref (ad 500)), (1, .int (nI u)), (2, .int (nI 3)), (3, .int (nI (ctb (B 501 (63 + u)) 60))), (4, .int (nI n))]) (st' := [.int (nI n)]) rfl ?_
        exact rtI rt rfl rfl (⟨by simp only [o_user, qz5, qz17, if_true, ix, hcu, ← hnn, hck], rfl, rfl, _, _, _, _, _, rfl, rfl, rfl⟩)
      · skip
        refine S_swIn g (off := 69) (tgt := 123) rfl (by decide) (by decide) rfl rfl ?_
        refine S_n g 1 (pc' := 124) (lv' := [(0, .ref (ad 500)), (1, .int (nI u)), (2, .int (nI 4)), (3, .int (nI (ctb (B 501 (63 + u)) 60))), (4, .int (nI n))]) (st' := [.ref (ad 500)]) rfl ?_
        refine S_getI g (i := 500) (c := 9) (k := 9) (by decide) (by decide) rfl rfl fl_X9_154 rfl ?_
        show Sim X (YR ad) 127 [(0, .ref (ad 500)), (1, .int (nI u)), (2, .int (nI 4)), (3, .int (nI (ctb (B 501 (63 + u)) 60))), (4, .int (nI n))] [.int (nI r)] (up2 I 500 9 (nI r)) (up2 (up2 J 500 10 l) 500 11 q0) A (va_up (va_up B 506 t) 507 f) 0 0
        exact rtI rt rfl rfl (⟨by simp only [o_user, qz5, qz17, if_true, ix, hcu, ← hnn, hck, ← show (rowE (B 501) u n).1 = r from hE.1], rfl, rfl, _, _, _, _, _, rfl, rfl, rfl⟩)
      · skip
        refine S_swIn g (off := 74) (tgt := 128) rfl (by decide) (by decide) rfl rfl ?_
        refine S_n g 4 (pc' := 133) (lv' := [(0, .ref (ad 500)), (1, .int (nI u)), (2, .int (nI 5)), (3, .int (nI (ctb (B 501 (63 + u)) 60))), (4, .int (nI n))]) (st' := [.ref (ad 500), .int ((nI (ctb (B 501 (63 + u)) 60)) + (nI n))]) rfl ?_
        refine S_getI g (i := 500) (c := 9) (k := 9) (by decide) (by decide) rfl rfl fl_X9_154 rfl ?_
        show Sim X (YR ad) 136 [(0, .ref (ad 500)), (1, .int (nI u)), (2, .int (nI 5)), (3, .int (nI (ctb (B 501 (63 + u)) 60))), (4, .int (nI n))] [.int (nI r), .int ((nI (ctb (B 501 (63 + u)) 60)) + (nI n))] (up2 I 500 9 (nI r)) (up2 (up2 J 500 10 l) 500 11 q0) A (va_up (va_up B 506 t) 507 f) 0 0
        refine S_n g 1 (pc' := 137) (lv' := [(0, .ref (ad 500)), (1, .int (nI u)), (2, .int (nI 5)), (3, .int (nI (ctb (B 501 (63 + u)) 60))), (4, .int (nI n))]) (st' := [.int (((nI (ctb (B 501 (63 + u)) 60)) + (nI n)) - (nI r))]) rfl ?_
        exact rtI rt rfl rfl (⟨by simp only [o_user, qz5, qz17, if_true, ix, hcu, ← hnn, hck, ← nI_add, ← show (rowE (B 501) u n).1 = r from hE.1], rfl, rfl, _, _, _, _, _, rfl, rfl, rfl⟩)
      · skip
        refine S_swIn g (off := 84) (tgt := 138) rfl (by decide) (by decide) rfl rfl ?_
        refine S_n g 1 (pc' := 139) (lv' := [(0, .ref (ad 500)), (1, .int (nI u)), (2, .int (nI 6)), (3, .int (nI (ctb (B 501 (63 + u)) 60))), (4, .int (nI n))]) (st' := [.ref (ad 500)]) rfl ?_
        refine S_callV g (i := 500) (As := []) (st := []) (sp_known ad I J A B (rowE (B 501) u n) r t f l q0 hE nf hF (by omega)) mw_X9_known lk_X9_169 ⟨Nat.le_of_ble_eq_true rfl, Nat.le_of_ble_eq_true rfl⟩ (by decide) (by decide) rfl rfl (Nat.le_of_ble_eq_true rfl) ⟨Nat.le_of_ble_eq_true rfl, Nat.le_of_ble_eq_true rfl⟩ rfl (fun v' Y' I' J' A' B' hpo => ?_)
        obtain ⟨rfl, rfl, hqI2, hqA2, hqB2, lx, qx, hqJ2⟩ := hpo
        rw [hqI2, hqA2, hqB2, hqJ2]
        show Sim X (YR ad) 142 [(0, .ref (ad 500)), (1, .int (nI u)), (2, .int (nI 6)), (3, .int (nI (ctb (B 501 (63 + u)) 60))), (4, .int (nI n))] [.int (nI (kct (rowE (B 501) u n) (12 * nf)))] (up2 I 500 9 (nI r)) (up2 (up2 J 500 10 lx) 500 11 qx) A (va_up (va_up B 506 t) 507 f) 0 0
        exact rtI rt rfl rfl (⟨by simp only [o_user, qz5, qz17, if_true, ix, hcu, ← hnn, hck], rfl, rfl, _, _, _, _, _, rfl, rfl, rfl⟩)
      · skip
        refine S_swOut g (tgt := 143) rfl (by decide) rfl ?_
        refine S_n g 2 (pc' := 145) (lv' := [(0, .ref (ad 500)), (1, .int (nI u)), (2, .int (nI 7)), (3, .int (nI (ctb (B 501 (63 + u)) 60))), (4, .int (nI n))]) (st' := [.int (nI u), .ref (ad 500)]) rfl ?_
        refine S_callV g (i := 500) (As := [.int (nI u)]) (st := []) (sp_missing ad (up2 I 500 9 (nI r)) (up2 (up2 J 500 10 l) 500 11 q0) A (va_up (va_up B 506 t) 507 f) u n nf hu hL hn (by omega) hW) mw_X9_missing lk_X9_172 ⟨Nat.le_of_ble_eq_true rfl, Nat.le_of_ble_eq_true rfl⟩ (by decide) (by decide) rfl rfl (Nat.le_of_ble_eq_true rfl) ⟨Nat.le_of_ble_eq_true rfl, Nat.le_of_ble_eq_true rfl⟩ rfl (fun v' Y' I2 J2 A' B2 hpo => ?_)
        obtain ⟨rfl, rfl, hqA2, hsc⟩ := hpo
        rw [hqA2]
        show Sim X (YR ad) 148 [(0, .ref (ad 500)), (1, .int (nI u)), (2, .int (nI 7)), (3, .int (nI (ctb (B 501 (63 + u)) 60))), (4, .int (nI n))] [.long (msF (B 501) u n)] I2 J2 A B2 0 0
        refine S_cS g (As := [.long (msF (B 501) u n)]) (st := []) (sp_many (YR ad) I2 J2 A B2 (msF (B 501) u n)) mw_X9_many lk_X9_91 ⟨Nat.le_of_ble_eq_true rfl, Nat.le_of_ble_eq_true rfl⟩ rfl (Nat.le_of_ble_eq_true rfl) ⟨Nat.le_of_ble_eq_true rfl, Nat.le_of_ble_eq_true rfl⟩ rfl ?_
        show Sim X (YR ad) 151 [(0, .ref (ad 500)), (1, .int (nI u)), (2, .int (nI 7)), (3, .int (nI (ctb (B 501 (63 + u)) 60))), (4, .int (nI n))] [.int (nI (ctb (msF (B 501) u n) 60))] I2 J2 A B2 0 0
        exact rtI rt rfl rfl (⟨by simp only [o_user, qz5, qz17, if_true, ix, hcu, ← hnn, hck], rfl, rfl, scr_tr ⟨_, _, _, _, _, rfl, rfl, rfl⟩ hsc⟩)
    · skip
      refine S_n g 1 (pc' := 22) (lv' := [(0, .ref (ad 500)), (1, .int x), (2, .int y)]) (st' := [.int (-nI 101)]) rfl ?_
      exact rtI rt rfl rfl (⟨by simp [o_user, qz5, qz17], rfl, rfl, scr_rf I J B⟩)

def o_decode (nf nu : Nat) (ln : Nat → Nat) (m : Nat → Int64) (x y : Int32) : Int32 :=
  if isIx x nu = true then (if isIx y (12 * nf) = true then (if knE (rowE m (ix x) (ln (ix x))) (ix y) = true then (m (3 + ix y)).toInt32 else -nI 1) else -nI 101) else -nI 101
def o_proof (nf nu : Nat) (ln : Nat → Nat) (m : Nat → Int64) (x y : Int32) : Int64 :=
  if isIx x nu = true then (if isIx y (12 * nf) = true then (if knE (rowE m (ix x) (ln (ix x))) (ix y) = true then knQ (rowE m (ix x) (ln (ix x))) (ix y) else -lN 1) else -lN 1) else -lN 1

set_option maxRecDepth 100000 in
set_option maxHeartbeats 4000000 in
theorem sp_decode (ad : Nat → Nat) (I : FI) (J : FJ) (A : FI) (B : FJ) (x y : Int32) (nf nu nc : Nat) (hm : Dm (B 501) nf nu nc) (ln : Nat → Nat) (hLs : ∀ u, u < 6 → B 501 (81 + u) = lN (ln u)) (hls : ∀ u, u < 6 → ln u ≤ 40) : Spec M_X9_decode [.ref (ad 500), .int x, .int y] (YR ad) I J A B (scP (some (.int (o_decode nf nu ln (B 501) x y))) (YR ad) I J A B) := by
  obtain ⟨hF, hU, hC, h1, h2, h3, h4, h5⟩ := hm
  refine Spec_of (by decide) tk_X9_decode (Nat.le_of_ble_eq_true rfl) (fun X g rt => ?_)
  show Sim X (YR ad) 0 [(0, .ref (ad 500)), (1, .int x), (2, .int y)] [] I J A B 0 0
  refine S_n g 2 (pc' := 2) (lv' := [(0, .ref (ad 500)), (1, .int x), (2, .int y)]) (st' := [.int x, .ref (ad 500)]) rfl ?_
  refine S_cV g (i := 500) (As := [.int x]) (st := []) (sp_isUser ad I J A B x nu hU (by omega) (by omega)) mw_X9_isUser lk_X9_84 ⟨Nat.le_of_ble_eq_true rfl, Nat.le_of_ble_eq_true rfl⟩ (by decide) (by decide) rfl rfl (Nat.le_of_ble_eq_true rfl) ⟨Nat.le_of_ble_eq_true rfl, Nat.le_of_ble_eq_true rfl⟩ rfl ?_
  show Sim X (YR ad) 5 [(0, .ref (ad 500)), (1, .int x), (2, .int y)] [.int (bI (isIx x nu))] I J A B 0 0
  refine S_ifB_eq g (tgt := 16) rfl (by decide) (fun qz5 => ?_) (fun qz5 => ?_)
  · skip
    refine S_n g 1 (pc' := 18) (lv' := [(0, .ref (ad 500)), (1, .int x), (2, .int y)]) (st' := [.int (-nI 101)]) rfl ?_
    exact rtI rt rfl rfl (⟨by simp [o_decode, qz5], rfl, rfl, scr_rf I J B⟩)
  · skip
    refine S_n g 2 (pc' := 10) (lv' := [(0, .ref (ad 500)), (1, .int x), (2, .int y)]) (st' := [.int y, .ref (ad 500)]) rfl ?_
    refine S_cV g (i := 500) (As := [.int y]) (st := []) (sp_isPiece ad I J A B y nf hF (by omega) (by omega)) mw_X9_isPiece lk_X9_78 ⟨Nat.le_of_ble_eq_true rfl, Nat.le_of_ble_eq_true rfl⟩ (by decide) (by decide) rfl rfl (Nat.le_of_ble_eq_true rfl) ⟨Nat.le_of_ble_eq_true rfl, Nat.le_of_ble_eq_true rfl⟩ rfl ?_
    show Sim X (YR ad) 13 [(0, .ref (ad 500)), (1, .int x), (2, .int y)] [.int (bI (isIx y (12 * nf)))] I J A B 0 0
    refine S_ifB_ne g (tgt := 19) rfl (by decide) (fun qz13 => ?_) (fun qz13 => ?_)
    · skip
      obtain ⟨u, huu, hxu⟩ := isIx_t qz5
      subst hxu
      have hcu : (nI u).toNatClampNeg = u := nI_clamp (by omega)
      obtain ⟨p, hp, hxp⟩ := isIx_t qz13
      subst hxp
      have hcp : (nI p).toNatClampNeg = p := nI_clamp (by omega)
      have hu6 : u < 6 := by omega
      have hu : u < 6 := hu6
      obtain ⟨n, hnn⟩ : ∃ n, n = ln u := ⟨_, rfl⟩
      have hL : B 501 (81 + u) = lN n := by rw [hnn]; exact hLs u hu6
      have hn : n ≤ 40 := by rw [hnn]; exact hls u hu6
      refine S_n g 2 (pc' := 21) (lv' := [(0, .ref (ad 500)), (1, .int (nI u)), (2, .int (nI p))]) (st' := [.int (nI u), .ref (ad 500)]) rfl ?_
      refine S_callV g (i := 500) (As := [.int (nI u)]) (st := []) (sp_looksAt ad I J A B u n hu hL hn) mw_X9_looksAt lk_X9_160 ⟨Nat.le_of_ble_eq_true rfl, Nat.le_of_ble_eq_true rfl⟩ (by decide) (by decide) rfl rfl (Nat.le_of_ble_eq_true rfl) ⟨Nat.le_of_ble_eq_true rfl, Nat.le_of_ble_eq_true rfl⟩ rfl (fun v' Y' I' J' A' B' hpo => ?_)
      obtain ⟨rfl, rfl, hqA, r, t, f, l, q0, hE, hqI, hqJ, hqB⟩ := hpo
      rw [hqA, hqI, hqJ, hqB]
      show Sim X (YR ad) 24 [(0, .ref (ad 500)), (1, .int (nI u)), (2, .int (nI p))] [] (up2 I 500 9 (nI r)) (up2 (up2 J 500 10 l) 500 11 q0) A (va_up (va_up B 506 t) 507 f) 0 0
      refine S_n g 2 (pc' := 26) (lv' := [(0, .ref (ad 500)), (1, .int (nI u)), (2, .int (nI p))]) (st' := [.int (nI p), .ref (ad 500)]) rfl ?_
      refine S_callV g (i := 500) (As := [.int (nI p)]) (st := []) (sp_knows ad I J A B (rowE (B 501) u n) r t f l q0 hE p) mw_X9_knows lk_X9_164 ⟨Nat.le_of_ble_eq_true rfl, Nat.le_of_ble_eq_true rfl⟩ (by decide) (by decide) rfl rfl (Nat.le_of_ble_eq_true rfl) ⟨Nat.le_of_ble_eq_true rfl, Nat.le_of_ble_eq_true rfl⟩ rfl (fun v' Y' I' J' A' B' hpo => ?_)
      obtain ⟨rfl, rfl, hqI2, hqA2, hqB2, lx2, hqJ2⟩ := hpo
      rw [hqI2, hqA2, hqB2, hqJ2]
      show Sim X (YR ad) 29 [(0, .ref (ad 500)), (1, .int (nI u)), (2, .int (nI p))] [.int (bI (knE (rowE (B 501) u n) p))] (up2 I 500 9 (nI r)) (up2 (up2 J 500 10 lx2) 500 11 (knQ (rowE (B 501) u n) p)) A (va_up (va_up B 506 t) 507 f) 0 0
      refine S_ifB_eq g (tgt := 44) rfl (by decide) (fun qz29 => ?_) (fun qz29 => ?_)
      · skip
        refine S_n g 1 (pc' := 45) (lv' := [(0, .ref (ad 500)), (1, .int (nI u)), (2, .int (nI p))]) (st' := [.int (-nI 1)]) rfl ?_
        exact rtI rt rfl rfl (⟨by simp [o_decode, qz5, qz13, hcu, hcp, ← hnn, qz29], rfl, rfl, _, _, _, _, _, rfl, rfl, rfl⟩)
      · skip
        refine S_n g 1 (pc' := 33) (lv' := [(0, .ref (ad 500)), (1, .int (nI u)), (2, .int (nI p))]) (st' := [.ref (ad 500)]) rfl ?_
        refine S_getR g (i := 500) (c := 9) (k := 0) (j := 501) (by decide) (by decide) rfl rfl rfl fl_X9_7 rfl ?_
        refine S_n g 3 (pc' := 39) (lv' := [(0, .ref (ad 500)), (1, .int (nI u)), (2, .int (nI p))]) (st' := [.int ((nI 3) + (nI p)), .ref (ad 501)]) rfl ?_
        rw [nI_add 3 p]
        refine S_laldN g (i := 501) (e := 3 + p) (by decide) rfl (show 3 + p < 621 from by omega) (show (621 : Nat) < 2 ^ 31 from by decide) rfl ?_
        show Sim X (YR ad) 40 [(0, .ref (ad 500)), (1, .int (nI u)), (2, .int (nI p))] [.long (B 501 (3 + p))] (up2 I 500 9 (nI r)) (up2 (up2 J 500 10 lx2) 500 11 (knQ (rowE (B 501) u n) p)) A (va_up (va_up B 506 t) 507 f) 0 0
        refine S_n g 2 (pc' := 45) (lv' := [(0, .ref (ad 500)), (1, .int (nI u)), (2, .int (nI p))]) (st' := [.int (B 501 (3 + p)).toInt32]) rfl ?_
        exact rtI rt rfl rfl (⟨by simp [o_decode, qz5, qz13, hcu, hcp, ← hnn, qz29], rfl, rfl, _, _, _, _, _, rfl, rfl, rfl⟩)
    · skip
      refine S_n g 1 (pc' := 18) (lv' := [(0, .ref (ad 500)), (1, .int x), (2, .int y)]) (st' := [.int (-nI 101)]) rfl ?_
      exact rtI rt rfl rfl (⟨by simp [o_decode, qz5, qz13], rfl, rfl, scr_rf I J B⟩)

set_option maxRecDepth 100000 in
set_option maxHeartbeats 4000000 in
theorem sp_proof (ad : Nat → Nat) (I : FI) (J : FJ) (A : FI) (B : FJ) (x y : Int32) (nf nu nc : Nat) (hm : Dm (B 501) nf nu nc) (ln : Nat → Nat) (hLs : ∀ u, u < 6 → B 501 (81 + u) = lN (ln u)) (hls : ∀ u, u < 6 → ln u ≤ 40) : Spec M_X9_proof [.ref (ad 500), .int x, .int y] (YR ad) I J A B (scP (some (.long (o_proof nf nu ln (B 501) x y))) (YR ad) I J A B) := by
  obtain ⟨hF, hU, hC, h1, h2, h3, h4, h5⟩ := hm
  refine Spec_of (by decide) tk_X9_proof (Nat.le_of_ble_eq_true rfl) (fun X g rt => ?_)
  show Sim X (YR ad) 0 [(0, .ref (ad 500)), (1, .int x), (2, .int y)] [] I J A B 0 0
  refine S_n g 2 (pc' := 2) (lv' := [(0, .ref (ad 500)), (1, .int x), (2, .int y)]) (st' := [.int x, .ref (ad 500)]) rfl ?_
  refine S_cV g (i := 500) (As := [.int x]) (st := []) (sp_isUser ad I J A B x nu hU (by omega) (by omega)) mw_X9_isUser lk_X9_84 ⟨Nat.le_of_ble_eq_true rfl, Nat.le_of_ble_eq_true rfl⟩ (by decide) (by decide) rfl rfl (Nat.le_of_ble_eq_true rfl) ⟨Nat.le_of_ble_eq_true rfl, Nat.le_of_ble_eq_true rfl⟩ rfl ?_
  show Sim X (YR ad) 5 [(0, .ref (ad 500)), (1, .int x), (2, .int y)] [.int (bI (isIx x nu))] I J A B 0 0
  refine S_ifB_eq g (tgt := 16) rfl (by decide) (fun qz5 => ?_) (fun qz5 => ?_)
  · skip
    refine S_ldc2 g kc_X9_59 rfl ?_
    exact rtL rt rfl rfl (⟨by simp [o_proof, qz5], rfl, rfl, scr_rf I J B⟩)
  · skip
    refine S_n g 2 (pc' := 10) (lv' := [(0, .ref (ad 500)), (1, .int x), (2, .int y)]) (st' := [.int y, .ref (ad 500)]) rfl ?_
    refine S_cV g (i := 500) (As := [.int y]) (st := []) (sp_isPiece ad I J A B y nf hF (by omega) (by omega)) mw_X9_isPiece lk_X9_78 ⟨Nat.le_of_ble_eq_true rfl, Nat.le_of_ble_eq_true rfl⟩ (by decide) (by decide) rfl rfl (Nat.le_of_ble_eq_true rfl) ⟨Nat.le_of_ble_eq_true rfl, Nat.le_of_ble_eq_true rfl⟩ rfl ?_
    show Sim X (YR ad) 13 [(0, .ref (ad 500)), (1, .int x), (2, .int y)] [.int (bI (isIx y (12 * nf)))] I J A B 0 0
    refine S_ifB_ne g (tgt := 20) rfl (by decide) (fun qz13 => ?_) (fun qz13 => ?_)
    · skip
      obtain ⟨u, huu, hxu⟩ := isIx_t qz5
      subst hxu
      have hcu : (nI u).toNatClampNeg = u := nI_clamp (by omega)
      obtain ⟨p, hp, hxp⟩ := isIx_t qz13
      subst hxp
      have hcp : (nI p).toNatClampNeg = p := nI_clamp (by omega)
      have hu6 : u < 6 := by omega
      have hu : u < 6 := hu6
      obtain ⟨n, hnn⟩ : ∃ n, n = ln u := ⟨_, rfl⟩
      have hL : B 501 (81 + u) = lN n := by rw [hnn]; exact hLs u hu6
      have hn : n ≤ 40 := by rw [hnn]; exact hls u hu6
      refine S_n g 2 (pc' := 22) (lv' := [(0, .ref (ad 500)), (1, .int (nI u)), (2, .int (nI p))]) (st' := [.int (nI u), .ref (ad 500)]) rfl ?_
      refine S_callV g (i := 500) (As := [.int (nI u)]) (st := []) (sp_looksAt ad I J A B u n hu hL hn) mw_X9_looksAt lk_X9_160 ⟨Nat.le_of_ble_eq_true rfl, Nat.le_of_ble_eq_true rfl⟩ (by decide) (by decide) rfl rfl (Nat.le_of_ble_eq_true rfl) ⟨Nat.le_of_ble_eq_true rfl, Nat.le_of_ble_eq_true rfl⟩ rfl (fun v' Y' I' J' A' B' hpo => ?_)
      obtain ⟨rfl, rfl, hqA, r, t, f, l, q0, hE, hqI, hqJ, hqB⟩ := hpo
      rw [hqA, hqI, hqJ, hqB]
      show Sim X (YR ad) 25 [(0, .ref (ad 500)), (1, .int (nI u)), (2, .int (nI p))] [] (up2 I 500 9 (nI r)) (up2 (up2 J 500 10 l) 500 11 q0) A (va_up (va_up B 506 t) 507 f) 0 0
      refine S_n g 2 (pc' := 27) (lv' := [(0, .ref (ad 500)), (1, .int (nI u)), (2, .int (nI p))]) (st' := [.int (nI p), .ref (ad 500)]) rfl ?_
      refine S_callV g (i := 500) (As := [.int (nI p)]) (st := []) (sp_knows ad I J A B (rowE (B 501) u n) r t f l q0 hE p) mw_X9_knows lk_X9_164 ⟨Nat.le_of_ble_eq_true rfl, Nat.le_of_ble_eq_true rfl⟩ (by decide) (by decide) rfl rfl (Nat.le_of_ble_eq_true rfl) ⟨Nat.le_of_ble_eq_true rfl, Nat.le_of_ble_eq_true rfl⟩ rfl (fun v' Y' I' J' A' B' hpo => ?_)
      obtain ⟨rfl, rfl, hqI2, hqA2, hqB2, lx2, hqJ2⟩ := hpo
      rw [hqI2, hqA2, hqB2, hqJ2]
      show Sim X (YR ad) 30 [(0, .ref (ad 500)), (1, .int (nI u)), (2, .int (nI p))] [.int (bI (knE (rowE (B 501) u n) p))] (up2 I 500 9 (nI r)) (up2 (up2 J 500 10 lx2) 500 11 (knQ (rowE (B 501) u n) p)) A (va_up (va_up B 506 t) 507 f) 0 0
      refine S_ifB_eq g (tgt := 40) rfl (by decide) (fun qz30 => ?_) (fun qz30 => ?_)
      · skip
        refine S_ldc2 g kc_X9_59 rfl ?_
        exact rtL rt rfl rfl (⟨by simp [o_proof, qz5, qz13, hcu, hcp, ← hnn, qz30], rfl, rfl, _, _, _, _, _, rfl, rfl, rfl⟩)
      · skip
        refine S_n g 1 (pc' := 34) (lv' := [(0, .ref (ad 500)), (1, .int (nI u)), (2, .int (nI p))]) (st' := [.ref (ad 500)]) rfl ?_
        refine S_getJ g (i := 500) (c := 9) (k := 11) (by decide) (by decide) rfl rfl fl_X9_147 rfl ?_
        show Sim X (YR ad) 37 [(0, .ref (ad 500)), (1, .int (nI u)), (2, .int (nI p))] [.long (knQ (rowE (B 501) u n) p)] (up2 I 500 9 (nI r)) (up2 (up2 J 500 10 lx2) 500 11 (knQ (rowE (B 501) u n) p)) A (va_up (va_up B 506 t) 507 f) 0 0
        refine S_n g 1 (pc' := 43) (lv' := [(0, .ref (ad 500)), (1, .int (nI u)), (2, .int (nI p))]) (st' := [.long (knQ (rowE (B 501) u n) p)]) rfl ?_
        exact rtL rt rfl rfl (⟨by simp [o_proof, qz5, qz13, hcu, hcp, ← hnn, qz30], rfl, rfl, _, _, _, _, _, rfl, rfl, rfl⟩)
    · skip
      refine S_ldc2 g kc_X9_59 rfl ?_
      exact rtL rt rfl rfl (⟨by simp [o_proof, qz5, qz13], rfl, rfl, scr_rf I J B⟩)

/-- the pieces of file f are rows, too: those below j -/
def ndE (E : EE) (f : Nat) : Nat → EE
  | 0 => E
  | j + 1 => addE (ndE E f j) (b1 (12 * f + j)) (lN 0)
def o_need (nu : Nat) (ln : Nat → Nat) (m : Nat → Int64) (x : Int32) : Int32 :=
  if isIx x nu = true then (if m (69 + ix x) = -lN 1 then nI 0 else nI (ndE (rowE m (ix x) (ln (ix x))) (m (69 + ix x)).toInt.toNat 12).1 - nI (rowE m (ix x) (ln (ix x))).1) else -nI 101

set_option maxRecDepth 100000 in
set_option maxHeartbeats 4000000 in
theorem sp_need (ad : Nat → Nat) (I : FI) (J : FJ) (A : FI) (B : FJ) (x : Int32) (nf nu nc : Nat) (hm : Dm (B 501) nf nu nc) (ln : Nat → Nat) (hLs : ∀ u, u < 6 → B 501 (81 + u) = lN (ln u)) (hls : ∀ u, u < 6 → ln u ≤ 40) (hWs : ∀ u, u < 6 → okW (B 501) u nf) : Spec M_X9_need [.ref (ad 500), .int x] (YR ad) I J A B (scP (some (.int (o_need nu ln (B 501) x))) (YR ad) I J A B) := by
  obtain ⟨hF, hU, hC, h1, h2, h3, h4, h5⟩ := hm
  refine Spec_of (by decide) tk_X9_need (Nat.le_of_ble_eq_true rfl) (fun X g rt => ?_)
  show Sim X (YR ad) 0 [(0, .ref (ad 500)), (1, .int x)] [] I J A B 0 0
  refine S_n g 2 (pc' := 2) (lv' := [(0, .ref (ad 500)), (1, .int x)]) (st' := [.int x, .ref (ad 500)]) rfl ?_
  refine S_cV g (i := 500) (As := [.int x]) (st := []) (sp_isUser ad I J A B x nu hU (by omega) (by omega)) mw_X9_isUser lk_X9_84 ⟨Nat.le_of_ble_eq_true rfl, Nat.le_of_ble_eq_true rfl⟩ (by decide) (by decide) rfl rfl (Nat.le_of_ble_eq_true rfl) ⟨Nat.le_of_ble_eq_true rfl, Nat.le_of_ble_eq_true rfl⟩ rfl ?_
  show Sim X (YR ad) 5 [(0, .ref (ad 500)), (1, .int x)] [.int (bI (isIx x nu))] I J A B 0 0
  refine S_ifB_ne g (tgt := 11) rfl (by decide) (fun qz5 => ?_) (fun qz5 => ?_)
  · skip
    obtain ⟨u, huu, hxu⟩ := isIx_t qz5
    subst hxu
    have hcu : (nI u).toNatClampNeg = u := nI_clamp (by omega)
    have hu6 : u < 6 := by omega
    have hu : u < 6 := hu6
    obtain ⟨n, hnn⟩ : ∃ n, n = ln u := ⟨_, rfl⟩
    have hL : B 501 (81 + u) = lN n := by rw [hnn]; exact hLs u hu6
    have hn : n ≤ 40 := by rw [hnn]; exact hls u hu6
    have hW := hWs u hu6
    refine S_n g 1 (pc' := 12) (lv' := [(0, .ref (ad 500)), (1, .int (nI u))]) (st' := [.ref (ad 500)]) rfl ?_
    refine S_getR g (i := 500) (c := 9) (k := 0) (j := 501) (by decide) (by decide) rfl rfl rfl fl_X9_7 rfl ?_
    refine S_n g 3 (pc' := 19) (lv' := [(0, .ref (ad 500)), (1, .int (nI u))]) (st' := [.int ((nI 69) + (nI u)), .ref (ad 501)]) rfl ?_
    rw [nI_add 69 u]
    refine S_laldN g (i := 501) (e := 69 + u) (by decide) rfl (show 69 + u < 621 from by omega) (show (621 : Nat) < 2 ^ 31 from by decide) rfl ?_
    refine S_ldc2 g kc_X9_59 rfl ?_
    refine S_lc_ne g (tgt := 29) rfl rfl (by decide) (fun qz23 => ?_) (fun qz23 => ?_)
    · skip
      obtain ⟨fl, hfl, hWf⟩ := hW.resolve_left qz23
      refine S_n g 2 (pc' := 31) (lv' := [(0, .ref (ad 500)), (1, .int (nI u))]) (st' := [.int (nI u), .ref (ad 500)]) rfl ?_
      refine S_callV g (i := 500) (As := [.int (nI u)]) (st := []) (sp_looksAt ad I J A B u n hu hL hn) mw_X9_looksAt lk_X9_160 ⟨Nat.le_of_ble_eq_true rfl, Nat.le_of_ble_eq_true rfl⟩ (by decide) (by decide) rfl rfl (Nat.le_of_ble_eq_true rfl) ⟨Nat.le_of_ble_eq_true rfl, Nat.le_of_ble_eq_true rfl⟩ rfl (fun v' Y' I' J' A' B' hpo => ?_)
      obtain ⟨rfl, rfl, hqA, r, t, f, l, q0, hE, hqI, hqJ, hqB⟩ := hpo
      rw [hqA, hqI, hqJ, hqB]
      show Sim X (YR ad) 34 [(0, .ref (ad 500)), (1, .int (nI u))] [] (up2 I 500 9 (nI r)) (up2 (up2 J 500 10 l) 500 11 q0) A (va_up (va_up B 506 t) 507 f) 0 0
      refine S_n g 1 (pc' := 35) (lv' := [(0, .ref (ad 500)), (1, .int (nI u))]) (st' := [.ref (ad 500)]) rfl ?_
      refine S_getI g (i := 500) (c := 9) (k := 9) (by decide) (by decide) rfl rfl fl_X9_154 rfl ?_
      show Sim X (YR ad) 38 [(0, .ref (ad 500)), (1, .int (nI u))] [.int (nI r)] (up2 I 500 9 (nI r)) (up2 (up2 J 500 10 l) 500 11 q0) A (va_up (va_up B 506 t) 507 f) 0 0
      refine S_n g 3 (pc' := 41) (lv' := [(0, .ref (ad 500)), (1, .int (nI u)), (2, .int (nI r)), (3, .int (nI 0))]) (st' := []) rfl ?_
      have lp : ∀ (nn : Nat) (j : Nat) (r3 : Nat) (t3 : Nat → Int64) (f3 : Nat → Int64) (l3 : Int64) (q3 : Int64), 12 - j = nn → (j ≤ 12) → (EL (ndE (rowE (B 501) u n) fl j) r3 t3 f3) → Sim X (YR ad) 41 [(0, .ref (ad 500)), (1, .int (nI u)), (2, .int (nI r)), (3, .int (nI j))] [] (up2 I 500 9 (nI r3)) (up2 (up2 J 500 10 l3) 500 11 q3) A (va_up (va_up B 506 t3) 507 f3) 0 0 := by
        intro nn
        induction nn using Nat.strongRecOn with
        | ind nn ih =>
          intro j r3 t3 f3 l3 q3 hmz hj hE3
          have lp := ih
          refine S_n g 2 (pc' := 44) (lv' := [(0, .ref (ad 500)), (1, .int (nI u)), (2, .int (nI r)), (3, .int (nI j))]) (st' := [.int (nI 12), .int (nI j)]) rfl ?_
          refine S_icN_ge g (tgt := 75) (by omega) (by omega) rfl (by decide) (fun qz44 => ?_) (fun qz44 => ?_)
          · skip
            have hj9 : j = 12 := by omega
            refine S_n g 1 (pc' := 76) (lv' := [(0, .ref (ad 500)), (1, .int (nI u)), (2, .int (nI r)), (3, .int (nI j))]) (st' := [.ref (ad 500)]) rfl ?_
            refine S_getI g (i := 500) (c := 9) (k := 9) (by decide) (by decide) rfl rfl fl_X9_154 rfl ?_
            show Sim X (YR ad) 79 [(0, .ref (ad 500)), (1, .int (nI u)), (2, .int (nI r)), (3, .int (nI j))] [.int (nI r3)] (up2 I 500 9 (nI r3)) (up2 (up2 J 500 10 l3) 500 11 q3) A (va_up (va_up B 506 t3) 507 f3) 0 0
            refine S_n g 2 (pc' := 81) (lv' := [(0, .ref (ad 500)), (1, .int (nI u)), (2, .int (nI r)), (3, .int (nI j))]) (st' := [.int ((nI r3) - (nI r))]) rfl ?_
            exact rtI rt rfl rfl (⟨by simp only [o_need, qz5, if_true, ix, hcu, qz23, if_false, ← hnn, hWf, lN_nat' (show fl < 100 from by omega), ← show (ndE (rowE (B 501) u n) fl j).1 = r3 from hE3.1, ← show (rowE (B 501) u n).1 = r from hE.1, hj9, lN_m1 (show fl < 100 from by omega)], rfl, rfl, _, _, _, _, _, rfl, rfl, rfl⟩)
          · skip
            refine S_n g 4 (pc' := 52) (lv' := [(0, .ref (ad 500)), (1, .int (nI u)), (2, .int (nI r)), (3, .int (nI j))]) (st' := [.ref (ad 500), .int (nI 12), .long (lN 1), .ref (ad 500)]) rfl ?_
            refine S_getR g (i := 500) (c := 9) (k := 0) (j := 501) (by decide) (by decide) rfl rfl rfl fl_X9_7 rfl ?_
            refine S_n g 3 (pc' := 59) (lv' := [(0, .ref (ad 500)), (1, .int (nI u)), (2, .int (nI r)), (3, .int (nI j))]) (st' := [.int ((nI 69) + (nI u)), .ref (ad 501), .int (nI 12), .long (lN 1), .ref (ad 500)]) rfl ?_
            rw [nI_add 69 u]
            refine S_laldN g (i := 501) (e := 69 + u) (by decide) rfl (show 69 + u < 621 from by omega) (show (621 : Nat) < 2 ^ 31 from by decide) rfl ?_
            show Sim X (YR ad) 60 [(0, .ref (ad 500)), (1, .int (nI u)), (2, .int (nI r)), (3, .int (nI j))] [.long (B 501 (69 + u)), .int (nI 12), .long (lN 1), .ref (ad 500)] (up2 I 500 9 (nI r3)) (up2 (up2 J 500 10 l3) 500 11 q3) A (va_up (va_up B 506 t3) 507 f3) 0 0
            rw [hWf]
            refine S_n g 1 (pc' := 61) (lv' := [(0, .ref (ad 500)), (1, .int (nI u)), (2, .int (nI r)), (3, .int (nI j))]) (st' := [.int (lN fl).toInt32, .int (nI 12), .long (lN 1), .ref (ad 500)]) rfl ?_
            rw [lN_i fl]
            refine S_n g 1 (pc' := 62) (lv' := [(0, .ref (ad 500)), (1, .int (nI u)), (2, .int (nI r)), (3, .int (nI j))]) (st' := [.int ((nI 12) * (nI fl)), .long (lN 1), .ref (ad 500)]) rfl ?_
            rw [pk_mul 12 fl]
            refine S_n g 2 (pc' := 64) (lv' := [(0, .ref (ad 500)), (1, .int (nI u)), (2, .int (nI r)), (3, .int (nI j))]) (st' := [.int ((nI (12 * fl)) + (nI j)), .long (lN 1), .ref (ad 500)]) rfl ?_
            rw [nI_add (12 * fl) j]
            refine S_n g 2 (pc' := 66) (lv' := [(0, .ref (ad 500)), (1, .int (nI u)), (2, .int (nI r)), (3, .int (nI j))]) (st' := [.long (lN 0), .long ((lN 1) <<< ((nI ((12 * fl) + j)).toInt64 &&& 63)), .ref (ad 500)]) rfl ?_
            refine S_callV g (i := 500) (As := [.long ((lN 1) <<< ((nI ((12 * fl) + j)).toInt64 &&& 63)), .long (lN 0)]) (st := []) (sp_adds ad I J A B (ndE (rowE (B 501) u n) fl j) r3 t3 f3 l3 q3 hE3 (b1 (12 * fl + j)) (lN 0)) mw_X9_adds lk_X9_157 ⟨Nat.le_of_ble_eq_true rfl, Nat.le_of_ble_eq_true rfl⟩ (by decide) (by decide) rfl rfl (Nat.le_of_ble_eq_true rfl) ⟨Nat.le_of_ble_eq_true rfl, Nat.le_of_ble_eq_true rfl⟩ rfl (fun v' Y' I' J' A' B' hpo => ?_)
            obtain ⟨rfl, rfl, hqA, r2, t2, f2, l2, q2, hE2, hqI, hqJ, hqB⟩ := hpo
            rw [hqA, hqI, hqJ, hqB]
            show Sim X (YR ad) 69 [(0, .ref (ad 500)), (1, .int (nI u)), (2, .int (nI r)), (3, .int (nI j))] [] (up2 I 500 9 (nI r2)) (up2 (up2 J 500 10 l2) 500 11 q2) A (va_up (va_up B 506 t2) 507 f2) 0 0
            refine S_n g 1 (pc' := 72) (lv' := [(0, .ref (ad 500)), (1, .int (nI u)), (2, .int (nI r)), (3, .int ((nI j) + nI 1))]) (st' := []) rfl ?_
            rw [nI_add j 1]
            refine S_n g 1 (pc' := 41) (lv' := [(0, .ref (ad 500)), (1, .int (nI u)), (2, .int (nI r)), (3, .int (nI (j + 1)))]) (st' := []) rfl ?_
            exact lp (12 - (j + 1)) (by omega) (j + 1) r2 t2 f2 l2 q2 rfl (by omega) hE2
      exact lp _ 0 r t f l q0 rfl (by omega) hE
    · skip
      refine S_n g 1 (pc' := 28) (lv' := [(0, .ref (ad 500)), (1, .int (nI u))]) (st' := [.int (nI 0)]) rfl ?_
      exact rtI rt rfl rfl (⟨by simp [o_need, qz5, hcu, qz23], rfl, rfl, scr_rf I J B⟩)
  · skip
    refine S_n g 1 (pc' := 10) (lv' := [(0, .ref (ad 500)), (1, .int x)]) (st' := [.int (-nI 101)]) rfl ?_
    exact rtI rt rfl rfl (⟨by simp [o_need, qz5], rfl, rfl, scr_rf I J B⟩)
