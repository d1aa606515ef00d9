/-! the reference, part 7: what a user knows -/
abbrev EE : Type := Nat × (Nat → Int64) × (Nat → Int64)
def addE (E : EE) (s q : Int64) : EE := if hb (rd E.2.1 E.2.2 s q 60).1 60 = 0 then E else (E.1 + 1, va_up E.2.1 (hb (rd E.2.1 E.2.2 s q 60).1 60 - 1) (rd E.2.1 E.2.2 s q 60).1, va_up E.2.2 (hb (rd E.2.1 E.2.2 s q 60).1 60 - 1) (rd E.2.1 E.2.2 s q 60).2)
def E0 : EE := (0, fun _ => lN 0, fun _ => lN 0)
/-- the cached pieces of c below p -/
def elC (c : Int64) : Nat → EE
  | 0 => E0
  | p + 1 => if tb c p = true then addE (elC c p) (b1 p) (lN 0) else elC c p
/-- and the first i sums of a list -/
def elL (c : Int64) (li : Nat → Int64) : Nat → EE
  | 0 => elC c 60
  | i + 1 => addE (elL c li i) (li i) (b1 i)
def EL (E : EE) (r : Nat) (t f : Nat → Int64) : Prop := E.1 = r ∧ ∀ j, j < 60 → t j = E.2.1 j ∧ f j = E.2.2 j
theorem rd_cong {t f T F : Nat → Int64} (h : ∀ j, j < 60 → t j = T j ∧ f j = F j) (s q : Int64) : ∀ n, n ≤ 60 → rd t f s q n = rd T F s q n
  | 0, _ => rfl
  | n + 1, hn => by
    have ih := rd_cong h s q n (by omega)
    unfold rd
    rw [ih, (h (59 - n) (by omega)).1, (h (59 - n) (by omega)).2]
theorem addE_0 {E : EE} {r : Nat} {t f : Nat → Int64} (h : EL E r t f) {s q : Int64} (hz : hb (rd t f s q 60).1 60 = 0) : EL (addE E s q) r t f := by
  unfold addE
  rw [rd_cong h.2 s q 60 (by omega)] at hz
  rw [if_pos hz]
  exact h
theorem addE_1 {E : EE} {r : Nat} {t f : Nat → Int64} (h : EL E r t f) {s q : Int64} (hz : 0 < hb (rd t f s q 60).1 60) : EL (addE E s q) (r + 1) (va_up t (hb (rd t f s q 60).1 60 - 1) (rd t f s q 60).1) (va_up f (hb (rd t f s q 60).1 60 - 1) (rd t f s q 60).2) := by
  rw [rd_cong h.2 s q 60 (by omega)] at hz ⊢
  unfold addE
  rw [if_neg (by omega)]
  refine ⟨by rw [h.1], fun j hj => ?_⟩
  dsimp only
  by_cases e : j = hb (rd E.2.1 E.2.2 s q 60).1 60 - 1
  · rw [e, va_up_self, va_up_self, va_up_self, va_up_self]; exact ⟨rfl, rfl⟩
  · rw [va_up_ne _ _ e, va_up_ne _ _ e, va_up_ne _ _ e, va_up_ne _ _ e]; exact h.2 j hj
theorem jj {J : FJ} {l q l2 q2 : Int64} : up2 (up2 (up2 (up2 J 500 10 l) 500 11 q) 500 10 l2) 500 11 q2 = up2 (up2 J 500 10 l2) 500 11 q2 := by
  rw [up2_c2 (i := 500) (k := 10) (j := 500) (l := 11) (Or.inr (by decide)), up2_c1, up2_c1]
/-- the scratch cells of the reference's linear algebra hold this -/
def lkP (v : Option Value) (E : EE) (Y : PS) (I : FI) (J : FJ) (A : FI) (B : FJ) : PO := fun v' Y' I' J' A' B' => v' = v ∧ Y' = Y ∧ A' = A ∧ ∃ (r : Nat) (t f : Nat → Int64) (l q : Int64), EL E r t f ∧ I' = up2 I 500 9 (nI r) ∧ J' = up2 (up2 J 500 10 l) 500 11 q ∧ B' = va_up (va_up B 506 t) 507 f

set_option maxRecDepth 100000 in
set_option maxHeartbeats 4000000 in
theorem sp_adds (ad : Nat → Nat) (I : FI) (J : FJ) (A : FI) (B : FJ) (E : EE) (r : Nat) (t f : Nat → Int64) (l q0 : Int64) (hE : EL E r t f) (s q : Int64) : Spec M_X9_adds [.ref (ad 500), .long s, .long q] (YR ad) (up2 I 500 9 (nI r)) (up2 (up2 J 500 10 l) 500 11 q0) A (va_up (va_up B 506 t) 507 f) (lkP none (addE E s q) (YR ad) I J A B) := by
  refine Spec_of (by decide) tk_X9_adds (Nat.le_of_ble_eq_true rfl) (fun X g rt => ?_)
  show Sim X (YR ad) 0 [(0, .ref (ad 500)), (1, .long s), (3, .long q)] [] (up2 I 500 9 (nI r)) (up2 (up2 J 500 10 l) 500 11 q0) A (va_up (va_up B 506 t) 507 f) 0 0
  refine S_n g 3 (pc' := 3) (lv' := [(0, .ref (ad 500)), (1, .long s), (3, .long q)]) (st' := [.long q, .long s, .ref (ad 500)]) rfl ?_
  refine S_cV g (i := 500) (As := [.long s, .long q]) (st := []) (sp_reduces ad (up2 I 500 9 (nI r)) (up2 (up2 J 500 10 l) 500 11 q0) A (va_up (va_up B 506 t) 507 f) s q) mw_X9_reduces lk_X9_150 ⟨Nat.le_of_ble_eq_true rfl, Nat.le_of_ble_eq_true rfl⟩ (by decide) (by decide) rfl rfl (Nat.le_of_ble_eq_true rfl) ⟨Nat.le_of_ble_eq_true rfl, Nat.le_of_ble_eq_true rfl⟩ rfl ?_
  rw [jj]
  show Sim X (YR ad) 6 [(0, .ref (ad 500)), (1, .long s), (3, .long q)] [] (up2 I 500 9 (nI r)) (up2 (up2 J 500 10 (rd t f s q 60).1) 500 11 (rd t f s q 60).2) A (va_up (va_up B 506 t) 507 f) 0 0
  refine S_n g 4 (pc' := 12) (lv' := [(0, .ref (ad 500)), (1, .long s), (3, .long q), (5, .int (-nI 1)), (6, .int (nI 0))]) (st' := []) rfl ?_
  show Sim X (YR ad) 12 [(0, .ref (ad 500)), (1, .long s), (3, .long q), (5, .int (hI 0)), (6, .int (nI 0))] [] (up2 I 500 9 (nI r)) (up2 (up2 J 500 10 (rd t f s q 60).1) 500 11 (rd t f s q 60).2) A (va_up (va_up B 506 t) 507 f) 0 0
  have lp : ∀ (nn : Nat) (k : Nat), 60 - k = nn → (k ≤ 60) → Sim X (YR ad) 12 [(0, .ref (ad 500)), (1, .long s), (3, .long q), (5, .int (hI (hb (rd t f s q 60).1 k))), (6, .int (nI k))] [] (up2 I 500 9 (nI r)) (up2 (up2 J 500 10 (rd t f s q 60).1) 500 11 (rd t f s q 60).2) A (va_up (va_up B 506 t) 507 f) 0 0 := by
    intro nn
    induction nn using Nat.strongRecOn with
    | ind nn ih =>
      intro k hmz hk
      have lp := ih
      refine S_n g 2 (pc' := 16) (lv' := [(0, .ref (ad 500)), (1, .long s), (3, .long q), (5, .int (hI (hb (rd t f s q 60).1 k))), (6, .int (nI k))]) (st' := [.int (nI 60), .int (nI k)]) rfl ?_
      refine S_icN_ge g (tgt := 48) (by omega) (by omega) rfl (by decide) (fun qz16 => ?_) (fun qz16 => ?_)
      · skip
        have hk9 : k = 60 := by omega
        rw [hk9]
        have hbl := hb_le (rd t f s q 60).1 60
        refine S_n g 1 (pc' := 50) (lv' := [(0, .ref (ad 500)), (1, .long s), (3, .long q), (5, .int (hI (hb (rd t f s q 60).1 60))), (6, .int (nI 60))]) (st' := [.int (hI (hb (rd t f s q 60).1 60))]) rfl ?_
        refine S_ifH_lt g (tgt := 85) (by omega) rfl (by decide) (fun qz50 => ?_) (fun qz50 => ?_)
        · skip
          exact rtV rt rfl rfl (⟨rfl, rfl, rfl, r, t, f, _, _, addE_0 hE qz50, rfl, rfl, rfl⟩)
        · skip
          refine S_lveq (lv' := [(0, .ref (ad 500)), (1, .long s), (3, .long q), (5, .int (nI (hb (rd t f s q 60).1 60 - 1))), (6, .int (nI 60))]) (by rw [(show hI (hb (rd t f s q 60).1 60) = nI (hb (rd t f s q 60).1 60 - 1) from hI_pos qz50).symm]) ?_
          refine S_n g 1 (pc' := 54) (lv' := [(0, .ref (ad 500)), (1, .long s), (3, .long q), (5, .int (nI (hb (rd t f s q 60).1 60 - 1))), (6, .int (nI 60))]) (st' := [.ref (ad 500)]) rfl ?_
          refine S_getR g (i := 500) (c := 9) (k := 7) (j := 506) (by decide) (by decide) rfl rfl rfl fl_X9_31 rfl ?_
          refine S_n g 2 (pc' := 60) (lv' := [(0, .ref (ad 500)), (1, .long s), (3, .long q), (5, .int (nI (hb (rd t f s q 60).1 60 - 1))), (6, .int (nI 60))]) (st' := [.ref (ad 500), .int (nI (hb (rd t f s q 60).1 60 - 1)), .ref (ad 506)]) rfl ?_
          refine S_getJ g (i := 500) (c := 9) (k := 10) (by decide) (by decide) rfl rfl fl_X9_143 rfl ?_
          show Sim X (YR ad) 63 [(0, .ref (ad 500)), (1, .long s), (3, .long q), (5, .int (nI (hb (rd t f s q 60).1 60 - 1))), (6, .int (nI 60))] [.long (rd t f s q 60).1, .int (nI (hb (rd t f s q 60).1 60 - 1)), .ref (ad 506)] (up2 I 500 9 (nI r)) (up2 (up2 J 500 10 (rd t f s q 60).1) 500 11 (rd t f s q 60).2) A (va_up (va_up B 506 t) 507 f) 0 0
          refine S_lastN g (i := 506) (e := hb (rd t f s q 60).1 60 - 1) (by decide) rfl (show hb (rd t f s q 60).1 60 - 1 < 60 from by omega) (show (60 : Nat) < 2 ^ 31 from by decide) rfl ?_
          rw [up2_r2 (i := 506) (j := 507) (by decide)]
          rw [up2_r1 (i := 506)]
          refine S_n g 1 (pc' := 65) (lv' := [(0, .ref (ad 500)), (1, .long s), (3, .long q), (5, .int (nI (hb (rd t f s q 60).1 60 - 1))), (6, .int (nI 60))]) (st' := [.ref (ad 500)]) rfl ?_
          refine S_getR g (i := 500) (c := 9) (k := 8) (j := 507) (by decide) (by decide) rfl rfl rfl fl_X9_34 rfl ?_
          refine S_n g 2 (pc' := 71) (lv' := [(0, .ref (ad 500)), (1, .long s), (3, .long q), (5, .int (nI (hb (rd t f s q 60).1 60 - 1))), (6, .int (nI 60))]) (st' := [.ref (ad 500), .int (nI (hb (rd t f s q 60).1 60 - 1)), .ref (ad 507)]) rfl ?_
          refine S_getJ g (i := 500) (c := 9) (k := 11) (by decide) (by decide) rfl rfl fl_X9_147 rfl ?_
          show Sim X (YR ad) 74 [(0, .ref (ad 500)), (1, .long s), (3, .long q), (5, .int (nI (hb (rd t f s q 60).1 60 - 1))), (6, .int (nI 60))] [.long (rd t f s q 60).2, .int (nI (hb (rd t f s q 60).1 60 - 1)), .ref (ad 507)] (up2 I 500 9 (nI r)) (up2 (up2 J 500 10 (rd t f s q 60).1) 500 11 (rd t f s q 60).2) A (va_up (va_up B 506 (va_up t (hb (rd t f s q 60).1 60 - 1) (rd t f s q 60).1)) 507 f) 0 0
          refine S_lastN g (i := 507) (e := hb (rd t f s q 60).1 60 - 1) (by decide) rfl (show hb (rd t f s q 60).1 60 - 1 < 60 from by omega) (show (60 : Nat) < 2 ^ 31 from by decide) rfl ?_
          rw [up2_r1 (i := 507)]
          refine S_n g 2 (pc' := 77) (lv' := [(0, .ref (ad 500)), (1, .long s), (3, .long q), (5, .int (nI (hb (rd t f s q 60).1 60 - 1))), (6, .int (nI 60))]) (st' := [.ref (ad 500), .ref (ad 500)]) rfl ?_
          refine S_getI g (i := 500) (c := 9) (k := 9) (by decide) (by decide) rfl rfl fl_X9_154 rfl ?_
          show Sim X (YR ad) 80 [(0, .ref (ad 500)), (1, .long s), (3, .long q), (5, .int (nI (hb (rd t f s q 60).1 60 - 1))), (6, .int (nI 60))] [.int (nI r), .ref (ad 500)] (up2 I 500 9 (nI r)) (up2 (up2 J 500 10 (rd t f s q 60).1) 500 11 (rd t f s q 60).2) A (va_up (va_up B 506 (va_up t (hb (rd t f s q 60).1 60 - 1) (rd t f s q 60).1)) 507 (va_up f (hb (rd t f s q 60).1 60 - 1) (rd t f s q 60).2)) 0 0
          refine S_n g 2 (pc' := 82) (lv' := [(0, .ref (ad 500)), (1, .long s), (3, .long q), (5, .int (nI (hb (rd t f s q 60).1 60 - 1))), (6, .int (nI 60))]) (st' := [.int ((nI r) + (nI 1)), .ref (ad 500)]) rfl ?_
          rw [nI_add r 1]
          refine S_putI g (i := 500) (c := 9) (k := 9) (kd := 0) (by decide) (by decide) rfl rfl (by decide) fw_X9_154 rfl rfl rfl ?_
          rw [up2_c1 (i := 500) (k := 9)]
          exact rtV rt rfl rfl (⟨rfl, rfl, rfl, _, _, _, _, _, addE_1 hE qz50, rfl, rfl, rfl⟩)
      · skip
        refine S_n g 1 (pc' := 20) (lv' := [(0, .ref (ad 500)), (1, .long s), (3, .long q), (5, .int (hI (hb (rd t f s q 60).1 k))), (6, .int (nI k))]) (st' := [.ref (ad 500)]) rfl ?_
        refine S_getJ g (i := 500) (c := 9) (k := 10) (by decide) (by decide) rfl rfl fl_X9_143 rfl ?_
        show Sim X (YR ad) 23 [(0, .ref (ad 500)), (1, .long s), (3, .long q), (5, .int (hI (hb (rd t f s q 60).1 k))), (6, .int (nI k))] [.long (rd t f s q 60).1] (up2 I 500 9 (nI r)) (up2 (up2 J 500 10 (rd t f s q 60).1) 500 11 (rd t f s q 60).2) A (va_up (va_up B 506 t) 507 f) 0 0
        refine S_n g 4 (pc' := 28) (lv' := [(0, .ref (ad 500)), (1, .long s), (3, .long q), (5, .int (hI (hb (rd t f s q 60).1 k))), (6, .int (nI k))]) (st' := [.long (((rd t f s q 60).1 >>> ((nI k).toInt64 &&& 63)) &&& (lN 1))]) rfl ?_
        refine S_steq (st' := [.long (lN (tb (rd t f s q 60).1 k).toNat)]) (by rw [(show ((rd t f s q 60).1 >>> ((nI k).toInt64 &&& 63)) &&& (lN 1) = lN (tb (rd t f s q 60).1 k).toNat from bit64 (by omega) _).symm]) ?_
        have hb1 : (tb (rd t f s q 60).1 k).toNat ≤ 1 := Bool.toNat_le _
        refine S_n g 1 (pc' := 29) (lv' := [(0, .ref (ad 500)), (1, .long s), (3, .long q), (5, .int (hI (hb (rd t f s q 60).1 k))), (6, .int (nI k))]) (st' := [.long (lN 1), .long (lN (tb (rd t f s q 60).1 k).toNat)]) rfl ?_
        refine S_lcN_ne g (tgt := 38) (by omega) (by omega) rfl rfl (by decide) (fun qz29 => ?_) (fun qz29 => ?_)
        · skip
          refine S_n g 2 (pc' := 42) (lv' := [(0, .ref (ad 500)), (1, .long s), (3, .long q), (5, .int (hI (hb (rd t f s q 60).1 k))), (6, .int (nI k))]) (st' := []) rfl ?_
          refine S_lveq (lv' := [(0, .ref (ad 500)), (1, .long s), (3, .long q), (5, .int (hI (hb (rd t f s q 60).1 (k + 1)))), (6, .int (nI k))]) (by rw [(show hI (hb (rd t f s q 60).1 k) = hI (hb (rd t f s q 60).1 (k + 1)) from by rw [hb, if_neg (by cases h : tb (rd t f s q 60).1 k <;> simp_all)]).symm]) ?_
          refine S_n g 1 (pc' := 45) (lv' := [(0, .ref (ad 500)), (1, .long s), (3, .long q), (5, .int (hI (hb (rd t f s q 60).1 (k + 1)))), (6, .int ((nI k) + nI 1))]) (st' := []) rfl ?_
          rw [nI_add k 1]
          refine S_n g 1 (pc' := 12) (lv' := [(0, .ref (ad 500)), (1, .long s), (3, .long q), (5, .int (hI (hb (rd t f s q 60).1 (k + 1)))), (6, .int (nI (k + 1)))]) (st' := []) rfl ?_
          exact lp (60 - (k + 1)) (by omega) (k + 1) rfl (by omega)
        · skip
          refine S_n g 3 (pc' := 42) (lv' := [(0, .ref (ad 500)), (1, .long s), (3, .long q), (5, .int (nI k)), (6, .int (nI k))]) (st' := []) rfl ?_
          refine S_lveq (lv' := [(0, .ref (ad 500)), (1, .long s), (3, .long q), (5, .int (hI (hb (rd t f s q 60).1 (k + 1)))), (6, .int (nI k))]) (by rw [(show nI k = hI (hb (rd t f s q 60).1 (k + 1)) from by rw [hb, if_pos (by cases h : tb (rd t f s q 60).1 k <;> simp_all), hI_pos (by omega), Nat.add_sub_cancel]).symm]) ?_
          refine S_n g 1 (pc' := 45) (lv' := [(0, .ref (ad 500)), (1, .long s), (3, .long q), (5, .int (hI (hb (rd t f s q 60).1 (k + 1)))), (6, .int ((nI k) + nI 1))]) (st' := []) rfl ?_
          rw [nI_add k 1]
          refine S_n g 1 (pc' := 12) (lv' := [(0, .ref (ad 500)), (1, .long s), (3, .long q), (5, .int (hI (hb (rd t f s q 60).1 (k + 1)))), (6, .int (nI (k + 1)))]) (st' := []) rfl ?_
          exact lp (60 - (k + 1)) (by omega) (k + 1) rfl (by omega)
  exact lp _ 0 rfl (by omega)

set_option maxRecDepth 100000 in
set_option maxHeartbeats 4000000 in
theorem sp_looksAt (ad : Nat → Nat) (I : FI) (J : FJ) (A : FI) (B : FJ) (u n : Nat) (hu : u < 6) (hL : B 501 (81 + u) = lN n) (hn : n ≤ 40) : Spec M_X9_looksAt [.ref (ad 500), .int (nI u)] (YR ad) I J A B (lkP none (elL (B 501 (63 + u)) (fun i => B 501 (87 + 40 * u + i)) n) (YR ad) I J A B) := by
  refine Spec_of (by decide) tk_X9_looksAt (Nat.le_of_ble_eq_true rfl) (fun X g rt => ?_)
  show Sim X (YR ad) 0 [(0, .ref (ad 500)), (1, .int (nI u))] [] I J A B 0 0
  refine S_n g 2 (pc' := 2) (lv' := [(0, .ref (ad 500)), (1, .int (nI u))]) (st' := [.int (nI 0), .ref (ad 500)]) rfl ?_
  refine S_putI g (i := 500) (c := 9) (k := 9) (kd := 0) (by decide) (by decide) rfl rfl (by decide) fw_X9_154 rfl rfl rfl ?_
  refine S_n g 2 (pc' := 7) (lv' := [(0, .ref (ad 500)), (1, .int (nI u)), (2, .int (nI 0))]) (st' := []) rfl ?_
  have lp : ∀ (nn : Nat) (k : Nat) (t : Nat → Int64) (f : Nat → Int64), 60 - k = nn → (k ≤ 60) → (∀ j, j < k → t j = lN 0 ∧ f j = lN 0) → Sim X (YR ad) 7 [(0, .ref (ad 500)), (1, .int (nI u)), (2, .int (nI k))] [] (up2 I 500 9 (nI 0)) J A (va_up (va_up B 506 t) 507 f) 0 0 := by
    intro nn
    induction nn using Nat.strongRecOn with
    | ind nn ih =>
      intro k t f hmz hk hz
      have lp := ih
      refine S_n g 2 (pc' := 10) (lv' := [(0, .ref (ad 500)), (1, .int (nI u)), (2, .int (nI k))]) (st' := [.int (nI 60), .int (nI k)]) rfl ?_
      refine S_icN_ge g (tgt := 33) (by omega) (by omega) rfl (by decide) (fun qz10 => ?_) (fun qz10 => ?_)
      · skip
        have hk9 : k = 60 := by omega
        refine S_n g 2 (pc' := 35) (lv' := [(0, .ref (ad 500)), (1, .int (nI u)), (2, .int (nI 0))]) (st' := []) rfl ?_
        have lp2 : ∀ (nn : Nat) (p : Nat) (r1 : Nat) (t1 : Nat → Int64) (f1 : Nat → Int64) (l1 : Int64) (q1 : Int64), 60 - p = nn → (p ≤ 60) → (EL (elC (B 501 (63 + u)) p) r1 t1 f1) → Sim X (YR ad) 35 [(0, .ref (ad 500)), (1, .int (nI u)), (2, .int (nI p))] [] (up2 I 500 9 (nI r1)) (up2 (up2 J 500 10 l1) 500 11 q1) A (va_up (va_up B 506 t1) 507 f1) 0 0 := by
          intro nn
          induction nn using Nat.strongRecOn with
          | ind nn ih =>
            intro p r1 t1 f1 l1 q1 hmz hp hE1
            have lp2 := ih
            refine S_n g 2 (pc' := 38) (lv' := [(0, .ref (ad 500)), (1, .int (nI u)), (2, .int (nI p))]) (st' := [.int (nI 60), .int (nI p)]) rfl ?_
            refine S_icN_ge g (tgt := 64) (by omega) (by omega) rfl (by decide) (fun qz38 => ?_) (fun qz38 => ?_)
            · skip
              have hp9 : p = 60 := by omega
              refine S_n g 2 (pc' := 66) (lv' := [(0, .ref (ad 500)), (1, .int (nI u)), (2, .int (nI 0))]) (st' := []) rfl ?_
              have lp3 : ∀ (nn : Nat) (i : Nat) (r3 : Nat) (t3 : Nat → Int64) (f3 : Nat → Int64) (l3 : Int64) (q3 : Int64), n - i = nn → (i ≤ n) → (EL (elL (B 501 (63 + u)) (fun i => B 501 (87 + 40 * u + i)) i) r3 t3 f3) → Sim X (YR ad) 66 [(0, .ref (ad 500)), (1, .int (nI u)), (2, .int (nI i))] [] (up2 I 500 9 (nI r3)) (up2 (up2 J 500 10 l3) 500 11 q3) A (va_up (va_up B 506 t3) 507 f3) 0 0 := by
                intro nn
                induction nn using Nat.strongRecOn with
                | ind nn ih =>
                  intro i r3 t3 f3 l3 q3 hmz hi hE3
                  have lp3 := ih
                  refine S_n g 2 (pc' := 68) (lv' := [(0, .ref (ad 500)), (1, .int (nI u)), (2, .int (nI i))]) (st' := [.long (nI i).toInt64]) rfl ?_
                  rw [nI_l (n := i) (by omega)]
                  refine S_n g 1 (pc' := 69) (lv' := [(0, .ref (ad 500)), (1, .int (nI u)), (2, .int (nI i))]) (st' := [.ref (ad 500), .long (lN i)]) rfl ?_
                  refine S_getR g (i := 500) (c := 9) (k := 0) (j := 501) (by decide) (by decide) rfl rfl rfl fl_X9_7 rfl ?_
                  refine S_n g 3 (pc' := 76) (lv' := [(0, .ref (ad 500)), (1, .int (nI u)), (2, .int (nI i))]) (st' := [.int ((nI 81) + (nI u)), .ref (ad 501), .long (lN i)]) rfl ?_
                  rw [nI_add 81 u]
                  refine S_laldN g (i := 501) (e := 81 + u) (by decide) rfl (show 81 + u < 621 from by omega) (show (621 : Nat) < 2 ^ 31 from by decide) rfl ?_
                  show Sim X (YR ad) 77 [(0, .ref (ad 500)), (1, .int (nI u)), (2, .int (nI i))] [.long (B 501 (81 + u)), .long (lN i)] (up2 I 500 9 (nI r3)) (up2 (up2 J 500 10 l3) 500 11 q3) A (va_up (va_up B 506 t3) 507 f3) 0 0
                  rw [hL]
                  refine S_lcN_ge g (tgt := 108) (by omega) (by omega) rfl rfl (by decide) (fun qz77 => ?_) (fun qz77 => ?_)
                  · skip
                    have hi9 : i = n := by omega
                    exact rtV rt rfl rfl (⟨rfl, rfl, rfl, r3, t3, f3, l3, q3, by rw [← hi9]; exact hE3, rfl, rfl, rfl⟩)
                  · skip
                    refine S_n g 2 (pc' := 83) (lv' := [(0, .ref (ad 500)), (1, .int (nI u)), (2, .int (nI i))]) (st' := [.ref (ad 500), .ref (ad 500)]) rfl ?_
                    refine S_getR g (i := 500) (c := 9) (k := 0) (j := 501) (by decide) (by decide) rfl rfl rfl fl_X9_7 rfl ?_
                    refine S_n g 4 (pc' := 92) (lv' := [(0, .ref (ad 500)), (1, .int (nI u)), (2, .int (nI i))]) (st' := [.int ((nI 40) * (nI u)), .int (nI 87), .ref (ad 501), .ref (ad 500)]) rfl ?_
                    rw [pk_mul 40 u]
                    refine S_n g 1 (pc' := 93) (lv' := [(0, .ref (ad 500)), (1, .int (nI u)), (2, .int (nI i))]) (st' := [.int ((nI 87) + (nI (40 * u))), .ref (ad 501), .ref (ad 500)]) rfl ?_
                    rw [nI_add 87 (40 * u)]
                    refine S_n g 2 (pc' := 95) (lv' := [(0, .ref (ad 500)), (1, .int (nI u)), (2, .int (nI i))]) (st' := [.int ((nI (87 + (40 * u))) + (nI i)), .ref (ad 501), .ref (ad 500)]) rfl ?_
                    rw [nI_add (87 + (40 * u)) i]
                    refine S_laldN g (i := 501) (e := (87 + (40 * u)) + i) (by decide) rfl (show (87 + (40 * u)) + i < 621 from by omega) (show (621 : Nat) < 2 ^ 31 from by decide) rfl ?_
                    show Sim X (YR ad) 96 [(0, .ref (ad 500)), (1, .int (nI u)), (2, .int (nI i))] [.long (B 501 ((87 + (40 * u)) + i)), .ref (ad 500)] (up2 I 500 9 (nI r3)) (up2 (up2 J 500 10 l3) 500 11 q3) A (va_up (va_up B 506 t3) 507 f3) 0 0
                    refine S_n g 3 (pc' := 99) (lv' := [(0, .ref (ad 500)), (1, .int (nI u)), (2, .int (nI i))]) (st' := [.long ((lN 1) <<< ((nI i).toInt64 &&& 63)), .long (B 501 ((87 + (40 * u)) + i)), .ref (ad 500)]) rfl ?_
                    refine S_callV g (i := 500) (As := [.long (B 501 ((87 + (40 * u)) + i)), .long ((lN 1) <<< ((nI i).toInt64 &&& 63))]) (st := []) (sp_adds ad I J A B (elL (B 501 (63 + u)) (fun i => B 501 (87 + 40 * u + i)) i) r3 t3 f3 l3 q3 hE3 (B 501 (87 + 40 * u + i)) (b1 i)) mw_X9_adds lk_X9_157 ⟨Nat.le_of_ble_eq_true rfl, Nat.le_of_ble_eq_true rfl⟩ (by decide) (by decide) rfl rfl (Nat.le_of_ble_eq_true rfl) ⟨Nat.le_of_ble_eq_true rfl, Nat.le_of_ble_eq_true rfl⟩ rfl (fun v' Y' I' J' A' B' hpo => ?_)
                    obtain ⟨rfl, rfl, hqA, r2, t2, f2, l2, q2, hE2, hqI, hqJ, hqB⟩ := hpo
                    rw [hqA, hqI, hqJ, hqB]
                    show Sim X (YR ad) 102 [(0, .ref (ad 500)), (1, .int (nI u)), (2, .int (nI i))] [] (up2 I 500 9 (nI r2)) (up2 (up2 J 500 10 l2) 500 11 q2) A (va_up (va_up B 506 t2) 507 f2) 0 0
                    refine S_n g 1 (pc' := 105) (lv' := [(0, .ref (ad 500)), (1, .int (nI u)), (2, .int ((nI i) + nI 1))]) (st' := []) rfl ?_
                    rw [nI_add i 1]
                    refine S_n g 1 (pc' := 66) (lv' := [(0, .ref (ad 500)), (1, .int (nI u)), (2, .int (nI (i + 1)))]) (st' := []) rfl ?_
                    exact lp3 (n - (i + 1)) (by omega) (i + 1) r2 t2 f2 l2 q2 rfl (by omega) hE2
              exact lp3 _ 0 r1 t1 f1 l1 q1 rfl (by omega) (by rw [hp9] at hE1; exact hE1)
            · skip
              refine S_n g 3 (pc' := 44) (lv' := [(0, .ref (ad 500)), (1, .int (nI u)), (2, .int (nI p))]) (st' := [.int (nI p), .int (nI u), .ref (ad 500)]) rfl ?_
              refine S_cV g (i := 500) (As := [.int (nI u), .int (nI p)]) (st := []) (sp_has ad (up2 I 500 9 (nI r1)) (up2 (up2 J 500 10 l1) 500 11 q1) A (va_up (va_up B 506 t1) 507 f1) u p (by omega) (by omega)) mw_X9_has lk_X9_87 ⟨Nat.le_of_ble_eq_true rfl, Nat.le_of_ble_eq_true rfl⟩ (by decide) (by decide) rfl rfl (Nat.le_of_ble_eq_true rfl) ⟨Nat.le_of_ble_eq_true rfl, Nat.le_of_ble_eq_true rfl⟩ rfl ?_
              show Sim X (YR ad) 47 [(0, .ref (ad 500)), (1, .int (nI u)), (2, .int (nI p))] [.int (bI (tb (B 501 (63 + u)) p))] (up2 I 500 9 (nI r1)) (up2 (up2 J 500 10 l1) 500 11 q1) A (va_up (va_up B 506 t1) 507 f1) 0 0
              refine S_ifB_eq g (tgt := 58) rfl (by decide) (fun qz47 => ?_) (fun qz47 => ?_)
              · skip
                refine S_n g 1 (pc' := 61) (lv' := [(0, .ref (ad 500)), (1, .int (nI u)), (2, .int ((nI p) + nI 1))]) (st' := []) rfl ?_
                rw [nI_add p 1]
                refine S_n g 1 (pc' := 35) (lv' := [(0, .ref (ad 500)), (1, .int (nI u)), (2, .int (nI (p + 1)))]) (st' := []) rfl ?_
                exact lp2 (60 - (p + 1)) (by omega) (p + 1) r1 t1 f1 l1 q1 rfl (by omega) (by unfold elC; rw [if_neg (by rw [qz47]; decide)]; exact hE1)
              · skip
                refine S_n g 5 (pc' := 55) (lv' := [(0, .ref (ad 500)), (1, .int (nI u)), (2, .int (nI p))]) (st' := [.long (lN 0), .long ((lN 1) <<< ((nI p).toInt64 &&& 63)), .ref (ad 500)]) rfl ?_
                refine S_callV g (i := 500) (As := [.long ((lN 1) <<< ((nI p).toInt64 &&& 63)), .long (lN 0)]) (st := []) (sp_adds ad I J A B (elC (B 501 (63 + u)) p) r1 t1 f1 l1 q1 hE1 (b1 p) (lN 0)) mw_X9_adds lk_X9_157 ⟨Nat.le_of_ble_eq_true rfl, Nat.le_of_ble_eq_true rfl⟩ (by decide) (by decide) rfl rfl (Nat.le_of_ble_eq_true rfl) ⟨Nat.le_of_ble_eq_true rfl, Nat.le_of_ble_eq_true rfl⟩ rfl (fun v' Y' I' J' A' B' hpo => ?_)
                obtain ⟨rfl, rfl, hqA, r2, t2, f2, l2, q2, hE2, hqI, hqJ, hqB⟩ := hpo
                rw [hqA, hqI, hqJ, hqB]
                show Sim X (YR ad) 58 [(0, .ref (ad 500)), (1, .int (nI u)), (2, .int (nI p))] [] (up2 I 500 9 (nI r2)) (up2 (up2 J 500 10 l2) 500 11 q2) A (va_up (va_up B 506 t2) 507 f2) 0 0
                refine S_n g 1 (pc' := 61) (lv' := [(0, .ref (ad 500)), (1, .int (nI u)), (2, .int ((nI p) + nI 1))]) (st' := []) rfl ?_
                rw [nI_add p 1]
                refine S_n g 1 (pc' := 35) (lv' := [(0, .ref (ad 500)), (1, .int (nI u)), (2, .int (nI (p + 1)))]) (st' := []) rfl ?_
                exact lp2 (60 - (p + 1)) (by omega) (p + 1) r2 t2 f2 l2 q2 rfl (by omega) (by unfold elC; rw [if_pos qz47]; exact hE2)
        have h0 := lp2 _ 0 0 t f (J 500 10) (J 500 11) rfl (by omega) ⟨rfl, fun j hj => hz j (by omega)⟩
        rw [up2_id, up2_id] at h0
        exact h0
      · skip
        refine S_n g 1 (pc' := 14) (lv' := [(0, .ref (ad 500)), (1, .int (nI u)), (2, .int (nI k))]) (st' := [.ref (ad 500)]) rfl ?_
        refine S_getR g (i := 500) (c := 9) (k := 7) (j := 506) (by decide) (by decide) rfl rfl rfl fl_X9_31 rfl ?_
        refine S_n g 2 (pc' := 19) (lv' := [(0, .ref (ad 500)), (1, .int (nI u)), (2, .int (nI k))]) (st' := [.long (lN 0), .int (nI k), .ref (ad 506)]) rfl ?_
        refine S_lastN g (i := 506) (e := k) (by decide) rfl (show k < 60 from by omega) (show (60 : Nat) < 2 ^ 31 from by decide) rfl ?_
        rw [up2_r2 (i := 506) (j := 507) (by decide)]
        rw [up2_r1 (i := 506)]
        refine S_n g 1 (pc' := 21) (lv' := [(0, .ref (ad 500)), (1, .int (nI u)), (2, .int (nI k))]) (st' := [.ref (ad 500)]) rfl ?_
        refine S_getR g (i := 500) (c := 9) (k := 8) (j := 507) (by decide) (by decide) rfl rfl rfl fl_X9_34 rfl ?_
        refine S_n g 2 (pc' := 26) (lv' := [(0, .ref (ad 500)), (1, .int (nI u)), (2, .int (nI k))]) (st' := [.long (lN 0), .int (nI k), .ref (ad 507)]) rfl ?_
        refine S_lastN g (i := 507) (e := k) (by decide) rfl (show k < 60 from by omega) (show (60 : Nat) < 2 ^ 31 from by decide) rfl ?_
        rw [up2_r1 (i := 507)]
        refine S_n g 1 (pc' := 30) (lv' := [(0, .ref (ad 500)), (1, .int (nI u)), (2, .int ((nI k) + nI 1))]) (st' := []) rfl ?_
        rw [nI_add k 1]
        refine S_n g 1 (pc' := 7) (lv' := [(0, .ref (ad 500)), (1, .int (nI u)), (2, .int (nI (k + 1)))]) (st' := []) rfl ?_
        exact lp (60 - (k + 1)) (by omega) (k + 1) (va_up t k (lN 0)) (va_up f k (lN 0)) rfl (by omega) (fun j hj => ⟨zr_s (fun i hi => (hz i hi).1) j hj, zr_s (fun i hi => (hz i hi).2) j hj⟩)
  have h0 := lp _ 0 (B 506) (B 507) rfl (by omega) (fun j hj => absurd hj (Nat.not_lt_zero j))
  rw [va_id, va_id] at h0
  exact h0

/-- a piece is known: its set alone reduces to nothing -/
def knE (E : EE) (p : Nat) : Bool := decide ((rd E.2.1 E.2.2 (b1 p) (lN 0) 60).1 = lN 0)
def knQ (E : EE) (p : Nat) : Int64 := (rd E.2.1 E.2.2 (b1 p) (lN 0) 60).2
theorem knE_eq {E : EE} {r : Nat} {t f : Nat → Int64} (h : EL E r t f) (p : Nat) : rd t f (b1 p) (lN 0) 60 = rd E.2.1 E.2.2 (b1 p) (lN 0) 60 := rd_cong h.2 _ _ 60 (by omega)

set_option maxRecDepth 100000 in
set_option maxHeartbeats 4000000 in
theorem sp_knows (ad : Nat → Nat) (I : FI) (J : FJ) (A : FI) (B : FJ) (E : EE) (r : Nat) (t f : Nat → Int64) (l q0 : Int64) (hE : EL E r t f) (p : Nat) : Spec M_X9_knows [.ref (ad 500), .int (nI p)] (YR ad) (up2 I 500 9 (nI r)) (up2 (up2 J 500 10 l) 500 11 q0) A (va_up (va_up B 506 t) 507 f) (fun v' Y' I' J' A' B' => v' = some (.int (bI (knE E p))) ∧ Y' = YR ad ∧ I' = up2 I 500 9 (nI r) ∧ A' = A ∧ B' = va_up (va_up B 506 t) 507 f ∧ ∃ l2, J' = up2 (up2 J 500 10 l2) 500 11 (knQ E p)) := by
  refine Spec_of (by decide) tk_X9_knows (Nat.le_of_ble_eq_true rfl) (fun X g rt => ?_)
  show Sim X (YR ad) 0 [(0, .ref (ad 500)), (1, .int (nI p))] [] (up2 I 500 9 (nI r)) (up2 (up2 J 500 10 l) 500 11 q0) A (va_up (va_up B 506 t) 507 f) 0 0
  refine S_n g 5 (pc' := 5) (lv' := [(0, .ref (ad 500)), (1, .int (nI p))]) (st' := [.long (lN 0), .long ((lN 1) <<< ((nI p).toInt64 &&& 63)), .ref (ad 500)]) rfl ?_
  refine S_cV g (i := 500) (As := [.long ((lN 1) <<< ((nI p).toInt64 &&& 63)), .long (lN 0)]) (st := []) (sp_reduces ad (up2 I 500 9 (nI r)) (up2 (up2 J 500 10 l) 500 11 q0) A (va_up (va_up B 506 t) 507 f) (b1 p) (lN 0)) mw_X9_reduces lk_X9_150 ⟨Nat.le_of_ble_eq_true rfl, Nat.le_of_ble_eq_true rfl⟩ (by decide) (by decide) rfl rfl (Nat.le_of_ble_eq_true rfl) ⟨Nat.le_of_ble_eq_true rfl, Nat.le_of_ble_eq_true rfl⟩ rfl ?_
  rw [jj]
  show Sim X (YR ad) 8 [(0, .ref (ad 500)), (1, .int (nI p))] [] (up2 I 500 9 (nI r)) (up2 (up2 J 500 10 (rd t f (b1 p) (lN 0) 60).1) 500 11 (rd t f (b1 p) (lN 0) 60).2) A (va_up (va_up B 506 t) 507 f) 0 0
  refine S_n g 1 (pc' := 9) (lv' := [(0, .ref (ad 500)), (1, .int (nI p))]) (st' := [.ref (ad 500)]) rfl ?_
  refine S_getJ g (i := 500) (c := 9) (k := 10) (by decide) (by decide) rfl rfl fl_X9_143 rfl ?_
  show Sim X (YR ad) 12 [(0, .ref (ad 500)), (1, .int (nI p))] [.long (rd t f (b1 p) (lN 0) 60).1] (up2 I 500 9 (nI r)) (up2 (up2 J 500 10 (rd t f (b1 p) (lN 0) 60).1) 500 11 (rd t f (b1 p) (lN 0) 60).2) A (va_up (va_up B 506 t) 507 f) 0 0
  refine S_n g 1 (pc' := 13) (lv' := [(0, .ref (ad 500)), (1, .int (nI p))]) (st' := [.long (lN 0), .long (rd t f (b1 p) (lN 0) 60).1]) rfl ?_
  refine S_lc_ne g (tgt := 21) rfl rfl (by decide) (fun qz13 => ?_) (fun qz13 => ?_)
  · skip
    refine S_n g 1 (pc' := 22) (lv' := [(0, .ref (ad 500)), (1, .int (nI p))]) (st' := [.int (nI 0)]) rfl ?_
    show Sim X (YR ad) 22 [(0, .ref (ad 500)), (1, .int (nI p))] [.int (bI false)] (up2 I 500 9 (nI r)) (up2 (up2 J 500 10 (rd t f (b1 p) (lN 0) 60).1) 500 11 (rd t f (b1 p) (lN 0) 60).2) A (va_up (va_up B 506 t) 507 f) 0 0
    exact rtZ rt rfl rfl (by rw [show knE E p = false from by unfold knE; rw [← knE_eq hE p]; exact decide_eq_false qz13]; exact ⟨rfl, rfl, rfl, rfl, rfl, _, by unfold knQ; rw [← knE_eq hE p]⟩)
  · skip
    refine S_n g 2 (pc' := 22) (lv' := [(0, .ref (ad 500)), (1, .int (nI p))]) (st' := [.int (nI 1)]) rfl ?_
    show Sim X (YR ad) 22 [(0, .ref (ad 500)), (1, .int (nI p))] [.int (bI true)] (up2 I 500 9 (nI r)) (up2 (up2 J 500 10 (rd t f (b1 p) (lN 0) 60).1) 500 11 (rd t f (b1 p) (lN 0) 60).2) A (va_up (va_up B 506 t) 507 f) 0 0
    exact rtZ rt rfl rfl (by rw [show knE E p = true from by unfold knE; rw [← knE_eq hE p]; exact decide_eq_true qz13]; exact ⟨rfl, rfl, rfl, rfl, rfl, _, by unfold knQ; rw [← knE_eq hE p]⟩)
