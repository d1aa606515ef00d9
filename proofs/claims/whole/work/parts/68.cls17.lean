/-! the class: begin, reset -/
/-- the limits of the lists -/
def Lim (b : Nat) (I : FI) : Prop := I (b + 3) 2 = nI 100 ∧ I (b + 6) 2 = nI 100 ∧ ∀ u, u < 6 → I (b + 20 + 4 * u + 1) 2 = nI 40
theorem RepW_lim {b : Nat} {m : Nat → Int64} {I : FI} {J : FJ} {A : FI} {B : FJ} (h : RepW b m I J A B) : Lim b I := ⟨h.2.2.2.2.2.2.1.1, h.2.2.2.2.2.2.2.1.1, fun u hu => (h.2.2.2.2.1 u hu).1⟩
theorem beg_ps {nf nu nc : Nat} (h4 : nu ≤ 6) {m : Nat → Int64} (h : isBeg nf nu nc m) : pS m nu = 2 ^ nu - 1 := by
  apply Nat.eq_of_testBit_eq
  intro b
  rw [pS_bit, Nat.testBit_two_pow_sub_one]
  by_cases q : b < nu
  · rw [h (75 + b) (by omega)]
    unfold begF
    rw [if_neg (by omega), if_neg (by omega), if_neg (by omega), if_neg (by omega), if_neg (by omega), if_neg (by omega), if_neg (by omega), if_pos (by omega), if_pos (by omega), decide_eq_true q]
    rfl
  · rw [decide_eq_false q]; rfl
theorem bitp : ∀ nu, nu < 7 → nI 1 <<< (nI nu &&& 31) - nI 1 = nI (2 ^ nu - 1) := by decide +kernel
theorem RepW_beg {nf nu nc : Nat} (h1 : nf ≤ 5) (h4 : nu ≤ 6) {m : Nat → Int64} (h : isBeg nf nu nc m) {I : FI} {J : FJ} {A : FI} {B : FJ} (hL : Lim 100 I) (e0 : I 100 5 = nI nf ∧ I 100 6 = nI nu ∧ I 100 7 = nI nc ∧ I 100 9 = nI 0) (e1 : I 100 8 = nI (2 ^ nu - 1)) (e2 : ∀ p, p < 60 → A 101 p = nI ((37 * p + 11) % 256)) (e3 : ∀ u, u < 6 → J (120 + 4 * u) 1 = lN 0 ∧ I (120 + 4 * u) 2 = -nI 1 ∧ I (120 + 4 * u + 1) 3 = nI 0) (e4 : I 103 3 = nI 0 ∧ I 106 3 = nI 0 ∧ I 109 3 = nI 0) : RepW 100 m I J A B := by
  have b0 : m 0 = lN nf := h 0 (by decide)
  have b1 : m 1 = lN nu := h 1 (by decide)
  have b2 : m 2 = lN nc := h 2 (by decide)
  have b9 : m 620 = lN 0 := h 620 (by decide)
  have bq : m 327 = lN 0 := h 327 (by decide)
  have bh : m 428 = lN 0 := h 428 (by decide)
  have bp : m 529 = lN 0 := h 529 (by decide)
  have g0 : gN (lN 0) = 0 := gN_lN (by decide)
  have gl : ∀ u, u < 6 → lnG m u = 0 := fun u hu => by
    unfold lnG
    rw [h (81 + u) (by omega)]
    unfold begF
    rw [if_neg (by omega), if_neg (by omega), if_neg (by omega), if_neg (by omega), if_neg (by omega), if_neg (by omega), if_neg (by omega), if_neg (by omega)]
    exact g0
  refine ⟨?_, ?_, ?_, ?_, ?_, ?_, ?_, ?_, ?_⟩
  · unfold r0w
    rw [b0, b1, b2, b9, lN_i, lN_i, lN_i, lN_i]
    exact e0
  · unfold r1w
    rw [b1, gN_lN (by omega), pS_pre _ h4, beg_ps h4 h]
    exact e1
  · intro p hp
    rw [h (3 + p) (by omega)]
    unfold begF
    rw [if_neg (by omega), if_neg (by omega), if_neg (by omega), if_neg (by omega), if_pos (by omega), lN_i, show 3 + p - 3 = p by omega]
    exact e2 p hp
  · intro u hu
    rw [h (63 + u) (by omega), h (69 + u) (by omega)]
    unfold begF
    rw [if_neg (by omega), if_neg (by omega), if_neg (by omega), if_neg (by omega), if_neg (by omega), if_pos (by omega), if_neg (by omega), if_neg (by omega), if_neg (by omega), if_neg (by omega), if_neg (by omega), if_neg (by omega), if_pos (by omega)]
    exact ⟨(e3 u hu).1, (e3 u hu).2.1⟩
  · intro u hu
    rw [gl u hu]
    exact ⟨hL.2.2 u hu, (e3 u hu).2.2, fun k hk => absurd hk (Nat.not_lt_zero k)⟩
  · intro u hu k hk
    rw [gl u hu] at hk
    exact absurd hk (Nat.not_lt_zero k)
  · unfold r6w
    rw [bq, g0]
    exact ⟨hL.1, e4.1, fun k hk => absurd hk (Nat.not_lt_zero k)⟩
  · unfold r7w
    rw [bh, g0]
    exact ⟨hL.2.1, e4.2.1, fun k hk => absurd hk (Nat.not_lt_zero k)⟩
  · unfold r8w
    rw [bp, g0]
    exact ⟨e4.2.2, fun k hk => absurd hk (Nat.not_lt_zero k)⟩

set_option maxRecDepth 100000 in
set_option maxHeartbeats 4000000 in
theorem mb_begin (ad : Nat → Nat) (z0 z1 : Bool) (I : FI) (J : FJ) (A : FI) (B : FJ) (u : Nat) (hu : u < 6) : Spec M_X2_begin [.ref (ad (120 + 4 * u))] (YC ad z0 z1) I J A B (eqP none (YC ad z0 z1) (up2 (up2 I (120 + 4 * u + 1) 3 (nI 0)) (120 + 4 * u) 2 (-nI 1)) (up2 J (120 + 4 * u) 1 (lN 0)) A B) := by
  refine Spec_of (by decide) tk_X2_begin (Nat.le_of_ble_eq_true rfl) (fun X g rt => ?_)
  show Sim X (YC ad z0 z1) 0 [(0, .ref (ad (120 + 4 * u)))] [] I J A B 0 0
  refine S_n g 1 (pc' := 1) (lv' := [(0, .ref (ad (120 + 4 * u)))]) (st' := [.ref (ad (120 + 4 * u))]) rfl ?_
  refine S_getR g (i := 120 + 4 * u) (c := 2) (k := 0) (j := 120 + 4 * u + 1) (by omega) (by decide) (mb7 hu).1 rfl (mb7 hu).2.1 fl_X2_14 rfl ?_
  refine S_n g 1 (pc' := 5) (lv' := [(0, .ref (ad (120 + 4 * u)))]) (st' := [.int (nI 0), .ref (ad (120 + 4 * u + 1))]) rfl ?_
  refine S_putI g (i := 120 + 4 * u + 1) (c := 6) (k := 3) (kd := 0) (by omega) (by decide) (mb7 hu).2.2.2.1 rfl (by decide) fw_X2_20 rfl rfl rfl ?_
  refine S_n g 2 (pc' := 10) (lv' := [(0, .ref (ad (120 + 4 * u)))]) (st' := [.long (lN 0), .ref (ad (120 + 4 * u))]) rfl ?_
  refine S_putJ g (i := 120 + 4 * u) (c := 2) (k := 1) (by omega) (by decide) (mb7 hu).1 rfl fw_X2_24 rfl ?_
  refine S_n g 2 (pc' := 15) (lv' := [(0, .ref (ad (120 + 4 * u)))]) (st' := [.int (-nI 1), .ref (ad (120 + 4 * u))]) rfl ?_
  refine S_putI g (i := 120 + 4 * u) (c := 2) (k := 2) (kd := 0) (by omega) (by decide) (mb7 hu).1 rfl (by decide) fw_X2_28 rfl rfl rfl ?_
  exact rtV rt rfl rfl eqP_rf

set_option maxRecDepth 100000 in
set_option maxHeartbeats 4000000 in
theorem w_begin (ad : Nat → Nat) (z0 z1 : Bool) (I : FI) (J : FJ) (A : FI) (B : FJ) (nf nu nc : Nat) (h1 : nf ≤ 5) (h4 : nu ≤ 6) (h5 : nc ≤ 60) (hL : Lim 100 I) : Spec M_X7_begin [.ref (ad 100), .int (nI nf), .int (nI nu), .int (nI nc)] (YC ad z0 z1) I J A B (fun v' Y' I' J' A' B' => v' = none ∧ Y' = YC ad z0 z1 ∧ (∀ m, isBeg nf nu nc m → RepW 100 m I' J' A' B') ∧ kpC I J A B I' J' A' B') := by
  refine Spec_of (by decide) tk_X7_begin (Nat.le_of_ble_eq_true rfl) (fun X g rt => ?_)
  show Sim X (YC ad z0 z1) 0 [(0, .ref (ad 100)), (1, .int (nI nf)), (2, .int (nI nu)), (3, .int (nI nc))] [] I J A B 0 0
  refine S_n g 2 (pc' := 2) (lv' := [(0, .ref (ad 100)), (1, .int (nI nf)), (2, .int (nI nu)), (3, .int (nI nc))]) (st' := [.int (nI nf), .ref (ad 100)]) rfl ?_
  refine S_putI g (i := 100) (c := 7) (k := 5) (kd := 0) (by decide) (by decide) rfl rfl (by decide) fw_X7_41 rfl rfl rfl ?_
  refine S_n g 2 (pc' := 7) (lv' := [(0, .ref (ad 100)), (1, .int (nI nf)), (2, .int (nI nu)), (3, .int (nI nc))]) (st' := [.int (nI nu), .ref (ad 100)]) rfl ?_
  refine S_putI g (i := 100) (c := 7) (k := 6) (kd := 0) (by decide) (by decide) rfl rfl (by decide) fw_X7_45 rfl rfl rfl ?_
  refine S_n g 2 (pc' := 12) (lv' := [(0, .ref (ad 100)), (1, .int (nI nf)), (2, .int (nI nu)), (3, .int (nI nc))]) (st' := [.int (nI nc), .ref (ad 100)]) rfl ?_
  refine S_putI g (i := 100) (c := 7) (k := 7) (kd := 0) (by decide) (by decide) rfl rfl (by decide) fw_X7_48 rfl rfl rfl ?_
  refine S_n g 6 (pc' := 21) (lv' := [(0, .ref (ad 100)), (1, .int (nI nf)), (2, .int (nI nu)), (3, .int (nI nc))]) (st' := [.int (((nI 1) <<< ((nI nu) &&& 31)) - (nI 1)), .ref (ad 100)]) rfl ?_
  refine S_steq (st' := [.int (nI (2 ^ nu - 1)), .ref (ad 100)]) (by rw [(show ((nI 1) <<< ((nI nu) &&& 31)) - (nI 1) = nI (2 ^ nu - 1) from bitp nu (by omega)).symm]) ?_
  refine S_putI g (i := 100) (c := 7) (k := 8) (kd := 0) (by decide) (by decide) rfl rfl (by decide) fw_X7_51 rfl rfl rfl ?_
  refine S_n g 2 (pc' := 26) (lv' := [(0, .ref (ad 100)), (1, .int (nI nf)), (2, .int (nI nu)), (3, .int (nI nc))]) (st' := [.int (nI 0), .ref (ad 100)]) rfl ?_
  refine S_putI g (i := 100) (c := 7) (k := 9) (kd := 0) (by decide) (by decide) rfl rfl (by decide) fw_X7_54 rfl rfl rfl ?_
  refine S_n g 2 (pc' := 32) (lv' := [(0, .ref (ad 100)), (1, .int (nI nf)), (2, .int (nI nu)), (3, .int (nI nc)), (4, .int (nI 0))]) (st' := []) rfl ?_
  obtain ⟨I1, hI1⟩ : ∃ I1 : FI, I1 = up2 (up2 (up2 (up2 (up2 I 100 5 (nI nf)) 100 6 (nI nu)) 100 7 (nI nc)) 100 8 (nI (2 ^ nu - 1))) 100 9 (nI 0) := ⟨_, rfl⟩
  rw [← hI1]
  show Sim X (YC ad z0 z1) 32 [(0, .ref (ad 100)), (1, .int (nI nf)), (2, .int (nI nu)), (3, .int (nI nc)), (4, .int (nI 0))] [] I1 J A B 0 0
  have lp : ∀ (nn : Nat) (p : Nat) (r : Nat → Int32), 60 - p = nn → (p ≤ 60) → (∀ k, k < p → r k = nI ((37 * k + 11) % 256)) → Sim X (YC ad z0 z1) 32 [(0, .ref (ad 100)), (1, .int (nI nf)), (2, .int (nI nu)), (3, .int (nI nc)), (4, .int (nI p))] [] I1 J (va_up A 101 r) B 0 0 := by
    intro nn
    induction nn using Nat.strongRecOn with
    | ind nn ih =>
      intro p r hmz hp hr
      have lp := ih
      refine S_n g 2 (pc' := 36) (lv' := [(0, .ref (ad 100)), (1, .int (nI nf)), (2, .int (nI nu)), (3, .int (nI nc)), (4, .int (nI p))]) (st' := [.int (nI 60), .int (nI p)]) rfl ?_
      refine S_icN_ge g (tgt := 64) (by omega) (by omega) rfl (by decide) (fun qz36 => ?_) (fun qz36 => ?_)
      · skip
        have hp9 : p = 60 := by omega
        subst hp9
        refine S_n g 2 (pc' := 67) (lv' := [(0, .ref (ad 100)), (1, .int (nI nf)), (2, .int (nI nu)), (3, .int (nI nc)), (4, .int (nI 0))]) (st' := []) rfl ?_
        have lp2 : ∀ (nn : Nat) (u : Nat) (I2 : FI) (J2 : FJ), 6 - u = nn → (u ≤ 6) → (∀ i, i < 120 ∨ 144 ≤ i → I2 i = I1 i ∧ J2 i = J i) → (∀ v, v < 6 → I2 (120 + 4 * v + 1) 2 = I (120 + 4 * v + 1) 2) → (∀ v, v < u → J2 (120 + 4 * v) 1 = lN 0 ∧ I2 (120 + 4 * v) 2 = -nI 1 ∧ I2 (120 + 4 * v + 1) 3 = nI 0) → Sim X (YC ad z0 z1) 67 [(0, .ref (ad 100)), (1, .int (nI nf)), (2, .int (nI nu)), (3, .int (nI nc)), (4, .int (nI u))] [] I2 J2 (va_up A 101 r) B 0 0 := by
          intro nn
          induction nn using Nat.strongRecOn with
          | ind nn ih =>
            intro u I2 J2 hmz hu9 hk2 hl2 hd2
            have lp2 := ih
            refine S_n g 2 (pc' := 71) (lv' := [(0, .ref (ad 100)), (1, .int (nI nf)), (2, .int (nI nu)), (3, .int (nI nc)), (4, .int (nI u))]) (st' := [.int (nI 6), .int (nI u)]) rfl ?_
            refine S_icN_ge g (tgt := 90) (by omega) (by omega) rfl (by decide) (fun qz71 => ?_) (fun qz71 => ?_)
            · skip
              refine S_n g 1 (pc' := 91) (lv' := [(0, .ref (ad 100)), (1, .int (nI nf)), (2, .int (nI nu)), (3, .int (nI nc)), (4, .int (nI u))]) (st' := [.ref (ad 100)]) rfl ?_
              refine S_getR g (i := 100) (c := 7) (k := 2) (j := 103) (by decide) (by decide) rfl rfl rfl fl_X7_26 rfl ?_
              refine S_n g 1 (pc' := 95) (lv' := [(0, .ref (ad 100)), (1, .int (nI nf)), (2, .int (nI nu)), (3, .int (nI nc)), (4, .int (nI u))]) (st' := [.int (nI 0), .ref (ad 103)]) rfl ?_
              refine S_putI g (i := 103) (c := 6) (k := 3) (kd := 0) (by decide) (by decide) rfl rfl (by decide) fw_X7_60 rfl rfl rfl ?_
              refine S_n g 1 (pc' := 99) (lv' := [(0, .ref (ad 100)), (1, .int (nI nf)), (2, .int (nI nu)), (3, .int (nI nc)), (4, .int (nI u))]) (st' := [.ref (ad 100)]) rfl ?_
              refine S_getR g (i := 100) (c := 7) (k := 3) (j := 106) (by decide) (by decide) rfl rfl rfl fl_X7_30 rfl ?_
              refine S_n g 1 (pc' := 103) (lv' := [(0, .ref (ad 100)), (1, .int (nI nf)), (2, .int (nI nu)), (3, .int (nI nc)), (4, .int (nI u))]) (st' := [.int (nI 0), .ref (ad 106)]) rfl ?_
              refine S_putI g (i := 106) (c := 6) (k := 3) (kd := 0) (by decide) (by decide) rfl rfl (by decide) fw_X7_60 rfl rfl rfl ?_
              refine S_n g 1 (pc' := 107) (lv' := [(0, .ref (ad 100)), (1, .int (nI nf)), (2, .int (nI nu)), (3, .int (nI nc)), (4, .int (nI u))]) (st' := [.ref (ad 100)]) rfl ?_
              refine S_getR g (i := 100) (c := 7) (k := 4) (j := 109) (by decide) (by decide) rfl rfl rfl fl_X7_36 rfl ?_
              refine S_n g 1 (pc' := 111) (lv' := [(0, .ref (ad 100)), (1, .int (nI nf)), (2, .int (nI nu)), (3, .int (nI nc)), (4, .int (nI u))]) (st' := [.int (nI 0), .ref (ad 109)]) rfl ?_
              refine S_putI g (i := 109) (c := 3) (k := 3) (kd := 0) (by decide) (by decide) rfl rfl (by decide) fw_X7_63 rfl rfl rfl ?_
              have k1 : ∀ i, i ≠ 100 → I1 i = I i := fun i hi => by rw [hI1, u2r hi, u2r hi, u2r hi, u2r hi, u2r hi]
              have k2 : I1 100 5 = nI nf ∧ I1 100 6 = nI nu ∧ I1 100 7 = nI nc ∧ I1 100 9 = nI 0 ∧ I1 100 8 = nI (2 ^ nu - 1) := by rw [hI1]; exact ⟨rfl, rfl, rfl, rfl, rfl⟩
              have k3 : ∀ i, i < 120 ∨ 144 ≤ i → i ≠ 103 → i ≠ 106 → i ≠ 109 → up2 (up2 (up2 I2 103 3 (nI 0)) 106 3 (nI 0)) 109 3 (nI 0) i = I1 i := fun i hi a b c => by rw [u2r c, u2r b, u2r a]; exact (hk2 i hi).1
              have k4 : ∀ i k, (i ≠ 103 ∧ i ≠ 106 ∧ i ≠ 109) ∨ k ≠ 3 → up2 (up2 (up2 I2 103 3 (nI 0)) 106 3 (nI 0)) 109 3 (nI 0) i k = I2 i k := fun i k h => by rcases h with h | h; (· rw [u2r h.2.2, u2r h.2.1, u2r h.1]); (· rw [u2j (Or.inr h), u2j (Or.inr h), u2j (Or.inr h)])
              have hu7 : u = 6 := by omega
              subst hu7
              refine rtV rt rfl rfl ⟨rfl, rfl, fun m hm => RepW_beg h1 h4 hm ⟨?_, ?_, fun v hv => ?_⟩ ?_ ?_ (fun p hp => ?_) (fun v hv => ⟨(hd2 v hv).1, ?_, ?_⟩) ⟨rfl, rfl, rfl⟩, fun i hi => ⟨?_, (hk2 i (Or.inr (by omega))).2, va_up_ne _ _ (by omega), rfl⟩, ?_, rfl, ?_, rfl, rfl⟩
              · rw [k4 _ _ (Or.inr (by decide)), (hk2 _ (by omega)).1, k1 _ (by decide)]; exact hL.1
              · rw [k4 _ _ (Or.inr (by decide)), (hk2 _ (by omega)).1, k1 _ (by decide)]; exact hL.2.1
              · rw [k4 _ _ (Or.inr (by decide))]; exact (hl2 v hv).trans (hL.2.2 v hv)
              · rw [k3 100 (by omega) (by decide) (by decide) (by decide)]; exact ⟨k2.1, k2.2.1, k2.2.2.1, k2.2.2.2.1⟩
              · rw [k3 100 (by omega) (by decide) (by decide) (by decide)]; exact k2.2.2.2.2
              · rw [va_up_self]; exact hr p (by omega)
              · rw [k4 _ _ (Or.inl (by omega))]; exact (hd2 v hv).2.1
              · rw [k4 _ _ (Or.inl (by omega))]; exact (hd2 v hv).2.2
              · rw [k3 i (by omega) (by omega) (by omega) (by omega), k1 i (by omega)]
              · rw [k3 13 (by omega) (by decide) (by decide) (by decide), k1 13 (by decide)]
              · rw [k3 0 (by omega) (by decide) (by decide) (by decide), k1 0 (by decide)]
            · skip
              have hu : u < 6 := by omega
              refine S_n g 1 (pc' := 75) (lv' := [(0, .ref (ad 100)), (1, .int (nI nf)), (2, .int (nI nu)), (3, .int (nI nc)), (4, .int (nI u))]) (st' := [.ref (ad 100)]) rfl ?_
              refine S_getR g (i := 100) (c := 7) (k := 1) (j := 102) (by decide) (by decide) rfl rfl rfl fl_X7_17 rfl ?_
              refine S_n g 1 (pc' := 80) (lv' := [(0, .ref (ad 100)), (1, .int (nI nf)), (2, .int (nI nu)), (3, .int (nI nc)), (4, .int (nI u))]) (st' := [.int (nI u), .ref (ad 102)]) rfl ?_
              refine S_aaldN g (i := 102) (e := u) (j := 120 + 4 * u) (by decide) rfl (show u < 6 from by omega) (show (6 : Nat) < 2 ^ 31 from by decide) rfl rfl ?_
              refine S_cV g (i := 120 + 4 * u) (As := []) (st := []) (mb_begin ad z0 z1 I2 J2 (va_up A 101 r) B u hu) mw_X2_begin lk_X7_57 ⟨Nat.le_of_ble_eq_true rfl, Nat.le_of_ble_eq_true rfl⟩ (by omega) (by decide) (mb7 hu).1 rfl (Nat.le_of_ble_eq_true rfl) ⟨Nat.le_of_ble_eq_true rfl, Nat.le_of_ble_eq_true rfl⟩ rfl ?_
              show Sim X (YC ad z0 z1) 84 [(0, .ref (ad 100)), (1, .int (nI nf)), (2, .int (nI nu)), (3, .int (nI nc)), (4, .int (nI u))] [] (up2 (up2 I2 (120 + 4 * u + 1) 3 (nI 0)) (120 + 4 * u) 2 (-nI 1)) (up2 J2 (120 + 4 * u) 1 (lN 0)) (va_up A 101 r) B 0 0
              refine S_n g 1 (pc' := 87) (lv' := [(0, .ref (ad 100)), (1, .int (nI nf)), (2, .int (nI nu)), (3, .int (nI nc)), (4, .int ((nI u) + nI 1))]) (st' := []) rfl ?_
              rw [nI_add u 1]
              refine S_n g 1 (pc' := 67) (lv' := [(0, .ref (ad 100)), (1, .int (nI nf)), (2, .int (nI nu)), (3, .int (nI nc)), (4, .int (nI (u + 1)))]) (st' := []) rfl ?_
              exact lp2 (6 - (u + 1)) (by omega) (u + 1) (up2 (up2 I2 (120 + 4 * u + 1) 3 (nI 0)) (120 + 4 * u) 2 (-nI 1)) (up2 J2 (120 + 4 * u) 1 (lN 0)) rfl (by omega) (fun i hi => by rw [u2r (by omega), u2r (by omega), u2r (by omega)]; exact hk2 i hi) (fun v hv => by rw [u2j (Or.inl (by omega)), u2j (Or.inr (by decide))]; exact hl2 v hv) (fun v hv => by by_cases e : v = u; (· subst e; exact ⟨up2_same _ _ _ _, up2_same _ _ _ _, by rw [u2j (Or.inl (by omega))]; exact up2_same _ _ _ _⟩); (· rw [u2j (Or.inl (by omega)), u2j (Or.inl (by omega)), u2j (Or.inl (by omega)), u2j (Or.inl (by omega)), u2j (Or.inl (by omega))]; exact hd2 v (by omega)))
        exact lp2 _ 0 I1 J rfl (Nat.zero_le _) (fun i hi => ⟨rfl, rfl⟩) (fun v hv => by rw [hI1, u2r (by omega), u2r (by omega), u2r (by omega), u2r (by omega), u2r (by omega)]) (fun v hv => absurd hv (Nat.not_lt_zero v))
      · skip
        refine S_n g 1 (pc' := 40) (lv' := [(0, .ref (ad 100)), (1, .int (nI nf)), (2, .int (nI nu)), (3, .int (nI nc)), (4, .int (nI p))]) (st' := [.ref (ad 100)]) rfl ?_
        refine S_getR g (i := 100) (c := 7) (k := 0) (j := 101) (by decide) (by decide) rfl rfl rfl fl_X7_9 rfl ?_
        refine S_n g 4 (pc' := 50) (lv' := [(0, .ref (ad 100)), (1, .int (nI nf)), (2, .int (nI nu)), (3, .int (nI nc)), (4, .int (nI p))]) (st' := [.int ((nI 37) * (nI p)), .int (nI p), .ref (ad 101)]) rfl ?_
        rw [pk_mul 37 p]
        refine S_n g 2 (pc' := 53) (lv' := [(0, .ref (ad 100)), (1, .int (nI nf)), (2, .int (nI nu)), (3, .int (nI nc)), (4, .int (nI p))]) (st' := [.int ((nI (37 * p)) + (nI 11)), .int (nI p), .ref (ad 101)]) rfl ?_
        rw [nI_add (37 * p) 11]
        refine S_n g 1 (pc' := 56) (lv' := [(0, .ref (ad 100)), (1, .int (nI nf)), (2, .int (nI nu)), (3, .int (nI nc)), (4, .int (nI p))]) (st' := [.int (nI 256), .int (nI ((37 * p) + 11)), .int (nI p), .ref (ad 101)]) rfl ?_
        refine S_irem g (nI_z1 (by omega) (by omega)) rfl ?_
        rw [pk_rem (a := (37 * p) + 11) (d := 256) (by omega) (by omega) (by omega)]
        refine S_iastN g (i := 101) (e := p) (by decide) rfl (show p < 60 from by omega) (show (60 : Nat) < 2 ^ 31 from by decide) rfl ?_
        rw [up2_r1 (i := 101)]
        refine S_n g 1 (pc' := 61) (lv' := [(0, .ref (ad 100)), (1, .int (nI nf)), (2, .int (nI nu)), (3, .int (nI nc)), (4, .int ((nI p) + nI 1))]) (st' := []) rfl ?_
        rw [nI_add p 1]
        refine S_n g 1 (pc' := 32) (lv' := [(0, .ref (ad 100)), (1, .int (nI nf)), (2, .int (nI nu)), (3, .int (nI nc)), (4, .int (nI (p + 1)))]) (st' := []) rfl ?_
        exact lp (60 - (p + 1)) (by omega) (p + 1) (va_up r p (nI (((37 * p) + 11) % 256))) rfl (by omega) (fun k hk => by by_cases e : k = p; (· subst e; rw [va_up_self]); (· rw [va_up_ne _ _ e]; exact hr k (by omega)))
  have h0 := lp _ 0 (A 101) rfl (Nat.zero_le _) (fun k hk => absurd hk (Nat.not_lt_zero k))
  rw [va_id] at h0
  exact h0

theorem lt_1 {x : Int32} {n : Nat} (h : x < nI 1) : isIn x 1 n = false := by
  unfold isIn
  rw [Int32.lt_iff_toInt_lt, show (nI 1).toInt = 1 from rfl] at h
  exact decide_eq_false (by omega)
theorem gt_n {x : Int32} {n lo : Nat} (hn : n < 2 ^ 31) (h : ¬ x ≤ nI n) : isIn x lo n = false := by
  unfold isIn
  rw [Int32.le_iff_toInt_le, nI_toInt hn] at h
  exact decide_eq_false (by omega)
theorem in_n {x : Int32} {n : Nat} (hn : n < 2 ^ 31) (h1 : ¬ x < nI 1) (h : x ≤ nI n) : isIn x 1 n = true := by
  unfold isIn
  rw [Int32.lt_iff_toInt_lt, show (nI 1).toInt = 1 from rfl] at h1
  rw [Int32.le_iff_toInt_le, nI_toInt hn] at h
  exact decide_eq_true (by omega)
theorem ilt_0 {x : Int32} {n : Nat} (h : x < 0) : isIn x 0 n = false := by
  unfold isIn
  rw [Int32.lt_iff_toInt_lt, show (0 : Int32).toInt = 0 from rfl] at h
  exact decide_eq_false (by omega)
theorem in_0 {x : Int32} {n : Nat} (hn : n < 2 ^ 31) (h1 : ¬ x < 0) (h : x ≤ nI n) : isIn x 0 n = true := by
  unfold isIn
  rw [Int32.lt_iff_toInt_lt, show (0 : Int32).toInt = 0 from rfl] at h1
  rw [Int32.le_iff_toInt_le, nI_toInt hn] at h
  exact decide_eq_true (by omega)
theorem isIn_k {x : Int32} {lo hi : Nat} (h : isIn x lo hi = true) : ∃ k, (lo ≤ k ∧ k ≤ hi) ∧ x = nI k ∧ ix x = k := by
  have h1 := of_decide_eq_true h
  refine ⟨x.toInt.toNat, by omega, ?_, ?_⟩
  · have := Int32.toInt_lt x
    apply Int32.toInt_inj.mp
    rw [nI_toInt (by omega)]
    omega
  · unfold ix
    rfl
/-- reset's answer: every row that begins so is stood for -/
def crP (ad : Nat → Nat) (z0 z1 : Bool) (x y z : Int32) (m : Nat → Int64) (I : FI) (J : FJ) (A : FI) (B : FJ) : PO := fun v' Y' I' J' A' B' => Y' = YC ad z0 z1 ∧ kpC I J A B I' J' A' B' ∧ if isIn x 1 5 = true ∧ isIn y 1 6 = true ∧ isIn z 0 60 = true then v' = some (.int (nI (12 * ix x))) ∧ ∀ m', isBeg (ix x) (ix y) (ix z) m' → RepW 100 m' I' J' A' B' else v' = some (.int (-nI 101)) ∧ RepW 100 m I' J' A' B'

set_option maxRecDepth 100000 in
set_option maxHeartbeats 4000000 in
theorem c_reset (ad : Nat → Nat) (z0 z1 : Bool) (I : FI) (J : FJ) (A : FI) (B : FJ) (x y z : Int32) (m : Nat → Int64) (hR : RepW 100 m I J A B) : Spec M_X8_reset [.ref (ad 0), .int x, .int y, .int z] (YC ad z0 z1) I J A B (crP ad z0 z1 x y z m I J A B) := by
  refine Spec_of (by decide) tk_X8_reset (Nat.le_of_ble_eq_true rfl) (fun X g rt => ?_)
  show Sim X (YC ad z0 z1) 0 [(0, .ref (ad 0)), (1, .int x), (2, .int y), (3, .int z)] [] I J A B 0 0
  refine S_n g 2 (pc' := 2) (lv' := [(0, .ref (ad 0)), (1, .int x), (2, .int y), (3, .int z)]) (st' := [.int (nI 1), .int x]) rfl ?_
  refine S_ic_lt g (tgt := 21) rfl (by decide) (fun qz2 => ?_) (fun qz2 => ?_)
  · skip
    have hx := lt_1 (n := 5) qz2
    refine S_n g 1 (pc' := 23) (lv' := [(0, .ref (ad 0)), (1, .int x), (2, .int y), (3, .int z)]) (st' := [.int (-nI 101)]) rfl ?_
    exact rtI rt rfl rfl (⟨rfl, kpC_rf I J A B, by rw [if_neg (by rw [hx]; simp)]; exact ⟨rfl, hR⟩⟩)
  · skip
    refine S_n g 2 (pc' := 7) (lv' := [(0, .ref (ad 0)), (1, .int x), (2, .int y), (3, .int z)]) (st' := [.int (nI 5), .int x]) rfl ?_
    refine S_ic_gt g (tgt := 21) rfl (by decide) (fun qz7 => ?_) (fun qz7 => ?_)
    · skip
      have hx := gt_n (n := 5) (lo := 1) (by decide) (fun q => absurd qz7 (nlt32.mpr q))
      refine S_n g 1 (pc' := 23) (lv' := [(0, .ref (ad 0)), (1, .int x), (2, .int y), (3, .int z)]) (st' := [.int (-nI 101)]) rfl ?_
      exact rtI rt rfl rfl (⟨rfl, kpC_rf I J A B, by rw [if_neg (by rw [hx]; simp)]; exact ⟨rfl, hR⟩⟩)
    · skip
      replace qz7 := nlt32.mp qz7
      have hx := in_n (n := 5) (by decide) qz2 qz7
      refine S_n g 2 (pc' := 12) (lv' := [(0, .ref (ad 0)), (1, .int x), (2, .int y), (3, .int z)]) (st' := [.int (nI 1), .int y]) rfl ?_
      refine S_ic_lt g (tgt := 21) rfl (by decide) (fun qz12 => ?_) (fun qz12 => ?_)
      · skip
        have hy := lt_1 (n := 6) qz12
        refine S_n g 1 (pc' := 23) (lv' := [(0, .ref (ad 0)), (1, .int x), (2, .int y), (3, .int z)]) (st' := [.int (-nI 101)]) rfl ?_
        exact rtI rt rfl rfl (⟨rfl, kpC_rf I J A B, by rw [if_neg (by rw [hy]; simp)]; exact ⟨rfl, hR⟩⟩)
      · skip
        refine S_n g 2 (pc' := 18) (lv' := [(0, .ref (ad 0)), (1, .int x), (2, .int y), (3, .int z)]) (st' := [.int (nI 6), .int y]) rfl ?_
        refine S_ic_le g (tgt := 24) rfl (by decide) (fun qz18 => ?_) (fun qz18 => ?_)
        · skip
          have hy := in_n (n := 6) (by decide) qz12 qz18
          refine S_n g 1 (pc' := 25) (lv' := [(0, .ref (ad 0)), (1, .int x), (2, .int y), (3, .int z)]) (st' := [.int z]) rfl ?_
          refine S_if_lt g (tgt := 34) rfl (by decide) (fun qz25 => ?_) (fun qz25 => ?_)
          · skip
            have hz := ilt_0 (n := 60) qz25
            refine S_n g 1 (pc' := 36) (lv' := [(0, .ref (ad 0)), (1, .int x), (2, .int y), (3, .int z)]) (st' := [.int (-nI 101)]) rfl ?_
            exact rtI rt rfl rfl (⟨rfl, kpC_rf I J A B, by rw [if_neg (by rw [hz]; simp)]; exact ⟨rfl, hR⟩⟩)
          · skip
            refine S_n g 2 (pc' := 31) (lv' := [(0, .ref (ad 0)), (1, .int x), (2, .int y), (3, .int z)]) (st' := [.int (nI 60), .int z]) rfl ?_
            refine S_ic_le g (tgt := 37) rfl (by decide) (fun qz31 => ?_) (fun qz31 => ?_)
            · skip
              have hz := in_0 (n := 60) (by decide) qz25 qz31
              obtain ⟨nf, hnf, enf, fnf⟩ := isIn_k hx
              obtain ⟨nu, hnu, enu, fnu⟩ := isIn_k hy
              obtain ⟨nc, hnc, enc, fnc⟩ := isIn_k hz
              rw [enf, enu, enc]
              show Sim X (YC ad z0 z1) 37 [(0, .ref (ad 0)), (1, .int (nI nf)), (2, .int (nI nu)), (3, .int (nI nc))] [] I J A B 0 0
              refine S_n g 1 (pc' := 38) (lv' := [(0, .ref (ad 0)), (1, .int (nI nf)), (2, .int (nI nu)), (3, .int (nI nc))]) (st' := [.ref (ad 0)]) rfl ?_
              refine S_getR g (i := 0) (c := 8) (k := 0) (j := 100) (by decide) (by decide) rfl rfl rfl fl_X8_10 rfl ?_
              refine S_n g 3 (pc' := 44) (lv' := [(0, .ref (ad 0)), (1, .int (nI nf)), (2, .int (nI nu)), (3, .int (nI nc))]) (st' := [.int (nI nc), .int (nI nu), .int (nI nf), .ref (ad 100)]) rfl ?_
              refine S_callV g (i := 100) (As := [.int (nI nf), .int (nI nu), .int (nI nc)]) (st := []) (w_begin ad z0 z1 I J A B nf nu nc (by omega) (by omega) (by omega) (RepW_lim hR)) mw_X7_begin lk_X8_56 ⟨Nat.le_of_ble_eq_true rfl, Nat.le_of_ble_eq_true rfl⟩ (by decide) (by decide) rfl rfl (Nat.le_of_ble_eq_true rfl) ⟨Nat.le_of_ble_eq_true rfl, Nat.le_of_ble_eq_true rfl⟩ rfl (fun v' Y' I2 J2 A2 B2 hpo => ?_)
              obtain ⟨rfl, rfl, hq5, hqk⟩ := hpo
              show Sim X (YC ad z0 z1) 47 [(0, .ref (ad 0)), (1, .int (nI nf)), (2, .int (nI nu)), (3, .int (nI nc))] [] I2 J2 A2 B2 0 0
              have hF : I2 100 5 = nI nf := by have h := (hq5 (begF nf nu nc) (fun _ _ => rfl)).1.1; rw [h]; exact lN_i nf
              refine S_n g 1 (pc' := 48) (lv' := [(0, .ref (ad 0)), (1, .int (nI nf)), (2, .int (nI nu)), (3, .int (nI nc))]) (st' := [.ref (ad 0)]) rfl ?_
              refine S_getR g (i := 0) (c := 8) (k := 0) (j := 100) (by decide) (by decide) rfl rfl rfl fl_X8_10 rfl ?_
              refine S_cV g (i := 100) (As := []) (st := []) (w_pieces ad z0 z1 I2 J2 A2 B2 nf hF) mw_X7_pieces lk_X8_60 ⟨Nat.le_of_ble_eq_true rfl, Nat.le_of_ble_eq_true rfl⟩ (by decide) (by decide) rfl rfl (Nat.le_of_ble_eq_true rfl) ⟨Nat.le_of_ble_eq_true rfl, Nat.le_of_ble_eq_true rfl⟩ rfl ?_
              show Sim X (YC ad z0 z1) 54 [(0, .ref (ad 0)), (1, .int (nI nf)), (2, .int (nI nu)), (3, .int (nI nc))] [.int (nI (12 * nf))] I2 J2 A2 B2 0 0
              exact rtI rt rfl rfl (⟨rfl, hqk, by rw [if_pos ⟨hx, hy, hz⟩, fnf, fnu, fnc]; exact ⟨rfl, hq5⟩⟩)
            · skip
              have hz := gt_n (n := 60) (lo := 0) (by decide) qz31
              refine S_n g 1 (pc' := 36) (lv' := [(0, .ref (ad 0)), (1, .int x), (2, .int y), (3, .int z)]) (st' := [.int (-nI 101)]) rfl ?_
              exact rtI rt rfl rfl (⟨rfl, kpC_rf I J A B, by rw [if_neg (by rw [hz]; simp)]; exact ⟨rfl, hR⟩⟩)
        · skip
          have hy := gt_n (n := 6) (lo := 1) (by decide) qz18
          refine S_n g 1 (pc' := 23) (lv' := [(0, .ref (ad 0)), (1, .int x), (2, .int y), (3, .int z)]) (st' := [.int (-nI 101)]) rfl ?_
          exact rtI rt rfl rfl (⟨rfl, kpC_rf I J A B, by rw [if_neg (by rw [hy]; simp)]; exact ⟨rfl, hR⟩⟩)
