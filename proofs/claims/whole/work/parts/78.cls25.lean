/-! the class: digest -/
theorem mixN_cong {f g : Nat → Int64} {h : Int64} : ∀ n, (∀ k, k < n → f k = g k) → mixN f h n = mixN g h n
  | 0, _ => rfl
  | n + 1, e => by rw [mixN, mixN, mixN_cong n (fun k hk => e k (by omega)), e n (by omega)]

set_option maxRecDepth 100000 in
set_option maxHeartbeats 4000000 in
theorem c_dgUser (ad : Nat → Nat) (z0 z1 : Bool) (I : FI) (J : FJ) (A : FI) (B : FJ) (u : Nat) (h : Int64) (m : Nat → Int64) (hG : WG m) (hR : RepW 100 m I J A B) (hu0 : u < gN (m 1)) : Spec M_X8_digestUser [.ref (ad 0), .long h, .int (nI u)] (YC ad z0 z1) I J A B (cP ad z0 z1 I J A B (.long (dgB m u h (lnG m u))) m) := by
  obtain ⟨nf, hnf⟩ : ∃ nf, nf = gN (m 0) := ⟨_, rfl⟩
  obtain ⟨nu, hnu⟩ : ∃ nu, nu = gN (m 1) := ⟨_, rfl⟩
  obtain ⟨nc, hnc⟩ : ∃ nc, nc = gN (m 2) := ⟨_, rfl⟩
  have hD := hG.1
  unfold wc0 at hD
  rw [← hnf, ← hnu, ← hnc] at hD
  obtain ⟨hmF, hmU, hmC, h1, h2, h3, h4, h5⟩ := hD
  have hF : I 100 5 = nI nf := by rw [hR.1.1, hmF, lN_i]
  have hU : I 100 6 = nI nu := by rw [hR.1.2.1, hmU, lN_i]
  have hC : I 100 7 = nI nc := by rw [hR.1.2.2.1, hmC, lN_i]
  rw [← hnu] at hu0
  have hu : u < 6 := by omega
  have hmb := mb7 (ad := ad) (z0 := z0) (z1 := z1) hu
  obtain ⟨a1, a2, a3, a4, a5, a6, a7, a8⟩ := usr hG hR hu
  refine Spec_of (by decide) tk_X8_digestUser (Nat.le_of_ble_eq_true rfl) (fun X g rt => ?_)
  show Sim X (YC ad z0 z1) 0 [(0, .ref (ad 0)), (1, .long h), (3, .int (nI u))] [] I J A B 0 0
  refine S_n g 3 (pc' := 4) (lv' := [(0, .ref (ad 0)), (1, .long h), (3, .int (nI u)), (4, .long h)]) (st' := [.ref (ad 0)]) rfl ?_
  refine S_getR g (i := 0) (c := 8) (k := 0) (j := 100) (by decide) (by decide) rfl rfl rfl fl_X8_10 rfl ?_
  refine S_getR g (i := 100) (c := 7) (k := 1) (j := 102) (by decide) (by decide) rfl rfl rfl fl_X8_83 rfl ?_
  refine S_n g 1 (pc' := 11) (lv' := [(0, .ref (ad 0)), (1, .long h), (3, .int (nI u)), (4, .long h)]) (st' := [.int (nI u), .ref (ad 102)]) rfl ?_
  refine S_aaldN g (i := 102) (e := u) (j := 120 + 4 * u) (by decide) rfl (show u < 6 from by omega) (show (6 : Nat) < 2 ^ 31 from by decide) rfl rfl ?_
  refine S_n g 2 (pc' := 15) (lv' := [(0, .ref (ad 0)), (1, .long h), (3, .int (nI u)), (4, .long h), (6, .ref (ad (120 + 4 * u)))]) (st' := [.ref (ad 0)]) rfl ?_
  refine S_getR g (i := 0) (c := 8) (k := 2) (j := 2) (by decide) (by decide) rfl rfl rfl fl_X8_23 rfl ?_
  refine S_n g 1 (pc' := 20) (lv' := [(0, .ref (ad 0)), (1, .long h), (3, .int (nI u)), (4, .long h), (6, .ref (ad (120 + 4 * u)))]) (st' := [.ref (ad (120 + 4 * u)), .ref (ad 2)]) rfl ?_
  refine S_callV g (i := 2) (As := [.ref (ad (120 + 4 * u))]) (st := []) (kn_learn ad z0 z1 I J A B u (lnG m u) (m (63 + u)) (fun k => m (87 + 40 * u + k)) hu a1 a2 a3 a4 a5 a6) mw_X1_learn lk_X8_187 ⟨Nat.le_of_ble_eq_true rfl, Nat.le_of_ble_eq_true rfl⟩ (by decide) (by decide) rfl rfl (Nat.le_of_ble_eq_true rfl) ⟨Nat.le_of_ble_eq_true rfl, Nat.le_of_ble_eq_true rfl⟩ rfl (fun v' Y' I2 J2 A2 B2 hpo => ?_)
  obtain ⟨rfl, rfl, hqa2, hK2, hkp2⟩ := hpo
  rw [hqa2]
  show Sim X (YC ad z0 z1) 23 [(0, .ref (ad 0)), (1, .long h), (3, .int (nI u)), (4, .long h), (6, .ref (ad (120 + 4 * u)))] [] I2 J2 A B2 0 0
  have hR2 : RepW 100 m I2 J2 A B2 := kpK_R hR hkp2
  obtain ⟨b1, b2, b3, b4, b5, b6, b7, b8⟩ := usr hG hR2 hu
  refine S_n g 2 (pc' := 26) (lv' := [(0, .ref (ad 0)), (1, .long h), (3, .int (nI u)), (4, .long h), (6, .ref (ad (120 + 4 * u))), (7, .int (nI 0))]) (st' := []) rfl ?_
  have lp : ∀ (nn : Nat) (k : Nat), 8 - k = nn → (k ≤ 8) → Sim X (YC ad z0 z1) 26 [(0, .ref (ad 0)), (1, .long h), (3, .int (nI u)), (4, .long (dgA m u h k)), (6, .ref (ad (120 + 4 * u))), (7, .int (nI k))] [] I2 J2 A B2 0 0 := by
    intro nn
    induction nn using Nat.strongRecOn with
    | ind nn ih =>
      intro k hmz hk
      have lp := ih
      refine S_n g 2 (pc' := 30) (lv' := [(0, .ref (ad 0)), (1, .long h), (3, .int (nI u)), (4, .long (dgA m u h k)), (6, .ref (ad (120 + 4 * u))), (7, .int (nI k))]) (st' := [.int (nI 7), .int (nI k)]) rfl ?_
      refine S_icN_gt g (tgt := 56) (by omega) (by omega) rfl (by decide) (fun qz30 => ?_) (fun qz30 => ?_)
      · skip
        have hk9 : k = 8 := by omega
        subst hk9
        refine S_ldc2 g kc_X8_313 rfl ?_
        refine S_n g 3 (pc' := 64) (lv' := [(0, .ref (ad 0)), (1, .long h), (3, .int (nI u)), (4, .long (dgA m u h 8)), (6, .ref (ad (120 + 4 * u))), (7, .int (nI 8))]) (st' := [.ref (ad (120 + 4 * u)), .long ((lN 31) * (dgA m u h 8))]) rfl ?_
        refine S_getJ g (i := 120 + 4 * u) (c := 2) (k := 1) (by omega) (by decide) (mb7 hu).1 rfl fl_X8_98 rfl ?_
        rw [b6]
        refine S_n g 3 (pc' := 72) (lv' := [(0, .ref (ad 0)), (1, .long h), (3, .int (nI u)), (4, .long (((lN 31) * (dgA m u h 8)) + (m (63 + u)))), (6, .ref (ad (120 + 4 * u))), (7, .int (nI 8))]) (st' := [.ref (ad (120 + 4 * u))]) rfl ?_
        refine S_getR g (i := 120 + 4 * u) (c := 2) (k := 0) (j := 120 + 4 * u + 1) (by omega) (by decide) (mb7 hu).1 rfl (mb7 hu).2.1 fl_X8_195 rfl ?_
        refine S_n g 1 (pc' := 77) (lv' := [(0, .ref (ad 0)), (1, .long h), (3, .int (nI u)), (4, .long (((lN 31) * (dgA m u h 8)) + (m (63 + u)))), (6, .ref (ad (120 + 4 * u))), (7, .int (nI 8))]) (st' := [.long (((lN 31) * (dgA m u h 8)) + (m (63 + u))), .ref (ad (120 + 4 * u + 1))]) rfl ?_
        refine S_cV g (i := 120 + 4 * u + 1) (As := [.long (((lN 31) * (dgA m u h 8)) + (m (63 + u)))]) (st := []) (sl_digestInto ad z0 z1 I2 J2 A B2 (120 + 4 * u + 1) 40 (lnG m u) hmb.2.2 (by decide) b1 b2 (lN 31 * dgA m u h 8 + m (63 + u))) mw_X6_digestInto lk_X8_322 ⟨Nat.le_of_ble_eq_true rfl, Nat.le_of_ble_eq_true rfl⟩ (by omega) (by decide) (mb7 hu).2.2.2.1 rfl (Nat.le_of_ble_eq_true rfl) ⟨Nat.le_of_ble_eq_true rfl, Nat.le_of_ble_eq_true rfl⟩ rfl ?_
        rw [show mixN (fun k => B2 (120 + 4 * u + 1 + 1) k) (lN 31 * dgA m u h 8 + m (63 + u)) (lnG m u) = dgB m u h (lnG m u) from mixN_cong _ (fun k hk => b3 k hk)]
        show Sim X (YC ad z0 z1) 80 [(0, .ref (ad 0)), (1, .long h), (3, .int (nI u)), (4, .long (((lN 31) * (dgA m u h 8)) + (m (63 + u)))), (6, .ref (ad (120 + 4 * u))), (7, .int (nI 8))] [.long (dgB m u h (lnG m u))] I2 J2 A B2 0 0
        exact rtL rt rfl rfl (⟨rfl, rfl, hR2, kpK_C hkp2⟩)
      · skip
        refine S_ldc2 g kc_X8_313 rfl ?_
        refine S_n g 5 (pc' := 43) (lv' := [(0, .ref (ad 0)), (1, .long h), (3, .int (nI u)), (4, .long (dgA m u h k)), (6, .ref (ad (120 + 4 * u))), (7, .int (nI k))]) (st' := [.int (nI k), .int (nI u), .ref (ad 0), .long ((lN 31) * (dgA m u h k))]) rfl ?_
        refine S_cV g (i := 0) (As := [.int (nI u), .int (nI k)]) (st := [.long ((lN 31) * (dgA m u h k))]) (c_number ad z0 z1 I2 J2 A B2 u k m hG hR2 (by rw [← hnu]; omega) (by omega) hK2) mw_X8_numberAbout lk_X8_191 ⟨Nat.le_of_ble_eq_true rfl, Nat.le_of_ble_eq_true rfl⟩ (by decide) (by decide) rfl rfl (Nat.le_of_ble_eq_true rfl) ⟨Nat.le_of_ble_eq_true rfl, Nat.le_of_ble_eq_true rfl⟩ rfl ?_
        show Sim X (YC ad z0 z1) 46 [(0, .ref (ad 0)), (1, .long h), (3, .int (nI u)), (4, .long (dgA m u h k)), (6, .ref (ad (120 + 4 * u))), (7, .int (nI k))] [.int (o_user (gN (m 0)) (gN (m 1)) (lnG m) m (nI u) (nI k)), .long ((lN 31) * (dgA m u h k))] I2 J2 A B2 0 0
        refine S_n g 3 (pc' := 50) (lv' := [(0, .ref (ad 0)), (1, .long h), (3, .int (nI u)), (4, .long (((lN 31) * (dgA m u h k)) + (o_user (gN (m 0)) (gN (m 1)) (lnG m) m (nI u) (nI k)).toInt64)), (6, .ref (ad (120 + 4 * u))), (7, .int (nI k))]) (st' := []) rfl ?_
        refine S_lveq (lv' := [(0, .ref (ad 0)), (1, .long h), (3, .int (nI u)), (4, .long (dgA m u h (k + 1))), (6, .ref (ad (120 + 4 * u))), (7, .int (nI k))]) (by rw [(show ((lN 31) * (dgA m u h k)) + (o_user (gN (m 0)) (gN (m 1)) (lnG m) m (nI u) (nI k)).toInt64 = dgA m u h (k + 1) from rfl).symm]) ?_
        refine S_n g 1 (pc' := 53) (lv' := [(0, .ref (ad 0)), (1, .long h), (3, .int (nI u)), (4, .long (dgA m u h (k + 1))), (6, .ref (ad (120 + 4 * u))), (7, .int ((nI k) + nI 1))]) (st' := []) rfl ?_
        rw [nI_add k 1]
        refine S_n g 1 (pc' := 26) (lv' := [(0, .ref (ad 0)), (1, .long h), (3, .int (nI u)), (4, .long (dgA m u h (k + 1))), (6, .ref (ad (120 + 4 * u))), (7, .int (nI (k + 1)))]) (st' := []) rfl ?_
        exact lp (8 - (k + 1)) (by omega) (k + 1) rfl (by omega)
  exact lp _ 0 rfl (Nat.zero_le _)

set_option maxRecDepth 100000 in
set_option maxHeartbeats 4000000 in
theorem c_digest (ad : Nat → Nat) (z0 z1 : Bool) (I : FI) (J : FJ) (A : FI) (B : FJ) (n : Nat) (m : Nat → Int64) (hG : WG m) (hR : RepW 100 m I J A B) (hN : I 13 1 = nI n) (h11 : A 11 0 = nI 0) (h12 : B 12 0 = lN 0) : Spec M_X8_digest [.ref (ad 0)] (YC ad z0 z1) I J A B (cP ad z0 z1 I J A B (.long (o_digest m n)) m) := by
  obtain ⟨nf, hnf⟩ : ∃ nf, nf = gN (m 0) := ⟨_, rfl⟩
  obtain ⟨nu, hnu⟩ : ∃ nu, nu = gN (m 1) := ⟨_, rfl⟩
  obtain ⟨nc, hnc⟩ : ∃ nc, nc = gN (m 2) := ⟨_, rfl⟩
  have hD := hG.1
  unfold wc0 at hD
  rw [← hnf, ← hnu, ← hnc] at hD
  obtain ⟨hmF, hmU, hmC, h1, h2, h3, h4, h5⟩ := hD
  have hF : I 100 5 = nI nf := by rw [hR.1.1, hmF, lN_i]
  have hU : I 100 6 = nI nu := by rw [hR.1.2.1, hmU, lN_i]
  have hC : I 100 7 = nI nc := by rw [hR.1.2.2.1, hmC, lN_i]
  refine Spec_of (by decide) tk_X8_digest (Nat.le_of_ble_eq_true rfl) (fun X g rt => ?_)
  show Sim X (YC ad z0 z1) 0 [(0, .ref (ad 0))] [] I J A B 0 0
  refine S_ldc2 g kc_X8_311 rfl ?_
  refine S_n g 3 (pc' := 6) (lv' := [(0, .ref (ad 0)), (1, .long (lN 19)), (3, .int (nI 0))]) (st' := []) rfl ?_
  have lp : ∀ (nn : Nat) (k : Nat) (I2 : FI) (J2 : FJ) (A2 : FI) (B2 : FJ), 10 - k = nn → (k ≤ 10) → (RepW 100 m I2 J2 A2 B2) → (kpC I J A B I2 J2 A2 B2) → Sim X (YC ad z0 z1) 6 [(0, .ref (ad 0)), (1, .long (dg1 m n k)), (3, .int (nI k))] [] I2 J2 A2 B2 0 0 := by
    intro nn
    induction nn using Nat.strongRecOn with
    | ind nn ih =>
      intro k I2 J2 A2 B2 hmz hk hR2 hk2
      have lp := ih
      refine S_n g 2 (pc' := 9) (lv' := [(0, .ref (ad 0)), (1, .long (dg1 m n k)), (3, .int (nI k))]) (st' := [.int (nI 9), .int (nI k)]) rfl ?_
      refine S_icN_gt g (tgt := 31) (by omega) (by omega) rfl (by decide) (fun qz9 => ?_) (fun qz9 => ?_)
      · skip
        have hk9 : k = 10 := by omega
        subst hk9
        have hF2 : I2 100 5 = nI nf := by rw [hR2.1.1, hmF, lN_i]
        refine S_n g 2 (pc' := 33) (lv' := [(0, .ref (ad 0)), (1, .long (dg1 m n 10)), (3, .int (nI 0))]) (st' := []) rfl ?_
        have lp2 : ∀ (nn : Nat) (p : Nat), 12 * nf - p = nn → (p ≤ 12 * nf) → Sim X (YC ad z0 z1) 33 [(0, .ref (ad 0)), (1, .long (dg2 m n p)), (3, .int (nI p))] [] I2 J2 A2 B2 0 0 := by
          intro nn
          induction nn using Nat.strongRecOn with
          | ind nn ih =>
            intro p hmz hp
            have lp2 := ih
            refine S_n g 2 (pc' := 35) (lv' := [(0, .ref (ad 0)), (1, .long (dg2 m n p)), (3, .int (nI p))]) (st' := [.ref (ad 0), .int (nI p)]) rfl ?_
            refine S_getR g (i := 0) (c := 8) (k := 0) (j := 100) (by decide) (by decide) rfl rfl rfl fl_X8_10 rfl ?_
            refine S_cV g (i := 100) (As := []) (st := [.int (nI p)]) (w_pieces ad z0 z1 I2 J2 A2 B2 nf hF2) mw_X7_pieces lk_X8_60 ⟨Nat.le_of_ble_eq_true rfl, Nat.le_of_ble_eq_true rfl⟩ (by decide) (by decide) rfl rfl (Nat.le_of_ble_eq_true rfl) ⟨Nat.le_of_ble_eq_true rfl, Nat.le_of_ble_eq_true rfl⟩ rfl ?_
            show Sim X (YC ad z0 z1) 41 [(0, .ref (ad 0)), (1, .long (dg2 m n p)), (3, .int (nI p))] [.int (nI (12 * nf)), .int (nI p)] I2 J2 A2 B2 0 0
            refine S_icN_ge g (tgt := 67) (by omega) (by omega) rfl (by decide) (fun qz41 => ?_) (fun qz41 => ?_)
            · skip
              have hp9 : p = 12 * nf := by omega
              subst hp9
              refine S_n g 2 (pc' := 69) (lv' := [(0, .ref (ad 0)), (1, .long (dg2 m n (12 * nf))), (3, .int (nI 0))]) (st' := []) rfl ?_
              refine S_lveq (lv' := [(0, .ref (ad 0)), (1, .long (dg3 m n 0)), (3, .int (nI 0))]) (by rw [(show dg2 m n (12 * nf) = dg3 m n 0 from by rw [dg3, ← hnf]).symm]) ?_
              have lp3 : ∀ (nn : Nat) (u : Nat) (I3 : FI) (J3 : FJ) (A3 : FI) (B3 : FJ), nu - u = nn → (u ≤ nu) → (RepW 100 m I3 J3 A3 B3) → (kpC I J A B I3 J3 A3 B3) → Sim X (YC ad z0 z1) 69 [(0, .ref (ad 0)), (1, .long (dg3 m n u)), (3, .int (nI u))] [] I3 J3 A3 B3 0 0 := by
                intro nn
                induction nn using Nat.strongRecOn with
                | ind nn ih =>
                  intro u I3 J3 A3 B3 hmz hu0 hR3 hk3
                  have lp3 := ih
                  have hU3 : I3 100 6 = nI nu := by rw [hR3.1.2.1, hmU, lN_i]
                  refine S_n g 2 (pc' := 71) (lv' := [(0, .ref (ad 0)), (1, .long (dg3 m n u)), (3, .int (nI u))]) (st' := [.ref (ad 0), .int (nI u)]) rfl ?_
                  refine S_getR g (i := 0) (c := 8) (k := 0) (j := 100) (by decide) (by decide) rfl rfl rfl fl_X8_10 rfl ?_
                  refine S_getI g (i := 100) (c := 7) (k := 6) (by decide) (by decide) rfl rfl fl_X8_104 rfl ?_
                  rw [hU3]
                  refine S_icN_ge g (tgt := 93) (by omega) (by omega) rfl (by decide) (fun qz77 => ?_) (fun qz77 => ?_)
                  · skip
                    have hu9 : u = nu := by omega
                    subst hu9
                    have g6 := hR3.2.2.2.2.2.2.1
                    have g7 := hR3.2.2.2.2.2.2.2.1
                    refine S_n g 1 (pc' := 94) (lv' := [(0, .ref (ad 0)), (1, .long (dg3 m n u)), (3, .int (nI u))]) (st' := [.ref (ad 0)]) rfl ?_
                    refine S_getR g (i := 0) (c := 8) (k := 0) (j := 100) (by decide) (by decide) rfl rfl rfl fl_X8_10 rfl ?_
                    refine S_getR g (i := 100) (c := 7) (k := 2) (j := 103) (by decide) (by decide) rfl rfl rfl fl_X8_151 rfl ?_
                    refine S_n g 1 (pc' := 101) (lv' := [(0, .ref (ad 0)), (1, .long (dg3 m n u)), (3, .int (nI u))]) (st' := [.long (dg3 m n u), .ref (ad 103)]) rfl ?_
                    refine S_cV g (i := 103) (As := [.long (dg3 m n u)]) (st := []) (sl_digestInto ad z0 z1 I3 J3 A3 B3 103 100 (gN (m 327)) (sl_q isW_100) (by decide) g6.2.1 (WGn hG).2.2.1 (dg3 m n u)) mw_X6_digestInto lk_X8_322 ⟨Nat.le_of_ble_eq_true rfl, Nat.le_of_ble_eq_true rfl⟩ (by decide) (by decide) rfl rfl (Nat.le_of_ble_eq_true rfl) ⟨Nat.le_of_ble_eq_true rfl, Nat.le_of_ble_eq_true rfl⟩ rfl ?_
                    rw [show mixN (fun k => B3 (103 + 1) k) (dg3 m n u) (gN (m 327)) = dg4 m n (gN (m 327)) from by rw [dg4, ← hnu]; exact mixN_cong _ (fun k hk => g6.2.2 k hk)]
                    show Sim X (YC ad z0 z1) 104 [(0, .ref (ad 0)), (1, .long (dg3 m n u)), (3, .int (nI u))] [.long (dg4 m n (gN (m 327)))] I3 J3 A3 B3 0 0
                    refine S_n g 2 (pc' := 106) (lv' := [(0, .ref (ad 0)), (1, .long (dg4 m n (gN (m 327)))), (3, .int (nI u))]) (st' := [.ref (ad 0)]) rfl ?_
                    refine S_getR g (i := 0) (c := 8) (k := 0) (j := 100) (by decide) (by decide) rfl rfl rfl fl_X8_10 rfl ?_
                    refine S_getR g (i := 100) (c := 7) (k := 3) (j := 106) (by decide) (by decide) rfl rfl rfl fl_X8_68 rfl ?_
                    refine S_n g 1 (pc' := 113) (lv' := [(0, .ref (ad 0)), (1, .long (dg4 m n (gN (m 327)))), (3, .int (nI u))]) (st' := [.long (dg4 m n (gN (m 327))), .ref (ad 106)]) rfl ?_
                    refine S_cV g (i := 106) (As := [.long (dg4 m n (gN (m 327)))]) (st := []) (sl_digestInto ad z0 z1 I3 J3 A3 B3 106 100 (gN (m 428)) (sl_h isW_100) (by decide) g7.2.1 (WGn hG).2.2.2.1 (dg4 m n (gN (m 327)))) mw_X6_digestInto lk_X8_322 ⟨Nat.le_of_ble_eq_true rfl, Nat.le_of_ble_eq_true rfl⟩ (by decide) (by decide) rfl rfl (Nat.le_of_ble_eq_true rfl) ⟨Nat.le_of_ble_eq_true rfl, Nat.le_of_ble_eq_true rfl⟩ rfl ?_
                    rw [show mixN (fun k => B3 (106 + 1) k) (dg4 m n (gN (m 327))) (gN (m 428)) = dg5 m n (gN (m 428)) from mixN_cong _ (fun k hk => g7.2.2 k hk)]
                    show Sim X (YC ad z0 z1) 116 [(0, .ref (ad 0)), (1, .long (dg4 m n (gN (m 327)))), (3, .int (nI u))] [.long (dg5 m n (gN (m 428)))] I3 J3 A3 B3 0 0
                    refine S_n g 3 (pc' := 119) (lv' := [(0, .ref (ad 0)), (1, .long (dg5 m n (gN (m 428)))), (3, .int (nI 0))]) (st' := []) rfl ?_
                    refine S_lveq (lv' := [(0, .ref (ad 0)), (1, .long (dg6 m n 0)), (3, .int (nI 0))]) (by rw [(show dg5 m n (gN (m 428)) = dg6 m n 0 from rfl).symm]) ?_
                    have lp4 : ∀ (nn : Nat) (v : Nat) (I4 : FI) (J4 : FJ) (A4 : FI) (B4 : FJ), u - v = nn → (v ≤ u) → (RepW 100 m I4 J4 A4 B4) → (kpC I J A B I4 J4 A4 B4) → Sim X (YC ad z0 z1) 119 [(0, .ref (ad 0)), (1, .long (dg6 m n v)), (3, .int (nI v))] [] I4 J4 A4 B4 0 0 := by
                      intro nn
                      induction nn using Nat.strongRecOn with
                      | ind nn ih =>
                        intro v I4 J4 A4 B4 hmz hv0 hR4 hk4
                        have lp4 := ih
                        have hU4 : I4 100 6 = nI u := by rw [hR4.1.2.1, hmU, lN_i]
                        refine S_n g 2 (pc' := 121) (lv' := [(0, .ref (ad 0)), (1, .long (dg6 m n v)), (3, .int (nI v))]) (st' := [.ref (ad 0), .int (nI v)]) rfl ?_
                        refine S_getR g (i := 0) (c := 8) (k := 0) (j := 100) (by decide) (by decide) rfl rfl rfl fl_X8_10 rfl ?_
                        refine S_getI g (i := 100) (c := 7) (k := 6) (by decide) (by decide) rfl rfl fl_X8_104 rfl ?_
                        rw [hU4]
                        refine S_icN_ge g (tgt := 149) (by omega) (by omega) rfl (by decide) (fun qz127 => ?_) (fun qz127 => ?_)
                        · skip
                          have hv9 : v = u := by omega
                          subst hv9
                          refine S_ldc2 g kc_X8_313 rfl ?_
                          refine S_n g 3 (pc' := 155) (lv' := [(0, .ref (ad 0)), (1, .long (dg6 m n v)), (3, .int (nI v))]) (st' := [.ref (ad 0), .long ((lN 31) * (dg6 m n v))]) rfl ?_
                          refine S_callV g (i := 0) (As := []) (st := [.long ((lN 31) * (dg6 m n v))]) (c_bound ad z0 z1 I4 J4 A4 B4 m hG hR4 (by rw [hk4.2.2.2.2.1]; exact h11) (by rw [hk4.2.2.2.2.2]; exact h12)) mw_X8_bound lk_X8_329 ⟨Nat.le_of_ble_eq_true rfl, Nat.le_of_ble_eq_true rfl⟩ (by decide) (by decide) rfl rfl (Nat.le_of_ble_eq_true rfl) ⟨Nat.le_of_ble_eq_true rfl, Nat.le_of_ble_eq_true rfl⟩ rfl (fun v' Y' I5 J5 A5 B5 hpo => ?_)
                          obtain ⟨rfl, rfl, hR5, hqk5⟩ := hpo
                          show Sim X (YC ad z0 z1) 158 [(0, .ref (ad 0)), (1, .long (dg6 m n v)), (3, .int (nI v))] [.int (nI (o_bound m (gN (m 1)))), .long ((lN 31) * (dg6 m n v))] I5 J5 A5 B5 0 0
                          refine S_n g 2 (pc' := 160) (lv' := [(0, .ref (ad 0)), (1, .long (dg6 m n v)), (3, .int (nI v))]) (st' := [.long (((lN 31) * (dg6 m n v)) + (nI (o_bound m (gN (m 1)))).toInt64)]) rfl ?_
                          exact rtL rt rfl rfl (⟨by rw [o_digest, ← hnu], rfl, hR5, kpC_tr hk4 hqk5⟩)
                        · skip
                          refine S_ldc2 g kc_X8_313 rfl ?_
                          refine S_n g 4 (pc' := 137) (lv' := [(0, .ref (ad 0)), (1, .long (dg6 m n v)), (3, .int (nI v))]) (st' := [.int (nI v), .ref (ad 0), .long ((lN 31) * (dg6 m n v))]) rfl ?_
                          refine S_callV g (i := 0) (As := [.int (nI v)]) (st := [.long ((lN 31) * (dg6 m n v))]) (c_need ad z0 z1 I4 J4 A4 B4 (nI v) m hG hR4) mw_X8_need lk_X8_326 ⟨Nat.le_of_ble_eq_true rfl, Nat.le_of_ble_eq_true rfl⟩ (by decide) (by decide) rfl rfl (Nat.le_of_ble_eq_true rfl) ⟨Nat.le_of_ble_eq_true rfl, Nat.le_of_ble_eq_true rfl⟩ rfl (fun v' Y' I5 J5 A5 B5 hpo => ?_)
                          obtain ⟨rfl, rfl, hR5, hqk5⟩ := hpo
                          show Sim X (YC ad z0 z1) 140 [(0, .ref (ad 0)), (1, .long (dg6 m n v)), (3, .int (nI v))] [.int (o_need (gN (m 1)) (lnG m) m (nI v)), .long ((lN 31) * (dg6 m n v))] I5 J5 A5 B5 0 0
                          refine S_n g 3 (pc' := 143) (lv' := [(0, .ref (ad 0)), (1, .long (((lN 31) * (dg6 m n v)) + (o_need (gN (m 1)) (lnG m) m (nI v)).toInt64)), (3, .int (nI v))]) (st' := []) rfl ?_
                          refine S_lveq (lv' := [(0, .ref (ad 0)), (1, .long (dg6 m n (v + 1))), (3, .int (nI v))]) (by rw [(show ((lN 31) * (dg6 m n v)) + (o_need (gN (m 1)) (lnG m) m (nI v)).toInt64 = dg6 m n (v + 1) from rfl).symm]) ?_
                          refine S_n g 1 (pc' := 146) (lv' := [(0, .ref (ad 0)), (1, .long (dg6 m n (v + 1))), (3, .int ((nI v) + nI 1))]) (st' := []) rfl ?_
                          rw [nI_add v 1]
                          refine S_n g 1 (pc' := 119) (lv' := [(0, .ref (ad 0)), (1, .long (dg6 m n (v + 1))), (3, .int (nI (v + 1)))]) (st' := []) rfl ?_
                          exact lp4 (u - (v + 1)) (by omega) (v + 1) I5 J5 A5 B5 rfl (by omega) hR5 (kpC_tr hk4 hqk5)
                    exact lp4 _ 0 I3 J3 A3 B3 rfl (Nat.zero_le _) hR3 hk3
                  · skip
                    refine S_n g 3 (pc' := 83) (lv' := [(0, .ref (ad 0)), (1, .long (dg3 m n u)), (3, .int (nI u))]) (st' := [.int (nI u), .long (dg3 m n u), .ref (ad 0)]) rfl ?_
                    refine S_callV g (i := 0) (As := [.long (dg3 m n u), .int (nI u)]) (st := []) (c_dgUser ad z0 z1 I3 J3 A3 B3 u (dg3 m n u) m hG hR3 (by rw [← hnu]; omega)) mw_X8_digestUser lk_X8_318 ⟨Nat.le_of_ble_eq_true rfl, Nat.le_of_ble_eq_true rfl⟩ (by decide) (by decide) rfl rfl (Nat.le_of_ble_eq_true rfl) ⟨Nat.le_of_ble_eq_true rfl, Nat.le_of_ble_eq_true rfl⟩ rfl (fun v' Y' I4 J4 A4 B4 hpo => ?_)
                    obtain ⟨rfl, rfl, hR4, hqk4⟩ := hpo
                    show Sim X (YC ad z0 z1) 86 [(0, .ref (ad 0)), (1, .long (dg3 m n u)), (3, .int (nI u))] [.long (dg3 m n (u + 1))] I4 J4 A4 B4 0 0
                    refine S_n g 2 (pc' := 90) (lv' := [(0, .ref (ad 0)), (1, .long (dg3 m n (u + 1))), (3, .int ((nI u) + nI 1))]) (st' := []) rfl ?_
                    rw [nI_add u 1]
                    refine S_n g 1 (pc' := 69) (lv' := [(0, .ref (ad 0)), (1, .long (dg3 m n (u + 1))), (3, .int (nI (u + 1)))]) (st' := []) rfl ?_
                    exact lp3 (nu - (u + 1)) (by omega) (u + 1) I4 J4 A4 B4 rfl (by omega) hR4 (kpC_tr hk3 hqk4)
              exact lp3 _ 0 I2 J2 A2 B2 rfl (Nat.zero_le _) hR2 hk2
            · skip
              obtain ⟨c, hc, hmc⟩ := hG.2.2.2.2.2.2.2.2.2.2.2.1 p (by omega)
              refine S_ldc2 g kc_X8_313 rfl ?_
              refine S_n g 3 (pc' := 50) (lv' := [(0, .ref (ad 0)), (1, .long (dg2 m n p)), (3, .int (nI p))]) (st' := [.ref (ad 0), .long ((lN 31) * (dg2 m n p))]) rfl ?_
              refine S_getR g (i := 0) (c := 8) (k := 0) (j := 100) (by decide) (by decide) rfl rfl rfl fl_X8_10 rfl ?_
              refine S_getR g (i := 100) (c := 7) (k := 0) (j := 101) (by decide) (by decide) rfl rfl rfl fl_X8_77 rfl ?_
              refine S_n g 1 (pc' := 57) (lv' := [(0, .ref (ad 0)), (1, .long (dg2 m n p)), (3, .int (nI p))]) (st' := [.int (nI p), .ref (ad 101), .long ((lN 31) * (dg2 m n p))]) rfl ?_
              refine S_ialdN g (i := 101) (e := p) (by decide) rfl (show p < 60 from by omega) (show (60 : Nat) < 2 ^ 31 from by decide) rfl ?_
              rw [show A2 101 p = nI c from by rw [show A2 101 p = (m (3 + p)).toInt32 from hR2.2.2.1 p (by omega), hmc, lN_i]]
              refine S_n g 1 (pc' := 59) (lv' := [(0, .ref (ad 0)), (1, .long (dg2 m n p)), (3, .int (nI p))]) (st' := [.long (nI c).toInt64, .long ((lN 31) * (dg2 m n p))]) rfl ?_
              rw [nI_l (n := c) (by omega)]
              refine S_n g 2 (pc' := 61) (lv' := [(0, .ref (ad 0)), (1, .long (((lN 31) * (dg2 m n p)) + (lN c))), (3, .int (nI p))]) (st' := []) rfl ?_
              refine S_lveq (lv' := [(0, .ref (ad 0)), (1, .long (dg2 m n (p + 1))), (3, .int (nI p))]) (by rw [(show ((lN 31) * (dg2 m n p)) + (lN c) = dg2 m n (p + 1) from by rw [← hmc]; rfl).symm]) ?_
              refine S_n g 1 (pc' := 64) (lv' := [(0, .ref (ad 0)), (1, .long (dg2 m n (p + 1))), (3, .int ((nI p) + nI 1))]) (st' := []) rfl ?_
              rw [nI_add p 1]
              refine S_n g 1 (pc' := 33) (lv' := [(0, .ref (ad 0)), (1, .long (dg2 m n (p + 1))), (3, .int (nI (p + 1)))]) (st' := []) rfl ?_
              exact lp2 (12 * nf - (p + 1)) (by omega) (p + 1) rfl (by omega)
        exact lp2 _ 0 rfl (Nat.zero_le _)
      · skip
        refine S_ldc2 g kc_X8_313 rfl ?_
        refine S_n g 4 (pc' := 19) (lv' := [(0, .ref (ad 0)), (1, .long (dg1 m n k)), (3, .int (nI k))]) (st' := [.int (nI k), .ref (ad 0), .long ((lN 31) * (dg1 m n k))]) rfl ?_
        refine S_callV g (i := 0) (As := [.int (nI k)]) (st := [.long ((lN 31) * (dg1 m n k))]) (c_count ad z0 z1 I2 J2 A2 B2 (nI k) n m hG hR2 (by rw [hk2.2.1]; exact hN)) mw_X8_count lk_X8_315 ⟨Nat.le_of_ble_eq_true rfl, Nat.le_of_ble_eq_true rfl⟩ (by decide) (by decide) rfl rfl (Nat.le_of_ble_eq_true rfl) ⟨Nat.le_of_ble_eq_true rfl, Nat.le_of_ble_eq_true rfl⟩ rfl (fun v' Y' I3 J3 A3 B3 hpo => ?_)
        obtain ⟨rfl, rfl, hR3, hqk3⟩ := hpo
        show Sim X (YC ad z0 z1) 22 [(0, .ref (ad 0)), (1, .long (dg1 m n k)), (3, .int (nI k))] [.int (o_count m n (nI k)), .long ((lN 31) * (dg1 m n k))] I3 J3 A3 B3 0 0
        refine S_n g 3 (pc' := 25) (lv' := [(0, .ref (ad 0)), (1, .long (((lN 31) * (dg1 m n k)) + (o_count m n (nI k)).toInt64)), (3, .int (nI k))]) (st' := []) rfl ?_
        refine S_lveq (lv' := [(0, .ref (ad 0)), (1, .long (dg1 m n (k + 1))), (3, .int (nI k))]) (by rw [(show ((lN 31) * (dg1 m n k)) + (o_count m n (nI k)).toInt64 = dg1 m n (k + 1) from rfl).symm]) ?_
        refine S_n g 1 (pc' := 28) (lv' := [(0, .ref (ad 0)), (1, .long (dg1 m n (k + 1))), (3, .int ((nI k) + nI 1))]) (st' := []) rfl ?_
        rw [nI_add k 1]
        refine S_n g 1 (pc' := 6) (lv' := [(0, .ref (ad 0)), (1, .long (dg1 m n (k + 1))), (3, .int (nI (k + 1)))]) (st' := []) rfl ?_
        exact lp (10 - (k + 1)) (by omega) (k + 1) I3 J3 A3 B3 rfl (by omega) hR3 (kpC_tr hk2 hqk3)
  exact lp _ 0 I J A B rfl (Nat.zero_le _) hR (kpC_rf I J A B)
