/-! the class: count, bound -/
theorem amF_b (m : Nat → Int64) (ln : Nat → Nat) : ∀ u, amF m ln u ≤ 60 * u
  | 0 => Nat.le_refl _
  | u + 1 => by
    have h1 := amF_b m ln u
    have h2 := ctb_le (msF m u (ln u)) 60
    rw [amF]; omega

set_option maxRecDepth 100000 in
set_option maxHeartbeats 4000000 in
theorem c_missAll (ad : Nat → Nat) (z0 z1 : Bool) (I : FI) (J : FJ) (A : FI) (B : FJ) (m : Nat → Int64) (hG : WG m) (hR : RepW 100 m I J A B) : Spec M_X8_missingInAll [.ref (ad 0)] (YC ad z0 z1) I J A B (cP ad z0 z1 I J A B (.int (nI (amF m (lnG m) (gN (m 1))))) m) := by
  obtain ⟨nf, hnf⟩ : ∃ nf, nf = gN (m 0) := ⟨_, rfl⟩
  obtain ⟨nu, hnu⟩ : ∃ nu, nu = gN (m 1) := ⟨_, rfl⟩
  obtain ⟨nc, hnc⟩ : ∃ nc, nc = gN (m 2) := ⟨_, rfl⟩
  have hD := hG.1
  unfold wc0 at hD
  rw [← hnf, ← hnu, ← hnc] at hD
  obtain ⟨hmF, hmU, hmC, h1, h2, h3, h4, h5⟩ := hD
  have hF : I 100 5 = nI nf := by rw [hR.1.1, hmF, lN_i]
  have hU : I 100 6 = nI nu := by rw [hR.1.2.1, hmU, lN_i]
  have hC : I 100 7 = nI nc := by rw [hR.1.2.2.1, hmC, lN_i]
  rw [← hnu]
  refine Spec_of (by decide) tk_X8_missingInAll (Nat.le_of_ble_eq_true rfl) (fun X g rt => ?_)
  show Sim X (YC ad z0 z1) 0 [(0, .ref (ad 0))] [] I J A B 0 0
  refine S_n g 4 (pc' := 4) (lv' := [(0, .ref (ad 0)), (1, .int (nI 0)), (2, .int (nI 0))]) (st' := []) rfl ?_
  have lp : ∀ (nn : Nat) (u : Nat) (I2 : FI) (J2 : FJ) (B2 : FJ), nu - u = nn → (u ≤ nu) → (RepW 100 m I2 J2 A B2) → (kpC I J A B I2 J2 A B2) → Sim X (YC ad z0 z1) 4 [(0, .ref (ad 0)), (1, .int (nI (amF m (lnG m) u))), (2, .int (nI u))] [] I2 J2 A B2 0 0 := by
    intro nn
    induction nn using Nat.strongRecOn with
    | ind nn ih =>
      intro u I2 J2 B2 hmz hu0 hR2 hk2
      have lp := ih
      have hU2 : I2 100 6 = nI nu := by rw [hR2.1.2.1, hmU, lN_i]
      have ham := amF_b m (lnG m) u
      refine S_n g 2 (pc' := 6) (lv' := [(0, .ref (ad 0)), (1, .int (nI (amF m (lnG m) u))), (2, .int (nI u))]) (st' := [.ref (ad 0), .int (nI u)]) rfl ?_
      refine S_getR g (i := 0) (c := 8) (k := 0) (j := 100) (by decide) (by decide) rfl rfl rfl fl_X8_10 rfl ?_
      refine S_getI g (i := 100) (c := 7) (k := 6) (by decide) (by decide) rfl rfl fl_X8_104 rfl ?_
      rw [hU2]
      refine S_icN_ge g (tgt := 53) (by omega) (by omega) rfl (by decide) (fun qz12 => ?_) (fun qz12 => ?_)
      · skip
        have hu9 : u = nu := by omega
        refine S_n g 1 (pc' := 54) (lv' := [(0, .ref (ad 0)), (1, .int (nI (amF m (lnG m) u))), (2, .int (nI u))]) (st' := [.int (nI (amF m (lnG m) u))]) rfl ?_
        exact rtI rt rfl rfl (⟨by rw [hu9], rfl, hR2, hk2⟩)
      · skip
        have hu : u < 6 := by omega
        obtain ⟨a1, a2, a3, a4, a5, a6, a7, a8⟩ := usr hG hR2 hu
        rw [← hnf] at a8
        refine S_n g 1 (pc' := 16) (lv' := [(0, .ref (ad 0)), (1, .int (nI (amF m (lnG m) u))), (2, .int (nI u))]) (st' := [.ref (ad 0)]) rfl ?_
        refine S_getR g (i := 0) (c := 8) (k := 0) (j := 100) (by decide) (by decide) rfl rfl rfl fl_X8_10 rfl ?_
        refine S_getR g (i := 100) (c := 7) (k := 1) (j := 102) (by decide) (by decide) rfl rfl rfl fl_X8_83 rfl ?_
        refine S_n g 1 (pc' := 23) (lv' := [(0, .ref (ad 0)), (1, .int (nI (amF m (lnG m) u))), (2, .int (nI u))]) (st' := [.int (nI u), .ref (ad 102)]) rfl ?_
        refine S_aaldN g (i := 102) (e := u) (j := 120 + 4 * u) (by decide) rfl (show u < 6 from by omega) (show (6 : Nat) < 2 ^ 31 from by decide) rfl rfl ?_
        refine S_n g 2 (pc' := 26) (lv' := [(0, .ref (ad 0)), (1, .int (nI (amF m (lnG m) u))), (2, .int (nI u)), (3, .ref (ad (120 + 4 * u)))]) (st' := [.ref (ad 0)]) rfl ?_
        refine S_getR g (i := 0) (c := 8) (k := 2) (j := 2) (by decide) (by decide) rfl rfl rfl fl_X8_23 rfl ?_
        refine S_n g 1 (pc' := 30) (lv' := [(0, .ref (ad 0)), (1, .int (nI (amF m (lnG m) u))), (2, .int (nI u)), (3, .ref (ad (120 + 4 * u)))]) (st' := [.ref (ad (120 + 4 * u)), .ref (ad 2)]) rfl ?_
        refine S_callV g (i := 2) (As := [.ref (ad (120 + 4 * u))]) (st := []) (kn_learn ad z0 z1 I2 J2 A B2 u (lnG m u) (m (63 + u)) (fun k => m (87 + 40 * u + k)) hu a1 a2 a3 a4 a5 a6) mw_X1_learn lk_X8_187 ⟨Nat.le_of_ble_eq_true rfl, Nat.le_of_ble_eq_true rfl⟩ (by decide) (by decide) rfl rfl (Nat.le_of_ble_eq_true rfl) ⟨Nat.le_of_ble_eq_true rfl, Nat.le_of_ble_eq_true rfl⟩ rfl (fun v' Y' I3 J3 A3 B3 hpo => ?_)
        obtain ⟨rfl, rfl, hqa3, hK3, hkp3⟩ := hpo
        rw [hqa3]
        show Sim X (YC ad z0 z1) 33 [(0, .ref (ad 0)), (1, .int (nI (amF m (lnG m) u))), (2, .int (nI u)), (3, .ref (ad (120 + 4 * u)))] [] I3 J3 A B3 0 0
        have hR3 : RepW 100 m I3 J3 A B3 := kpK_R hR2 hkp3
        refine S_n g 2 (pc' := 35) (lv' := [(0, .ref (ad 0)), (1, .int (nI (amF m (lnG m) u))), (2, .int (nI u)), (3, .ref (ad (120 + 4 * u)))]) (st' := [.ref (ad 0), .int (nI (amF m (lnG m) u))]) rfl ?_
        refine S_getR g (i := 0) (c := 8) (k := 2) (j := 2) (by decide) (by decide) rfl rfl rfl fl_X8_23 rfl ?_
        refine S_n g 1 (pc' := 39) (lv' := [(0, .ref (ad 0)), (1, .int (nI (amF m (lnG m) u))), (2, .int (nI u)), (3, .ref (ad (120 + 4 * u)))]) (st' := [.ref (ad (120 + 4 * u)), .ref (ad 2), .int (nI (amF m (lnG m) u))]) rfl ?_
        refine S_cV g (i := 2) (As := [.ref (ad (120 + 4 * u))]) (st := [.int (nI (amF m (lnG m) u))]) (kn_missing ad z0 z1 I3 J3 A B3 m u nf (lnG m u) hu h2 a8 (usr hG hR3 hu).2.2.2.2.2.2.1 a4 a5 hK3) mw_X1_missingFor lk_X8_204 ⟨Nat.le_of_ble_eq_true rfl, Nat.le_of_ble_eq_true rfl⟩ (by decide) (by decide) rfl rfl (Nat.le_of_ble_eq_true rfl) ⟨Nat.le_of_ble_eq_true rfl, Nat.le_of_ble_eq_true rfl⟩ rfl ?_
        show Sim X (YC ad z0 z1) 42 [(0, .ref (ad 0)), (1, .int (nI (amF m (lnG m) u))), (2, .int (nI u)), (3, .ref (ad (120 + 4 * u)))] [.long (msF m u (lnG m u)), .int (nI (amF m (lnG m) u))] I3 J3 A B3 0 0
        refine S_cS g (As := [.long (msF m u (lnG m u))]) (st := [.int (nI (amF m (lnG m) u))]) (sp_bitL (YC ad z0 z1) I3 J3 A B3 (msF m u (lnG m u))) mw_J13_bitCount_95d88 lk_X8_115 ⟨Nat.le_of_ble_eq_true rfl, Nat.le_of_ble_eq_true rfl⟩ rfl (Nat.le_of_ble_eq_true rfl) ⟨Nat.le_of_ble_eq_true rfl, Nat.le_of_ble_eq_true rfl⟩ rfl ?_
        rw [ctb_ms h2 a8]
        show Sim X (YC ad z0 z1) 45 [(0, .ref (ad 0)), (1, .int (nI (amF m (lnG m) u))), (2, .int (nI u)), (3, .ref (ad (120 + 4 * u)))] [.int (nI (ctb (msF m u (lnG m u)) 60)), .int (nI (amF m (lnG m) u))] I3 J3 A B3 0 0
        refine S_n g 1 (pc' := 46) (lv' := [(0, .ref (ad 0)), (1, .int (nI (amF m (lnG m) u))), (2, .int (nI u)), (3, .ref (ad (120 + 4 * u)))]) (st' := [.int ((nI (amF m (lnG m) u)) + (nI (ctb (msF m u (lnG m u)) 60)))]) rfl ?_
        rw [nI_add (amF m (lnG m) u) (ctb (msF m u (lnG m u)) 60)]
        refine S_n g 2 (pc' := 50) (lv' := [(0, .ref (ad 0)), (1, .int (nI ((amF m (lnG m) u) + (ctb (msF m u (lnG m u)) 60)))), (2, .int ((nI u) + nI 1)), (3, .ref (ad (120 + 4 * u)))]) (st' := []) rfl ?_
        rw [nI_add u 1]
        refine S_n g 1 (pc' := 4) (lv' := [(0, .ref (ad 0)), (1, .int (nI ((amF m (lnG m) u) + (ctb (msF m u (lnG m u)) 60)))), (2, .int (nI (u + 1))), (3, .ref (ad (120 + 4 * u)))]) (st' := []) rfl ?_
        refine S_keep (lv' := [(0, .ref (ad 0)), (1, .int (nI ((amF m (lnG m) u) + (ctb (msF m u (lnG m u)) 60)))), (2, .int (nI (u + 1)))]) [0, 1, 2] rfl ?_
        exact lp (nu - (u + 1)) (by omega) (u + 1) I3 J3 B3 rfl (by omega) hR3 (kpC_tr hk2 (kpK_C hkp3))
  exact lp _ 0 I J B rfl (Nat.zero_le _) hR (kpC_rf I J A B)

set_option maxRecDepth 100000 in
set_option maxHeartbeats 4000000 in
theorem c_count (ad : Nat → Nat) (z0 z1 : Bool) (I : FI) (J : FJ) (A : FI) (B : FJ) (x : Int32) (n : Nat) (m : Nat → Int64) (hG : WG m) (hR : RepW 100 m I J A B) (hN : I 13 1 = nI n) : Spec M_X8_count [.ref (ad 0), .int x] (YC ad z0 z1) I J A B (cP ad z0 z1 I J A B (.int (o_count m n x)) m) := by
  refine Spec_of (by decide) tk_X8_count (Nat.le_of_ble_eq_true rfl) (fun X g rt => ?_)
  show Sim X (YC ad z0 z1) 0 [(0, .ref (ad 0)), (1, .int x)] [] I J A B 0 0
  by_cases hin : isIx x 10 = true
  · skip
    obtain ⟨k, hk, hxk⟩ := isIx_t hin
    subst hxk
    have hck : (nI k).toNatClampNeg = k := nI_clamp (by omega)
    refine S_n g 1 (pc' := 1) (lv' := [(0, .ref (ad 0)), (1, .int (nI k))]) (st' := [.int (nI k)]) rfl ?_
    rcases (show k = 0 ∨ k = 1 ∨ k = 2 ∨ k = 3 ∨ k = 4 ∨ k = 5 ∨ k = 6 ∨ k = 7 ∨ k = 8 ∨ k = 9 by omega) with rfl | rfl | rfl | rfl | rfl | rfl | rfl | rfl | rfl | rfl
    · skip
      refine S_swIn g (off := 55) (tgt := 56) rfl (by decide) (by decide) rfl rfl ?_
      refine S_n g 1 (pc' := 57) (lv' := [(0, .ref (ad 0)), (1, .int (nI 0))]) (st' := [.ref (ad 0)]) rfl ?_
      refine S_getR g (i := 0) (c := 8) (k := 0) (j := 100) (by decide) (by decide) rfl rfl rfl fl_X8_10 rfl ?_
      refine S_getI g (i := 100) (c := 7) (k := 5) (by decide) (by decide) rfl rfl fl_X8_125 rfl ?_
      rw [hR.1.1]
      exact rtI rt rfl rfl (⟨by simp only [o_count, hin, if_true, ix, hck], rfl, hR, kpC_rf I J A B⟩)
    · skip
      refine S_swIn g (off := 63) (tgt := 64) rfl (by decide) (by decide) rfl rfl ?_
      refine S_n g 1 (pc' := 65) (lv' := [(0, .ref (ad 0)), (1, .int (nI 1))]) (st' := [.ref (ad 0)]) rfl ?_
      refine S_getR g (i := 0) (c := 8) (k := 0) (j := 100) (by decide) (by decide) rfl rfl rfl fl_X8_10 rfl ?_
      refine S_getI g (i := 100) (c := 7) (k := 6) (by decide) (by decide) rfl rfl fl_X8_104 rfl ?_
      rw [hR.1.2.1]
      exact rtI rt rfl rfl (⟨by simp only [o_count, hin, if_true, ix, hck], rfl, hR, kpC_rf I J A B⟩)
    · skip
      refine S_swIn g (off := 71) (tgt := 72) rfl (by decide) (by decide) rfl rfl ?_
      refine S_n g 1 (pc' := 73) (lv' := [(0, .ref (ad 0)), (1, .int (nI 2))]) (st' := [.ref (ad 0)]) rfl ?_
      refine S_getR g (i := 0) (c := 8) (k := 0) (j := 100) (by decide) (by decide) rfl rfl rfl fl_X8_10 rfl ?_
      refine S_getI g (i := 100) (c := 7) (k := 7) (by decide) (by decide) rfl rfl fl_X8_95 rfl ?_
      rw [hR.1.2.2.1]
      exact rtI rt rfl rfl (⟨by simp only [o_count, hin, if_true, ix, hck], rfl, hR, kpC_rf I J A B⟩)
    · skip
      refine S_swIn g (off := 79) (tgt := 80) rfl (by decide) (by decide) rfl rfl ?_
      refine S_n g 1 (pc' := 81) (lv' := [(0, .ref (ad 0)), (1, .int (nI 3))]) (st' := [.ref (ad 0)]) rfl ?_
      refine S_getR g (i := 0) (c := 8) (k := 0) (j := 100) (by decide) (by decide) rfl rfl rfl fl_X8_10 rfl ?_
      refine S_getR g (i := 100) (c := 7) (k := 2) (j := 103) (by decide) (by decide) rfl rfl rfl fl_X8_151 rfl ?_
      refine S_getI g (i := 103) (c := 6) (k := 3) (by decide) (by decide) rfl rfl fl_X8_72 rfl ?_
      rw [show I 103 3 = (m 327).toInt32 from by rw [hG.2.1.1, lN_i]; exact hR.2.2.2.2.2.2.1.2.1]
      exact rtI rt rfl rfl (⟨by simp only [o_count, hin, if_true, ix, hck], rfl, hR, kpC_rf I J A B⟩)
    · skip
      refine S_swIn g (off := 90) (tgt := 91) rfl (by decide) (by decide) rfl rfl ?_
      refine S_n g 1 (pc' := 92) (lv' := [(0, .ref (ad 0)), (1, .int (nI 4))]) (st' := [.ref (ad 0)]) rfl ?_
      refine S_getR g (i := 0) (c := 8) (k := 0) (j := 100) (by decide) (by decide) rfl rfl rfl fl_X8_10 rfl ?_
      refine S_getR g (i := 100) (c := 7) (k := 3) (j := 106) (by decide) (by decide) rfl rfl rfl fl_X8_68 rfl ?_
      refine S_getI g (i := 106) (c := 6) (k := 3) (by decide) (by decide) rfl rfl fl_X8_72 rfl ?_
      rw [show I 106 3 = (m 428).toInt32 from by rw [hG.2.2.1.1, lN_i]; exact hR.2.2.2.2.2.2.2.1.2.1]
      exact rtI rt rfl rfl (⟨by simp only [o_count, hin, if_true, ix, hck], rfl, hR, kpC_rf I J A B⟩)
    · skip
      refine S_swIn g (off := 101) (tgt := 102) rfl (by decide) (by decide) rfl rfl ?_
      refine S_n g 1 (pc' := 103) (lv' := [(0, .ref (ad 0)), (1, .int (nI 5))]) (st' := [.ref (ad 0)]) rfl ?_
      refine S_getR g (i := 0) (c := 8) (k := 0) (j := 100) (by decide) (by decide) rfl rfl rfl fl_X8_10 rfl ?_
      refine S_getR g (i := 100) (c := 7) (k := 4) (j := 109) (by decide) (by decide) rfl rfl rfl fl_X8_141 rfl ?_
      refine S_getI g (i := 109) (c := 3) (k := 3) (by decide) (by decide) rfl rfl fl_X8_145 rfl ?_
      rw [show I 109 3 = (m 529).toInt32 from by rw [hG.2.2.2.1.1, lN_i]; exact hR.2.2.2.2.2.2.2.2.1]
      exact rtI rt rfl rfl (⟨by simp only [o_count, hin, if_true, ix, hck], rfl, hR, kpC_rf I J A B⟩)
    · skip
      refine S_swIn g (off := 112) (tgt := 113) rfl (by decide) (by decide) rfl rfl ?_
      refine S_n g 1 (pc' := 114) (lv' := [(0, .ref (ad 0)), (1, .int (nI 6))]) (st' := [.ref (ad 0)]) rfl ?_
      refine S_getR g (i := 0) (c := 8) (k := 0) (j := 100) (by decide) (by decide) rfl rfl rfl fl_X8_10 rfl ?_
      refine S_getI g (i := 100) (c := 7) (k := 9) (by decide) (by decide) rfl rfl fl_X8_305 rfl ?_
      rw [hR.1.2.2.2]
      exact rtI rt rfl rfl (⟨by simp only [o_count, hin, if_true, ix, hck], rfl, hR, kpC_rf I J A B⟩)
    · skip
      refine S_swIn g (off := 120) (tgt := 121) rfl (by decide) (by decide) rfl rfl ?_
      refine S_n g 1 (pc' := 122) (lv' := [(0, .ref (ad 0)), (1, .int (nI 7))]) (st' := [.ref (ad 0)]) rfl ?_
      refine S_callV g (i := 0) (As := []) (st := []) (c_missAll ad z0 z1 I J A B m hG hR) mw_X8_missingInAll lk_X8_308 ⟨Nat.le_of_ble_eq_true rfl, Nat.le_of_ble_eq_true rfl⟩ (by decide) (by decide) rfl rfl (Nat.le_of_ble_eq_true rfl) ⟨Nat.le_of_ble_eq_true rfl, Nat.le_of_ble_eq_true rfl⟩ rfl (fun v' Y' I2 J2 A2 B2 hpo => ?_)
      obtain ⟨rfl, rfl, hq5, hqk⟩ := hpo
      show Sim X (YC ad z0 z1) 125 [(0, .ref (ad 0)), (1, .int (nI 7))] [.int (nI (amF m (lnG m) (gN (m 1))))] I2 J2 A2 B2 0 0
      exact rtI rt rfl rfl (⟨by simp only [o_count, hin, if_true, ix, hck], rfl, hq5, hqk⟩)
    · skip
      refine S_swIn g (off := 125) (tgt := 126) rfl (by decide) (by decide) rfl rfl ?_
      refine S_n g 1 (pc' := 127) (lv' := [(0, .ref (ad 0)), (1, .int (nI 8))]) (st' := [.ref (ad 0)]) rfl ?_
      refine S_getR g (i := 0) (c := 8) (k := 0) (j := 100) (by decide) (by decide) rfl rfl rfl fl_X8_10 rfl ?_
      refine S_getI g (i := 100) (c := 7) (k := 8) (by decide) (by decide) rfl rfl fl_X8_164 rfl ?_
      rw [hR.2.1]
      exact rtI rt rfl rfl (⟨by simp only [o_count, hin, if_true, ix, hck], rfl, hR, kpC_rf I J A B⟩)
    · skip
      refine S_swIn g (off := 133) (tgt := 134) rfl (by decide) (by decide) rfl rfl ?_
      refine S_n g 1 (pc' := 135) (lv' := [(0, .ref (ad 0)), (1, .int (nI 9))]) (st' := [.ref (ad 0)]) rfl ?_
      refine S_getR g (i := 0) (c := 8) (k := 5) (j := 13) (by decide) (by decide) rfl rfl rfl fl_X8_44 rfl ?_
      refine S_getI g (i := 13) (c := 4) (k := 1) (by decide) (by decide) rfl rfl fl_X8_252 rfl ?_
      rw [hN]
      exact rtI rt rfl rfl (⟨by simp only [o_count, hin, if_true, ix, hck], rfl, hR, kpC_rf I J A B⟩)
  · skip
    have hto : x.toInt < 0 ∨ 9 < x.toInt := by unfold isIx at hin; have := of_decide_eq_false (Bool.eq_false_iff.mpr hin); omega
    refine S_n g 1 (pc' := 1) (lv' := [(0, .ref (ad 0)), (1, .int x)]) (st' := [.int x]) rfl ?_
    refine S_swOut g (tgt := 142) rfl hto rfl ?_
    refine S_n g 1 (pc' := 144) (lv' := [(0, .ref (ad 0)), (1, .int x)]) (st' := [.int (-nI 101)]) rfl ?_
    exact rtI rt rfl rfl (⟨by simp only [o_count, hin, if_false]; rfl, rfl, hR, kpC_rf I J A B⟩)

def cov (m : Nat → Int64) (s : Nat) : Nat → Int64
  | 0 => lN 0
  | k + 1 => if s.testBit k = true then cov m s k ||| (m (63 + k) ||| wfP (m (69 + k))) else cov m s k
theorem cov_bit {m : Nat → Int64} {s p : Nat} : ∀ k, tb (cov m s k) p = true ↔ ∃ v, v < k ∧ s.testBit v = true ∧ (tb (m (63 + v)) p = true ∨ tb (wfP (m (69 + v))) p = true)
  | 0 => by rw [cov, tb_0]; exact ⟨fun h => absurd h (by decide), fun ⟨v, h, _⟩ => absurd h (Nat.not_lt_zero v)⟩
  | k + 1 => by
    have ih := cov_bit (m := m) (s := s) (p := p) k
    rw [cov]
    by_cases q : s.testBit k = true
    · rw [if_pos q, tb_or, tb_or, Bool.or_eq_true, Bool.or_eq_true, ih]
      constructor
      · rintro (⟨v, h1, h2⟩ | h)
        · exact ⟨v, by omega, h2⟩
        · exact ⟨k, by omega, q, h⟩
      · rintro ⟨v, h1, h2, h3⟩
        by_cases e : v = k
        · subst e; exact Or.inr h3
        · exact Or.inl ⟨v, by omega, h2, h3⟩
    · rw [if_neg q, ih]
      constructor
      · rintro ⟨v, h1, h2⟩; exact ⟨v, by omega, h2⟩
      · rintro ⟨v, h1, h2, h3⟩
        exact ⟨v, by have : v ≠ k := fun e => q (by rw [← e]; exact h2)
                     omega, h2, h3⟩
theorem bool_iff {a b : Bool} (h : a = true ↔ b = true) : a = b := by cases a <;> cases b <;> simp_all
theorem cov_add {m : Nat → Int64} {s u nu : Nat} (hs : s < 64) (hu : u < nu) (hb : s.testBit u = true) : (cov m (sdf s (2 ^ u)) nu ||| m (63 + u)) ||| wfP (m (69 + u)) = cov m s nu := by
  apply tb_ext
  intro p hp
  rw [tb_or, tb_or]
  apply bool_iff
  rw [Bool.or_eq_true, Bool.or_eq_true, cov_bit, cov_bit]
  constructor
  · rintro ((⟨v, h1, h2, h3⟩ | h) | h)
    · rw [sdf_bit hs, Bool.and_eq_true] at h2
      exact ⟨v, h1, h2.1, h3⟩
    · exact ⟨u, hu, hb, Or.inl h⟩
    · exact ⟨u, hu, hb, Or.inr h⟩
  · rintro ⟨v, h1, h2, h3⟩
    by_cases e : v = u
    · subst e
      rcases h3 with h3 | h3
      · exact Or.inl (Or.inr h3)
      · exact Or.inr h3
    · refine Or.inl (Or.inl ⟨v, h1, ?_, h3⟩)
      rw [sdf_bit hs, h2, Nat.testBit_two_pow, decide_eq_false (fun q => e q.symm)]
      rfl
theorem isV_iff {m : Nat → Int64} {u bf fl p : Nat} : ∀ k, isV m u bf fl p k = true ↔ tb (m (63 + u)) p = false ∧ ∀ v, v < k → bf.testBit v = true → tb (m (63 + v)) p = false ∧ m (69 + v) ≠ lN fl
  | 0 => by
    rw [isV]
    constructor
    · intro h; exact ⟨by simpa using h, fun v hv => absurd hv (Nat.not_lt_zero v)⟩
    · rintro ⟨h, _⟩; rw [h]; rfl
  | k + 1 => by
    rw [isV, Bool.and_eq_true, isV_iff k]
    constructor
    · rintro ⟨⟨h1, h2⟩, h3⟩
      refine ⟨h1, fun v hv hb => ?_⟩
      by_cases e : v = k
      · subst e
        rw [hb] at h3
        simp at h3
        exact ⟨h3.1, h3.2⟩
      · exact h2 v (by omega) hb
    · rintro ⟨h1, h2⟩
      refine ⟨⟨h1, fun v hv hb => h2 v (by omega) hb⟩, ?_⟩
      cases hb : bf.testBit k
      · rfl
      · have := h2 k (by omega) hb
        rw [this.1, decide_eq_false this.2]
        rfl
theorem wfP_bit {m : Nat → Int64} {v nf fl p : Nat} (hf : nf ≤ 5) (hw : okW m v nf) (hfl : fl < 5) (h1 : 12 * fl ≤ p) (h2 : p < 12 * fl + 12) : tb (wfP (m (69 + v))) p = true ↔ m (69 + v) = lN fl := by
  unfold wfP
  rcases hw with h | ⟨f, hf1, h⟩
  · rw [if_pos h, tb_0, h]
    exact ⟨fun q => absurd q (by decide), fun q => absurd q.symm (lN_m1 (by omega))⟩
  · rw [if_neg (by rw [h]; exact lN_m1 (by omega)), h, pk_lT (by omega), Int.toNat_natCast, flP_bit (by omega), decide_eq_true_iff]
    constructor
    · intro q
      rw [show f = fl by omega]
    · intro q
      have := congrArg gN q
      rw [gN_lN (by omega), gN_lN (by omega)] at this
      omega
theorem ctb_win {s : Int64} {fl : Nat} (h : ∀ i, tb s i = true → 12 * fl ≤ i ∧ i < 12 * fl + 12) (hf : fl < 5) : ctb s 64 = cnf s fl 12 := by
  have z : ∀ i, ¬ (12 * fl ≤ i ∧ i < 12 * fl + 12) → tb s i = false := fun i q => by
    cases hb : tb s i
    · rfl
    · exact absurd (h i hb) q
  have h0 : ∀ k, k ≤ 12 * fl → ctb s k = 0 := fun k => by
    induction k with
    | zero => intro _; rfl
    | succ k ih => intro hk; rw [ctb, ih (by omega), z k (by omega)]; rfl
  have h1 : ∀ j, j ≤ 12 → ctb s (12 * fl + j) = cnf s fl j := fun j => by
    induction j with
    | zero => intro _; exact h0 _ (Nat.le_refl _)
    | succ j ih => intro hj; rw [← Nat.add_assoc, ctb, cnf, ih (by omega)]
  rw [ctb_cut (N := 12 * fl + 12) (fun i hi => z i (by omega)) 64 (by omega), h1 12 (Nat.le_refl _)]
theorem ctb_cnV {m : Nat → Int64} {nu u bf fl nf : Nat} (hnu : nu ≤ 6) (hf : nf ≤ 5) (hWs : ∀ v, v < 6 → okW m v nf) (hfl : fl < 5) (hu : m (69 + u) = lN fl) : ctb ((wfP (m (69 + u)) &&& (m (63 + u) ^^^ -lN 1)) &&& (cov m bf nu ^^^ -lN 1)) 64 = cnV m nu u bf fl 12 := by
  have ew : wfP (m (69 + u)) = flP fl := by
    unfold wfP
    rw [if_neg (by rw [hu]; exact lN_m1 (by omega)), hu, pk_lT (by omega), Int.toNat_natCast]
  rw [ew]
  rw [ctb_win (fl := fl) (fun i hi => by
    rw [tb_and, tb_and, Bool.and_eq_true, Bool.and_eq_true, flP_bit hfl] at hi
    exact of_decide_eq_true hi.1.1) hfl]
  have : ∀ j, j ≤ 12 → cnf ((flP fl &&& (m (63 + u) ^^^ -lN 1)) &&& (cov m bf nu ^^^ -lN 1)) fl j = cnV m nu u bf fl j := fun j => by
    induction j with
    | zero => intro _; rfl
    | succ j ih =>
      intro hj
      rw [cnf, cnV, ih (by omega)]
      congr 2
      rw [off_c (by omega), off_c (by omega), flP_bit hfl, decide_eq_true (by omega), Bool.true_and]
      apply bool_iff
      rw [isV_iff, Bool.and_eq_true]
      constructor
      · rintro ⟨h1, h2⟩
        refine ⟨by simpa using h1, fun v hv hb => ?_⟩
        have h3 : ¬ tb (cov m bf nu) (12 * fl + j) = true := by simpa using h2
        rw [cov_bit] at h3
        constructor
        · cases q : tb (m (63 + v)) (12 * fl + j)
          · rfl
          · exact absurd ⟨v, hv, hb, Or.inl q⟩ h3
        · intro q
          exact h3 ⟨v, hv, hb, Or.inr ((wfP_bit hf (hWs v (by omega)) hfl (by omega) (by omega)).mpr q)⟩
      · rintro ⟨h1, h2⟩
        refine ⟨by rw [h1]; rfl, ?_⟩
        have h3 : ¬ tb (cov m bf nu) (12 * fl + j) = true := by
          rw [cov_bit]
          rintro ⟨v, hv, hb, q | q⟩
          · rw [(h2 v hv hb).1] at q; exact absurd q (by decide)
          · exact (h2 v hv hb).2 ((wfP_bit hf (hWs v (by omega)) hfl (by omega) (by omega)).mp q)
        simpa using h3
  exact this 12 (Nat.le_refl _)
theorem bmx_0 {m : Nat → Int64} {nu : Nat} {b : Nat → Nat} : ∀ u, bmx m nu b 0 u = 0
  | 0 => rfl
  | u + 1 => by rw [bmx, if_neg (by simp)]; exact bmx_0 u
theorem btab_st {m : Nat → Int64} {nu all r : Nat} : ∀ n, r < n → btab m nu all n r = btab m nu all (r + 1) r
  | 0, h => absurd h (Nat.not_lt_zero r)
  | n + 1, h => by
    by_cases e : r = n
    · rw [e]
    · rw [btab_lt _ _ _ e]; exact btab_st n (by omega)
theorem cov_0 {m : Nat → Int64} : ∀ k, cov m 0 k = lN 0
  | 0 => rfl
  | k + 1 => by rw [cov, if_neg (by simp)]; exact cov_0 k
theorem sub_dm {m : Nat → Int64} {s nu u : Nat} (hs : s < 64) (h : sdf s (dmN m nu) = 0) (hb : s.testBit u = true) : u < nu ∧ m (69 + u) ≠ -lN 1 := by
  have := congrArg (fun z => z.testBit u) h
  simp only [sdf_bit hs, hb, dmN_bit, Nat.zero_testBit, Bool.true_and, Bool.not_eq_false', Bool.and_eq_true, decide_eq_true_iff] at this
  exact this
theorem sub_sdf {s a u : Nat} (hs : s < 64) (h : sdf s a = 0) : sdf (sdf s (2 ^ u)) a = 0 := by
  apply Nat.eq_of_testBit_eq
  intro i
  have := congrArg (fun z => z.testBit i) h
  simp only [sdf_bit hs, Nat.zero_testBit] at this
  rw [sdf_bit (sdf_lt hs), sdf_bit hs, Nat.zero_testBit]
  cases hs1 : s.testBit i
  · rfl
  · rw [hs1, Bool.true_and] at this; rw [this]; simp
theorem sdf_less {s u : Nat} (hs : s < 64) (h : s.testBit u = true) : sdf s (2 ^ u) < s := by
  have h1 : sdf s (2 ^ u) ≤ s := Nat.and_le_left
  have h2 : sdf s (2 ^ u) ≠ s := fun e => by rw [(sdf_self hs).mp e] at h; exact absurd h (by decide)
  omega
theorem ex_bit {s : Nat} (hs : 1 ≤ s) : ∃ u, s.testBit u = true := Classical.byContradiction (fun q => by
  have : s = 0 := Nat.eq_of_testBit_eq (fun i => by
    rw [Nat.zero_testBit]
    cases hb : s.testBit i
    · rfl
    · exact absurd ⟨i, hb⟩ q)
  omega)

theorem bmx_lim {m : Nat → Int64} {nu : Nat} {b : Nat → Nat} {s : Nat} (hb : ∀ r, r < s → b r ≤ 12 * r) (hs : s < 64) : ∀ u, u ≤ 6 → bmx m nu b s u ≤ 12 * s
  | 0, _ => Nat.zero_le _
  | u + 1, hu => by
    have ih := bmx_lim (m := m) (nu := nu) hb hs u (by omega)
    rw [bmx]
    split
    · next q =>
      have h1 := sdf_less hs q
      have h2 := hb _ h1
      have h3 := cnV_le m nu u (sdf s (2 ^ u)) (m (69 + u)).toInt.toNat 12
      split <;> omega
    · exact ih

set_option maxRecDepth 100000 in
set_option maxHeartbeats 4000000 in
theorem b_extend (ad : Nat → Nat) (z0 z1 : Bool) (I : FI) (J : FJ) (A : FI) (B : FJ) (m : Nat → Int64) (s nu nf : Nat) (bt : Nat → Nat) (hU : I 100 6 = nI nu) (h4 : nu ≤ 6) (h2 : nf ≤ 5) (hWs : ∀ v, v < 6 → okW m v nf) (h3 : ∀ v, v < 6 → J (120 + 4 * v) 1 = m (63 + v) ∧ I (120 + 4 * v) 2 = (m (69 + v)).toInt32) (hs : s < 64) (hs1 : 1 ≤ s) (hsd : sdf s (dmN m nu) = 0) (hbt : ∀ r, r < s → bt r ≤ 12 * r) (hT : ∀ u, s.testBit u = true → A 11 (sdf s (2 ^ u)) = nI (bt (sdf s (2 ^ u))) ∧ B 12 (sdf s (2 ^ u)) = cov m (sdf s (2 ^ u)) nu) : Spec M_X0_extend [.ref (ad 10), .ref (ad 100), .int (nI s)] (YC ad z0 z1) I J A B (fun v' Y' I' J' A' B' => v' = none ∧ Y' = YC ad z0 z1 ∧ I' = I ∧ J' = J ∧ ∃ a b, A' = va_up A 11 a ∧ B' = va_up B 12 b ∧ (∀ r, r ≠ s → a r = A 11 r ∧ b r = B 12 r) ∧ a s = nI (bmx m nu bt s nu) ∧ b s = cov m s nu) := by
  refine Spec_of (by decide) tk_X0_extend (Nat.le_of_ble_eq_true rfl) (fun X g rt => ?_)
  show Sim X (YC ad z0 z1) 0 [(0, .ref (ad 10)), (1, .ref (ad 100)), (2, .int (nI s))] [] I J A B 0 0
  refine S_n g 1 (pc' := 1) (lv' := [(0, .ref (ad 10)), (1, .ref (ad 100)), (2, .int (nI s))]) (st' := [.ref (ad 10)]) rfl ?_
  refine S_getR g (i := 10) (c := 0) (k := 0) (j := 11) (by decide) (by decide) rfl rfl rfl fl_X0_9 rfl ?_
  refine S_n g 2 (pc' := 6) (lv' := [(0, .ref (ad 10)), (1, .ref (ad 100)), (2, .int (nI s))]) (st' := [.int (nI 0), .int (nI s), .ref (ad 11)]) rfl ?_
  refine S_iastN g (i := 11) (e := s) (by decide) rfl (show s < 64 from by omega) (show (64 : Nat) < 2 ^ 31 from by decide) rfl ?_
  show Sim X (YC ad z0 z1) 7 [(0, .ref (ad 10)), (1, .ref (ad 100)), (2, .int (nI s))] [] I J (va_up A 11 (va_up (A 11) s (nI 0))) B 0 0
  refine S_n g 2 (pc' := 9) (lv' := [(0, .ref (ad 10)), (1, .ref (ad 100)), (2, .int (nI s)), (3, .int (nI 0))]) (st' := []) rfl ?_
  have lp : ∀ (nn : Nat) (u : Nat) (a : Nat → Int32) (b : Nat → Int64), nu - u = nn → (u ≤ nu) → (∀ r, r ≠ s → a r = A 11 r ∧ b r = B 12 r) → (a s = nI (bmx m nu bt s u)) → ((∃ v, v < u ∧ s.testBit v = true) → b s = cov m s nu) → Sim X (YC ad z0 z1) 9 [(0, .ref (ad 10)), (1, .ref (ad 100)), (2, .int (nI s)), (3, .int (nI u))] [] I J (va_up A 11 a) (va_up B 12 b) 0 0 := by
    intro nn
    induction nn using Nat.strongRecOn with
    | ind nn ih =>
      intro u a b hmz hu0 hk ha hb
      have lp := ih
      refine S_n g 2 (pc' := 11) (lv' := [(0, .ref (ad 10)), (1, .ref (ad 100)), (2, .int (nI s)), (3, .int (nI u))]) (st' := [.ref (ad 100), .int (nI u)]) rfl ?_
      refine S_getI g (i := 100) (c := 7) (k := 6) (by decide) (by decide) rfl rfl fl_X0_29 rfl ?_
      rw [hU]
      refine S_icN_ge g (tgt := 134) (by omega) (by omega) rfl (by decide) (fun qz14 => ?_) (fun qz14 => ?_)
      · skip
        have hu9 : u = nu := by omega
        subst hu9
        exact rtV rt rfl rfl (⟨rfl, rfl, rfl, rfl, a, b, rfl, rfl, hk, ha, by obtain ⟨v, hv⟩ := ex_bit hs1; exact hb ⟨v, (sub_dm hs hsd hv).1, hv⟩⟩)
      · skip
        refine S_n g 5 (pc' := 22) (lv' := [(0, .ref (ad 10)), (1, .ref (ad 100)), (2, .int (nI s)), (3, .int (nI u))]) (st' := [.int (((nI s) >>> ((nI u) &&& 31)) &&& (nI 1))]) rfl ?_
        refine S_steq (st' := [.int (nI (s.testBit u).toNat)]) (by rw [(show ((nI s) >>> ((nI u) &&& 31)) &&& (nI 1) = nI (s.testBit u).toNat from bit_nat (by omega)).symm]) ?_
        have hb1 : (s.testBit u).toNat ≤ 1 := Bool.toNat_le _
        refine S_ifN_eq g (tgt := 128) (by omega) rfl (by decide) (fun qz22 => ?_) (fun qz22 => ?_)
        · skip
          have hbt0 : s.testBit u = false := by cases hbv : s.testBit u; (· rfl); (· rw [hbv] at qz22; exact absurd qz22 (by decide))
          refine S_n g 1 (pc' := 131) (lv' := [(0, .ref (ad 10)), (1, .ref (ad 100)), (2, .int (nI s)), (3, .int ((nI u) + nI 1))]) (st' := []) rfl ?_
          rw [nI_add u 1]
          refine S_n g 1 (pc' := 9) (lv' := [(0, .ref (ad 10)), (1, .ref (ad 100)), (2, .int (nI s)), (3, .int (nI (u + 1)))]) (st' := []) rfl ?_
          exact lp (nu - (u + 1)) (by omega) (u + 1) a b rfl (by omega) hk (by rw [bmx, if_neg (by rw [hbt0]; decide)]; exact ha) (fun ⟨v, hv, hvb⟩ => hb ⟨v, by have : v ≠ u := (fun e => by rw [e, hbt0] at hvb; exact absurd hvb (by decide)); omega, hvb⟩)
        · skip
          have hbt1 : s.testBit u = true := by cases hbv : s.testBit u; (· rw [hbv] at qz22; exact absurd qz22 (by decide)); (· rfl)
          have hu : u < 6 := by omega
          have hsu := sdf_less hs hbt1
          have hT1 := hT u hbt1
          have hk1 := hk (sdf s (2 ^ u)) (by omega)
          rw [hT1.1, hT1.2] at hk1
          have hdm := (sub_dm hs hsd hbt1).2
          obtain ⟨fl, hfl, hmf⟩ := (hWs u hu).resolve_left hdm
          have hbl := hbt _ hsu
          have hcv := cnV_le m nu u (sdf s (2 ^ u)) fl 12
          have hbm := bmx_lim hbt hs u (by omega) (m := m) (nu := nu)
          refine S_n g 1 (pc' := 26) (lv' := [(0, .ref (ad 10)), (1, .ref (ad 100)), (2, .int (nI s)), (3, .int (nI u))]) (st' := [.ref (ad 100)]) rfl ?_
          refine S_getR g (i := 100) (c := 7) (k := 1) (j := 102) (by decide) (by decide) rfl rfl rfl fl_X0_33 rfl ?_
          refine S_n g 1 (pc' := 30) (lv' := [(0, .ref (ad 10)), (1, .ref (ad 100)), (2, .int (nI s)), (3, .int (nI u))]) (st' := [.int (nI u), .ref (ad 102)]) rfl ?_
          refine S_aaldN g (i := 102) (e := u) (j := 120 + 4 * u) (by decide) rfl (show u < 6 from by omega) (show (6 : Nat) < 2 ^ 31 from by decide) rfl rfl ?_
          refine S_n g 8 (pc' := 40) (lv' := [(0, .ref (ad 10)), (1, .ref (ad 100)), (2, .int (nI s)), (3, .int (nI u)), (4, .ref (ad (120 + 4 * u)))]) (st' := [.int ((nI s) &&& (((nI 1) <<< ((nI u) &&& 31)) ^^^ (-nI 1)))]) rfl ?_
          refine S_steq (st' := [.int (nI (sdf s (2 ^ u)))]) (by rw [(show (nI s) &&& (((nI 1) <<< ((nI u) &&& 31)) ^^^ (-nI 1)) = nI (sdf s (2 ^ u)) from nI_sdf1 hs (by omega)).symm]) ?_
          refine S_n g 2 (pc' := 44) (lv' := [(0, .ref (ad 10)), (1, .ref (ad 100)), (2, .int (nI s)), (3, .int (nI u)), (4, .ref (ad (120 + 4 * u))), (5, .int (nI (sdf s (2 ^ u))))]) (st' := [.ref (ad (120 + 4 * u))]) rfl ?_
          refine S_getI g (i := 120 + 4 * u) (c := 2) (k := 2) (by omega) (by decide) (mb7 hu).1 rfl fl_X0_37 rfl ?_
          rw [(h3 u hu).2]
          refine S_cS g (As := [.int (m (69 + u)).toInt32]) (st := []) (c_piecesOf ad z0 z1 I J (va_up A 11 a) (va_up B 12 b) m u nf h2 (hWs u hu)) mw_X8_piecesOf lk_X0_42 ⟨Nat.le_of_ble_eq_true rfl, Nat.le_of_ble_eq_true rfl⟩ rfl (Nat.le_of_ble_eq_true rfl) ⟨Nat.le_of_ble_eq_true rfl, Nat.le_of_ble_eq_true rfl⟩ rfl ?_
          show Sim X (YC ad z0 z1) 50 [(0, .ref (ad 10)), (1, .ref (ad 100)), (2, .int (nI s)), (3, .int (nI u)), (4, .ref (ad (120 + 4 * u))), (5, .int (nI (sdf s (2 ^ u))))] [.long (wfP (m (69 + u)))] I J (va_up A 11 a) (va_up B 12 b) 0 0
          refine S_n g 3 (pc' := 56) (lv' := [(0, .ref (ad 10)), (1, .ref (ad 100)), (2, .int (nI s)), (3, .int (nI u)), (4, .ref (ad (120 + 4 * u))), (5, .int (nI (sdf s (2 ^ u)))), (6, .long (wfP (m (69 + u))))]) (st' := [.ref (ad (120 + 4 * u)), .long (wfP (m (69 + u)))]) rfl ?_
          refine S_getJ g (i := 120 + 4 * u) (c := 2) (k := 1) (by omega) (by decide) (mb7 hu).1 rfl fl_X0_46 rfl ?_
          rw [(h3 u hu).1]
          refine S_ldc2 g kc_X0_50 rfl ?_
          refine S_n g 3 (pc' := 65) (lv' := [(0, .ref (ad 10)), (1, .ref (ad 100)), (2, .int (nI s)), (3, .int (nI u)), (4, .ref (ad (120 + 4 * u))), (5, .int (nI (sdf s (2 ^ u)))), (6, .long (wfP (m (69 + u))))]) (st' := [.ref (ad 10), .long ((wfP (m (69 + u))) &&& ((m (63 + u)) ^^^ (-lN 1)))]) rfl ?_
          refine S_getR g (i := 10) (c := 0) (k := 1) (j := 12) (by decide) (by decide) rfl rfl rfl fl_X0_15 rfl ?_
          refine S_n g 1 (pc' := 70) (lv' := [(0, .ref (ad 10)), (1, .ref (ad 100)), (2, .int (nI s)), (3, .int (nI u)), (4, .ref (ad (120 + 4 * u))), (5, .int (nI (sdf s (2 ^ u)))), (6, .long (wfP (m (69 + u))))]) (st' := [.int (nI (sdf s (2 ^ u))), .ref (ad 12), .long ((wfP (m (69 + u))) &&& ((m (63 + u)) ^^^ (-lN 1)))]) rfl ?_
          refine S_laldN g (i := 12) (e := sdf s (2 ^ u)) (by decide) rfl (show sdf s (2 ^ u) < 64 from by omega) (show (64 : Nat) < 2 ^ 31 from by decide) rfl ?_
          show Sim X (YC ad z0 z1) 71 [(0, .ref (ad 10)), (1, .ref (ad 100)), (2, .int (nI s)), (3, .int (nI u)), (4, .ref (ad (120 + 4 * u))), (5, .int (nI (sdf s (2 ^ u)))), (6, .long (wfP (m (69 + u))))] [.long (b (sdf s (2 ^ u))), .long ((wfP (m (69 + u))) &&& ((m (63 + u)) ^^^ (-lN 1)))] I J (va_up A 11 a) (va_up B 12 b) 0 0
          rw [hk1.2]
          refine S_ldc2 g kc_X0_50 rfl ?_
          refine S_n g 2 (pc' := 76) (lv' := [(0, .ref (ad 10)), (1, .ref (ad 100)), (2, .int (nI s)), (3, .int (nI u)), (4, .ref (ad (120 + 4 * u))), (5, .int (nI (sdf s (2 ^ u)))), (6, .long (wfP (m (69 + u))))]) (st' := [.long (((wfP (m (69 + u))) &&& ((m (63 + u)) ^^^ (-lN 1))) &&& ((cov m (sdf s (2 ^ u)) nu) ^^^ (-lN 1)))]) rfl ?_
          refine S_cS g (As := [.long (((wfP (m (69 + u))) &&& ((m (63 + u)) ^^^ (-lN 1))) &&& ((cov m (sdf s (2 ^ u)) nu) ^^^ (-lN 1)))]) (st := []) (sp_bitL (YC ad z0 z1) I J (va_up A 11 a) (va_up B 12 b) ((wfP (m (69 + u)) &&& (m (63 + u) ^^^ -lN 1)) &&& (cov m (sdf s (2 ^ u)) nu ^^^ -lN 1))) mw_J13_bitCount_95d88 lk_X0_52 ⟨Nat.le_of_ble_eq_true rfl, Nat.le_of_ble_eq_true rfl⟩ rfl (Nat.le_of_ble_eq_true rfl) ⟨Nat.le_of_ble_eq_true rfl, Nat.le_of_ble_eq_true rfl⟩ rfl ?_
          rw [ctb_cnV h4 h2 hWs (by omega) hmf]
          show Sim X (YC ad z0 z1) 79 [(0, .ref (ad 10)), (1, .ref (ad 100)), (2, .int (nI s)), (3, .int (nI u)), (4, .ref (ad (120 + 4 * u))), (5, .int (nI (sdf s (2 ^ u)))), (6, .long (wfP (m (69 + u))))] [.int (nI (cnV m nu u (sdf s (2 ^ u)) fl 12))] I J (va_up A 11 a) (va_up B 12 b) 0 0
          refine S_n g 2 (pc' := 82) (lv' := [(0, .ref (ad 10)), (1, .ref (ad 100)), (2, .int (nI s)), (3, .int (nI u)), (4, .ref (ad (120 + 4 * u))), (5, .int (nI (sdf s (2 ^ u)))), (6, .long (wfP (m (69 + u)))), (8, .int (nI (cnV m nu u (sdf s (2 ^ u)) fl 12)))]) (st' := [.ref (ad 10)]) rfl ?_
          refine S_getR g (i := 10) (c := 0) (k := 0) (j := 11) (by decide) (by decide) rfl rfl rfl fl_X0_9 rfl ?_
          refine S_n g 2 (pc' := 87) (lv' := [(0, .ref (ad 10)), (1, .ref (ad 100)), (2, .int (nI s)), (3, .int (nI u)), (4, .ref (ad (120 + 4 * u))), (5, .int (nI (sdf s (2 ^ u)))), (6, .long (wfP (m (69 + u)))), (8, .int (nI (cnV m nu u (sdf s (2 ^ u)) fl 12)))]) (st' := [.ref (ad 10), .int (nI s), .ref (ad 11)]) rfl ?_
          refine S_getR g (i := 10) (c := 0) (k := 0) (j := 11) (by decide) (by decide) rfl rfl rfl fl_X0_9 rfl ?_
          refine S_n g 1 (pc' := 91) (lv' := [(0, .ref (ad 10)), (1, .ref (ad 100)), (2, .int (nI s)), (3, .int (nI u)), (4, .ref (ad (120 + 4 * u))), (5, .int (nI (sdf s (2 ^ u)))), (6, .long (wfP (m (69 + u)))), (8, .int (nI (cnV m nu u (sdf s (2 ^ u)) fl 12)))]) (st' := [.int (nI s), .ref (ad 11), .int (nI s), .ref (ad 11)]) rfl ?_
          refine S_ialdN g (i := 11) (e := s) (by decide) rfl (show s < 64 from by omega) (show (64 : Nat) < 2 ^ 31 from by decide) rfl ?_
          show Sim X (YC ad z0 z1) 92 [(0, .ref (ad 10)), (1, .ref (ad 100)), (2, .int (nI s)), (3, .int (nI u)), (4, .ref (ad (120 + 4 * u))), (5, .int (nI (sdf s (2 ^ u)))), (6, .long (wfP (m (69 + u)))), (8, .int (nI (cnV m nu u (sdf s (2 ^ u)) fl 12)))] [.int (a s), .int (nI s), .ref (ad 11)] I J (va_up A 11 a) (va_up B 12 b) 0 0
          rw [ha]
          refine S_n g 1 (pc' := 93) (lv' := [(0, .ref (ad 10)), (1, .ref (ad 100)), (2, .int (nI s)), (3, .int (nI u)), (4, .ref (ad (120 + 4 * u))), (5, .int (nI (sdf s (2 ^ u)))), (6, .long (wfP (m (69 + u)))), (8, .int (nI (cnV m nu u (sdf s (2 ^ u)) fl 12)))]) (st' := [.ref (ad 10), .int (nI (bmx m nu bt s u)), .int (nI s), .ref (ad 11)]) rfl ?_
          refine S_getR g (i := 10) (c := 0) (k := 0) (j := 11) (by decide) (by decide) rfl rfl rfl fl_X0_9 rfl ?_
          refine S_n g 1 (pc' := 98) (lv' := [(0, .ref (ad 10)), (1, .ref (ad 100)), (2, .int (nI s)), (3, .int (nI u)), (4, .ref (ad (120 + 4 * u))), (5, .int (nI (sdf s (2 ^ u)))), (6, .long (wfP (m (69 + u)))), (8, .int (nI (cnV m nu u (sdf s (2 ^ u)) fl 12)))]) (st' := [.int (nI (sdf s (2 ^ u))), .ref (ad 11), .int (nI (bmx m nu bt s u)), .int (nI s), .ref (ad 11)]) rfl ?_
          refine S_ialdN g (i := 11) (e := sdf s (2 ^ u)) (by decide) rfl (show sdf s (2 ^ u) < 64 from by omega) (show (64 : Nat) < 2 ^ 31 from by decide) rfl ?_
          show Sim X (YC ad z0 z1) 99 [(0, .ref (ad 10)), (1, .ref (ad 100)), (2, .int (nI s)), (3, .int (nI u)), (4, .ref (ad (120 + 4 * u))), (5, .int (nI (sdf s (2 ^ u)))), (6, .long (wfP (m (69 + u)))), (8, .int (nI (cnV m nu u (sdf s (2 ^ u)) fl 12)))] [.int (a (sdf s (2 ^ u))), .int (nI (bmx m nu bt s u)), .int (nI s), .ref (ad 11)] I J (va_up A 11 a) (va_up B 12 b) 0 0
          rw [hk1.1]
          refine S_n g 2 (pc' := 102) (lv' := [(0, .ref (ad 10)), (1, .ref (ad 100)), (2, .int (nI s)), (3, .int (nI u)), (4, .ref (ad (120 + 4 * u))), (5, .int (nI (sdf s (2 ^ u)))), (6, .long (wfP (m (69 + u)))), (8, .int (nI (cnV m nu u (sdf s (2 ^ u)) fl 12)))]) (st' := [.int ((nI (bt (sdf s (2 ^ u)))) + (nI (cnV m nu u (sdf s (2 ^ u)) fl 12))), .int (nI (bmx m nu bt s u)), .int (nI s), .ref (ad 11)]) rfl ?_
          rw [nI_add (bt (sdf s (2 ^ u))) (cnV m nu u (sdf s (2 ^ u)) fl 12)]
          refine S_cS g (As := [.int (nI (bmx m nu bt s u)), .int (nI ((bt (sdf s (2 ^ u))) + (cnV m nu u (sdf s (2 ^ u)) fl 12)))]) (st := [.int (nI s), .ref (ad 11)]) (sp_max (YC ad z0 z1) I J (va_up A 11 a) (va_up B 12 b) (bmx m nu bt s u) (bt (sdf s (2 ^ u)) + cnV m nu u (sdf s (2 ^ u)) fl 12) (by omega) (by omega)) mw_J9_max_7cf53 lk_X0_58 ⟨Nat.le_of_ble_eq_true rfl, Nat.le_of_ble_eq_true rfl⟩ rfl (Nat.le_of_ble_eq_true rfl) ⟨Nat.le_of_ble_eq_true rfl, Nat.le_of_ble_eq_true rfl⟩ rfl ?_
          rw [show max (bmx m nu bt s u) (bt (sdf s (2 ^ u)) + cnV m nu u (sdf s (2 ^ u)) fl 12) = bmx m nu bt s (u + 1) from by rw [bmx, if_pos hbt1, hmf, pk_lT (by omega), Int.toNat_natCast]; split <;> omega]
          show Sim X (YC ad z0 z1) 105 [(0, .ref (ad 10)), (1, .ref (ad 100)), (2, .int (nI s)), (3, .int (nI u)), (4, .ref (ad (120 + 4 * u))), (5, .int (nI (sdf s (2 ^ u)))), (6, .long (wfP (m (69 + u)))), (8, .int (nI (cnV m nu u (sdf s (2 ^ u)) fl 12)))] [.int (nI (bmx m nu bt s (u + 1))), .int (nI s), .ref (ad 11)] I J (va_up A 11 a) (va_up B 12 b) 0 0
          refine S_iastN g (i := 11) (e := s) (by decide) rfl (show s < 64 from by omega) (show (64 : Nat) < 2 ^ 31 from by decide) rfl ?_
          rw [up2_r1 (i := 11)]
          refine S_n g 1 (pc' := 107) (lv' := [(0, .ref (ad 10)), (1, .ref (ad 100)), (2, .int (nI s)), (3, .int (nI u)), (4, .ref (ad (120 + 4 * u))), (5, .int (nI (sdf s (2 ^ u)))), (6, .long (wfP (m (69 + u)))), (8, .int (nI (cnV m nu u (sdf s (2 ^ u)) fl 12)))]) (st' := [.ref (ad 10)]) rfl ?_
          refine S_getR g (i := 10) (c := 0) (k := 1) (j := 12) (by decide) (by decide) rfl rfl rfl fl_X0_15 rfl ?_
          refine S_n g 2 (pc' := 112) (lv' := [(0, .ref (ad 10)), (1, .ref (ad 100)), (2, .int (nI s)), (3, .int (nI u)), (4, .ref (ad (120 + 4 * u))), (5, .int (nI (sdf s (2 ^ u)))), (6, .long (wfP (m (69 + u)))), (8, .int (nI (cnV m nu u (sdf s (2 ^ u)) fl 12)))]) (st' := [.ref (ad 10), .int (nI s), .ref (ad 12)]) rfl ?_
          refine S_getR g (i := 10) (c := 0) (k := 1) (j := 12) (by decide) (by decide) rfl rfl rfl fl_X0_15 rfl ?_
          refine S_n g 1 (pc' := 117) (lv' := [(0, .ref (ad 10)), (1, .ref (ad 100)), (2, .int (nI s)), (3, .int (nI u)), (4, .ref (ad (120 + 4 * u))), (5, .int (nI (sdf s (2 ^ u)))), (6, .long (wfP (m (69 + u)))), (8, .int (nI (cnV m nu u (sdf s (2 ^ u)) fl 12)))]) (st' := [.int (nI (sdf s (2 ^ u))), .ref (ad 12), .int (nI s), .ref (ad 12)]) rfl ?_
          refine S_laldN g (i := 12) (e := sdf s (2 ^ u)) (by decide) rfl (show sdf s (2 ^ u) < 64 from by omega) (show (64 : Nat) < 2 ^ 31 from by decide) rfl ?_
          show Sim X (YC ad z0 z1) 118 [(0, .ref (ad 10)), (1, .ref (ad 100)), (2, .int (nI s)), (3, .int (nI u)), (4, .ref (ad (120 + 4 * u))), (5, .int (nI (sdf s (2 ^ u)))), (6, .long (wfP (m (69 + u)))), (8, .int (nI (cnV m nu u (sdf s (2 ^ u)) fl 12)))] [.long (b (sdf s (2 ^ u))), .int (nI s), .ref (ad 12)] I J (va_up A 11 (va_up a s (nI (bmx m nu bt s (u + 1))))) (va_up B 12 b) 0 0
          rw [hk1.2]
          refine S_n g 1 (pc' := 120) (lv' := [(0, .ref (ad 10)), (1, .ref (ad 100)), (2, .int (nI s)), (3, .int (nI u)), (4, .ref (ad (120 + 4 * u))), (5, .int (nI (sdf s (2 ^ u)))), (6, .long (wfP (m (69 + u)))), (8, .int (nI (cnV m nu u (sdf s (2 ^ u)) fl 12)))]) (st' := [.ref (ad (120 + 4 * u)), .long (cov m (sdf s (2 ^ u)) nu), .int (nI s), .ref (ad 12)]) rfl ?_
          refine S_getJ g (i := 120 + 4 * u) (c := 2) (k := 1) (by omega) (by decide) (mb7 hu).1 rfl fl_X0_46 rfl ?_
          rw [(h3 u hu).1]
          refine S_n g 3 (pc' := 127) (lv' := [(0, .ref (ad 10)), (1, .ref (ad 100)), (2, .int (nI s)), (3, .int (nI u)), (4, .ref (ad (120 + 4 * u))), (5, .int (nI (sdf s (2 ^ u)))), (6, .long (wfP (m (69 + u)))), (8, .int (nI (cnV m nu u (sdf s (2 ^ u)) fl 12)))]) (st' := [.long (((cov m (sdf s (2 ^ u)) nu) ||| (m (63 + u))) ||| (wfP (m (69 + u)))), .int (nI s), .ref (ad 12)]) rfl ?_
          refine S_steq (st' := [.long (cov m s nu), .int (nI s), .ref (ad 12)]) (by rw [(show ((cov m (sdf s (2 ^ u)) nu) ||| (m (63 + u))) ||| (wfP (m (69 + u))) = cov m s nu from cov_add hs (by omega) hbt1).symm]) ?_
          refine S_lastN g (i := 12) (e := s) (by decide) rfl (show s < 64 from by omega) (show (64 : Nat) < 2 ^ 31 from by decide) rfl ?_
          rw [up2_r1 (i := 12)]
          refine S_n g 1 (pc' := 131) (lv' := [(0, .ref (ad 10)), (1, .ref (ad 100)), (2, .int (nI s)), (3, .int ((nI u) + nI 1)), (4, .ref (ad (120 + 4 * u))), (5, .int (nI (sdf s (2 ^ u)))), (6, .long (wfP (m (69 + u)))), (8, .int (nI (cnV m nu u (sdf s (2 ^ u)) fl 12)))]) (st' := []) rfl ?_
          rw [nI_add u 1]
          refine S_n g 1 (pc' := 9) (lv' := [(0, .ref (ad 10)), (1, .ref (ad 100)), (2, .int (nI s)), (3, .int (nI (u + 1))), (4, .ref (ad (120 + 4 * u))), (5, .int (nI (sdf s (2 ^ u)))), (6, .long (wfP (m (69 + u)))), (8, .int (nI (cnV m nu u (sdf s (2 ^ u)) fl 12)))]) (st' := []) rfl ?_
          refine S_keep (lv' := [(0, .ref (ad 10)), (1, .ref (ad 100)), (2, .int (nI s)), (3, .int (nI (u + 1)))]) [0, 1, 2, 3] rfl ?_
          exact lp (nu - (u + 1)) (by omega) (u + 1) (va_up a s (nI (bmx m nu bt s (u + 1)))) (va_up b s (cov m s nu)) rfl (by omega) (fun r hr => by rw [va_up_ne _ _ hr, va_up_ne _ _ hr]; exact hk r hr) (va_up_self _ _ _) (fun _ => va_up_self _ _ _)
  have h0 := lp _ 0 (va_up (A 11) s (nI 0)) (B 12) rfl (Nat.zero_le _) (fun r hr => ⟨va_up_ne _ _ hr, rfl⟩) (va_up_self _ _ _) (fun q => by obtain ⟨v, hv, _⟩ := q; exact absurd hv (Nat.not_lt_zero v))
  rw [va_id B 12] at h0
  exact h0

set_option maxRecDepth 100000 in
set_option maxHeartbeats 4000000 in
theorem b_greatest (ad : Nat → Nat) (z0 z1 : Bool) (I : FI) (J : FJ) (A : FI) (B : FJ) (m : Nat → Int64) (nu nf : Nat) (hU : I 100 6 = nI nu) (h4 : nu ≤ 6) (h2 : nf ≤ 5) (hWs : ∀ v, v < 6 → okW m v nf) (h3 : ∀ v, v < 6 → J (120 + 4 * v) 1 = m (63 + v) ∧ I (120 + 4 * v) 2 = (m (69 + v)).toInt32) (h11 : A 11 0 = nI 0) (h12 : B 12 0 = lN 0) : Spec M_X0_greatest [.ref (ad 10), .ref (ad 100)] (YC ad z0 z1) I J A B (fun v' Y' I' J' A' B' => v' = some (.int (nI (o_bound m nu))) ∧ Y' = YC ad z0 z1 ∧ I' = I ∧ J' = J ∧ ∃ a b, A' = va_up A 11 a ∧ B' = va_up B 12 b ∧ a 0 = nI 0 ∧ b 0 = lN 0) := by
  have hd64 := dmN_lt m nu h4
  refine Spec_of (by decide) tk_X0_greatest (Nat.le_of_ble_eq_true rfl) (fun X g rt => ?_)
  show Sim X (YC ad z0 z1) 0 [(0, .ref (ad 10)), (1, .ref (ad 100))] [] I J A B 0 0
  refine S_n g 1 (pc' := 1) (lv' := [(0, .ref (ad 10)), (1, .ref (ad 100))]) (st' := [.ref (ad 100)]) rfl ?_
  refine S_cV g (i := 100) (As := []) (st := []) (w_demanding ad z0 z1 I J A B m nu nf hU h4 h2 hWs (fun u hu => (h3 u hu).2)) mw_X7_demanding lk_X0_19 ⟨Nat.le_of_ble_eq_true rfl, Nat.le_of_ble_eq_true rfl⟩ (by decide) (by decide) rfl rfl (Nat.le_of_ble_eq_true rfl) ⟨Nat.le_of_ble_eq_true rfl, Nat.le_of_ble_eq_true rfl⟩ rfl ?_
  show Sim X (YC ad z0 z1) 4 [(0, .ref (ad 10)), (1, .ref (ad 100))] [.int (nI (dmN m nu))] I J A B 0 0
  have hbn : o_bound m nu = btab m nu (dmN m nu) (dmN m nu + 1) (dmN m nu) := btab_st 64 hd64
  have hself : sdf (dmN m nu) (dmN m nu) = 0 := by apply Nat.eq_of_testBit_eq; intro i; rw [sdf_bit hd64, Nat.zero_testBit]; cases (dmN m nu).testBit i <;> rfl
  have hsb : ∀ s, s < 64 → sdf s (dmN m nu) = 0 → ∀ u, s.testBit u = true → u < nu ∧ m (69 + u) ≠ -lN 1 := fun s a b u c => sub_dm a b c
  obtain ⟨d, hd⟩ : ∃ d, d = dmN m nu := ⟨_, rfl⟩
  rw [← hd] at hd64 hbn hself ⊢
  show Sim X (YC ad z0 z1) 4 [(0, .ref (ad 10)), (1, .ref (ad 100))] [.int (nI d)] I J A B 0 0
  refine S_n g 3 (pc' := 7) (lv' := [(0, .ref (ad 10)), (1, .ref (ad 100)), (2, .int (nI d)), (3, .int (nI 1))]) (st' := []) rfl ?_
  have lp : ∀ (nn : Nat) (s : Nat) (a : Nat → Int32) (b : Nat → Int64), d + 1 - s = nn → (s ≤ d + 1) → (1 ≤ s) → (∀ r, r < s → sdf r d = 0 → a r = nI (btab m nu d s r) ∧ b r = cov m r nu) → (a 0 = nI 0) → (b 0 = lN 0) → Sim X (YC ad z0 z1) 7 [(0, .ref (ad 10)), (1, .ref (ad 100)), (2, .int (nI d)), (3, .int (nI s))] [] I J (va_up A 11 a) (va_up B 12 b) 0 0 := by
    intro nn
    induction nn using Nat.strongRecOn with
    | ind nn ih =>
      intro s a b hmz hs hs1 hinv ha0 hb0
      have lp := ih
      refine S_n g 2 (pc' := 9) (lv' := [(0, .ref (ad 10)), (1, .ref (ad 100)), (2, .int (nI d)), (3, .int (nI s))]) (st' := [.int (nI d), .int (nI s)]) rfl ?_
      refine S_icN_gt g (tgt := 38) (by omega) (by omega) rfl (by decide) (fun qz9 => ?_) (fun qz9 => ?_)
      · skip
        have hs9 : s = d + 1 := by omega
        subst hs9
        refine S_n g 1 (pc' := 39) (lv' := [(0, .ref (ad 10)), (1, .ref (ad 100)), (2, .int (nI d)), (3, .int (nI (d + 1)))]) (st' := [.ref (ad 10)]) rfl ?_
        refine S_getR g (i := 10) (c := 0) (k := 0) (j := 11) (by decide) (by decide) rfl rfl rfl fl_X0_9 rfl ?_
        refine S_n g 1 (pc' := 43) (lv' := [(0, .ref (ad 10)), (1, .ref (ad 100)), (2, .int (nI d)), (3, .int (nI (d + 1)))]) (st' := [.int (nI d), .ref (ad 11)]) rfl ?_
        refine S_ialdN g (i := 11) (e := d) (by decide) rfl (show d < 64 from by omega) (show (64 : Nat) < 2 ^ 31 from by decide) rfl ?_
        show Sim X (YC ad z0 z1) 44 [(0, .ref (ad 10)), (1, .ref (ad 100)), (2, .int (nI d)), (3, .int (nI (d + 1)))] [.int (a d)] I J (va_up A 11 a) (va_up B 12 b) 0 0
        rw [(hinv d (by omega) hself).1]
        exact rtI rt rfl rfl (⟨by rw [hbn], rfl, rfl, rfl, a, b, rfl, rfl, ha0, hb0⟩)
      · skip
        refine S_n g 2 (pc' := 15) (lv' := [(0, .ref (ad 10)), (1, .ref (ad 100)), (2, .int (nI d)), (3, .int (nI s))]) (st' := [.int (nI 64), .int (nI s)]) rfl ?_
        refine S_icN_ge g (tgt := 38) (by omega) (by omega) rfl (by decide) (fun qz15 => ?_) (fun qz15 => ?_)
        · skip
          omega
        · skip
          refine S_n g 5 (pc' := 23) (lv' := [(0, .ref (ad 10)), (1, .ref (ad 100)), (2, .int (nI d)), (3, .int (nI s))]) (st' := [.int ((nI s) &&& ((nI d) ^^^ (-nI 1)))]) rfl ?_
          refine S_steq (st' := [.int (nI (sdf s d))]) (by rw [(show (nI s) &&& ((nI d) ^^^ (-nI 1)) = nI (sdf s d) from nI_sdf (by omega)).symm]) ?_
          have hsl := sdf_lt (a := d) (show s < 64 by omega)
          refine S_ifN_ne g (tgt := 32) (by omega) rfl (by decide) (fun qz23 => ?_) (fun qz23 => ?_)
          · skip
            refine S_n g 1 (pc' := 35) (lv' := [(0, .ref (ad 10)), (1, .ref (ad 100)), (2, .int (nI d)), (3, .int ((nI s) + nI 1))]) (st' := []) rfl ?_
            rw [nI_add s 1]
            refine S_n g 1 (pc' := 7) (lv' := [(0, .ref (ad 10)), (1, .ref (ad 100)), (2, .int (nI d)), (3, .int (nI (s + 1)))]) (st' := []) rfl ?_
            exact lp (d + 1 - (s + 1)) (by omega) (s + 1) a b rfl (by omega) (by omega) (fun r hr hrd => by have e : r ≠ s := (fun e => by rw [e] at hrd; omega); rw [btab_lt _ _ _ e]; exact hinv r (by omega) hrd) ha0 hb0
          · skip
            have hz : sdf s d = 0 := by omega
            refine S_n g 3 (pc' := 29) (lv' := [(0, .ref (ad 10)), (1, .ref (ad 100)), (2, .int (nI d)), (3, .int (nI s))]) (st' := [.int (nI s), .ref (ad 100), .ref (ad 10)]) rfl ?_
            refine S_callV g (i := 10) (As := [.ref (ad 100), .int (nI s)]) (st := []) (b_extend ad z0 z1 I J (va_up A 11 a) (va_up B 12 b) m s nu nf (btab m nu d s) hU h4 h2 hWs h3 (by omega) hs1 (by rw [← hd]; exact hz) (fun r hr => btab_le m nu d h4 s (by omega) r (by omega)) (fun u hub => by rw [va_up_self, va_up_self]; exact hinv _ (sdf_less (by omega) hub) (sub_sdf (by omega) hz))) mw_X0_extend lk_X0_25 ⟨Nat.le_of_ble_eq_true rfl, Nat.le_of_ble_eq_true rfl⟩ (by decide) (by decide) rfl rfl (Nat.le_of_ble_eq_true rfl) ⟨Nat.le_of_ble_eq_true rfl, Nat.le_of_ble_eq_true rfl⟩ rfl (fun v' Y' I3 J3 A3 B3 hpo => ?_)
            obtain ⟨rfl, rfl, e1, e2, a2, b2, e3, e4, hk, hka, hkb⟩ := hpo
            rw [va_up_self, va_up_self] at hk
            rw [e1, e2, e3, e4, va_up1, va_up1]
            show Sim X (YC ad z0 z1) 32 [(0, .ref (ad 10)), (1, .ref (ad 100)), (2, .int (nI d)), (3, .int (nI s))] [] I J (va_up A 11 a2) (va_up B 12 b2) 0 0
            refine S_n g 1 (pc' := 35) (lv' := [(0, .ref (ad 10)), (1, .ref (ad 100)), (2, .int (nI d)), (3, .int ((nI s) + nI 1))]) (st' := []) rfl ?_
            rw [nI_add s 1]
            refine S_n g 1 (pc' := 7) (lv' := [(0, .ref (ad 10)), (1, .ref (ad 100)), (2, .int (nI d)), (3, .int (nI (s + 1)))]) (st' := []) rfl ?_
            exact lp (d + 1 - (s + 1)) (by omega) (s + 1) a2 b2 rfl (by omega) (by omega) (fun r hr hrd => by by_cases e : r = s; (· subst e; rw [btab_at, if_pos hz]; exact ⟨hka, hkb⟩); (· rw [btab_lt _ _ _ e, (hk r e).1, (hk r e).2]; exact hinv r (by omega) hrd)) ((hk 0 (by omega)).1.trans ha0) ((hk 0 (by omega)).2.trans hb0)
  have h0 := lp _ 1 (A 11) (B 12) rfl (by omega) (Nat.le_refl _) (fun r hr _ => by rw [show r = 0 by omega, btab_at, cov_0]; refine ⟨?_, h12⟩; rw [h11]; split; (· rw [bmx_0]); (· rfl)) h11 h12
  rw [va_id, va_id] at h0
  exact h0

set_option maxRecDepth 100000 in
set_option maxHeartbeats 4000000 in
theorem c_bound (ad : Nat → Nat) (z0 z1 : Bool) (I : FI) (J : FJ) (A : FI) (B : FJ) (m : Nat → Int64) (hG : WG m) (hR : RepW 100 m I J A B) (h11 : A 11 0 = nI 0) (h12 : B 12 0 = lN 0) : Spec M_X8_bound [.ref (ad 0)] (YC ad z0 z1) I J A B (cP ad z0 z1 I J A B (.int (nI (o_bound m (gN (m 1))))) m) := by
  obtain ⟨nf, hnf⟩ : ∃ nf, nf = gN (m 0) := ⟨_, rfl⟩
  obtain ⟨nu, hnu⟩ : ∃ nu, nu = gN (m 1) := ⟨_, rfl⟩
  obtain ⟨nc, hnc⟩ : ∃ nc, nc = gN (m 2) := ⟨_, rfl⟩
  have hD := hG.1
  unfold wc0 at hD
  rw [← hnf, ← hnu, ← hnc] at hD
  obtain ⟨hmF, hmU, hmC, h1, h2, h3, h4, h5⟩ := hD
  have hF : I 100 5 = nI nf := by rw [hR.1.1, hmF, lN_i]
  have hU : I 100 6 = nI nu := by rw [hR.1.2.1, hmU, lN_i]
  have hC : I 100 7 = nI nc := by rw [hR.1.2.2.1, hmC, lN_i]
  rw [← hnu]
  refine Spec_of (by decide) tk_X8_bound (Nat.le_of_ble_eq_true rfl) (fun X g rt => ?_)
  show Sim X (YC ad z0 z1) 0 [(0, .ref (ad 0))] [] I J A B 0 0
  refine S_n g 1 (pc' := 1) (lv' := [(0, .ref (ad 0))]) (st' := [.ref (ad 0)]) rfl ?_
  refine S_getR g (i := 0) (c := 8) (k := 4) (j := 10) (by decide) (by decide) rfl rfl rfl fl_X8_37 rfl ?_
  refine S_n g 1 (pc' := 5) (lv' := [(0, .ref (ad 0))]) (st' := [.ref (ad 0), .ref (ad 10)]) rfl ?_
  refine S_getR g (i := 0) (c := 8) (k := 0) (j := 100) (by decide) (by decide) rfl rfl rfl fl_X8_10 rfl ?_
  refine S_callV g (i := 10) (As := [.ref (ad 100)]) (st := []) (b_greatest ad z0 z1 I J A B m nu nf hU h4 h2 (fun v hv => by rw [hnf]; exact (hG.2.2.2.2.2.1 v hv).1) (fun v hv => hR.2.2.2.1 v hv) h11 h12) mw_X0_greatest lk_X8_228 ⟨Nat.le_of_ble_eq_true rfl, Nat.le_of_ble_eq_true rfl⟩ (by decide) (by decide) rfl rfl (Nat.le_of_ble_eq_true rfl) ⟨Nat.le_of_ble_eq_true rfl, Nat.le_of_ble_eq_true rfl⟩ rfl (fun v' Y' I3 J3 A3 B3 hpo => ?_)
  obtain ⟨rfl, rfl, e1, e2, a2, b2, e3, e4, ka, kb⟩ := hpo
  rw [e1, e2, e3, e4]
  show Sim X (YC ad z0 z1) 11 [(0, .ref (ad 0))] [.int (nI (o_bound m nu))] I J (va_up A 11 a2) (va_up B 12 b2) 0 0
  exact rtI rt rfl rfl (⟨rfl, rfl, RepW_fr hR (fun i a b => ⟨rfl, rfl, va_up_ne _ _ (by omega), va_up_ne _ _ (by omega)⟩), fun i hi => ⟨rfl, rfl, va_up_ne _ _ (by omega), va_up_ne _ _ (by omega)⟩, rfl, rfl, rfl, by rw [va_up_self, ka, h11], by rw [va_up_self, kb, h12]⟩)
