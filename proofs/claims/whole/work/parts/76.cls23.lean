/-! the class: user, decode, proof, need -/
theorem usr {m : Nat → Int64} {I : FI} {J : FJ} {A : FI} {B : FJ} (hG : WG m) (hR : RepW 100 m I J A B) {u : Nat} (hu : u < 6) : I (120 + 4 * u + 1) 3 = nI (lnG m u) ∧ lnG m u ≤ 40 ∧ (∀ k, k < lnG m u → B (120 + 4 * u + 1 + 1) k = m (87 + 40 * u + k)) ∧ (∀ i, 60 ≤ i → tb (m (63 + u)) i = false) ∧ (∀ k, k < lnG m u → ∀ i, 60 ≤ i → tb (m (87 + 40 * u + k)) i = false) ∧ J (120 + 4 * u) 1 = m (63 + u) ∧ I (120 + 4 * u) 2 = (m (69 + u)).toInt32 ∧ okW m u (gN (m 0)) := by
  have g0 := (WGn hG).1
  have h4 := hR.2.2.2.2.1 u hu
  have h3 := hR.2.2.2.1 u hu
  exact ⟨h4.2.1, (WGn hG).2.2.2.2.2 u hu, h4.2.2, fun i hi => (hG.2.2.2.2.2.2.2.1 u hu).1 i (by omega), fun k hk i hi => (hG.2.2.2.2.2.2.2.2.1 u hu k hk).2 i (by omega), h3.1, h3.2, (hG.2.2.2.2.2.1 u hu).1⟩
theorem kpK_R {m : Nat → Int64} {I I' : FI} {J J' : FJ} {A : FI} {B B' : FJ} (hR : RepW 100 m I J A B) (h : kpK I J B I' J' B') : RepW 100 m I' J' A B' := RepW_fr hR (fun i a b => ⟨(h.1 i (by omega)).1, (h.1 i (by omega)).2, rfl, h.2 i (by omega) (by omega) (by omega)⟩)
theorem kpK_C {I I' : FI} {J J' : FJ} {A : FI} {B B' : FJ} (h : kpK I J B I' J' B') : kpC I J A B I' J' A B' := ⟨fun i a => ⟨(h.1 i (by omega)).1, (h.1 i (by omega)).2, rfl, h.2 i (by omega) (by omega) (by omega)⟩, by rw [(h.1 13 (by decide)).1], rfl, by rw [(h.1 0 (by decide)).1], rfl, by rw [h.2 12 (by decide) (by decide) (by decide)]⟩
abbrev KU (m : Nat → Int64) (u : Nat) (I : FI) (J : FJ) (B : FJ) : Prop := KN (m (63 + u)) (fun k => m (87 + 40 * u + k)) (lnG m u) I J B
theorem KU_bit {m : Nat → Int64} {I : FI} {J : FJ} {A : FI} {B : FJ} (hG : WG m) (hR : RepW 100 m I J A B) {u : Nat} (hu : u < 6) (hK : KU m u I J B) : ∀ p, p < 60 → tb (J 2 5) p = knE (rowE m u (lnG m u)) p := fun p hp => by
  obtain ⟨z, pv, hCI, hZ, hg, hN⟩ := hK
  obtain ⟨a1, a2, a3, a4, a5, a6, a7, a8⟩ := usr hG hR hu
  rw [hN]
  exact kn_bit a4 a5 hCI hp
theorem KU_cnt {m : Nat → Int64} {I : FI} {J : FJ} {A : FI} {B : FJ} (hG : WG m) (hR : RepW 100 m I J A B) {u : Nat} (hu : u < 6) (hK : KU m u I J B) : ctb (J 2 5) 64 = kct (rowE m u (lnG m u)) (12 * gN (m 0)) := by
  have hb := KU_bit hG hR hu hK
  obtain ⟨z, pv, hCI, hZ, hg, hN⟩ := hK
  have g0 := (WGn hG).1
  have hi : ∀ i, 12 * gN (m 0) ≤ i → tb (J 2 5) i = false := fun i hi => by
    rw [hN]
    exact kn_in (fun j hj => (hG.2.2.2.2.2.2.2.1 u hu).1 j hj) (fun k hk j hj => (hG.2.2.2.2.2.2.2.2.1 u hu k hk).2 j hj) hCI hi
  rw [ctb_cut hi 64 (by omega), kct_eq _ (fun p hp => hb p (by omega))]
theorem ctb_ms {m : Nat → Int64} {u nf n : Nat} (hf : nf ≤ 5) (hw : okW m u nf) : ctb (msF m u n) 64 = ctb (msF m u n) 60 := by
  apply ctb_cut
  · intro i hi
    unfold msF
    rcases hw with h | ⟨f, h1, h⟩
    · rw [if_pos h, tb_0]
    · rw [if_neg (by rw [h]; exact lN_m1 (by omega)), h, pk_lT (by omega), msE_bit (by omega) 12 (Nat.le_refl _), decide_eq_false (by omega)]
      rfl
  · decide
theorem cnX_x {c : Nat → Int32} {s t : Int64} : ∀ n, cnX c (s ^^^ t) n = cnX c s n ^^^ cnX c t n
  | 0 => by show nI 0 = nI 0 ^^^ nI 0; decide
  | n + 1 => by
    unfold cnX
    rw [cnX_x n, tb_xor]
    have e1 : ∀ a b d : Int32, (a ^^^ d) ^^^ (b ^^^ d) = a ^^^ b := fun a b d => by
      apply ti_ext; intro i _; simp only [ti_xor]; cases ti a i <;> cases ti b i <;> cases ti d i <;> rfl
    have e2 : ∀ a b d : Int32, (a ^^^ d) ^^^ b = (a ^^^ b) ^^^ d := fun a b d => by
      apply ti_ext; intro i _; simp only [ti_xor]; cases ti a i <;> cases ti b i <;> cases ti d i <;> rfl
    have e3 : ∀ a b d : Int32, a ^^^ (b ^^^ d) = (a ^^^ b) ^^^ d := fun a b d => by
      apply ti_ext; intro i _; simp only [ti_xor]; cases ti a i <;> cases ti b i <;> cases ti d i <;> rfl
    cases tb s n <;> cases tb t n <;> simp [e1, e2, e3]
theorem cnX_0 {c : Nat → Int32} {s : Int64} : ∀ n, (∀ p, p < n → tb s p = false) → cnX c s n = nI 0
  | 0, _ => rfl
  | n + 1, h => by rw [cnX, if_neg (by rw [h n (by omega)]; decide), cnX_0 n (fun p hp => h p (by omega))]
theorem cnX_b1 {c : Nat → Int32} {p : Nat} (h6 : p < 64) : ∀ n, n ≤ 64 → p < n → cnX c (b1 p) n = c p
  | 0, _, h => absurd h (Nat.not_lt_zero p)
  | n + 1, hn, h => by
    rw [cnX]
    by_cases e : p = n
    · subst e
      rw [if_pos (by rw [tb_b1 h6 (by omega)]; exact decide_eq_true rfl), cnX_0 p (fun q hq => by rw [tb_b1 h6 (by omega)]; exact decide_eq_false (by omega))]
      apply ti_ext; intro i _; rw [ti_xor, ti_0, Bool.false_xor]
    · rw [if_neg (by rw [tb_b1 h6 (by omega), decide_eq_false (fun q => e q.symm)]; decide)]
      exact cnX_b1 h6 n (by omega) (by omega)
theorem x32 (v b d e : Int32) : (v ^^^ b) ^^^ (d ^^^ b) = v ^^^ d := by
  apply ti_ext; intro i _; simp only [ti_xor]; cases ti v i <;> cases ti b i <;> cases ti d i <;> rfl

set_option maxRecDepth 100000 in
set_option maxHeartbeats 4000000 in
theorem c_number (ad : Nat → Nat) (z0 z1 : Bool) (I : FI) (J : FJ) (A : FI) (B : FJ) (u k : Nat) (m : Nat → Int64) (hG : WG m) (hR : RepW 100 m I J A B) (hu0 : u < gN (m 1)) (hk8 : k < 8) (hK : KU m u I J B) : Spec M_X8_numberAbout [.ref (ad 0), .int (nI u), .int (nI k)] (YC ad z0 z1) I J A B (eqP (some (.int (o_user (gN (m 0)) (gN (m 1)) (lnG m) m (nI u) (nI k)))) (YC ad z0 z1) I J A B) := by
  obtain ⟨nf, hnf⟩ : ∃ nf, nf = gN (m 0) := ⟨_, rfl⟩
  obtain ⟨nu, hnu⟩ : ∃ nu, nu = gN (m 1) := ⟨_, rfl⟩
  obtain ⟨nc, hnc⟩ : ∃ nc, nc = gN (m 2) := ⟨_, rfl⟩
  have hD := hG.1
  unfold wc0 at hD
  rw [← hnf, ← hnu, ← hnc] at hD
  obtain ⟨hmF, hmU, hmC, h1, h2, h3, h4, h5⟩ := hD
  have hF : I 100 5 = nI nf := by rw [hR.1.1, hmF, lN_i]
  have hU : I 100 6 = nI nu := by rw [hR.1.2.1, hmU, lN_i]
  have hC : I 100 7 = nI nc := by rw [hR.1.2.2.1, hmC, lN_i]
  rw [← hnu] at hu0
  rw [← hnf, ← hnu]
  have hu : u < 6 := by omega
  have hmb := mb7 (ad := ad) (z0 := z0) (z1 := z1) hu
  obtain ⟨a1, a2, a3, a4, a5, a6, a7, a8⟩ := usr hG hR hu
  rw [← hnf] at a8
  have hcu : (nI u).toNatClampNeg = u := nI_clamp (by omega)
  have hxu : isIx (nI u) nu = true := decide_eq_true (by rw [nI_toInt (by omega)]; omega)
  have hpr : I 100 8 = nI (pS m nu) := by rw [hR.2.1, ← hnu, pS_pre _ h4]
  have hcl := ctb_le (m (63 + u)) 60
  have e60 : ctb (m (63 + u)) 64 = ctb (m (63 + u)) 60 := ctb_cut a4 64 (by decide)
  have hrow : rowE m u (lnG m u) = elL (m (63 + u)) (fun k => m (87 + 40 * u + k)) (lnG m u) := rfl
  refine Spec_of (by decide) tk_X8_numberAbout (Nat.le_of_ble_eq_true rfl) (fun X g rt => ?_)
  show Sim X (YC ad z0 z1) 0 [(0, .ref (ad 0)), (1, .int (nI u)), (2, .int (nI k))] [] I J A B 0 0
  refine S_n g 1 (pc' := 1) (lv' := [(0, .ref (ad 0)), (1, .int (nI u)), (2, .int (nI k))]) (st' := [.ref (ad 0)]) rfl ?_
  refine S_getR g (i := 0) (c := 8) (k := 0) (j := 100) (by decide) (by decide) rfl rfl rfl fl_X8_10 rfl ?_
  refine S_getR g (i := 100) (c := 7) (k := 1) (j := 102) (by decide) (by decide) rfl rfl rfl fl_X8_83 rfl ?_
  refine S_n g 1 (pc' := 8) (lv' := [(0, .ref (ad 0)), (1, .int (nI u)), (2, .int (nI k))]) (st' := [.int (nI u), .ref (ad 102)]) rfl ?_
  refine S_aaldN g (i := 102) (e := u) (j := 120 + 4 * u) (by decide) rfl (show u < 6 from by omega) (show (6 : Nat) < 2 ^ 31 from by decide) rfl rfl ?_
  refine S_n g 2 (pc' := 11) (lv' := [(0, .ref (ad 0)), (1, .int (nI u)), (2, .int (nI k)), (3, .ref (ad (120 + 4 * u)))]) (st' := [.int (nI k)]) rfl ?_
  rcases (show k = 0 ∨ k = 1 ∨ k = 2 ∨ k = 3 ∨ k = 4 ∨ k = 5 ∨ k = 6 ∨ k = 7 by omega) with rfl | rfl | rfl | rfl | rfl | rfl | rfl | rfl
  · skip
    refine S_swIn g (off := 41) (tgt := 52) rfl (by decide) (by decide) rfl rfl ?_
    refine S_n g 1 (pc' := 53) (lv' := [(0, .ref (ad 0)), (1, .int (nI u)), (2, .int (nI 0)), (3, .ref (ad (120 + 4 * u)))]) (st' := [.ref (ad (120 + 4 * u))]) rfl ?_
    refine S_getI g (i := 120 + 4 * u) (c := 2) (k := 2) (by omega) (by decide) (mb7 hu).1 rfl fl_X8_158 rfl ?_
    rw [a7]
    exact rtI rt rfl rfl (by simp only [o_user, hxu, show isIx (nI 0) 8 = true from rfl, if_true, ix, hcu, show (nI 0).toNatClampNeg = 0 from rfl]; exact eqP_rf)
  · skip
    refine S_swIn g (off := 46) (tgt := 57) rfl (by decide) (by decide) rfl rfl ?_
    refine S_n g 1 (pc' := 58) (lv' := [(0, .ref (ad 0)), (1, .int (nI u)), (2, .int (nI 1)), (3, .ref (ad (120 + 4 * u)))]) (st' := [.ref (ad 0)]) rfl ?_
    refine S_getR g (i := 0) (c := 8) (k := 0) (j := 100) (by decide) (by decide) rfl rfl rfl fl_X8_10 rfl ?_
    refine S_n g 1 (pc' := 62) (lv' := [(0, .ref (ad 0)), (1, .int (nI u)), (2, .int (nI 1)), (3, .ref (ad (120 + 4 * u)))]) (st' := [.int (nI u), .ref (ad 100)]) rfl ?_
    refine S_cV g (i := 100) (As := [.int (nI u)]) (st := []) (w_isPresent ad z0 z1 I J A B u (pS m nu) hu hpr) mw_X7_isPresent lk_X8_161 ⟨Nat.le_of_ble_eq_true rfl, Nat.le_of_ble_eq_true rfl⟩ (by decide) (by decide) rfl rfl (Nat.le_of_ble_eq_true rfl) ⟨Nat.le_of_ble_eq_true rfl, Nat.le_of_ble_eq_true rfl⟩ rfl ?_
    show Sim X (YC ad z0 z1) 65 [(0, .ref (ad 0)), (1, .int (nI u)), (2, .int (nI 1)), (3, .ref (ad (120 + 4 * u)))] [.int (bI ((pS m nu).testBit u))] I J A B 0 0
    have hpb : (pS m nu).testBit u = decide (m (75 + u) = lN 1) := by rw [pS_bit, decide_eq_true (show u < nu by omega), Bool.true_and]
    have h01 := (hG.2.2.2.2.2.2.1 u hu).1
    refine S_ifB_eq g (tgt := 72) rfl (by decide) (fun qz65 => ?_) (fun qz65 => ?_)
    · skip
      have hm : m (75 + u) = lN 0 := by rw [hpb] at qz65; exact h01.resolve_right (of_decide_eq_false qz65)
      refine S_n g 1 (pc' := 73) (lv' := [(0, .ref (ad 0)), (1, .int (nI u)), (2, .int (nI 1)), (3, .ref (ad (120 + 4 * u)))]) (st' := [.int (nI 0)]) rfl ?_
      exact rtI rt rfl rfl (by simp only [o_user, hxu, show isIx (nI 1) 8 = true from rfl, if_true, ix, hcu, show (nI 1).toNatClampNeg = 1 from rfl]; rw [hm, lN_i]; exact eqP_rf)
    · skip
      have hm : m (75 + u) = lN 1 := by rw [hpb] at qz65; exact of_decide_eq_true qz65
      refine S_n g 2 (pc' := 73) (lv' := [(0, .ref (ad 0)), (1, .int (nI u)), (2, .int (nI 1)), (3, .ref (ad (120 + 4 * u)))]) (st' := [.int (nI 1)]) rfl ?_
      exact rtI rt rfl rfl (by simp only [o_user, hxu, show isIx (nI 1) 8 = true from rfl, if_true, ix, hcu, show (nI 1).toNatClampNeg = 1 from rfl]; rw [hm, lN_i]; exact eqP_rf)
  · skip
    refine S_swIn g (off := 63) (tgt := 74) rfl (by decide) (by decide) rfl rfl ?_
    refine S_n g 1 (pc' := 75) (lv' := [(0, .ref (ad 0)), (1, .int (nI u)), (2, .int (nI 2)), (3, .ref (ad (120 + 4 * u)))]) (st' := [.ref (ad (120 + 4 * u))]) rfl ?_
    refine S_cV g (i := 120 + 4 * u) (As := []) (st := []) (mb_held ad z0 z1 I J A B (120 + 4 * u) (by omega) hmb.1) mw_X2_held lk_X8_92 ⟨Nat.le_of_ble_eq_true rfl, Nat.le_of_ble_eq_true rfl⟩ (by omega) (by decide) (mb7 hu).1 rfl (Nat.le_of_ble_eq_true rfl) ⟨Nat.le_of_ble_eq_true rfl, Nat.le_of_ble_eq_true rfl⟩ rfl ?_
    rw [a6, e60]
    show Sim X (YC ad z0 z1) 78 [(0, .ref (ad 0)), (1, .int (nI u)), (2, .int (nI 2)), (3, .ref (ad (120 + 4 * u)))] [.int (nI (ctb (m (63 + u)) 60))] I J A B 0 0
    exact rtI rt rfl rfl (by simp only [o_user, hxu, show isIx (nI 2) 8 = true from rfl, if_true, ix, hcu, show (nI 2).toNatClampNeg = 2 from rfl]; exact eqP_rf)
  · skip
    refine S_swIn g (off := 68) (tgt := 79) rfl (by decide) (by decide) rfl rfl ?_
    refine S_n g 1 (pc' := 80) (lv' := [(0, .ref (ad 0)), (1, .int (nI u)), (2, .int (nI 3)), (3, .ref (ad (120 + 4 * u)))]) (st' := [.ref (ad (120 + 4 * u))]) rfl ?_
    refine S_getR g (i := 120 + 4 * u) (c := 2) (k := 0) (j := 120 + 4 * u + 1) (by omega) (by decide) (mb7 hu).1 rfl (mb7 hu).2.1 fl_X8_195 rfl ?_
    refine S_getI g (i := 120 + 4 * u + 1) (c := 6) (k := 3) (by omega) (by decide) (mb7 hu).2.2.2.1 rfl fl_X8_72 rfl ?_
    rw [a1]
    exact rtI rt rfl rfl (by simp only [o_user, hxu, show isIx (nI 3) 8 = true from rfl, if_true, ix, hcu, show (nI 3).toNatClampNeg = 3 from rfl]; exact eqP_rf)
  · skip
    refine S_swIn g (off := 76) (tgt := 87) rfl (by decide) (by decide) rfl rfl ?_
    refine S_n g 1 (pc' := 88) (lv' := [(0, .ref (ad 0)), (1, .int (nI u)), (2, .int (nI 4)), (3, .ref (ad (120 + 4 * u)))]) (st' := [.ref (ad 0)]) rfl ?_
    refine S_getR g (i := 0) (c := 8) (k := 2) (j := 2) (by decide) (by decide) rfl rfl rfl fl_X8_23 rfl ?_
    refine S_cV g (i := 2) (As := []) (st := []) (kn_rank ad z0 z1 I J A B (lnG m u) (m (63 + u)) (fun k => m (87 + 40 * u + k)) a2 a4 hK) mw_X1_rank lk_X8_198 ⟨Nat.le_of_ble_eq_true rfl, Nat.le_of_ble_eq_true rfl⟩ (by decide) (by decide) rfl rfl (Nat.le_of_ble_eq_true rfl) ⟨Nat.le_of_ble_eq_true rfl, Nat.le_of_ble_eq_true rfl⟩ rfl ?_
    show Sim X (YC ad z0 z1) 94 [(0, .ref (ad 0)), (1, .int (nI u)), (2, .int (nI 4)), (3, .ref (ad (120 + 4 * u)))] [.int (nI (rowE m u (lnG m u)).1)] I J A B 0 0
    exact rtI rt rfl rfl (by simp only [o_user, hxu, show isIx (nI 4) 8 = true from rfl, if_true, ix, hcu, show (nI 4).toNatClampNeg = 4 from rfl]; exact eqP_rf)
  · skip
    refine S_swIn g (off := 84) (tgt := 95) rfl (by decide) (by decide) rfl rfl ?_
    refine S_n g 1 (pc' := 96) (lv' := [(0, .ref (ad 0)), (1, .int (nI u)), (2, .int (nI 5)), (3, .ref (ad (120 + 4 * u)))]) (st' := [.ref (ad (120 + 4 * u))]) rfl ?_
    refine S_cV g (i := 120 + 4 * u) (As := []) (st := []) (mb_held ad z0 z1 I J A B (120 + 4 * u) (by omega) hmb.1) mw_X2_held lk_X8_92 ⟨Nat.le_of_ble_eq_true rfl, Nat.le_of_ble_eq_true rfl⟩ (by omega) (by decide) (mb7 hu).1 rfl (Nat.le_of_ble_eq_true rfl) ⟨Nat.le_of_ble_eq_true rfl, Nat.le_of_ble_eq_true rfl⟩ rfl ?_
    rw [a6, e60]
    show Sim X (YC ad z0 z1) 99 [(0, .ref (ad 0)), (1, .int (nI u)), (2, .int (nI 5)), (3, .ref (ad (120 + 4 * u)))] [.int (nI (ctb (m (63 + u)) 60))] I J A B 0 0
    refine S_n g 1 (pc' := 100) (lv' := [(0, .ref (ad 0)), (1, .int (nI u)), (2, .int (nI 5)), (3, .ref (ad (120 + 4 * u)))]) (st' := [.ref (ad (120 + 4 * u)), .int (nI (ctb (m (63 + u)) 60))]) rfl ?_
    refine S_getR g (i := 120 + 4 * u) (c := 2) (k := 0) (j := 120 + 4 * u + 1) (by omega) (by decide) (mb7 hu).1 rfl (mb7 hu).2.1 fl_X8_195 rfl ?_
    refine S_getI g (i := 120 + 4 * u + 1) (c := 6) (k := 3) (by omega) (by decide) (mb7 hu).2.2.2.1 rfl fl_X8_72 rfl ?_
    rw [a1]
    refine S_n g 1 (pc' := 107) (lv' := [(0, .ref (ad 0)), (1, .int (nI u)), (2, .int (nI 5)), (3, .ref (ad (120 + 4 * u)))]) (st' := [.int ((nI (ctb (m (63 + u)) 60)) + (nI (lnG m u)))]) rfl ?_
    rw [nI_add (ctb (m (63 + u)) 60) (lnG m u)]
    refine S_n g 1 (pc' := 108) (lv' := [(0, .ref (ad 0)), (1, .int (nI u)), (2, .int (nI 5)), (3, .ref (ad (120 + 4 * u)))]) (st' := [.ref (ad 0), .int (nI ((ctb (m (63 + u)) 60) + (lnG m u)))]) rfl ?_
    refine S_getR g (i := 0) (c := 8) (k := 2) (j := 2) (by decide) (by decide) rfl rfl rfl fl_X8_23 rfl ?_
    refine S_cV g (i := 2) (As := []) (st := [.int (nI ((ctb (m (63 + u)) 60) + (lnG m u)))]) (kn_rank ad z0 z1 I J A B (lnG m u) (m (63 + u)) (fun k => m (87 + 40 * u + k)) a2 a4 hK) mw_X1_rank lk_X8_198 ⟨Nat.le_of_ble_eq_true rfl, Nat.le_of_ble_eq_true rfl⟩ (by decide) (by decide) rfl rfl (Nat.le_of_ble_eq_true rfl) ⟨Nat.le_of_ble_eq_true rfl, Nat.le_of_ble_eq_true rfl⟩ rfl ?_
    show Sim X (YC ad z0 z1) 114 [(0, .ref (ad 0)), (1, .int (nI u)), (2, .int (nI 5)), (3, .ref (ad (120 + 4 * u)))] [.int (nI (rowE m u (lnG m u)).1), .int (nI ((ctb (m (63 + u)) 60) + (lnG m u)))] I J A B 0 0
    refine S_n g 1 (pc' := 115) (lv' := [(0, .ref (ad 0)), (1, .int (nI u)), (2, .int (nI 5)), (3, .ref (ad (120 + 4 * u)))]) (st' := [.int ((nI ((ctb (m (63 + u)) 60) + (lnG m u))) - (nI (rowE m u (lnG m u)).1))]) rfl ?_
    exact rtI rt rfl rfl (by simp only [o_user, hxu, show isIx (nI 5) 8 = true from rfl, if_true, ix, hcu, show (nI 5).toNatClampNeg = 5 from rfl]; exact eqP_rf)
  · skip
    refine S_swIn g (off := 105) (tgt := 116) rfl (by decide) (by decide) rfl rfl ?_
    refine S_n g 1 (pc' := 117) (lv' := [(0, .ref (ad 0)), (1, .int (nI u)), (2, .int (nI 6)), (3, .ref (ad (120 + 4 * u)))]) (st' := [.ref (ad 0)]) rfl ?_
    refine S_getR g (i := 0) (c := 8) (k := 2) (j := 2) (by decide) (by decide) rfl rfl rfl fl_X8_23 rfl ?_
    refine S_getJ g (i := 2) (c := 1) (k := 5) (by decide) (by decide) rfl rfl fl_X8_201 rfl ?_
    refine S_cS g (As := [.long (J 2 5)]) (st := []) (sp_bitL (YC ad z0 z1) I J A B (J 2 5)) mw_J13_bitCount_95d88 lk_X8_115 ⟨Nat.le_of_ble_eq_true rfl, Nat.le_of_ble_eq_true rfl⟩ rfl (Nat.le_of_ble_eq_true rfl) ⟨Nat.le_of_ble_eq_true rfl, Nat.le_of_ble_eq_true rfl⟩ rfl ?_
    rw [KU_cnt hG hR hu hK, ← hnf]
    show Sim X (YC ad z0 z1) 126 [(0, .ref (ad 0)), (1, .int (nI u)), (2, .int (nI 6)), (3, .ref (ad (120 + 4 * u)))] [.int (nI (kct (rowE m u (lnG m u)) (12 * nf)))] I J A B 0 0
    exact rtI rt rfl rfl (by simp only [o_user, hxu, show isIx (nI 6) 8 = true from rfl, if_true, ix, hcu, show (nI 6).toNatClampNeg = 6 from rfl]; exact eqP_rf)
  · skip
    refine S_swOut g (tgt := 127) rfl (by decide) rfl ?_
    refine S_n g 1 (pc' := 128) (lv' := [(0, .ref (ad 0)), (1, .int (nI u)), (2, .int (nI 7)), (3, .ref (ad (120 + 4 * u)))]) (st' := [.ref (ad 0)]) rfl ?_
    refine S_getR g (i := 0) (c := 8) (k := 2) (j := 2) (by decide) (by decide) rfl rfl rfl fl_X8_23 rfl ?_
    refine S_n g 1 (pc' := 132) (lv' := [(0, .ref (ad 0)), (1, .int (nI u)), (2, .int (nI 7)), (3, .ref (ad (120 + 4 * u)))]) (st' := [.ref (ad (120 + 4 * u)), .ref (ad 2)]) rfl ?_
    refine S_cV g (i := 2) (As := [.ref (ad (120 + 4 * u))]) (st := []) (kn_missing ad z0 z1 I J A B m u nf (lnG m u) hu h2 a8 a7 a4 a5 hK) mw_X1_missingFor lk_X8_204 ⟨Nat.le_of_ble_eq_true rfl, Nat.le_of_ble_eq_true rfl⟩ (by decide) (by decide) rfl rfl (Nat.le_of_ble_eq_true rfl) ⟨Nat.le_of_ble_eq_true rfl, Nat.le_of_ble_eq_true rfl⟩ rfl ?_
    show Sim X (YC ad z0 z1) 135 [(0, .ref (ad 0)), (1, .int (nI u)), (2, .int (nI 7)), (3, .ref (ad (120 + 4 * u)))] [.long (msF m u (lnG m u))] I J A B 0 0
    refine S_cS g (As := [.long (msF m u (lnG m u))]) (st := []) (sp_bitL (YC ad z0 z1) I J A B (msF m u (lnG m u))) mw_J13_bitCount_95d88 lk_X8_115 ⟨Nat.le_of_ble_eq_true rfl, Nat.le_of_ble_eq_true rfl⟩ rfl (Nat.le_of_ble_eq_true rfl) ⟨Nat.le_of_ble_eq_true rfl, Nat.le_of_ble_eq_true rfl⟩ rfl ?_
    rw [ctb_ms h2 a8]
    show Sim X (YC ad z0 z1) 138 [(0, .ref (ad 0)), (1, .int (nI u)), (2, .int (nI 7)), (3, .ref (ad (120 + 4 * u)))] [.int (nI (ctb (msF m u (lnG m u)) 60))] I J A B 0 0
    exact rtI rt rfl rfl (by simp only [o_user, hxu, show isIx (nI 7) 8 = true from rfl, if_true, ix, hcu, show (nI 7).toNatClampNeg = 7 from rfl]; exact eqP_rf)

set_option maxRecDepth 100000 in
set_option maxHeartbeats 4000000 in
theorem c_user (ad : Nat → Nat) (z0 z1 : Bool) (I : FI) (J : FJ) (A : FI) (B : FJ) (x y : Int32) (m : Nat → Int64) (hG : WG m) (hR : RepW 100 m I J A B) : Spec M_X8_user [.ref (ad 0), .int x, .int y] (YC ad z0 z1) I J A B (cP ad z0 z1 I J A B (.int (o_user (gN (m 0)) (gN (m 1)) (lnG m) m x y)) m) := by
  obtain ⟨nf, hnf⟩ : ∃ nf, nf = gN (m 0) := ⟨_, rfl⟩
  obtain ⟨nu, hnu⟩ : ∃ nu, nu = gN (m 1) := ⟨_, rfl⟩
  obtain ⟨nc, hnc⟩ : ∃ nc, nc = gN (m 2) := ⟨_, rfl⟩
  have hD := hG.1
  unfold wc0 at hD
  rw [← hnf, ← hnu, ← hnc] at hD
  obtain ⟨hmF, hmU, hmC, h1, h2, h3, h4, h5⟩ := hD
  have hF : I 100 5 = nI nf := by rw [hR.1.1, hmF, lN_i]
  have hU : I 100 6 = nI nu := by rw [hR.1.2.1, hmU, lN_i]
  have hC : I 100 7 = nI nc := by rw [hR.1.2.2.1, hmC, lN_i]
  refine Spec_of (by decide) tk_X8_user (Nat.le_of_ble_eq_true rfl) (fun X g rt => ?_)
  show Sim X (YC ad z0 z1) 0 [(0, .ref (ad 0)), (1, .int x), (2, .int y)] [] I J A B 0 0
  refine S_n g 1 (pc' := 1) (lv' := [(0, .ref (ad 0)), (1, .int x), (2, .int y)]) (st' := [.ref (ad 0)]) rfl ?_
  refine S_getR g (i := 0) (c := 8) (k := 0) (j := 100) (by decide) (by decide) rfl rfl rfl fl_X8_10 rfl ?_
  refine S_n g 1 (pc' := 5) (lv' := [(0, .ref (ad 0)), (1, .int x), (2, .int y)]) (st' := [.int x, .ref (ad 100)]) rfl ?_
  refine S_cV g (i := 100) (As := [.int x]) (st := []) (w_hasUser ad z0 z1 I J A B x nu hU h4) mw_X7_hasUser lk_X8_80 ⟨Nat.le_of_ble_eq_true rfl, Nat.le_of_ble_eq_true rfl⟩ (by decide) (by decide) rfl rfl (Nat.le_of_ble_eq_true rfl) ⟨Nat.le_of_ble_eq_true rfl, Nat.le_of_ble_eq_true rfl⟩ rfl ?_
  show Sim X (YC ad z0 z1) 8 [(0, .ref (ad 0)), (1, .int x), (2, .int y)] [.int (bI (isIx x nu))] I J A B 0 0
  refine S_ifB_eq g (tgt := 21) rfl (by decide) (fun qz8 => ?_) (fun qz8 => ?_)
  · skip
    refine S_n g 1 (pc' := 23) (lv' := [(0, .ref (ad 0)), (1, .int x), (2, .int y)]) (st' := [.int (-nI 101)]) rfl ?_
    exact rtI rt rfl rfl (⟨by simp [o_user, ← hnu, qz8], rfl, hR, kpC_rf I J A B⟩)
  · skip
    refine S_n g 1 (pc' := 12) (lv' := [(0, .ref (ad 0)), (1, .int x), (2, .int y)]) (st' := [.int y]) rfl ?_
    refine S_if_lt g (tgt := 21) rfl (by decide) (fun qz12 => ?_) (fun qz12 => ?_)
    · skip
      refine S_n g 1 (pc' := 23) (lv' := [(0, .ref (ad 0)), (1, .int x), (2, .int y)]) (st' := [.int (-nI 101)]) rfl ?_
      exact rtI rt rfl rfl (⟨by simp [o_user, ← hnu, qz8, ix_lo (n := 8) qz12], rfl, hR, kpC_rf I J A B⟩)
    · skip
      refine S_n g 2 (pc' := 18) (lv' := [(0, .ref (ad 0)), (1, .int x), (2, .int y)]) (st' := [.int (nI 7), .int y]) rfl ?_
      refine S_ic_le g (tgt := 24) rfl (by decide) (fun qz18 => ?_) (fun qz18 => ?_)
      · skip
        have hz := ix_le qz12 qz18 (by decide)
        have hq8 := qz8
        obtain ⟨u, hu, hxu⟩ := isIx_t qz8
        subst hxu
        have hcu : (nI u).toNatClampNeg = u := nI_clamp (by omega)
        have hu : u < 6 := by omega
        have hJu : J (120 + 4 * u) 1 = m (63 + u) := (hR.2.2.2.1 u hu).1
        have hIu : I (120 + 4 * u) 2 = (m (69 + u)).toInt32 := (hR.2.2.2.1 u hu).2
        have hmb := mb7 (ad := ad) (z0 := z0) (z1 := z1) hu
        have hin : inP nf (m (63 + u)) := by rw [hnf]; exact (hG.2.2.2.2.2.2.2.1 u hu).1
        obtain ⟨k, hk, hxk⟩ := isIx_t hz
        subst hxk
        have hck : (nI k).toNatClampNeg = k := nI_clamp (by omega)
        obtain ⟨a1, a2, a3, a4, a5, a6, a7, a8⟩ := usr hG hR hu
        refine S_n g 1 (pc' := 25) (lv' := [(0, .ref (ad 0)), (1, .int (nI u)), (2, .int (nI k))]) (st' := [.ref (ad 0)]) rfl ?_
        refine S_getR g (i := 0) (c := 8) (k := 2) (j := 2) (by decide) (by decide) rfl rfl rfl fl_X8_23 rfl ?_
        refine S_n g 1 (pc' := 29) (lv' := [(0, .ref (ad 0)), (1, .int (nI u)), (2, .int (nI k))]) (st' := [.ref (ad 0), .ref (ad 2)]) rfl ?_
        refine S_getR g (i := 0) (c := 8) (k := 0) (j := 100) (by decide) (by decide) rfl rfl rfl fl_X8_10 rfl ?_
        refine S_getR g (i := 100) (c := 7) (k := 1) (j := 102) (by decide) (by decide) rfl rfl rfl fl_X8_83 rfl ?_
        refine S_n g 1 (pc' := 36) (lv' := [(0, .ref (ad 0)), (1, .int (nI u)), (2, .int (nI k))]) (st' := [.int (nI u), .ref (ad 102), .ref (ad 2)]) rfl ?_
        refine S_aaldN g (i := 102) (e := u) (j := 120 + 4 * u) (by decide) rfl (show u < 6 from by omega) (show (6 : Nat) < 2 ^ 31 from by decide) rfl rfl ?_
        refine S_callV g (i := 2) (As := [.ref (ad (120 + 4 * u))]) (st := []) (kn_learn ad z0 z1 I J A B u (lnG m u) (m (63 + u)) (fun k => m (87 + 40 * u + k)) hu a1 a2 a3 a4 a5 a6) mw_X1_learn lk_X8_187 ⟨Nat.le_of_ble_eq_true rfl, Nat.le_of_ble_eq_true rfl⟩ (by decide) (by decide) rfl rfl (Nat.le_of_ble_eq_true rfl) ⟨Nat.le_of_ble_eq_true rfl, Nat.le_of_ble_eq_true rfl⟩ rfl (fun v' Y' I2 J2 A2 B2 hpo => ?_)
        obtain ⟨rfl, rfl, hqa2, hK2, hkp2⟩ := hpo
        rw [hqa2]
        show Sim X (YC ad z0 z1) 40 [(0, .ref (ad 0)), (1, .int (nI u)), (2, .int (nI k))] [] I2 J2 A B2 0 0
        have hR2 : RepW 100 m I2 J2 A B2 := kpK_R hR hkp2
        refine S_n g 3 (pc' := 43) (lv' := [(0, .ref (ad 0)), (1, .int (nI u)), (2, .int (nI k))]) (st' := [.int (nI k), .int (nI u), .ref (ad 0)]) rfl ?_
        refine S_cV g (i := 0) (As := [.int (nI u), .int (nI k)]) (st := []) (c_number ad z0 z1 I2 J2 A B2 u k m hG hR2 (by rw [← hnu]; omega) hk hK2) mw_X8_numberAbout lk_X8_191 ⟨Nat.le_of_ble_eq_true rfl, Nat.le_of_ble_eq_true rfl⟩ (by decide) (by decide) rfl rfl (Nat.le_of_ble_eq_true rfl) ⟨Nat.le_of_ble_eq_true rfl, Nat.le_of_ble_eq_true rfl⟩ rfl ?_
        show Sim X (YC ad z0 z1) 46 [(0, .ref (ad 0)), (1, .int (nI u)), (2, .int (nI k))] [.int (o_user (gN (m 0)) (gN (m 1)) (lnG m) m (nI u) (nI k))] I2 J2 A B2 0 0
        exact rtI rt rfl rfl (⟨rfl, rfl, hR2, kpK_C hkp2⟩)
      · skip
        refine S_n g 1 (pc' := 23) (lv' := [(0, .ref (ad 0)), (1, .int x), (2, .int y)]) (st' := [.int (-nI 101)]) rfl ?_
        exact rtI rt rfl rfl (⟨by simp [o_user, ← hnu, qz8, ix_gt qz18 (by decide)], rfl, hR, kpC_rf I J A B⟩)

set_option maxRecDepth 100000 in
set_option maxHeartbeats 4000000 in
theorem c_value (ad : Nat → Nat) (z0 z1 : Bool) (I : FI) (J : FJ) (A : FI) (B : FJ) (u p : Nat) (q : Int64) (m : Nat → Int64) (hG : WG m) (hR : RepW 100 m I J A B) (hu0 : u < gN (m 1)) (hp0 : p < 12 * gN (m 0)) : Spec M_X8_valueByProof [.ref (ad 0), .ref (ad (120 + 4 * u)), .int (nI p), .long q] (YC ad z0 z1) I J A B (eqP (some (.int (m (3 + p)).toInt32)) (YC ad z0 z1) I J A B) := by
  obtain ⟨nf, hnf⟩ : ∃ nf, nf = gN (m 0) := ⟨_, rfl⟩
  obtain ⟨nu, hnu⟩ : ∃ nu, nu = gN (m 1) := ⟨_, rfl⟩
  obtain ⟨nc, hnc⟩ : ∃ nc, nc = gN (m 2) := ⟨_, rfl⟩
  have hD := hG.1
  unfold wc0 at hD
  rw [← hnf, ← hnu, ← hnc] at hD
  obtain ⟨hmF, hmU, hmC, h1, h2, h3, h4, h5⟩ := hD
  have hF : I 100 5 = nI nf := by rw [hR.1.1, hmF, lN_i]
  have hU : I 100 6 = nI nu := by rw [hR.1.2.1, hmU, lN_i]
  have hC : I 100 7 = nI nc := by rw [hR.1.2.2.1, hmC, lN_i]
  rw [← hnu] at hu0
  rw [← hnf] at hp0
  have hu : u < 6 := by omega
  have hmb := mb7 (ad := ad) (z0 := z0) (z1 := z1) hu
  obtain ⟨a1, a2, a3, a4, a5, a6, a7, a8⟩ := usr hG hR hu
  have h5 := hR.2.2.2.2.2.1 u hu
  rw [← hnf] at h5
  have hcn : ∀ s, cnX (A 101) s (12 * nf) = cnX (fun p => (m (3 + p)).toInt32) s (12 * nf) := fun s => cnX_cong _ (fun p hp => hR.2.2.1 p (by omega))
  refine Spec_of (by decide) tk_X8_valueByProof (Nat.le_of_ble_eq_true rfl) (fun X g rt => ?_)
  show Sim X (YC ad z0 z1) 0 [(0, .ref (ad 0)), (1, .ref (ad (120 + 4 * u))), (2, .int (nI p)), (3, .long q)] [] I J A B 0 0
  refine S_n g 5 (pc' := 6) (lv' := [(0, .ref (ad 0)), (1, .ref (ad (120 + 4 * u))), (2, .int (nI p)), (3, .long q), (5, .int (nI 0))]) (st' := [.long ((lN 1) <<< ((nI p).toInt64 &&& 63))]) rfl ?_
  refine S_steq (st' := [.long (b1 p)]) (by rw [(show (lN 1) <<< ((nI p).toInt64 &&& 63) = b1 p from rfl).symm]) ?_
  refine S_n g 3 (pc' := 11) (lv' := [(0, .ref (ad 0)), (1, .ref (ad (120 + 4 * u))), (2, .int (nI p)), (3, .long q), (5, .int (nI 0)), (6, .long (b1 p)), (8, .int (nI 0))]) (st' := []) rfl ?_
  have lp : ∀ (nn : Nat) (i : Nat) (v : Int32) (fc : Int64), lnG m u - i = nn → (i ≤ lnG m u) → (v ^^^ cnX (fun p => (m (3 + p)).toInt32) fc (12 * nf) = (m (3 + p)).toInt32) → Sim X (YC ad z0 z1) 11 [(0, .ref (ad 0)), (1, .ref (ad (120 + 4 * u))), (2, .int (nI p)), (3, .long q), (5, .int v), (6, .long fc), (8, .int (nI i))] [] I J A B 0 0 := by
    intro nn
    induction nn using Nat.strongRecOn with
    | ind nn ih =>
      intro i v fc hmz hi hinv
      have lp := ih
      refine S_n g 2 (pc' := 14) (lv' := [(0, .ref (ad 0)), (1, .ref (ad (120 + 4 * u))), (2, .int (nI p)), (3, .long q), (5, .int v), (6, .long fc), (8, .int (nI i))]) (st' := [.ref (ad (120 + 4 * u)), .int (nI i)]) rfl ?_
      refine S_getR g (i := 120 + 4 * u) (c := 2) (k := 0) (j := 120 + 4 * u + 1) (by omega) (by decide) (mb7 hu).1 rfl (mb7 hu).2.1 fl_X8_195 rfl ?_
      refine S_getI g (i := 120 + 4 * u + 1) (c := 6) (k := 3) (by omega) (by decide) (mb7 hu).2.2.2.1 rfl fl_X8_72 rfl ?_
      rw [a1]
      refine S_icN_ge g (tgt := 68) (by omega) (by omega) rfl (by decide) (fun qz20 => ?_) (fun qz20 => ?_)
      · skip
        refine S_n g 2 (pc' := 71) (lv' := [(0, .ref (ad 0)), (1, .ref (ad (120 + 4 * u))), (2, .int (nI p)), (3, .long q), (5, .int v), (6, .long fc), (8, .int (nI i))]) (st' := [.ref (ad 0), .int v]) rfl ?_
        refine S_getR g (i := 0) (c := 8) (k := 0) (j := 100) (by decide) (by decide) rfl rfl rfl fl_X8_10 rfl ?_
        refine S_n g 1 (pc' := 76) (lv' := [(0, .ref (ad 0)), (1, .ref (ad (120 + 4 * u))), (2, .int (nI p)), (3, .long q), (5, .int v), (6, .long fc), (8, .int (nI i))]) (st' := [.long fc, .ref (ad 100), .int v]) rfl ?_
        refine S_cV g (i := 100) (As := [.long fc]) (st := [.int v]) (w_contentOf ad z0 z1 I J A B fc nf hF h2) mw_X7_contentOf lk_X8_218 ⟨Nat.le_of_ble_eq_true rfl, Nat.le_of_ble_eq_true rfl⟩ (by decide) (by decide) rfl rfl (Nat.le_of_ble_eq_true rfl) ⟨Nat.le_of_ble_eq_true rfl, Nat.le_of_ble_eq_true rfl⟩ rfl ?_
        show Sim X (YC ad z0 z1) 79 [(0, .ref (ad 0)), (1, .ref (ad (120 + 4 * u))), (2, .int (nI p)), (3, .long q), (5, .int v), (6, .long fc), (8, .int (nI i))] [.int (cnX (A 101) fc (12 * nf)), .int v] I J A B 0 0
        refine S_n g 1 (pc' := 80) (lv' := [(0, .ref (ad 0)), (1, .ref (ad (120 + 4 * u))), (2, .int (nI p)), (3, .long q), (5, .int v), (6, .long fc), (8, .int (nI i))]) (st' := [.int (v ^^^ (cnX (A 101) fc (12 * nf)))]) rfl ?_
        exact rtI rt rfl rfl (by rw [hcn, hinv]; exact eqP_rf)
      · skip
        refine S_n g 5 (pc' := 29) (lv' := [(0, .ref (ad 0)), (1, .ref (ad (120 + 4 * u))), (2, .int (nI p)), (3, .long q), (5, .int v), (6, .long fc), (8, .int (nI i))]) (st' := [.long ((q >>> ((nI i).toInt64 &&& 63)) &&& (lN 1))]) rfl ?_
        refine S_steq (st' := [.long (lN (tb q i).toNat)]) (by rw [(show (q >>> ((nI i).toInt64 &&& 63)) &&& (lN 1) = lN (tb q i).toNat from bit64 (by omega) _).symm]) ?_
        have hb1 : (tb q i).toNat ≤ 1 := Bool.toNat_le _
        refine S_n g 1 (pc' := 30) (lv' := [(0, .ref (ad 0)), (1, .ref (ad (120 + 4 * u))), (2, .int (nI p)), (3, .long q), (5, .int v), (6, .long fc), (8, .int (nI i))]) (st' := [.long (lN 0), .long (lN (tb q i).toNat)]) rfl ?_
        refine S_lcN_eq g (tgt := 62) (by omega) (by omega) rfl rfl (by decide) (fun qz30 => ?_) (fun qz30 => ?_)
        · skip
          refine S_n g 1 (pc' := 65) (lv' := [(0, .ref (ad 0)), (1, .ref (ad (120 + 4 * u))), (2, .int (nI p)), (3, .long q), (5, .int v), (6, .long fc), (8, .int ((nI i) + nI 1))]) (st' := []) rfl ?_
          rw [nI_add i 1]
          refine S_n g 1 (pc' := 11) (lv' := [(0, .ref (ad 0)), (1, .ref (ad (120 + 4 * u))), (2, .int (nI p)), (3, .long q), (5, .int v), (6, .long fc), (8, .int (nI (i + 1)))]) (st' := []) rfl ?_
          exact lp (lnG m u - (i + 1)) (by omega) (i + 1) v fc rfl (by omega) hinv
        · skip
          have hxi : isIx (nI i) (lnG m u) = true := decide_eq_true (by rw [nI_toInt (by omega)]; omega)
          have hci : ix (nI i) = i := nI_clamp (by omega)
          refine S_n g 2 (pc' := 37) (lv' := [(0, .ref (ad 0)), (1, .ref (ad (120 + 4 * u))), (2, .int (nI p)), (3, .long q), (5, .int v), (6, .long fc), (8, .int (nI i))]) (st' := [.ref (ad (120 + 4 * u)), .int v]) rfl ?_
          refine S_getR g (i := 120 + 4 * u) (c := 2) (k := 0) (j := 120 + 4 * u + 1) (by omega) (by decide) (mb7 hu).1 rfl (mb7 hu).2.1 fl_X8_195 rfl ?_
          refine S_n g 1 (pc' := 42) (lv' := [(0, .ref (ad 0)), (1, .ref (ad (120 + 4 * u))), (2, .int (nI p)), (3, .long q), (5, .int v), (6, .long fc), (8, .int (nI i))]) (st' := [.int (nI i), .ref (ad (120 + 4 * u + 1)), .int v]) rfl ?_
          refine S_cV g (i := 120 + 4 * u + 1) (As := [.int (nI i)]) (st := [.int v]) (sl_byteAt ad z0 z1 I J A B (120 + 4 * u + 1) 40 (lnG m u) hmb.2.2 (by decide) a1 a2 (nI i)) mw_X6_byteAt lk_X8_215 ⟨Nat.le_of_ble_eq_true rfl, Nat.le_of_ble_eq_true rfl⟩ (by omega) (by decide) (mb7 hu).2.2.2.1 rfl (Nat.le_of_ble_eq_true rfl) ⟨Nat.le_of_ble_eq_true rfl, Nat.le_of_ble_eq_true rfl⟩ rfl ?_
          rw [if_pos hxi, hci, show A (120 + 4 * u + 1 + 2) i = _ from h5 i (by omega)]
          show Sim X (YC ad z0 z1) 45 [(0, .ref (ad 0)), (1, .ref (ad (120 + 4 * u))), (2, .int (nI p)), (3, .long q), (5, .int v), (6, .long fc), (8, .int (nI i))] [.int (cnX (fun p => (m (3 + p)).toInt32) (m (87 + 40 * u + i)) (12 * nf)), .int v] I J A B 0 0
          refine S_n g 4 (pc' := 51) (lv' := [(0, .ref (ad 0)), (1, .ref (ad (120 + 4 * u))), (2, .int (nI p)), (3, .long q), (5, .int (v ^^^ (cnX (fun p => (m (3 + p)).toInt32) (m (87 + 40 * u + i)) (12 * nf)))), (6, .long fc), (8, .int (nI i))]) (st' := [.ref (ad (120 + 4 * u)), .long fc]) rfl ?_
          refine S_getR g (i := 120 + 4 * u) (c := 2) (k := 0) (j := 120 + 4 * u + 1) (by omega) (by decide) (mb7 hu).1 rfl (mb7 hu).2.1 fl_X8_195 rfl ?_
          refine S_n g 1 (pc' := 56) (lv' := [(0, .ref (ad 0)), (1, .ref (ad (120 + 4 * u))), (2, .int (nI p)), (3, .long q), (5, .int (v ^^^ (cnX (fun p => (m (3 + p)).toInt32) (m (87 + 40 * u + i)) (12 * nf)))), (6, .long fc), (8, .int (nI i))]) (st' := [.int (nI i), .ref (ad (120 + 4 * u + 1)), .long fc]) rfl ?_
          refine S_cV g (i := 120 + 4 * u + 1) (As := [.int (nI i)]) (st := [.long fc]) (sl_setAt ad z0 z1 I J A B (120 + 4 * u + 1) 40 (lnG m u) hmb.2.2 (by decide) a1 a2 (nI i)) mw_X6_setAt lk_X8_184 ⟨Nat.le_of_ble_eq_true rfl, Nat.le_of_ble_eq_true rfl⟩ (by omega) (by decide) (mb7 hu).2.2.2.1 rfl (Nat.le_of_ble_eq_true rfl) ⟨Nat.le_of_ble_eq_true rfl, Nat.le_of_ble_eq_true rfl⟩ rfl ?_
          rw [if_pos hxi, hci, a3 i (by omega)]
          show Sim X (YC ad z0 z1) 59 [(0, .ref (ad 0)), (1, .ref (ad (120 + 4 * u))), (2, .int (nI p)), (3, .long q), (5, .int (v ^^^ (cnX (fun p => (m (3 + p)).toInt32) (m (87 + 40 * u + i)) (12 * nf)))), (6, .long fc), (8, .int (nI i))] [.long (m (87 + 40 * u + i)), .long fc] I J A B 0 0
          refine S_n g 3 (pc' := 65) (lv' := [(0, .ref (ad 0)), (1, .ref (ad (120 + 4 * u))), (2, .int (nI p)), (3, .long q), (5, .int (v ^^^ (cnX (fun p => (m (3 + p)).toInt32) (m (87 + 40 * u + i)) (12 * nf)))), (6, .long (fc ^^^ (m (87 + 40 * u + i)))), (8, .int ((nI i) + nI 1))]) (st' := []) rfl ?_
          rw [nI_add i 1]
          refine S_n g 1 (pc' := 11) (lv' := [(0, .ref (ad 0)), (1, .ref (ad (120 + 4 * u))), (2, .int (nI p)), (3, .long q), (5, .int (v ^^^ (cnX (fun p => (m (3 + p)).toInt32) (m (87 + 40 * u + i)) (12 * nf)))), (6, .long (fc ^^^ (m (87 + 40 * u + i)))), (8, .int (nI (i + 1)))]) (st' := []) rfl ?_
          exact lp (lnG m u - (i + 1)) (by omega) (i + 1) (v ^^^ (cnX (fun p => (m (3 + p)).toInt32) (m (87 + 40 * u + i)) (12 * nf))) (fc ^^^ (m (87 + 40 * u + i))) rfl (by omega) (by rw [cnX_x, x32 _ _ _ (nI 0)]; exact hinv)
  exact lp _ 0 (nI 0) (b1 p) rfl (Nat.zero_le _) (by rw [cnX_b1 (by omega) _ (by omega) hp0]; apply ti_ext; intro i _; rw [ti_xor, ti_0, Bool.false_xor])

set_option maxRecDepth 100000 in
set_option maxHeartbeats 4000000 in
theorem c_decode (ad : Nat → Nat) (z0 z1 : Bool) (I : FI) (J : FJ) (A : FI) (B : FJ) (x y : Int32) (m : Nat → Int64) (hG : WG m) (hR : RepW 100 m I J A B) : Spec M_X8_decode [.ref (ad 0), .int x, .int y] (YC ad z0 z1) I J A B (cP ad z0 z1 I J A B (.int (o_decode (gN (m 0)) (gN (m 1)) (lnG m) m x y)) m) := by
  obtain ⟨nf, hnf⟩ : ∃ nf, nf = gN (m 0) := ⟨_, rfl⟩
  obtain ⟨nu, hnu⟩ : ∃ nu, nu = gN (m 1) := ⟨_, rfl⟩
  obtain ⟨nc, hnc⟩ : ∃ nc, nc = gN (m 2) := ⟨_, rfl⟩
  have hD := hG.1
  unfold wc0 at hD
  rw [← hnf, ← hnu, ← hnc] at hD
  obtain ⟨hmF, hmU, hmC, h1, h2, h3, h4, h5⟩ := hD
  have hF : I 100 5 = nI nf := by rw [hR.1.1, hmF, lN_i]
  have hU : I 100 6 = nI nu := by rw [hR.1.2.1, hmU, lN_i]
  have hC : I 100 7 = nI nc := by rw [hR.1.2.2.1, hmC, lN_i]
  refine Spec_of (by decide) tk_X8_decode (Nat.le_of_ble_eq_true rfl) (fun X g rt => ?_)
  show Sim X (YC ad z0 z1) 0 [(0, .ref (ad 0)), (1, .int x), (2, .int y)] [] I J A B 0 0
  refine S_n g 1 (pc' := 1) (lv' := [(0, .ref (ad 0)), (1, .int x), (2, .int y)]) (st' := [.ref (ad 0)]) rfl ?_
  refine S_getR g (i := 0) (c := 8) (k := 0) (j := 100) (by decide) (by decide) rfl rfl rfl fl_X8_10 rfl ?_
  refine S_n g 1 (pc' := 5) (lv' := [(0, .ref (ad 0)), (1, .int x), (2, .int y)]) (st' := [.int x, .ref (ad 100)]) rfl ?_
  refine S_cV g (i := 100) (As := [.int x]) (st := []) (w_hasUser ad z0 z1 I J A B x nu hU h4) mw_X7_hasUser lk_X8_80 ⟨Nat.le_of_ble_eq_true rfl, Nat.le_of_ble_eq_true rfl⟩ (by decide) (by decide) rfl rfl (Nat.le_of_ble_eq_true rfl) ⟨Nat.le_of_ble_eq_true rfl, Nat.le_of_ble_eq_true rfl⟩ rfl ?_
  show Sim X (YC ad z0 z1) 8 [(0, .ref (ad 0)), (1, .int x), (2, .int y)] [.int (bI (isIx x nu))] I J A B 0 0
  refine S_ifB_eq g (tgt := 22) rfl (by decide) (fun qz8 => ?_) (fun qz8 => ?_)
  · skip
    refine S_n g 1 (pc' := 24) (lv' := [(0, .ref (ad 0)), (1, .int x), (2, .int y)]) (st' := [.int (-nI 101)]) rfl ?_
    exact rtI rt rfl rfl (⟨by simp [o_decode, ← hnu, ← hnf, qz8], rfl, hR, kpC_rf I J A B⟩)
  · skip
    refine S_n g 1 (pc' := 12) (lv' := [(0, .ref (ad 0)), (1, .int x), (2, .int y)]) (st' := [.ref (ad 0)]) rfl ?_
    refine S_getR g (i := 0) (c := 8) (k := 0) (j := 100) (by decide) (by decide) rfl rfl rfl fl_X8_10 rfl ?_
    refine S_n g 1 (pc' := 16) (lv' := [(0, .ref (ad 0)), (1, .int x), (2, .int y)]) (st' := [.int y, .ref (ad 100)]) rfl ?_
    refine S_cV g (i := 100) (As := [.int y]) (st := []) (w_hasPiece ad z0 z1 I J A B y nf hF h2) mw_X7_hasPiece lk_X8_64 ⟨Nat.le_of_ble_eq_true rfl, Nat.le_of_ble_eq_true rfl⟩ (by decide) (by decide) rfl rfl (Nat.le_of_ble_eq_true rfl) ⟨Nat.le_of_ble_eq_true rfl, Nat.le_of_ble_eq_true rfl⟩ rfl ?_
    show Sim X (YC ad z0 z1) 19 [(0, .ref (ad 0)), (1, .int x), (2, .int y)] [.int (bI (isIx y (12 * nf)))] I J A B 0 0
    refine S_ifB_ne g (tgt := 25) rfl (by decide) (fun qz19 => ?_) (fun qz19 => ?_)
    · skip
      have hq8 := qz8
      have hq19 := qz19
      obtain ⟨u, hu, hxu⟩ := isIx_t qz8
      subst hxu
      have hcu : (nI u).toNatClampNeg = u := nI_clamp (by omega)
      have hu : u < 6 := by omega
      have hJu : J (120 + 4 * u) 1 = m (63 + u) := (hR.2.2.2.1 u hu).1
      have hIu : I (120 + 4 * u) 2 = (m (69 + u)).toInt32 := (hR.2.2.2.1 u hu).2
      have hmb := mb7 (ad := ad) (z0 := z0) (z1 := z1) hu
      have hin : inP nf (m (63 + u)) := by rw [hnf]; exact (hG.2.2.2.2.2.2.2.1 u hu).1
      obtain ⟨p, hp, hxp⟩ := isIx_t qz19
      subst hxp
      have hcp : (nI p).toNatClampNeg = p := nI_clamp (by omega)
      obtain ⟨a1, a2, a3, a4, a5, a6, a7, a8⟩ := usr hG hR hu
      have ho : o_decode (gN (m 0)) (gN (m 1)) (lnG m) m (nI u) (nI p) = if knE (rowE m u (lnG m u)) p = true then (m (3 + p)).toInt32 else -nI 1 := by rw [← hnf, ← hnu]; simp only [o_decode, qz8, qz19, if_true, ix, hcu, hcp]
      refine S_n g 1 (pc' := 26) (lv' := [(0, .ref (ad 0)), (1, .int (nI u)), (2, .int (nI p))]) (st' := [.ref (ad 0)]) rfl ?_
      refine S_getR g (i := 0) (c := 8) (k := 0) (j := 100) (by decide) (by decide) rfl rfl rfl fl_X8_10 rfl ?_
      refine S_getR g (i := 100) (c := 7) (k := 1) (j := 102) (by decide) (by decide) rfl rfl rfl fl_X8_83 rfl ?_
      refine S_n g 1 (pc' := 33) (lv' := [(0, .ref (ad 0)), (1, .int (nI u)), (2, .int (nI p))]) (st' := [.int (nI u), .ref (ad 102)]) rfl ?_
      refine S_aaldN g (i := 102) (e := u) (j := 120 + 4 * u) (by decide) rfl (show u < 6 from by omega) (show (6 : Nat) < 2 ^ 31 from by decide) rfl rfl ?_
      refine S_n g 2 (pc' := 36) (lv' := [(0, .ref (ad 0)), (1, .int (nI u)), (2, .int (nI p)), (3, .ref (ad (120 + 4 * u)))]) (st' := [.ref (ad 0)]) rfl ?_
      refine S_getR g (i := 0) (c := 8) (k := 2) (j := 2) (by decide) (by decide) rfl rfl rfl fl_X8_23 rfl ?_
      refine S_n g 1 (pc' := 40) (lv' := [(0, .ref (ad 0)), (1, .int (nI u)), (2, .int (nI p)), (3, .ref (ad (120 + 4 * u)))]) (st' := [.ref (ad (120 + 4 * u)), .ref (ad 2)]) rfl ?_
      refine S_callV g (i := 2) (As := [.ref (ad (120 + 4 * u))]) (st := []) (kn_learn ad z0 z1 I J A B u (lnG m u) (m (63 + u)) (fun k => m (87 + 40 * u + k)) hu a1 a2 a3 a4 a5 a6) mw_X1_learn lk_X8_187 ⟨Nat.le_of_ble_eq_true rfl, Nat.le_of_ble_eq_true rfl⟩ (by decide) (by decide) rfl rfl (Nat.le_of_ble_eq_true rfl) ⟨Nat.le_of_ble_eq_true rfl, Nat.le_of_ble_eq_true rfl⟩ rfl (fun v' Y' I2 J2 A2 B2 hpo => ?_)
      obtain ⟨rfl, rfl, hqa2, hK2, hkp2⟩ := hpo
      rw [hqa2]
      show Sim X (YC ad z0 z1) 43 [(0, .ref (ad 0)), (1, .int (nI u)), (2, .int (nI p)), (3, .ref (ad (120 + 4 * u)))] [] I2 J2 A B2 0 0
      have hR2 : RepW 100 m I2 J2 A B2 := kpK_R hR hkp2
      have hkb := KU_bit hG hR2 hu hK2 p (by omega)
      refine S_n g 1 (pc' := 44) (lv' := [(0, .ref (ad 0)), (1, .int (nI u)), (2, .int (nI p)), (3, .ref (ad (120 + 4 * u)))]) (st' := [.ref (ad 0)]) rfl ?_
      refine S_getR g (i := 0) (c := 8) (k := 2) (j := 2) (by decide) (by decide) rfl rfl rfl fl_X8_23 rfl ?_
      refine S_getJ g (i := 2) (c := 1) (k := 5) (by decide) (by decide) rfl rfl fl_X8_201 rfl ?_
      refine S_n g 4 (pc' := 54) (lv' := [(0, .ref (ad 0)), (1, .int (nI u)), (2, .int (nI p)), (3, .ref (ad (120 + 4 * u)))]) (st' := [.long (((J2 2 5) >>> ((nI p).toInt64 &&& 63)) &&& (lN 1))]) rfl ?_
      refine S_steq (st' := [.long (lN (tb (J2 2 5) p).toNat)]) (by rw [(show ((J2 2 5) >>> ((nI p).toInt64 &&& 63)) &&& (lN 1) = lN (tb (J2 2 5) p).toNat from bit64 (by omega) _).symm]) ?_
      have hb1 : (tb (J2 2 5) p).toNat ≤ 1 := Bool.toNat_le _
      refine S_n g 1 (pc' := 55) (lv' := [(0, .ref (ad 0)), (1, .int (nI u)), (2, .int (nI p)), (3, .ref (ad (120 + 4 * u)))]) (st' := [.long (lN 0), .long (lN (tb (J2 2 5) p).toNat)]) rfl ?_
      refine S_lcN_ne g (tgt := 61) (by omega) (by omega) rfl rfl (by decide) (fun qz55 => ?_) (fun qz55 => ?_)
      · skip
        have hk1 : knE (rowE m u (lnG m u)) p = true := by rw [← hkb]; cases hbv : tb (J2 2 5) p; (· rw [hbv] at qz55; exact absurd rfl qz55); (· rfl)
        rw [if_pos hk1] at ho
        refine S_n g 4 (pc' := 65) (lv' := [(0, .ref (ad 0)), (1, .int (nI u)), (2, .int (nI p)), (3, .ref (ad (120 + 4 * u)))]) (st' := [.ref (ad 0), .int (nI p), .ref (ad (120 + 4 * u)), .ref (ad 0)]) rfl ?_
        refine S_getR g (i := 0) (c := 8) (k := 2) (j := 2) (by decide) (by decide) rfl rfl rfl fl_X8_23 rfl ?_
        refine S_n g 1 (pc' := 69) (lv' := [(0, .ref (ad 0)), (1, .int (nI u)), (2, .int (nI p)), (3, .ref (ad (120 + 4 * u)))]) (st' := [.int (nI p), .ref (ad 2), .int (nI p), .ref (ad (120 + 4 * u)), .ref (ad 0)]) rfl ?_
        refine S_cV g (i := 2) (As := [.int (nI p)]) (st := [.int (nI p), .ref (ad (120 + 4 * u)), .ref (ad 0)]) (kn_sums ad z0 z1 I2 J2 A B2 (lnG m u) p (m (63 + u)) (fun k => m (87 + 40 * u + k)) a2 (by omega) a4 a5 hK2 hk1) mw_X1_sumsBehind lk_X8_208 ⟨Nat.le_of_ble_eq_true rfl, Nat.le_of_ble_eq_true rfl⟩ (by decide) (by decide) rfl rfl (Nat.le_of_ble_eq_true rfl) ⟨Nat.le_of_ble_eq_true rfl, Nat.le_of_ble_eq_true rfl⟩ rfl ?_
        show Sim X (YC ad z0 z1) 72 [(0, .ref (ad 0)), (1, .int (nI u)), (2, .int (nI p)), (3, .ref (ad (120 + 4 * u)))] [.long (knQ (rowE m u (lnG m u)) p), .int (nI p), .ref (ad (120 + 4 * u)), .ref (ad 0)] I2 J2 A B2 0 0
        refine S_cV g (i := 0) (As := [.ref (ad (120 + 4 * u)), .int (nI p), .long (knQ (rowE m u (lnG m u)) p)]) (st := []) (c_value ad z0 z1 I2 J2 A B2 u p (knQ (rowE m u (lnG m u)) p) m hG hR2 (by rw [← hnu]; omega) (by rw [← hnf]; omega)) mw_X8_valueByProof lk_X8_211 ⟨Nat.le_of_ble_eq_true rfl, Nat.le_of_ble_eq_true rfl⟩ (by decide) (by decide) rfl rfl (Nat.le_of_ble_eq_true rfl) ⟨Nat.le_of_ble_eq_true rfl, Nat.le_of_ble_eq_true rfl⟩ rfl ?_
        show Sim X (YC ad z0 z1) 75 [(0, .ref (ad 0)), (1, .int (nI u)), (2, .int (nI p)), (3, .ref (ad (120 + 4 * u)))] [.int (m (3 + p)).toInt32] I2 J2 A B2 0 0
        exact rtI rt rfl rfl (⟨by rw [ho], rfl, hR2, kpK_C hkp2⟩)
      · skip
        have hk0 : ¬ knE (rowE m u (lnG m u)) p = true := by rw [← hkb]; intro hbv; rw [hbv] at qz55; exact absurd qz55 (by decide)
        rw [if_neg hk0] at ho
        refine S_n g 1 (pc' := 60) (lv' := [(0, .ref (ad 0)), (1, .int (nI u)), (2, .int (nI p)), (3, .ref (ad (120 + 4 * u)))]) (st' := [.int (-nI 1)]) rfl ?_
        exact rtI rt rfl rfl (⟨by rw [ho], rfl, hR2, kpK_C hkp2⟩)
    · skip
      refine S_n g 1 (pc' := 24) (lv' := [(0, .ref (ad 0)), (1, .int x), (2, .int y)]) (st' := [.int (-nI 101)]) rfl ?_
      exact rtI rt rfl rfl (⟨by simp [o_decode, ← hnu, ← hnf, qz8, qz19], rfl, hR, kpC_rf I J A B⟩)

set_option maxRecDepth 100000 in
set_option maxHeartbeats 4000000 in
theorem c_proof (ad : Nat → Nat) (z0 z1 : Bool) (I : FI) (J : FJ) (A : FI) (B : FJ) (x y : Int32) (m : Nat → Int64) (hG : WG m) (hR : RepW 100 m I J A B) : Spec M_X8_proof [.ref (ad 0), .int x, .int y] (YC ad z0 z1) I J A B (cP ad z0 z1 I J A B (.long (o_proof (gN (m 0)) (gN (m 1)) (lnG m) m x y)) m) := by
  obtain ⟨nf, hnf⟩ : ∃ nf, nf = gN (m 0) := ⟨_, rfl⟩
  obtain ⟨nu, hnu⟩ : ∃ nu, nu = gN (m 1) := ⟨_, rfl⟩
  obtain ⟨nc, hnc⟩ : ∃ nc, nc = gN (m 2) := ⟨_, rfl⟩
  have hD := hG.1
  unfold wc0 at hD
  rw [← hnf, ← hnu, ← hnc] at hD
  obtain ⟨hmF, hmU, hmC, h1, h2, h3, h4, h5⟩ := hD
  have hF : I 100 5 = nI nf := by rw [hR.1.1, hmF, lN_i]
  have hU : I 100 6 = nI nu := by rw [hR.1.2.1, hmU, lN_i]
  have hC : I 100 7 = nI nc := by rw [hR.1.2.2.1, hmC, lN_i]
  refine Spec_of (by decide) tk_X8_proof (Nat.le_of_ble_eq_true rfl) (fun X g rt => ?_)
  show Sim X (YC ad z0 z1) 0 [(0, .ref (ad 0)), (1, .int x), (2, .int y)] [] I J A B 0 0
  refine S_n g 1 (pc' := 1) (lv' := [(0, .ref (ad 0)), (1, .int x), (2, .int y)]) (st' := [.ref (ad 0)]) rfl ?_
  refine S_getR g (i := 0) (c := 8) (k := 0) (j := 100) (by decide) (by decide) rfl rfl rfl fl_X8_10 rfl ?_
  refine S_n g 1 (pc' := 5) (lv' := [(0, .ref (ad 0)), (1, .int x), (2, .int y)]) (st' := [.int x, .ref (ad 100)]) rfl ?_
  refine S_cV g (i := 100) (As := [.int x]) (st := []) (w_hasUser ad z0 z1 I J A B x nu hU h4) mw_X7_hasUser lk_X8_80 ⟨Nat.le_of_ble_eq_true rfl, Nat.le_of_ble_eq_true rfl⟩ (by decide) (by decide) rfl rfl (Nat.le_of_ble_eq_true rfl) ⟨Nat.le_of_ble_eq_true rfl, Nat.le_of_ble_eq_true rfl⟩ rfl ?_
  show Sim X (YC ad z0 z1) 8 [(0, .ref (ad 0)), (1, .int x), (2, .int y)] [.int (bI (isIx x nu))] I J A B 0 0
  refine S_ifB_eq g (tgt := 22) rfl (by decide) (fun qz8 => ?_) (fun qz8 => ?_)
  · skip
    refine S_ldc2 g kc_X8_102 rfl ?_
    exact rtL rt rfl rfl (⟨by simp [o_proof, ← hnu, ← hnf, qz8], rfl, hR, kpC_rf I J A B⟩)
  · skip
    refine S_n g 1 (pc' := 12) (lv' := [(0, .ref (ad 0)), (1, .int x), (2, .int y)]) (st' := [.ref (ad 0)]) rfl ?_
    refine S_getR g (i := 0) (c := 8) (k := 0) (j := 100) (by decide) (by decide) rfl rfl rfl fl_X8_10 rfl ?_
    refine S_n g 1 (pc' := 16) (lv' := [(0, .ref (ad 0)), (1, .int x), (2, .int y)]) (st' := [.int y, .ref (ad 100)]) rfl ?_
    refine S_cV g (i := 100) (As := [.int y]) (st := []) (w_hasPiece ad z0 z1 I J A B y nf hF h2) mw_X7_hasPiece lk_X8_64 ⟨Nat.le_of_ble_eq_true rfl, Nat.le_of_ble_eq_true rfl⟩ (by decide) (by decide) rfl rfl (Nat.le_of_ble_eq_true rfl) ⟨Nat.le_of_ble_eq_true rfl, Nat.le_of_ble_eq_true rfl⟩ rfl ?_
    show Sim X (YC ad z0 z1) 19 [(0, .ref (ad 0)), (1, .int x), (2, .int y)] [.int (bI (isIx y (12 * nf)))] I J A B 0 0
    refine S_ifB_ne g (tgt := 26) rfl (by decide) (fun qz19 => ?_) (fun qz19 => ?_)
    · skip
      have hq8 := qz8
      have hq19 := qz19
      obtain ⟨u, hu, hxu⟩ := isIx_t qz8
      subst hxu
      have hcu : (nI u).toNatClampNeg = u := nI_clamp (by omega)
      have hu : u < 6 := by omega
      have hJu : J (120 + 4 * u) 1 = m (63 + u) := (hR.2.2.2.1 u hu).1
      have hIu : I (120 + 4 * u) 2 = (m (69 + u)).toInt32 := (hR.2.2.2.1 u hu).2
      have hmb := mb7 (ad := ad) (z0 := z0) (z1 := z1) hu
      have hin : inP nf (m (63 + u)) := by rw [hnf]; exact (hG.2.2.2.2.2.2.2.1 u hu).1
      obtain ⟨p, hp, hxp⟩ := isIx_t qz19
      subst hxp
      have hcp : (nI p).toNatClampNeg = p := nI_clamp (by omega)
      obtain ⟨a1, a2, a3, a4, a5, a6, a7, a8⟩ := usr hG hR hu
      have ho : o_proof (gN (m 0)) (gN (m 1)) (lnG m) m (nI u) (nI p) = if knE (rowE m u (lnG m u)) p = true then knQ (rowE m u (lnG m u)) p else -lN 1 := by rw [← hnf, ← hnu]; simp only [o_proof, qz8, qz19, if_true, ix, hcu, hcp]
      refine S_n g 1 (pc' := 27) (lv' := [(0, .ref (ad 0)), (1, .int (nI u)), (2, .int (nI p))]) (st' := [.ref (ad 0)]) rfl ?_
      refine S_getR g (i := 0) (c := 8) (k := 2) (j := 2) (by decide) (by decide) rfl rfl rfl fl_X8_23 rfl ?_
      refine S_n g 1 (pc' := 31) (lv' := [(0, .ref (ad 0)), (1, .int (nI u)), (2, .int (nI p))]) (st' := [.ref (ad 0), .ref (ad 2)]) rfl ?_
      refine S_getR g (i := 0) (c := 8) (k := 0) (j := 100) (by decide) (by decide) rfl rfl rfl fl_X8_10 rfl ?_
      refine S_getR g (i := 100) (c := 7) (k := 1) (j := 102) (by decide) (by decide) rfl rfl rfl fl_X8_83 rfl ?_
      refine S_n g 1 (pc' := 38) (lv' := [(0, .ref (ad 0)), (1, .int (nI u)), (2, .int (nI p))]) (st' := [.int (nI u), .ref (ad 102), .ref (ad 2)]) rfl ?_
      refine S_aaldN g (i := 102) (e := u) (j := 120 + 4 * u) (by decide) rfl (show u < 6 from by omega) (show (6 : Nat) < 2 ^ 31 from by decide) rfl rfl ?_
      refine S_callV g (i := 2) (As := [.ref (ad (120 + 4 * u))]) (st := []) (kn_learn ad z0 z1 I J A B u (lnG m u) (m (63 + u)) (fun k => m (87 + 40 * u + k)) hu a1 a2 a3 a4 a5 a6) mw_X1_learn lk_X8_187 ⟨Nat.le_of_ble_eq_true rfl, Nat.le_of_ble_eq_true rfl⟩ (by decide) (by decide) rfl rfl (Nat.le_of_ble_eq_true rfl) ⟨Nat.le_of_ble_eq_true rfl, Nat.le_of_ble_eq_true rfl⟩ rfl (fun v' Y' I2 J2 A2 B2 hpo => ?_)
      obtain ⟨rfl, rfl, hqa2, hK2, hkp2⟩ := hpo
      rw [hqa2]
      show Sim X (YC ad z0 z1) 42 [(0, .ref (ad 0)), (1, .int (nI u)), (2, .int (nI p))] [] I2 J2 A B2 0 0
      have hR2 : RepW 100 m I2 J2 A B2 := kpK_R hR hkp2
      have hkb := KU_bit hG hR2 hu hK2 p (by omega)
      refine S_n g 1 (pc' := 43) (lv' := [(0, .ref (ad 0)), (1, .int (nI u)), (2, .int (nI p))]) (st' := [.ref (ad 0)]) rfl ?_
      refine S_getR g (i := 0) (c := 8) (k := 2) (j := 2) (by decide) (by decide) rfl rfl rfl fl_X8_23 rfl ?_
      refine S_getJ g (i := 2) (c := 1) (k := 5) (by decide) (by decide) rfl rfl fl_X8_201 rfl ?_
      refine S_n g 4 (pc' := 53) (lv' := [(0, .ref (ad 0)), (1, .int (nI u)), (2, .int (nI p))]) (st' := [.long (((J2 2 5) >>> ((nI p).toInt64 &&& 63)) &&& (lN 1))]) rfl ?_
      refine S_steq (st' := [.long (lN (tb (J2 2 5) p).toNat)]) (by rw [(show ((J2 2 5) >>> ((nI p).toInt64 &&& 63)) &&& (lN 1) = lN (tb (J2 2 5) p).toNat from bit64 (by omega) _).symm]) ?_
      have hb1 : (tb (J2 2 5) p).toNat ≤ 1 := Bool.toNat_le _
      refine S_n g 1 (pc' := 54) (lv' := [(0, .ref (ad 0)), (1, .int (nI u)), (2, .int (nI p))]) (st' := [.long (lN 0), .long (lN (tb (J2 2 5) p).toNat)]) rfl ?_
      refine S_lcN_ne g (tgt := 62) (by omega) (by omega) rfl rfl (by decide) (fun qz54 => ?_) (fun qz54 => ?_)
      · skip
        have hk1 : knE (rowE m u (lnG m u)) p = true := by rw [← hkb]; cases hbv : tb (J2 2 5) p; (· rw [hbv] at qz54; exact absurd rfl qz54); (· rfl)
        rw [if_pos hk1] at ho
        refine S_n g 1 (pc' := 63) (lv' := [(0, .ref (ad 0)), (1, .int (nI u)), (2, .int (nI p))]) (st' := [.ref (ad 0)]) rfl ?_
        refine S_getR g (i := 0) (c := 8) (k := 2) (j := 2) (by decide) (by decide) rfl rfl rfl fl_X8_23 rfl ?_
        refine S_n g 1 (pc' := 67) (lv' := [(0, .ref (ad 0)), (1, .int (nI u)), (2, .int (nI p))]) (st' := [.int (nI p), .ref (ad 2)]) rfl ?_
        refine S_cV g (i := 2) (As := [.int (nI p)]) (st := []) (kn_sums ad z0 z1 I2 J2 A B2 (lnG m u) p (m (63 + u)) (fun k => m (87 + 40 * u + k)) a2 (by omega) a4 a5 hK2 hk1) mw_X1_sumsBehind lk_X8_208 ⟨Nat.le_of_ble_eq_true rfl, Nat.le_of_ble_eq_true rfl⟩ (by decide) (by decide) rfl rfl (Nat.le_of_ble_eq_true rfl) ⟨Nat.le_of_ble_eq_true rfl, Nat.le_of_ble_eq_true rfl⟩ rfl ?_
        show Sim X (YC ad z0 z1) 70 [(0, .ref (ad 0)), (1, .int (nI u)), (2, .int (nI p))] [.long (knQ (rowE m u (lnG m u)) p)] I2 J2 A B2 0 0
        exact rtL rt rfl rfl (⟨by rw [ho], rfl, hR2, kpK_C hkp2⟩)
      · skip
        have hk0 : ¬ knE (rowE m u (lnG m u)) p = true := by rw [← hkb]; intro hbv; rw [hbv] at qz54; exact absurd qz54 (by decide)
        rw [if_neg hk0] at ho
        refine S_ldc2 g kc_X8_102 rfl ?_
        exact rtL rt rfl rfl (⟨by rw [ho], rfl, hR2, kpK_C hkp2⟩)
    · skip
      refine S_ldc2 g kc_X8_102 rfl ?_
      exact rtL rt rfl rfl (⟨by simp [o_proof, ← hnu, ← hnf, qz8, qz19], rfl, hR, kpC_rf I J A B⟩)

set_option maxRecDepth 100000 in
set_option maxHeartbeats 4000000 in
theorem c_need (ad : Nat → Nat) (z0 z1 : Bool) (I : FI) (J : FJ) (A : FI) (B : FJ) (x : Int32) (m : Nat → Int64) (hG : WG m) (hR : RepW 100 m I J A B) : Spec M_X8_need [.ref (ad 0), .int x] (YC ad z0 z1) I J A B (cP ad z0 z1 I J A B (.int (o_need (gN (m 1)) (lnG m) m x)) m) := by
  obtain ⟨nf, hnf⟩ : ∃ nf, nf = gN (m 0) := ⟨_, rfl⟩
  obtain ⟨nu, hnu⟩ : ∃ nu, nu = gN (m 1) := ⟨_, rfl⟩
  obtain ⟨nc, hnc⟩ : ∃ nc, nc = gN (m 2) := ⟨_, rfl⟩
  have hD := hG.1
  unfold wc0 at hD
  rw [← hnf, ← hnu, ← hnc] at hD
  obtain ⟨hmF, hmU, hmC, h1, h2, h3, h4, h5⟩ := hD
  have hF : I 100 5 = nI nf := by rw [hR.1.1, hmF, lN_i]
  have hU : I 100 6 = nI nu := by rw [hR.1.2.1, hmU, lN_i]
  have hC : I 100 7 = nI nc := by rw [hR.1.2.2.1, hmC, lN_i]
  refine Spec_of (by decide) tk_X8_need (Nat.le_of_ble_eq_true rfl) (fun X g rt => ?_)
  show Sim X (YC ad z0 z1) 0 [(0, .ref (ad 0)), (1, .int x)] [] I J A B 0 0
  refine S_n g 1 (pc' := 1) (lv' := [(0, .ref (ad 0)), (1, .int x)]) (st' := [.ref (ad 0)]) rfl ?_
  refine S_getR g (i := 0) (c := 8) (k := 0) (j := 100) (by decide) (by decide) rfl rfl rfl fl_X8_10 rfl ?_
  refine S_n g 1 (pc' := 5) (lv' := [(0, .ref (ad 0)), (1, .int x)]) (st' := [.int x, .ref (ad 100)]) rfl ?_
  refine S_cV g (i := 100) (As := [.int x]) (st := []) (w_hasUser ad z0 z1 I J A B x nu hU h4) mw_X7_hasUser lk_X8_80 ⟨Nat.le_of_ble_eq_true rfl, Nat.le_of_ble_eq_true rfl⟩ (by decide) (by decide) rfl rfl (Nat.le_of_ble_eq_true rfl) ⟨Nat.le_of_ble_eq_true rfl, Nat.le_of_ble_eq_true rfl⟩ rfl ?_
  show Sim X (YC ad z0 z1) 8 [(0, .ref (ad 0)), (1, .int x)] [.int (bI (isIx x nu))] I J A B 0 0
  refine S_ifB_ne g (tgt := 14) rfl (by decide) (fun qz8 => ?_) (fun qz8 => ?_)
  · skip
    obtain ⟨u, hu, hxu⟩ := isIx_t qz8
    subst hxu
    have hcu : (nI u).toNatClampNeg = u := nI_clamp (by omega)
    have hu : u < 6 := by omega
    have hJu : J (120 + 4 * u) 1 = m (63 + u) := (hR.2.2.2.1 u hu).1
    have hIu : I (120 + 4 * u) 2 = (m (69 + u)).toInt32 := (hR.2.2.2.1 u hu).2
    have hmb := mb7 (ad := ad) (z0 := z0) (z1 := z1) hu
    have hin : inP nf (m (63 + u)) := by rw [hnf]; exact (hG.2.2.2.2.2.2.2.1 u hu).1
    obtain ⟨a1, a2, a3, a4, a5, a6, a7, a8⟩ := usr hG hR hu
    have ho : o_need (gN (m 1)) (lnG m) m (nI u) = if m (69 + u) = -lN 1 then nI 0 else nI (ndE (rowE m u (lnG m u)) (m (69 + u)).toInt.toNat 12).1 - nI (rowE m u (lnG m u)).1 := by rw [← hnu]; simp only [o_need, qz8, if_true, ix, hcu]
    refine S_n g 1 (pc' := 15) (lv' := [(0, .ref (ad 0)), (1, .int (nI u))]) (st' := [.ref (ad 0)]) rfl ?_
    refine S_getR g (i := 0) (c := 8) (k := 0) (j := 100) (by decide) (by decide) rfl rfl rfl fl_X8_10 rfl ?_
    refine S_getR g (i := 100) (c := 7) (k := 1) (j := 102) (by decide) (by decide) rfl rfl rfl fl_X8_83 rfl ?_
    refine S_n g 1 (pc' := 22) (lv' := [(0, .ref (ad 0)), (1, .int (nI u))]) (st' := [.int (nI u), .ref (ad 102)]) rfl ?_
    refine S_aaldN g (i := 102) (e := u) (j := 120 + 4 * u) (by decide) rfl (show u < 6 from by omega) (show (6 : Nat) < 2 ^ 31 from by decide) rfl rfl ?_
    refine S_n g 2 (pc' := 25) (lv' := [(0, .ref (ad 0)), (1, .int (nI u)), (2, .ref (ad (120 + 4 * u)))]) (st' := [.ref (ad 0)]) rfl ?_
    refine S_getR g (i := 0) (c := 8) (k := 2) (j := 2) (by decide) (by decide) rfl rfl rfl fl_X8_23 rfl ?_
    refine S_n g 1 (pc' := 29) (lv' := [(0, .ref (ad 0)), (1, .int (nI u)), (2, .ref (ad (120 + 4 * u)))]) (st' := [.ref (ad (120 + 4 * u)), .ref (ad 2)]) rfl ?_
    refine S_callV g (i := 2) (As := [.ref (ad (120 + 4 * u))]) (st := []) (kn_learn ad z0 z1 I J A B u (lnG m u) (m (63 + u)) (fun k => m (87 + 40 * u + k)) hu a1 a2 a3 a4 a5 a6) mw_X1_learn lk_X8_187 ⟨Nat.le_of_ble_eq_true rfl, Nat.le_of_ble_eq_true rfl⟩ (by decide) (by decide) rfl rfl (Nat.le_of_ble_eq_true rfl) ⟨Nat.le_of_ble_eq_true rfl, Nat.le_of_ble_eq_true rfl⟩ rfl (fun v' Y' I2 J2 A2 B2 hpo => ?_)
    obtain ⟨rfl, rfl, hqa2, hK2, hkp2⟩ := hpo
    rw [hqa2]
    show Sim X (YC ad z0 z1) 32 [(0, .ref (ad 0)), (1, .int (nI u)), (2, .ref (ad (120 + 4 * u)))] [] I2 J2 A B2 0 0
    have hR2 : RepW 100 m I2 J2 A B2 := kpK_R hR hkp2
    refine S_n g 1 (pc' := 33) (lv' := [(0, .ref (ad 0)), (1, .int (nI u)), (2, .ref (ad (120 + 4 * u)))]) (st' := [.ref (ad 0)]) rfl ?_
    refine S_getR g (i := 0) (c := 8) (k := 2) (j := 2) (by decide) (by decide) rfl rfl rfl fl_X8_23 rfl ?_
    refine S_cV g (i := 2) (As := []) (st := []) (kn_rank ad z0 z1 I2 J2 A B2 (lnG m u) (m (63 + u)) (fun k => m (87 + 40 * u + k)) a2 a4 hK2) mw_X1_rank lk_X8_198 ⟨Nat.le_of_ble_eq_true rfl, Nat.le_of_ble_eq_true rfl⟩ (by decide) (by decide) rfl rfl (Nat.le_of_ble_eq_true rfl) ⟨Nat.le_of_ble_eq_true rfl, Nat.le_of_ble_eq_true rfl⟩ rfl ?_
    show Sim X (YC ad z0 z1) 39 [(0, .ref (ad 0)), (1, .int (nI u)), (2, .ref (ad (120 + 4 * u)))] [.int (nI (rowE m u (lnG m u)).1)] I2 J2 A B2 0 0
    obtain ⟨b1, b2, b3, b4, b5, b6, b7, b8⟩ := usr hG hR2 hu
    refine S_n g 2 (pc' := 41) (lv' := [(0, .ref (ad 0)), (1, .int (nI u)), (2, .ref (ad (120 + 4 * u))), (3, .int (nI (rowE m u (lnG m u)).1))]) (st' := [.ref (ad 0)]) rfl ?_
    refine S_getR g (i := 0) (c := 8) (k := 2) (j := 2) (by decide) (by decide) rfl rfl rfl fl_X8_23 rfl ?_
    refine S_n g 1 (pc' := 45) (lv' := [(0, .ref (ad 0)), (1, .int (nI u)), (2, .ref (ad (120 + 4 * u))), (3, .int (nI (rowE m u (lnG m u)).1))]) (st' := [.ref (ad (120 + 4 * u)), .ref (ad 2)]) rfl ?_
    refine S_getJ g (i := 120 + 4 * u) (c := 2) (k := 1) (by omega) (by decide) (mb7 hu).1 rfl fl_X8_98 rfl ?_
    rw [b6]
    refine S_n g 1 (pc' := 49) (lv' := [(0, .ref (ad 0)), (1, .int (nI u)), (2, .ref (ad (120 + 4 * u))), (3, .int (nI (rowE m u (lnG m u)).1))]) (st' := [.ref (ad (120 + 4 * u)), .long (m (63 + u)), .ref (ad 2)]) rfl ?_
    refine S_getI g (i := 120 + 4 * u) (c := 2) (k := 2) (by omega) (by decide) (mb7 hu).1 rfl fl_X8_158 rfl ?_
    rw [b7]
    refine S_cS g (As := [.int (m (69 + u)).toInt32]) (st := [.long (m (63 + u)), .ref (ad 2)]) (c_piecesOf ad z0 z1 I2 J2 A B2 m u nf h2 (by rw [hnf]; exact a8)) mw_X8_piecesOf lk_X8_221 ⟨Nat.le_of_ble_eq_true rfl, Nat.le_of_ble_eq_true rfl⟩ rfl (Nat.le_of_ble_eq_true rfl) ⟨Nat.le_of_ble_eq_true rfl, Nat.le_of_ble_eq_true rfl⟩ rfl ?_
    show Sim X (YC ad z0 z1) 55 [(0, .ref (ad 0)), (1, .int (nI u)), (2, .ref (ad (120 + 4 * u))), (3, .int (nI (rowE m u (lnG m u)).1))] [.long (wfP (m (69 + u))), .long (m (63 + u)), .ref (ad 2)] I2 J2 A B2 0 0
    have hcc : ∀ i, 60 ≤ i → tb (m (63 + u) ||| wfP (m (69 + u))) i = false := fun i hi => by
      rw [tb_or, a4 i hi, Bool.false_or]
      unfold wfP
      rcases a8 with h | ⟨f, h1, h⟩
      · rw [if_pos h, tb_0]
      · rw [if_neg (by rw [h]; exact lN_m1 (by omega)), h, pk_lT (by omega), flP_bit (by omega), decide_eq_false (by omega)]
    refine S_n g 2 (pc' := 57) (lv' := [(0, .ref (ad 0)), (1, .int (nI u)), (2, .ref (ad (120 + 4 * u))), (3, .int (nI (rowE m u (lnG m u)).1))]) (st' := [.ref (ad (120 + 4 * u)), .long ((m (63 + u)) ||| (wfP (m (69 + u)))), .ref (ad 2)]) rfl ?_
    refine S_getR g (i := 120 + 4 * u) (c := 2) (k := 0) (j := 120 + 4 * u + 1) (by omega) (by decide) (mb7 hu).1 rfl (mb7 hu).2.1 fl_X8_195 rfl ?_
    refine S_callV g (i := 2) (As := [.long ((m (63 + u)) ||| (wfP (m (69 + u)))), .ref (ad (120 + 4 * u + 1))]) (st := []) (kn_learnFrom ad z0 z1 I2 J2 A B2 u (lnG m u) (m (63 + u) ||| wfP (m (69 + u))) (fun k => m (87 + 40 * u + k)) hu b1 b2 b3 hcc a5) mw_X1_learnFrom lk_X8_224 ⟨Nat.le_of_ble_eq_true rfl, Nat.le_of_ble_eq_true rfl⟩ (by decide) (by decide) rfl rfl (Nat.le_of_ble_eq_true rfl) ⟨Nat.le_of_ble_eq_true rfl, Nat.le_of_ble_eq_true rfl⟩ rfl (fun v' Y' I3 J3 A3 B3 hpo => ?_)
    obtain ⟨rfl, rfl, hqa3, hK3, hkp3⟩ := hpo
    rw [hqa3]
    show Sim X (YC ad z0 z1) 63 [(0, .ref (ad 0)), (1, .int (nI u)), (2, .ref (ad (120 + 4 * u))), (3, .int (nI (rowE m u (lnG m u)).1))] [] I3 J3 A B3 0 0
    have hR3 : RepW 100 m I3 J3 A B3 := kpK_R hR2 hkp3
    refine S_n g 1 (pc' := 64) (lv' := [(0, .ref (ad 0)), (1, .int (nI u)), (2, .ref (ad (120 + 4 * u))), (3, .int (nI (rowE m u (lnG m u)).1))]) (st' := [.ref (ad 0)]) rfl ?_
    refine S_getR g (i := 0) (c := 8) (k := 2) (j := 2) (by decide) (by decide) rfl rfl rfl fl_X8_23 rfl ?_
    refine S_cV g (i := 2) (As := []) (st := []) (kn_rank ad z0 z1 I3 J3 A B3 (lnG m u) (m (63 + u) ||| wfP (m (69 + u))) (fun k => m (87 + 40 * u + k)) a2 hcc hK3) mw_X1_rank lk_X8_198 ⟨Nat.le_of_ble_eq_true rfl, Nat.le_of_ble_eq_true rfl⟩ (by decide) (by decide) rfl rfl (Nat.le_of_ble_eq_true rfl) ⟨Nat.le_of_ble_eq_true rfl, Nat.le_of_ble_eq_true rfl⟩ rfl ?_
    show Sim X (YC ad z0 z1) 70 [(0, .ref (ad 0)), (1, .int (nI u)), (2, .ref (ad (120 + 4 * u))), (3, .int (nI (rowE m u (lnG m u)).1))] [.int (nI (elL (m (63 + u) ||| wfP (m (69 + u))) (fun k => m (87 + 40 * u + k)) (lnG m u)).1)] I3 J3 A B3 0 0
    refine S_n g 2 (pc' := 72) (lv' := [(0, .ref (ad 0)), (1, .int (nI u)), (2, .ref (ad (120 + 4 * u))), (3, .int (nI (rowE m u (lnG m u)).1))]) (st' := [.int ((nI (elL (m (63 + u) ||| wfP (m (69 + u))) (fun k => m (87 + 40 * u + k)) (lnG m u)).1) - (nI (rowE m u (lnG m u)).1))]) rfl ?_
    have hval : nI (elL (m (63 + u) ||| wfP (m (69 + u))) (fun k => m (87 + 40 * u + k)) (lnG m u)).1 - nI (rowE m u (lnG m u)).1 = o_need (gN (m 1)) (lnG m) m (nI u) := by
      rw [ho]
      unfold wfP
      rcases a8 with h | ⟨f, h1, h⟩
      · rw [if_pos h, if_pos h, or_z]
        exact Int32.sub_self _
      · rw [if_neg (by rw [h]; exact lN_m1 (by omega)), if_neg (by rw [h]; exact lN_m1 (by omega)), h, pk_lT (by omega)]
        unfold rowE
        rw [Int.toNat_natCast, nd_num (show f < 5 by omega) a4 a5]
    exact rtI rt rfl rfl (⟨by rw [hval], rfl, hR3, kpC_tr (kpK_C hkp2) (kpK_C hkp3)⟩)
  · skip
    refine S_n g 1 (pc' := 13) (lv' := [(0, .ref (ad 0)), (1, .int x)]) (st' := [.int (-nI 101)]) rfl ?_
    exact rtI rt rfl rfl (⟨by simp [o_need, ← hnu, qz8], rfl, hR, kpC_rf I J A B⟩)
