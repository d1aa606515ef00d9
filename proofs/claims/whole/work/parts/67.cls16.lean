/-! the class: leave, join, setContent -/
def pS (m : Nat → Int64) : Nat → Nat
  | 0 => 0
  | k + 1 => if m (75 + k) = lN 1 then pS m k ||| 2 ^ k else pS m k
theorem pS_pre {m : Nat → Int64} : ∀ k, k ≤ 6 → preS m k = nI (pS m k)
  | 0, _ => rfl
  | k + 1, hk => by
    unfold preS pS
    rw [pS_pre k (by omega)]
    split
    · rw [i1_nI (by omega), nI_or]
    · rw [nI_or, Nat.or_zero]
theorem pS_lt {m : Nat → Int64} : ∀ k, pS m k < 2 ^ k
  | 0 => by show 0 < 2 ^ 0; decide
  | k + 1 => by
    have h := pS_lt (m := m) k
    have h2 : 2 ^ k < 2 ^ (k + 1) := Nat.pow_lt_pow_right (by decide) (by omega)
    unfold pS
    split
    · exact Nat.or_lt_two_pow (by omega) h2
    · omega
theorem pS_bit {m : Nat → Int64} {b : Nat} : ∀ k, (pS m k).testBit b = (decide (b < k) && decide (m (75 + b) = lN 1))
  | 0 => by show (0 : Nat).testBit b = _; simp
  | k + 1 => by
    have h := pS_bit (m := m) (b := b) k
    unfold pS
    by_cases e : b = k
    · subst e
      split
      · next q => rw [Nat.testBit_or, Nat.testBit_two_pow, q]; simp
      · next q => rw [h, decide_eq_false (Nat.lt_irrefl _), decide_eq_false q]; simp
    · have e2 : decide (b < k + 1) = decide (b < k) := by
        by_cases q : b < k
        · rw [decide_eq_true q, decide_eq_true (by omega)]
        · rw [decide_eq_false q, decide_eq_false (by omega)]
      rw [e2]
      split
      · rw [Nat.testBit_or, Nat.testBit_two_pow, h, decide_eq_false (show ¬ k = b by omega)]; simp
      · exact h
theorem pS_64 {m : Nat → Int64} {nu : Nat} (h : nu ≤ 6) : pS m nu < 64 := Nat.lt_of_lt_of_le (pS_lt nu) (Nat.pow_le_pow_right (n := 2) (by decide) h)
theorem ps_off {m : Nat → Int64} {nu u : Nat} (h4 : nu ≤ 6) (hu : u < nu) : nI (pS m nu) &&& (i1 u ^^^ -nI 1) = nI (pS (va_up m (75 + u) (lN 0)) nu) := by
  apply ti_ext
  intro b hb
  rw [ti_and, ti_xor, ti_nI6 hb, ti_nI6 hb, ti_m1 hb, ti_i1 (by omega) hb, pS_bit, pS_bit]
  by_cases e : b = u
  · subst e; rw [va_up_self, decide_eq_false (show ¬ lN 0 = lN 1 by decide)]; simp
  · rw [ne1 (by omega), decide_eq_false e]; simp
theorem ps_on {m : Nat → Int64} {nu u : Nat} (h4 : nu ≤ 6) (hu : u < nu) : nI (pS m nu) ||| i1 u = nI (pS (va_up m (75 + u) (lN 1)) nu) := by
  apply ti_ext
  intro b hb
  rw [ti_or, ti_nI6 hb, ti_nI6 hb, ti_i1 (by omega) hb, pS_bit, pS_bit]
  by_cases e : b = u
  · subst e; rw [va_up_self, decide_eq_true hu]; simp
  · rw [ne1 (by omega), decide_eq_false e]; simp
theorem RepW_here {m : Nat → Int64} {I : FI} {J : FJ} {A : FI} {B : FJ} (g : WG m) (h : RepW 100 m I J A B) {u : Nat} (hu : u < 6) (v : Int64) {nu : Nat} (hnu : nu = gN (m 1)) : RepW 100 (va_up m (75 + u) v) (up2 I 100 8 (nI (pS (va_up m (75 + u) v) nu))) J A B := by
  obtain ⟨h0, h1, h2, h3, h4, h5, h6, h7, h8⟩ := h
  obtain ⟨g0, g1, g2, g3, g4, g5⟩ := WGn g
  refine ⟨r0_h (r0_m h0 (fun j hj => ne1 (by omega))) (fun k hk => u2j (Or.inr hk)), ?_, r2_m h2 (fun j a b => ne1 (by omega)), r3_h (r3_m h3 (fun j a b => ne1 (by omega))) (fun _ _ => rfl) (fun w hw => u2j (Or.inl (by omega))), r4_h (r4_m h4 g5 (fun j a b => ne1 (by omega))) (fun w hw k => u2j (Or.inl (by omega))) (fun _ _ => rfl), r5_m h5 g0 g5 (fun j hj => ne1 (by omega)), r6_h (r6_m h6 g2 (fun j a b => ne1 (by omega))) (fun k => u2j (Or.inl (by omega))) rfl, r7_h (r7_m h7 g3 (fun j a b => ne1 (by omega))) (fun k => u2j (Or.inl (by omega))) rfl, r8_h (r8_m h8 g4 (fun j a b => ne1 (by omega))) (u2j (Or.inl (by omega))) rfl rfl rfl⟩
  unfold r1w
  rw [ne1 (show 1 ≠ 75 + u by omega), ← hnu, pS_pre _ (by omega)]
  exact up2_same _ _ _ _
/-- nothing was sent: nothing was received -/
def Em (m : Nat → Int64) : Prop := gN (m 428) = 0 → ∀ u, u < 6 → lnG m u = 0
theorem RepW_content {m : Nat → Int64} {I : FI} {J : FJ} {A : FI} {B : FJ} (g : WG m) (h : RepW 100 m I J A B) (hE : Em m) (hh : gN (m 428) = 0) {p : Nat} (hp : p < 60) (c : Nat) : RepW 100 (va_up m (3 + p) (lN c)) I J (va_up A 101 (va_up (A 101) p (nI c))) B := by
  obtain ⟨h0, h1, h2, h3, h4, h5, h6, h7, h8⟩ := h
  obtain ⟨g0, g1, g2, g3, g4, g5⟩ := WGn g
  refine ⟨r0_m h0 (fun j hj => ne1 (by omega)), r1_m h1 g1 (fun j hj => ne1 (by omega)), ?_, r3_m h3 (fun j a b => ne1 (by omega)), r4_m h4 g5 (fun j a b => ne1 (by omega)), ?_, r6_m h6 g2 (fun j a b => ne1 (by omega)), r7_m h7 g3 (fun j a b => ne1 (by omega)), r8_h (r8_m h8 g4 (fun j a b => ne1 (by omega))) rfl (va_up_ne _ _ (by omega)) (va_up_ne _ _ (by omega)) (va_up_ne _ _ (by omega))⟩
  · intro q hq
    show va_up A 101 (va_up (A 101) p (nI c)) 101 q = _
    rw [va_up_self]
    by_cases e : q = p
    · subst e; rw [va_up_self, va_up_self, lN_i]
    · rw [va_up_ne _ _ e, ne1 (by omega)]; exact h2 q hq
  · intro u hu k hk
    have e : lnG (va_up m (3 + p) (lN c)) u = lnG m u := lnG_cong (ne1 (by omega))
    rw [e, hE hh u hu] at hk
    omega

set_option maxRecDepth 100000 in
set_option maxHeartbeats 4000000 in
theorem c_leave (ad : Nat → Nat) (z0 z1 : Bool) (I : FI) (J : FJ) (A : FI) (B : FJ) (x : Int32) (m : Nat → Int64) (hG : WG m) (hR : RepW 100 m I J A B) : Spec M_X8_leave [.ref (ad 0), .int x] (YC ad z0 z1) I J A B (cP ad z0 z1 I J A B (.int (k_comes m x false).1) (k_comes m x false).2) := by
  obtain ⟨nf, hnf⟩ : ∃ nf, nf = gN (m 0) := ⟨_, rfl⟩
  obtain ⟨nu, hnu⟩ : ∃ nu, nu = gN (m 1) := ⟨_, rfl⟩
  obtain ⟨nc, hnc⟩ : ∃ nc, nc = gN (m 2) := ⟨_, rfl⟩
  have hD := hG.1
  unfold wc0 at hD
  rw [← hnf, ← hnu, ← hnc] at hD
  obtain ⟨hmF, hmU, hmC, h1, h2, h3, h4, h5⟩ := hD
  have hF : I 100 5 = nI nf := by rw [hR.1.1, hmF, lN_i]
  have hU : I 100 6 = nI nu := by rw [hR.1.2.1, hmU, lN_i]
  have hC : I 100 7 = nI nc := by rw [hR.1.2.2.1, hmC, lN_i]
  unfold k_comes
  rw [← hnu]
  have hpr : I 100 8 = nI (pS m nu) := by rw [hR.2.1, ← hnu, pS_pre _ h4]
  refine Spec_of (by decide) tk_X8_leave (Nat.le_of_ble_eq_true rfl) (fun X g rt => ?_)
  show Sim X (YC ad z0 z1) 0 [(0, .ref (ad 0)), (1, .int x)] [] I J A B 0 0
  refine S_n g 1 (pc' := 1) (lv' := [(0, .ref (ad 0)), (1, .int x)]) (st' := [.ref (ad 0)]) rfl ?_
  refine S_getR g (i := 0) (c := 8) (k := 0) (j := 100) (by decide) (by decide) rfl rfl rfl fl_X8_10 rfl ?_
  refine S_n g 1 (pc' := 5) (lv' := [(0, .ref (ad 0)), (1, .int x)]) (st' := [.int x, .ref (ad 100)]) rfl ?_
  refine S_cV g (i := 100) (As := [.int x]) (st := []) (w_hasUser ad z0 z1 I J A B x nu hU h4) mw_X7_hasUser lk_X8_80 ⟨Nat.le_of_ble_eq_true rfl, Nat.le_of_ble_eq_true rfl⟩ (by decide) (by decide) rfl rfl (Nat.le_of_ble_eq_true rfl) ⟨Nat.le_of_ble_eq_true rfl, Nat.le_of_ble_eq_true rfl⟩ rfl ?_
  show Sim X (YC ad z0 z1) 8 [(0, .ref (ad 0)), (1, .int x)] [.int (bI (isIx x nu))] I J A B 0 0
  refine S_ifB_ne g (tgt := 14) rfl (by decide) (fun qz8 => ?_) (fun qz8 => ?_)
  · skip
    obtain ⟨u, hu, hxu⟩ := isIx_t qz8
    subst hxu
    have hcu : (nI u).toNatClampNeg = u := nI_clamp (by omega)
    have hu : u < 6 := by omega
    have hJu : J (120 + 4 * u) 1 = m (63 + u) := (hR.2.2.2.1 u hu).1
    have hIu : I (120 + 4 * u) 2 = (m (69 + u)).toInt32 := (hR.2.2.2.1 u hu).2
    have hmb := mb7 (ad := ad) (z0 := z0) (z1 := z1) hu
    have hin : inP nf (m (63 + u)) := by rw [hnf]; exact (hG.2.2.2.2.2.2.2.1 u hu).1
    have hpb : (pS m nu).testBit u = decide (m (75 + u) = lN 1) := by rw [pS_bit, decide_eq_true (show u < nu by omega), Bool.true_and]
    have h01 := (hG.2.2.2.2.2.2.1 u hu).1
    have ho : o_comes nu m (nI u) false = if m (75 + u) = lN 0 then (-nI 102, m) else (nI (ctb (preS (va_up m (75 + u) (lN 0)) nu).toInt64 60), va_up m (75 + u) (lN 0)) := by simp only [o_comes, qz8, if_true, ix, hcu]; rfl
    refine S_n g 1 (pc' := 15) (lv' := [(0, .ref (ad 0)), (1, .int (nI u))]) (st' := [.ref (ad 0)]) rfl ?_
    refine S_getR g (i := 0) (c := 8) (k := 0) (j := 100) (by decide) (by decide) rfl rfl rfl fl_X8_10 rfl ?_
    refine S_n g 1 (pc' := 19) (lv' := [(0, .ref (ad 0)), (1, .int (nI u))]) (st' := [.int (nI u), .ref (ad 100)]) rfl ?_
    refine S_cV g (i := 100) (As := [.int (nI u)]) (st := []) (w_isPresent ad z0 z1 I J A B u (pS m nu) hu hpr) mw_X7_isPresent lk_X8_161 ⟨Nat.le_of_ble_eq_true rfl, Nat.le_of_ble_eq_true rfl⟩ (by decide) (by decide) rfl rfl (Nat.le_of_ble_eq_true rfl) ⟨Nat.le_of_ble_eq_true rfl, Nat.le_of_ble_eq_true rfl⟩ rfl ?_
    show Sim X (YC ad z0 z1) 22 [(0, .ref (ad 0)), (1, .int (nI u))] [.int (bI ((pS m nu).testBit u))] I J A B 0 0
    refine S_ifB_ne g (tgt := 28) rfl (by decide) (fun qz22 => ?_) (fun qz22 => ?_)
    · skip
      have hm : ¬ m (75 + u) = lN 0 := by rw [hpb] at qz22; have h9 := of_decide_eq_true qz22; rw [h9]; decide
      rw [if_neg hm] at ho
      refine S_n g 1 (pc' := 29) (lv' := [(0, .ref (ad 0)), (1, .int (nI u))]) (st' := [.ref (ad 0)]) rfl ?_
      refine S_getR g (i := 0) (c := 8) (k := 0) (j := 100) (by decide) (by decide) rfl rfl rfl fl_X8_10 rfl ?_
      refine S_n g 1 (pc' := 33) (lv' := [(0, .ref (ad 0)), (1, .int (nI u))]) (st' := [.ref (ad 100), .ref (ad 100)]) rfl ?_
      refine S_getI g (i := 100) (c := 7) (k := 8) (by decide) (by decide) rfl rfl fl_X8_164 rfl ?_
      rw [hpr]
      refine S_n g 6 (pc' := 42) (lv' := [(0, .ref (ad 0)), (1, .int (nI u))]) (st' := [.int ((nI (pS m nu)) &&& (((nI 1) <<< ((nI u) &&& 31)) ^^^ (-nI 1))), .ref (ad 100)]) rfl ?_
      refine S_steq (st' := [.int (nI (pS (va_up m (75 + u) (lN 0)) nu)), .ref (ad 100)]) (by rw [(show (nI (pS m nu)) &&& (((nI 1) <<< ((nI u) &&& 31)) ^^^ (-nI 1)) = nI (pS (va_up m (75 + u) (lN 0)) nu) from ps_off h4 (by omega)).symm]) ?_
      refine S_putI g (i := 100) (c := 7) (k := 8) (kd := 0) (by decide) (by decide) rfl rfl (by decide) fw_X8_164 rfl rfl rfl ?_
      refine S_n g 1 (pc' := 46) (lv' := [(0, .ref (ad 0)), (1, .int (nI u))]) (st' := [.ref (ad 0)]) rfl ?_
      refine S_getR g (i := 0) (c := 8) (k := 0) (j := 100) (by decide) (by decide) rfl rfl rfl fl_X8_10 rfl ?_
      refine S_getI g (i := 100) (c := 7) (k := 8) (by decide) (by decide) rfl rfl fl_X8_164 rfl ?_
      show Sim X (YC ad z0 z1) 52 [(0, .ref (ad 0)), (1, .int (nI u))] [.int (nI (pS (va_up m (75 + u) (lN 0)) nu))] (up2 I 100 8 (nI (pS (va_up m (75 + u) (lN 0)) nu))) J A B 0 0
      refine S_cS g (As := [.int (nI (pS (va_up m (75 + u) (lN 0)) nu))]) (st := []) (sp_bitI (YC ad z0 z1) (up2 I 100 8 (nI (pS (va_up m (75 + u) (lN 0)) nu))) J A B (pS (va_up m (75 + u) (lN 0)) nu) (pS_64 h4)) mw_J6_bitCount_0f7a4 lk_X8_121 ⟨Nat.le_of_ble_eq_true rfl, Nat.le_of_ble_eq_true rfl⟩ rfl (Nat.le_of_ble_eq_true rfl) ⟨Nat.le_of_ble_eq_true rfl, Nat.le_of_ble_eq_true rfl⟩ rfl ?_
      show Sim X (YC ad z0 z1) 55 [(0, .ref (ad 0)), (1, .int (nI u))] [.int (nI (ctb (lN (pS (va_up m (75 + u) (lN 0)) nu)) 60))] (up2 I 100 8 (nI (pS (va_up m (75 + u) (lN 0)) nu))) J A B 0 0
      have h64 := pS_64 (m := va_up m (75 + u) (lN 0)) h4
      exact rtI rt rfl rfl (⟨by rw [ho, pS_pre _ h4, nI_l (by omega)], rfl, by rw [ho]; exact RepW_here hG hR hu _ hnu, fun i hi => ⟨u2r (by omega), rfl, rfl, rfl⟩, rfl, rfl, rfl, rfl, rfl⟩)
    · skip
      have hm : m (75 + u) = lN 0 := by rw [hpb] at qz22; rcases h01 with h | h; (· exact h); (· rw [h] at qz22; exact absurd qz22 (by decide))
      rw [if_pos hm] at ho
      refine S_n g 1 (pc' := 27) (lv' := [(0, .ref (ad 0)), (1, .int (nI u))]) (st' := [.int (-nI 102)]) rfl ?_
      exact rtI rt rfl rfl (⟨by rw [ho], rfl, by rw [ho]; exact hR, kpC_rf I J A B⟩)
  · skip
    refine S_n g 1 (pc' := 13) (lv' := [(0, .ref (ad 0)), (1, .int x)]) (st' := [.int (-nI 101)]) rfl ?_
    exact rtI rt rfl rfl (⟨by simp [o_comes, qz8], rfl, by simp [o_comes, qz8]; exact hR, kpC_rf I J A B⟩)

set_option maxRecDepth 100000 in
set_option maxHeartbeats 4000000 in
theorem c_join (ad : Nat → Nat) (z0 z1 : Bool) (I : FI) (J : FJ) (A : FI) (B : FJ) (x : Int32) (m : Nat → Int64) (hG : WG m) (hR : RepW 100 m I J A B) : Spec M_X8_join [.ref (ad 0), .int x] (YC ad z0 z1) I J A B (cP ad z0 z1 I J A B (.int (k_comes m x true).1) (k_comes m x true).2) := by
  obtain ⟨nf, hnf⟩ : ∃ nf, nf = gN (m 0) := ⟨_, rfl⟩
  obtain ⟨nu, hnu⟩ : ∃ nu, nu = gN (m 1) := ⟨_, rfl⟩
  obtain ⟨nc, hnc⟩ : ∃ nc, nc = gN (m 2) := ⟨_, rfl⟩
  have hD := hG.1
  unfold wc0 at hD
  rw [← hnf, ← hnu, ← hnc] at hD
  obtain ⟨hmF, hmU, hmC, h1, h2, h3, h4, h5⟩ := hD
  have hF : I 100 5 = nI nf := by rw [hR.1.1, hmF, lN_i]
  have hU : I 100 6 = nI nu := by rw [hR.1.2.1, hmU, lN_i]
  have hC : I 100 7 = nI nc := by rw [hR.1.2.2.1, hmC, lN_i]
  unfold k_comes
  rw [← hnu]
  have hpr : I 100 8 = nI (pS m nu) := by rw [hR.2.1, ← hnu, pS_pre _ h4]
  refine Spec_of (by decide) tk_X8_join (Nat.le_of_ble_eq_true rfl) (fun X g rt => ?_)
  show Sim X (YC ad z0 z1) 0 [(0, .ref (ad 0)), (1, .int x)] [] I J A B 0 0
  refine S_n g 1 (pc' := 1) (lv' := [(0, .ref (ad 0)), (1, .int x)]) (st' := [.ref (ad 0)]) rfl ?_
  refine S_getR g (i := 0) (c := 8) (k := 0) (j := 100) (by decide) (by decide) rfl rfl rfl fl_X8_10 rfl ?_
  refine S_n g 1 (pc' := 5) (lv' := [(0, .ref (ad 0)), (1, .int x)]) (st' := [.int x, .ref (ad 100)]) rfl ?_
  refine S_cV g (i := 100) (As := [.int x]) (st := []) (w_hasUser ad z0 z1 I J A B x nu hU h4) mw_X7_hasUser lk_X8_80 ⟨Nat.le_of_ble_eq_true rfl, Nat.le_of_ble_eq_true rfl⟩ (by decide) (by decide) rfl rfl (Nat.le_of_ble_eq_true rfl) ⟨Nat.le_of_ble_eq_true rfl, Nat.le_of_ble_eq_true rfl⟩ rfl ?_
  show Sim X (YC ad z0 z1) 8 [(0, .ref (ad 0)), (1, .int x)] [.int (bI (isIx x nu))] I J A B 0 0
  refine S_ifB_ne g (tgt := 14) rfl (by decide) (fun qz8 => ?_) (fun qz8 => ?_)
  · skip
    obtain ⟨u, hu, hxu⟩ := isIx_t qz8
    subst hxu
    have hcu : (nI u).toNatClampNeg = u := nI_clamp (by omega)
    have hu : u < 6 := by omega
    have hJu : J (120 + 4 * u) 1 = m (63 + u) := (hR.2.2.2.1 u hu).1
    have hIu : I (120 + 4 * u) 2 = (m (69 + u)).toInt32 := (hR.2.2.2.1 u hu).2
    have hmb := mb7 (ad := ad) (z0 := z0) (z1 := z1) hu
    have hin : inP nf (m (63 + u)) := by rw [hnf]; exact (hG.2.2.2.2.2.2.2.1 u hu).1
    have hpb : (pS m nu).testBit u = decide (m (75 + u) = lN 1) := by rw [pS_bit, decide_eq_true (show u < nu by omega), Bool.true_and]
    have h01 := (hG.2.2.2.2.2.2.1 u hu).1
    have ho : o_comes nu m (nI u) true = if m (75 + u) = lN 1 then (-nI 102, m) else (nI (ctb (preS (va_up m (75 + u) (lN 1)) nu).toInt64 60), va_up m (75 + u) (lN 1)) := by simp only [o_comes, qz8, if_true, ix, hcu]; rfl
    refine S_n g 1 (pc' := 15) (lv' := [(0, .ref (ad 0)), (1, .int (nI u))]) (st' := [.ref (ad 0)]) rfl ?_
    refine S_getR g (i := 0) (c := 8) (k := 0) (j := 100) (by decide) (by decide) rfl rfl rfl fl_X8_10 rfl ?_
    refine S_n g 1 (pc' := 19) (lv' := [(0, .ref (ad 0)), (1, .int (nI u))]) (st' := [.int (nI u), .ref (ad 100)]) rfl ?_
    refine S_cV g (i := 100) (As := [.int (nI u)]) (st := []) (w_isPresent ad z0 z1 I J A B u (pS m nu) hu hpr) mw_X7_isPresent lk_X8_161 ⟨Nat.le_of_ble_eq_true rfl, Nat.le_of_ble_eq_true rfl⟩ (by decide) (by decide) rfl rfl (Nat.le_of_ble_eq_true rfl) ⟨Nat.le_of_ble_eq_true rfl, Nat.le_of_ble_eq_true rfl⟩ rfl ?_
    show Sim X (YC ad z0 z1) 22 [(0, .ref (ad 0)), (1, .int (nI u))] [.int (bI ((pS m nu).testBit u))] I J A B 0 0
    refine S_ifB_eq g (tgt := 28) rfl (by decide) (fun qz22 => ?_) (fun qz22 => ?_)
    · skip
      have hm : ¬ m (75 + u) = lN 1 := by rw [hpb] at qz22; exact of_decide_eq_false qz22
      rw [if_neg hm] at ho
      refine S_n g 1 (pc' := 29) (lv' := [(0, .ref (ad 0)), (1, .int (nI u))]) (st' := [.ref (ad 0)]) rfl ?_
      refine S_getR g (i := 0) (c := 8) (k := 0) (j := 100) (by decide) (by decide) rfl rfl rfl fl_X8_10 rfl ?_
      refine S_n g 1 (pc' := 33) (lv' := [(0, .ref (ad 0)), (1, .int (nI u))]) (st' := [.ref (ad 100), .ref (ad 100)]) rfl ?_
      refine S_getI g (i := 100) (c := 7) (k := 8) (by decide) (by decide) rfl rfl fl_X8_164 rfl ?_
      rw [hpr]
      refine S_n g 4 (pc' := 40) (lv' := [(0, .ref (ad 0)), (1, .int (nI u))]) (st' := [.int ((nI (pS m nu)) ||| ((nI 1) <<< ((nI u) &&& 31))), .ref (ad 100)]) rfl ?_
      refine S_steq (st' := [.int (nI (pS (va_up m (75 + u) (lN 1)) nu)), .ref (ad 100)]) (by rw [(show (nI (pS m nu)) ||| ((nI 1) <<< ((nI u) &&& 31)) = nI (pS (va_up m (75 + u) (lN 1)) nu) from ps_on h4 (by omega)).symm]) ?_
      refine S_putI g (i := 100) (c := 7) (k := 8) (kd := 0) (by decide) (by decide) rfl rfl (by decide) fw_X8_164 rfl rfl rfl ?_
      refine S_n g 1 (pc' := 44) (lv' := [(0, .ref (ad 0)), (1, .int (nI u))]) (st' := [.ref (ad 0)]) rfl ?_
      refine S_getR g (i := 0) (c := 8) (k := 0) (j := 100) (by decide) (by decide) rfl rfl rfl fl_X8_10 rfl ?_
      refine S_getI g (i := 100) (c := 7) (k := 8) (by decide) (by decide) rfl rfl fl_X8_164 rfl ?_
      show Sim X (YC ad z0 z1) 50 [(0, .ref (ad 0)), (1, .int (nI u))] [.int (nI (pS (va_up m (75 + u) (lN 1)) nu))] (up2 I 100 8 (nI (pS (va_up m (75 + u) (lN 1)) nu))) J A B 0 0
      refine S_cS g (As := [.int (nI (pS (va_up m (75 + u) (lN 1)) nu))]) (st := []) (sp_bitI (YC ad z0 z1) (up2 I 100 8 (nI (pS (va_up m (75 + u) (lN 1)) nu))) J A B (pS (va_up m (75 + u) (lN 1)) nu) (pS_64 h4)) mw_J6_bitCount_0f7a4 lk_X8_121 ⟨Nat.le_of_ble_eq_true rfl, Nat.le_of_ble_eq_true rfl⟩ rfl (Nat.le_of_ble_eq_true rfl) ⟨Nat.le_of_ble_eq_true rfl, Nat.le_of_ble_eq_true rfl⟩ rfl ?_
      show Sim X (YC ad z0 z1) 53 [(0, .ref (ad 0)), (1, .int (nI u))] [.int (nI (ctb (lN (pS (va_up m (75 + u) (lN 1)) nu)) 60))] (up2 I 100 8 (nI (pS (va_up m (75 + u) (lN 1)) nu))) J A B 0 0
      have h64 := pS_64 (m := va_up m (75 + u) (lN 1)) h4
      exact rtI rt rfl rfl (⟨by rw [ho, pS_pre _ h4, nI_l (by omega)], rfl, by rw [ho]; exact RepW_here hG hR hu _ hnu, fun i hi => ⟨u2r (by omega), rfl, rfl, rfl⟩, rfl, rfl, rfl, rfl, rfl⟩)
    · skip
      have hm : m (75 + u) = lN 1 := by rw [hpb] at qz22; exact of_decide_eq_true qz22
      rw [if_pos hm] at ho
      refine S_n g 1 (pc' := 27) (lv' := [(0, .ref (ad 0)), (1, .int (nI u))]) (st' := [.int (-nI 102)]) rfl ?_
      exact rtI rt rfl rfl (⟨by rw [ho], rfl, by rw [ho]; exact hR, kpC_rf I J A B⟩)
  · skip
    refine S_n g 1 (pc' := 13) (lv' := [(0, .ref (ad 0)), (1, .int x)]) (st' := [.int (-nI 101)]) rfl ?_
    exact rtI rt rfl rfl (⟨by simp [o_comes, qz8], rfl, by simp [o_comes, qz8]; exact hR, kpC_rf I J A B⟩)

set_option maxRecDepth 100000 in
set_option maxHeartbeats 4000000 in
theorem c_setContent (ad : Nat → Nat) (z0 z1 : Bool) (I : FI) (J : FJ) (A : FI) (B : FJ) (x y : Int32) (m : Nat → Int64) (hG : WG m) (hR : RepW 100 m I J A B) (hE : Em m) : Spec M_X8_setContent [.ref (ad 0), .int x, .int y] (YC ad z0 z1) I J A B (cP ad z0 z1 I J A B (.int (o_setContent (gN (m 0)) (gN (m 428)) m x y).1) (o_setContent (gN (m 0)) (gN (m 428)) m x y).2) := by
  obtain ⟨nf, hnf⟩ : ∃ nf, nf = gN (m 0) := ⟨_, rfl⟩
  obtain ⟨nu, hnu⟩ : ∃ nu, nu = gN (m 1) := ⟨_, rfl⟩
  obtain ⟨nc, hnc⟩ : ∃ nc, nc = gN (m 2) := ⟨_, rfl⟩
  have hD := hG.1
  unfold wc0 at hD
  rw [← hnf, ← hnu, ← hnc] at hD
  obtain ⟨hmF, hmU, hmC, h1, h2, h3, h4, h5⟩ := hD
  have hF : I 100 5 = nI nf := by rw [hR.1.1, hmF, lN_i]
  have hU : I 100 6 = nI nu := by rw [hR.1.2.1, hmU, lN_i]
  have hC : I 100 7 = nI nc := by rw [hR.1.2.2.1, hmC, lN_i]
  have hq1 := (WGn hG).2.2.2.1
  obtain ⟨hn, hhn⟩ : ∃ hn, hn = gN (m 428) := ⟨_, rfl⟩
  have hH : I 106 3 = nI hn := by rw [hhn]; exact hR.2.2.2.2.2.2.2.1.2.1
  rw [← hhn] at hq1 ⊢
  rw [← hnf]
  refine Spec_of (by decide) tk_X8_setContent (Nat.le_of_ble_eq_true rfl) (fun X g rt => ?_)
  show Sim X (YC ad z0 z1) 0 [(0, .ref (ad 0)), (1, .int x), (2, .int y)] [] I J A B 0 0
  refine S_n g 1 (pc' := 1) (lv' := [(0, .ref (ad 0)), (1, .int x), (2, .int y)]) (st' := [.ref (ad 0)]) rfl ?_
  refine S_getR g (i := 0) (c := 8) (k := 0) (j := 100) (by decide) (by decide) rfl rfl rfl fl_X8_10 rfl ?_
  refine S_n g 1 (pc' := 5) (lv' := [(0, .ref (ad 0)), (1, .int x), (2, .int y)]) (st' := [.int x, .ref (ad 100)]) rfl ?_
  refine S_cV g (i := 100) (As := [.int x]) (st := []) (w_hasPiece ad z0 z1 I J A B x nf hF h2) mw_X7_hasPiece lk_X8_64 ⟨Nat.le_of_ble_eq_true rfl, Nat.le_of_ble_eq_true rfl⟩ (by decide) (by decide) rfl rfl (Nat.le_of_ble_eq_true rfl) ⟨Nat.le_of_ble_eq_true rfl, Nat.le_of_ble_eq_true rfl⟩ rfl ?_
  show Sim X (YC ad z0 z1) 8 [(0, .ref (ad 0)), (1, .int x), (2, .int y)] [.int (bI (isIx x (12 * nf)))] I J A B 0 0
  refine S_ifB_eq g (tgt := 22) rfl (by decide) (fun qz8 => ?_) (fun qz8 => ?_)
  · skip
    refine S_n g 1 (pc' := 24) (lv' := [(0, .ref (ad 0)), (1, .int x), (2, .int y)]) (st' := [.int (-nI 101)]) rfl ?_
    exact rtI rt rfl rfl (⟨by simp [o_setContent, qz8], rfl, by simp [o_setContent, qz8]; exact hR, kpC_rf I J A B⟩)
  · skip
    refine S_n g 1 (pc' := 12) (lv' := [(0, .ref (ad 0)), (1, .int x), (2, .int y)]) (st' := [.int y]) rfl ?_
    refine S_if_lt g (tgt := 22) rfl (by decide) (fun qz12 => ?_) (fun qz12 => ?_)
    · skip
      have hz := ix_lo (n := 256) qz12
      refine S_n g 1 (pc' := 24) (lv' := [(0, .ref (ad 0)), (1, .int x), (2, .int y)]) (st' := [.int (-nI 101)]) rfl ?_
      exact rtI rt rfl rfl (⟨by simp [o_setContent, qz8, hz], rfl, by simp [o_setContent, qz8, hz]; exact hR, kpC_rf I J A B⟩)
    · skip
      refine S_n g 2 (pc' := 19) (lv' := [(0, .ref (ad 0)), (1, .int x), (2, .int y)]) (st' := [.int (nI 255), .int y]) rfl ?_
      refine S_ic_le g (tgt := 25) rfl (by decide) (fun qz19 => ?_) (fun qz19 => ?_)
      · skip
        have hz := ix_le qz12 qz19 (by decide)
        refine S_n g 1 (pc' := 26) (lv' := [(0, .ref (ad 0)), (1, .int x), (2, .int y)]) (st' := [.ref (ad 0)]) rfl ?_
        refine S_getR g (i := 0) (c := 8) (k := 0) (j := 100) (by decide) (by decide) rfl rfl rfl fl_X8_10 rfl ?_
        refine S_getR g (i := 100) (c := 7) (k := 3) (j := 106) (by decide) (by decide) rfl rfl rfl fl_X8_68 rfl ?_
        refine S_getI g (i := 106) (c := 6) (k := 3) (by decide) (by decide) rfl rfl fl_X8_72 rfl ?_
        rw [hH]
        refine S_ifN_le g (tgt := 41) (by omega) rfl (by decide) (fun qz35 => ?_) (fun qz35 => ?_)
        · skip
          obtain ⟨p, hp, hxp⟩ := isIx_t qz8
          subst hxp
          have hcp : (nI p).toNatClampNeg = p := nI_clamp (by omega)
          obtain ⟨c, hc, hxc⟩ := isIx_t hz
          subst hxc
          have hcc : (nI c).toNatClampNeg = c := nI_clamp (by omega)
          have ho : o_setContent nf hn m (nI p) (nI c) = ((m (3 + p)).toInt32, va_up m (3 + p) (lN c)) := by simp only [o_setContent, qz8, hz, if_true, if_neg (show ¬ 0 < hn by omega), ix, hcp, hcc]
          refine S_n g 1 (pc' := 42) (lv' := [(0, .ref (ad 0)), (1, .int (nI p)), (2, .int (nI c))]) (st' := [.ref (ad 0)]) rfl ?_
          refine S_getR g (i := 0) (c := 8) (k := 0) (j := 100) (by decide) (by decide) rfl rfl rfl fl_X8_10 rfl ?_
          refine S_getR g (i := 100) (c := 7) (k := 0) (j := 101) (by decide) (by decide) rfl rfl rfl fl_X8_77 rfl ?_
          refine S_n g 1 (pc' := 49) (lv' := [(0, .ref (ad 0)), (1, .int (nI p)), (2, .int (nI c))]) (st' := [.int (nI p), .ref (ad 101)]) rfl ?_
          refine S_ialdN g (i := 101) (e := p) (by decide) rfl (show p < 60 from by omega) (show (60 : Nat) < 2 ^ 31 from by decide) rfl ?_
          rw [show A 101 p = (m (3 + p)).toInt32 from hR.2.2.1 p (by omega)]
          refine S_n g 2 (pc' := 52) (lv' := [(0, .ref (ad 0)), (1, .int (nI p)), (2, .int (nI c)), (3, .int (m (3 + p)).toInt32)]) (st' := [.ref (ad 0)]) rfl ?_
          refine S_getR g (i := 0) (c := 8) (k := 0) (j := 100) (by decide) (by decide) rfl rfl rfl fl_X8_10 rfl ?_
          refine S_getR g (i := 100) (c := 7) (k := 0) (j := 101) (by decide) (by decide) rfl rfl rfl fl_X8_77 rfl ?_
          refine S_n g 2 (pc' := 60) (lv' := [(0, .ref (ad 0)), (1, .int (nI p)), (2, .int (nI c)), (3, .int (m (3 + p)).toInt32)]) (st' := [.int (nI c), .int (nI p), .ref (ad 101)]) rfl ?_
          refine S_iastN g (i := 101) (e := p) (by decide) rfl (show p < 60 from by omega) (show (60 : Nat) < 2 ^ 31 from by decide) rfl ?_
          show Sim X (YC ad z0 z1) 61 [(0, .ref (ad 0)), (1, .int (nI p)), (2, .int (nI c)), (3, .int (m (3 + p)).toInt32)] [] I J (va_up A 101 (va_up (A 101) p (nI c))) B 0 0
          refine S_n g 1 (pc' := 62) (lv' := [(0, .ref (ad 0)), (1, .int (nI p)), (2, .int (nI c)), (3, .int (m (3 + p)).toInt32)]) (st' := [.int (m (3 + p)).toInt32]) rfl ?_
          exact rtI rt rfl rfl (⟨by rw [ho], rfl, by rw [ho]; exact RepW_content hG hR hE (by omega) (by omega) c, fun i hi => ⟨rfl, rfl, va_up_ne _ _ (by omega), rfl⟩, rfl, rfl, rfl, rfl, rfl⟩)
        · skip
          have h9 : 0 < hn := by omega
          refine S_n g 1 (pc' := 40) (lv' := [(0, .ref (ad 0)), (1, .int x), (2, .int y)]) (st' := [.int (-nI 102)]) rfl ?_
          exact rtI rt rfl rfl (⟨by simp [o_setContent, qz8, hz, h9], rfl, by simp [o_setContent, qz8, hz, h9]; exact hR, kpC_rf I J A B⟩)
      · skip
        have hz := ix_gt qz19 (by decide)
        refine S_n g 1 (pc' := 24) (lv' := [(0, .ref (ad 0)), (1, .int x), (2, .int y)]) (st' := [.int (-nI 101)]) rfl ?_
        exact rtI rt rfl rfl (⟨by simp [o_setContent, qz8, hz], rfl, by simp [o_setContent, qz8, hz]; exact hR, kpC_rf I J A B⟩)
