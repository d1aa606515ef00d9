/-! the other calls: reset, the text, run, why, save, restore -/
section Ops2
variable {s : ST}
theorem op_reset (hM : InvM s) (x y z : Int32) : OP M_X8_reset M_X9_reset [.int x, .int y, .int z] s isI := by
  by_cases hc : isIn x 1 5 = true ∧ isIn y 1 6 = true ∧ isIn z 0 60 = true
  · refine ⟨.int (nI (12 * ix x)), s.2.1, fun s' => ∃ m', isBeg (ix x) (ix y) (ix z) m' ∧ s' = sM s m', ⟨_, rfl⟩, fun ad I J A B h => Spec_mono (c_reset ad _ _ I J A B x y z s.1.1 h.1) (fun v' Y' I' J' A' B' q => ?_), fun ad I J A B h => Spec_mono (sp_reset ad I J A B x y z) (fun v' Y' I' J' A' B' q => ?_), fun s' e => ?_⟩
    · obtain ⟨q1, q2, q3⟩ := q
      rw [if_pos hc] at q3
      refine ⟨q3.1, ⟨ad, q1, rfl⟩, fun s' e => ?_⟩
      obtain ⟨m', hm', rfl⟩ := e
      exact InvC_kp h (q3.2 m' hm') q2
    · obtain ⟨q1, rfl, rfl, rfl, q3⟩ := q
      rw [if_pos hc] at q3
      obtain ⟨q4, m', rfl, hm'⟩ := q3
      exact ⟨q4, q1, sM s m', ⟨m', hm', rfl⟩, InvR_kp h (va_up_self _ _ _) ⟨⟨rfl, rfl, rfl, rfl⟩, rfl, ⟨rfl, rfl, rfl⟩, va_up_ne _ _ (by omega)⟩⟩
    · obtain ⟨m', hm', rfl⟩ := e
      obtain ⟨c1, c2, c3⟩ := hc
      unfold isIn at c1 c2 c3
      have c1 := of_decide_eq_true c1
      have c2 := of_decide_eq_true c2
      have c3 := of_decide_eq_true c3
      have ex : ix x = x.toInt.toNat := rfl
      have ey : ix y = y.toInt.toNat := rfl
      have ez : ix z = z.toInt.toNat := rfl
      refine ⟨InvM_m hM (WE_beg ?_ ?_ ?_ ?_ ?_ hm'), rfl⟩ <;> omega
  · refine ⟨.int (-nI 101), s.2.1, fun s' => s' = s, ⟨_, rfl⟩, fun ad I J A B h => Spec_mono (c_reset ad _ _ I J A B x y z s.1.1 h.1) (fun v' Y' I' J' A' B' q => ?_), fun ad I J A B h => Spec_mono (sp_reset ad I J A B x y z) (fun v' Y' I' J' A' B' q => ?_), fun s' e => by subst e; exact ⟨hM, rfl⟩⟩
    · obtain ⟨q1, q2, q3⟩ := q
      rw [if_neg hc] at q3
      exact ⟨q3.1, ⟨ad, q1, rfl⟩, fun s' e => e ▸ InvC_kp h q3.2 q2⟩
    · obtain ⟨q1, rfl, rfl, rfl, q3⟩ := q
      rw [if_neg hc] at q3
      obtain ⟨q4, rfl⟩ := q3
      exact ⟨q4, q1, s, rfl, h⟩
/-- what changes no world, keeps what is shown of the worlds -/
theorem InvC_lo {s : ST} {tc : Nat → Nat} {n : Nat} {I : FI} {J : FJ} {A : FI} {B : FJ} {I' : FI} {A' : FI} (h : InvC s I J A B) (hi : ∀ i, 100 ≤ i → I' i = I i) (ha : ∀ i, 100 ≤ i → A' i = A i) (h1 : I' 13 1 = nI n) (h2 : RTc A' tc n) (h3 : I' 0 7 = I 0 7) (h4 : A' 11 0 = A 11 0) : InvC (s.1, s.2.1, tc, n, s.2.2.2.2) I' J A' B := by
  obtain ⟨g0, g1, g2, g3, g4, g5, g6, g7⟩ := h
  exact ⟨RepW_frb g0 (fun i a _ => ⟨hi i a, rfl, ha i a, rfl⟩), fun q => RepW_frb (g1 q) (fun i a _ => ⟨hi i (by omega), rfl, ha i (by omega), rfl⟩), fun q => RepW_frb (g2 q) (fun i a _ => ⟨hi i (by omega), rfl, ha i (by omega), rfl⟩), h1, h2, h3.trans g5, h4.trans g6, g7⟩
theorem op_type (hM : InvM s) (x : Int32) : OP M_X8_type M_X9_type [.int x] s isI := by
  by_cases hc : isIx x 128 = true ∧ s.2.2.2.1 < 80
  · refine ⟨.int (if isIx x 128 = true then (if s.2.2.2.1 = 80 then -nI 103 else nI (s.2.2.2.1 + 1)) else -nI 101), s.2.1, fun s' => s' = (s.1, s.2.1, (fun i => if i = s.2.2.2.1 then ix x else s.2.2.1 i), s.2.2.2.1 + 1, s.2.2.2.2), ⟨_, rfl⟩, fun ad I J A B h => Spec_mono (c_type ad _ _ I J A B x s.2.2.2.1 h.2.2.2.1 h.2.2.2.2.1.1) (fun v' Y' I' J' A' B' q => ?_), fun ad I J A B h => Spec_mono (sp_type ad I J A B x s.2.2.2.1 h.2.2.2.2.1 h.2.2.2.2.2.1.1) (fun v' Y' I' J' A' B' q => ?_), fun s' e => by subst e; exact ⟨hM, rfl⟩⟩
    · rw [if_pos hc, if_pos hc] at q
      obtain ⟨q1, q2, rfl, rfl, rfl, rfl⟩ := q
      refine ⟨q1, ⟨ad, q2, rfl⟩, fun s' e => ?_⟩
      subst e
      refine InvC_lo h (fun i hi => u2r (by omega)) (fun i hi => va_up_ne _ _ (by omega)) (up2_same _ _ _ _) ⟨by omega, fun i hi => ?_⟩ (up2_ne _ _ _ _ (by omega)) (by rw [va_up_ne _ _ (by omega)])
      show va_up A 14 _ 14 i = nI (if i = s.2.2.2.1 then ix x else s.2.2.1 i) ∧ (if i = s.2.2.2.1 then ix x else s.2.2.1 i) < 128
      rw [va_up_self]
      by_cases e : i = s.2.2.2.1
      · subst e
        rw [va_up_self, if_pos rfl]
        exact ⟨ix_nI hc.1, ix_lt hc.1⟩
      · rw [va_up_ne _ _ e, if_neg e]
        exact h.2.2.2.2.1.2 i (by omega)
    · rw [if_pos hc, if_pos hc] at q
      obtain ⟨q1, q2, rfl, rfl, rfl, rfl⟩ := q
      obtain ⟨h0, h1, h2, h3, h4, h5, h6⟩ := h
      refine ⟨q1, q2, _, rfl, h0, by rw [va_up_ne _ _ (by omega)]; exact h1, h2, h3, up2_same _ _ _ _, ⟨by show s.2.2.2.1 + 1 ≤ 80; omega, fun i hi => ?_⟩, (up2_ix _ _ _ (by omega)).trans h6⟩
      have hi : i < s.2.2.2.1 + 1 := hi
      show va_up A 504 _ 504 i = nI (if i = s.2.2.2.1 then ix x else s.2.2.1 i) ∧ (if i = s.2.2.2.1 then ix x else s.2.2.1 i) < 128
      rw [va_up_self]
      by_cases e : i = s.2.2.2.1
      · subst e
        rw [va_up_self, if_pos rfl]
        exact ⟨ix_nI hc.1, ix_lt hc.1⟩
      · rw [va_up_ne _ _ e, if_neg e]
        exact h5.2 i (by omega)
  · refine ⟨.int (if isIx x 128 = true then (if s.2.2.2.1 = 80 then -nI 103 else nI (s.2.2.2.1 + 1)) else -nI 101), s.2.1, fun s' => s' = s, ⟨_, rfl⟩, fun ad I J A B h => Spec_mono (c_type ad _ _ I J A B x s.2.2.2.1 h.2.2.2.1 h.2.2.2.2.1.1) (fun v' Y' I' J' A' B' q => ?_), fun ad I J A B h => Spec_mono (sp_type ad I J A B x s.2.2.2.1 h.2.2.2.2.1 h.2.2.2.2.2.1.1) (fun v' Y' I' J' A' B' q => ?_), fun s' e => by subst e; exact ⟨hM, rfl⟩⟩
    · rw [if_neg hc, if_neg hc] at q
      obtain ⟨q1, q2, rfl, rfl, rfl, rfl⟩ := q
      exact ⟨q1, ⟨ad, q2, rfl⟩, fun s' e => e ▸ h⟩
    · rw [if_neg hc, if_neg hc] at q
      obtain ⟨q1, q2, rfl, rfl, rfl, rfl⟩ := q
      exact ⟨q1, q2, s, rfl, h⟩
theorem op_clearText (hM : InvM s) : OP M_X8_clearText M_X9_clearText [] s isI := by
  refine ⟨.int (nI s.2.2.2.1), s.2.1, fun s' => s' = (s.1, s.2.1, s.2.2.1, 0, s.2.2.2.2), ⟨_, rfl⟩, fun ad I J A B h => Spec_mono (c_clearText ad _ _ I J A B s.2.2.2.1 h.2.2.2.1) (fun v' Y' I' J' A' B' q => ?_), fun ad I J A B h => Spec_mono (sp_clearText ad I J A B s.2.2.2.1 h.2.2.2.2.1) (fun v' Y' I' J' A' B' q => ?_), fun s' e => by subst e; exact ⟨hM, rfl⟩⟩
  · obtain ⟨q1, q2, rfl, rfl, rfl, rfl⟩ := q
    refine ⟨q1, ⟨ad, q2, rfl⟩, fun s' e => ?_⟩
    subst e
    exact InvC_lo h (fun i hi => u2r (by omega)) (fun i hi => rfl) (up2_same _ _ _ _) ⟨by omega, fun i hi => absurd hi (Nat.not_lt_zero i)⟩ (up2_ne _ _ _ _ (by omega)) rfl
  · obtain ⟨q1, q2, rfl, rfl, rfl, rfl⟩ := q
    obtain ⟨h0, h1, h2, h3, h4, h5, h6⟩ := h
    exact ⟨q1, q2, _, rfl, h0, h1, h2, h3, up2_same _ _ _ _, ⟨Nat.zero_le _, fun i hi => absurd hi (Nat.not_lt_zero i)⟩, (up2_ix _ _ _ (by omega)).trans h6⟩
theorem op_fault (hM : InvM s) : OP M_X8_fault M_X9_fault [] s isI := by
  refine ⟨.int (hI (o_fault s.2.2.1 s.2.2.2.1).1), s.2.1, fun s' => s' = s, ⟨_, rfl⟩, fun ad I J A B h => Spec_mono (c_fault ad _ _ I J A B s.2.2.1 s.2.2.2.1 h.2.2.2.1 h.2.2.2.2.1) (fun v' Y' I' J' A' B' q => ?_), fun ad I J A B h => Spec_mono (sp_fault ad I J A B s.2.2.1 s.2.2.2.1 h.2.2.2.2.1 h.2.2.2.2.2.1) (fun v' Y' I' J' A' B' q => ?_), fun s' e => by subst e; exact ⟨hM, rfl⟩⟩
  · obtain ⟨q1, q2, rfl, rfl, rfl, vb, f1, f2, st, a, rfl⟩ := q
    refine ⟨q1, ⟨ad, q2, rfl⟩, fun s' e => ?_⟩
    subst e
    exact InvC_lo h (fun i hi => funext fun k => rdH_k (Or.inl (by omega))) (fun i hi => rfl) ((rdH_k (Or.inr (by omega))).trans h.2.2.2.1) h.2.2.2.2.1 (rdH_k (Or.inl (by omega))) rfl
  · obtain ⟨q1, q2, rfl, rfl, rfl, -, r', rfl, -⟩ := q
    obtain ⟨h0, h1, h2, h3, h4, h5, h6⟩ := h
    refine ⟨q1, q2, s, rfl, h0, by rw [va_up_ne _ _ (by omega)]; exact h1, h2, h3, ?_, ⟨h5.1, fun i hi => by rw [va_up_ne _ _ (by omega)]; exact h5.2 i hi⟩, ?_⟩
    · rw [up2_ix _ _ _ (by omega), up2_ix _ _ _ (by omega)]; exact h4
    · rw [up2_ix _ _ _ (by omega), up2_ix _ _ _ (by omega)]; exact h6
theorem op_run (hM : InvM s) : OP M_X8_run M_X9_run [] s isI := by
  refine ⟨.int (o_run s.2.2.1 s.2.2.2.1 s.1.1 s.2.2.2.2).1, s.2.1, fun s' => s' = (((o_run s.2.2.1 s.2.2.2.1 s.1.1 s.2.2.2.2).2.2, s.1.2), s.2.1, s.2.2.1, s.2.2.2.1, (o_run s.2.2.1 s.2.2.2.1 s.1.1 s.2.2.2.2).2.1), ⟨_, rfl⟩, fun ad I J A B h => Spec_mono (c_run ad _ _ I J A B s.2.2.1 s.2.2.2.1 h.2.2.2.1 h.2.2.2.2.1 s.1.1 (WE_g hM.1) h.1) (fun v' Y' I' J' A' B' q => ?_), fun ad I J A B h => Spec_mono (sp_run ad I J A B s.2.2.1 s.2.2.2.1 h.2.2.2.2.1 h.2.2.2.2.2.1 s.1.1 h.1 (WE_f hM.1)) (fun v' Y' I' J' A' B' q => ?_), fun s' e => ?_⟩
  · obtain ⟨q1, q2, q3, q4, k0, k1, k2, k3, k4⟩ := q
    obtain ⟨h0, h1, h2, h3, h4, h5, h6, h7⟩ := h
    rw [h5] at q1 q3 q4
    refine ⟨q1, ⟨ad, q2, rfl⟩, fun s' e => ?_⟩
    subst e
    exact ⟨q4, fun q => RepW_frb (h1 q) (fun i a b => k0 i (by omega)), fun q => RepW_frb (h2 q) (fun i a b => k0 i (by omega)), k1.trans h3, ⟨h4.1, fun i hi => by rw [k2]; exact h4.2 i hi⟩, q3, k3.trans h6, k4.trans h7⟩
  · obtain ⟨q1, q2, q3, q4, k1, k2, k3, k4⟩ := q
    obtain ⟨h0, h1, h2, h3, h4, h5, h6⟩ := h
    rw [h6] at q1 q3 q4
    refine ⟨q1, q2, _, rfl, q4, ?_, ?_, ?_, k1.trans h4, ⟨h5.1, fun i hi => ?_⟩, q3⟩
    · rw [k2]; exact h1
    · rw [k4]; exact h2
    · rw [k4]; exact h3
    · rw [k3]; exact h5.2 i hi
  · subst e
    exact ⟨⟨WE_run hM.1 _ _ _, hM.2⟩, rfl⟩
theorem op_why (hM : InvM s) : OP M_X8_why M_X9_why [] s isI := by
  refine ⟨.int s.2.2.2.2, s.2.1, fun s' => s' = s, ⟨_, rfl⟩, fun ad I J A B h => Spec_mono (c_why ad _ _ I J A B) (fun v' Y' I' J' A' B' q => ?_), fun ad I J A B h => Spec_mono (sp_why ad I J A B) (fun v' Y' I' J' A' B' q => ?_), fun s' e => by subst e; exact ⟨hM, rfl⟩⟩
  · obtain ⟨q1, q2, rfl, rfl, rfl, rfl⟩ := q
    exact ⟨by rw [q1, h.2.2.2.2.2.1], ⟨ad, q2, rfl⟩, fun s' e => e ▸ h⟩
  · obtain ⟨q1, q2, rfl, rfl, rfl, rfl⟩ := q
    exact ⟨by rw [q1, h.2.2.2.2.2.2], q2, s, rfl, h⟩
theorem ix2 {x : Int32} (h : isIx x 2 = true) : (x = nI 0 ∧ ix x = 0) ∨ (x = nI 1 ∧ ix x = 1) := by
  have h1 := ix_nI h
  have h2 := ix_lt h
  rcases Nat.lt_or_ge (ix x) 1 with q | q
  · have e : ix x = 0 := by omega
    rw [e] at h1; exact Or.inl ⟨h1, e⟩
  · have e : ix x = 1 := by omega
    rw [e] at h1; exact Or.inr ⟨h1, e⟩
theorem InvC_B {s : ST} {b : Nat} {I : FI} {J : FJ} {A : FI} {B : FJ} {I' : FI} {J' : FJ} {A' : FI} {B' : FJ} (h : InvC s I J A B) (hb : 100 ≤ b) (k : kpB b I J A B I' J' A' B') : (b ≠ 100 → b = 200 ∨ b = 300 → RepW 100 s.1.1 I' J' A' B') ∧ (b = 100 ∨ b = 300 → s.2.1.1 = true → RepW 200 s.1.2.1 I' J' A' B') ∧ (b = 100 ∨ b = 200 → s.2.1.2 = true → RepW 300 s.1.2.2 I' J' A' B') ∧ I' 13 1 = nI s.2.2.2.1 ∧ RTc A' s.2.2.1 s.2.2.2.1 ∧ I' 0 7 = s.2.2.2.2 ∧ A' 11 0 = nI 0 ∧ B' 12 0 = lN 0 := by
  obtain ⟨g0, g1, g2, g3, g4, g5, g6, g7⟩ := h
  refine ⟨fun _ z => RepW_frb g0 (fun i a c => k i (by omega)), fun z q => RepW_frb (g1 q) (fun i a c => k i (by omega)), fun z q => RepW_frb (g2 q) (fun i a c => k i (by omega)), ?_, ⟨g4.1, fun i hi => ?_⟩, ?_, ?_, ?_⟩
  · rw [(k 13 (by omega)).1]; exact g3
  · rw [(k 14 (by omega)).2.2.1]; exact g4.2 i hi
  · rw [(k 0 (by omega)).1]; exact g5
  · rw [(k 11 (by omega)).2.2.1]; exact g6
  · rw [(k 12 (by omega)).2.2.2]; exact g7
theorem op_save (hM : InvM s) (x : Int32) : OP M_X8_save M_X9_save [.int x] s isI := by
  have g := WE_g hM.1
  by_cases hc : isIx x 2 = true
  · rcases ix2 hc with ⟨rfl, e⟩ | ⟨rfl, e⟩
    · refine ⟨.int (s.1.1 428).toInt32, (true, s.2.1.2), fun s' => s' = ((s.1.1, s.1.1, s.1.2.2), (true, s.2.1.2), s.2.2), ⟨_, rfl⟩, fun ad I J A B h => ?_, fun ad I J A B h => Spec_mono (sp_save ad I J A B _) (fun v' Y' I' J' A' B' q => ?_), fun s' e => by subst e; exact ⟨⟨hM.1, fun _ => hM.1, hM.2.2⟩, rfl⟩⟩
      · have fin : ∀ I' J' A' B', RepW 200 s.1.1 I' J' A' B' → kpB 200 I J A B I' J' A' B' → ∀ s', s' = ((s.1.1, s.1.1, s.1.2.2), (true, s.2.1.2), s.2.2) → InvC s' I' J' A' B' := fun I' J' A' B' hR hk s' e => by
          subst e
          have q := InvC_B h (by omega) hk
          exact ⟨q.1 (by omega) (by omega), fun _ => hR, fun z => q.2.2.1 (by omega) z, q.2.2.2⟩
        obtain ⟨⟨m, s0, s1⟩, ⟨z0, z1⟩, tc, n, w⟩ := s
        cases z0 with
        | true => exact Spec_mono (c_save_y0 ad z1 I J A B m s0 g h.1 (h.2.1 rfl)) (fun v' Y' I' J' A' B' q => ⟨q.1, ⟨ad, q.2.1, rfl⟩, fin _ _ _ _ q.2.2.1 q.2.2.2⟩)
        | false => exact Spec_mono (c_save_n0 ad z1 I J A B m g h.1) (fun v' Y' I' J' A' B' q => ⟨q.1, q.2.1, fin _ _ _ _ q.2.2.1 q.2.2.2⟩)
      · rw [if_pos hc, if_pos hc, if_pos hc, e] at q
        obtain ⟨q1, q2, rfl, rfl, rfl, rfl⟩ := q
        obtain ⟨h0, h1, h2, h3, h4, h5, h6⟩ := h
        refine ⟨by rw [q1, h0], q2, _, rfl, by rw [va_up_ne _ _ (by omega)]; exact h0, ?_, fun _ j hj => ?_, fun z j hj => ?_, h4, ⟨h5.1, fun i hi => by rw [va_up_ne _ _ (by omega)]; exact h5.2 i hi⟩, h6⟩
        · rw [va_up_self]
          exact ⟨va_up_self _ _ _, (va_up_ne _ _ (by omega)).trans h1.2⟩
        · rw [va_up_self, h0]
          unfold svR
          rw [if_pos (by omega)]
          rfl
        · rw [va_up_self]
          unfold svR
          rw [if_neg (by omega)]
          exact h3 z j hj
    · refine ⟨.int (s.1.1 428).toInt32, (s.2.1.1, true), fun s' => s' = ((s.1.1, s.1.2.1, s.1.1), (s.2.1.1, true), s.2.2), ⟨_, rfl⟩, fun ad I J A B h => ?_, fun ad I J A B h => Spec_mono (sp_save ad I J A B _) (fun v' Y' I' J' A' B' q => ?_), fun s' e => by subst e; exact ⟨⟨hM.1, hM.2.1, fun _ => hM.1⟩, rfl⟩⟩
      · have fin : ∀ I' J' A' B', RepW 300 s.1.1 I' J' A' B' → kpB 300 I J A B I' J' A' B' → ∀ s', s' = ((s.1.1, s.1.2.1, s.1.1), (s.2.1.1, true), s.2.2) → InvC s' I' J' A' B' := fun I' J' A' B' hR hk s' e => by
          subst e
          have q := InvC_B h (by omega) hk
          exact ⟨q.1 (by omega) (by omega), fun z => q.2.1 (by omega) z, fun _ => hR, q.2.2.2⟩
        obtain ⟨⟨m, s0, s1⟩, ⟨z0, z1⟩, tc, n, w⟩ := s
        cases z1 with
        | true => exact Spec_mono (c_save_y1 ad z0 I J A B m s1 g h.1 (h.2.2.1 rfl)) (fun v' Y' I' J' A' B' q => ⟨q.1, ⟨ad, q.2.1, rfl⟩, fin _ _ _ _ q.2.2.1 q.2.2.2⟩)
        | false => exact Spec_mono (c_save_n1 ad z0 I J A B m g h.1) (fun v' Y' I' J' A' B' q => ⟨q.1, q.2.1, fin _ _ _ _ q.2.2.1 q.2.2.2⟩)
      · rw [if_pos hc, if_pos hc, if_pos hc, e] at q
        obtain ⟨q1, q2, rfl, rfl, rfl, rfl⟩ := q
        obtain ⟨h0, h1, h2, h3, h4, h5, h6⟩ := h
        refine ⟨by rw [q1, h0], q2, _, rfl, by rw [va_up_ne _ _ (by omega)]; exact h0, ?_, fun z j hj => ?_, fun _ j hj => ?_, h4, ⟨h5.1, fun i hi => by rw [va_up_ne _ _ (by omega)]; exact h5.2 i hi⟩, h6⟩
        · rw [va_up_self]
          exact ⟨(va_up_ne _ _ (by omega)).trans h1.1, va_up_self _ _ _⟩
        · rw [va_up_self]
          unfold svR
          rw [if_neg (by omega)]
          exact h2 z j hj
        · rw [va_up_self, h0]
          unfold svR
          rw [if_pos (by omega), show 621 + j - 621 * 1 = j by omega]
  · have hf : isIx x 2 = false := by cases q : isIx x 2 with | false => rfl | true => exact absurd q hc
    refine ⟨.int (-nI 101), s.2.1, fun s' => s' = s, ⟨_, rfl⟩, fun ad I J A B h => Spec_mono (c_save_bad ad _ _ I J A B x hf) (fun v' Y' I' J' A' B' q => ?_), fun ad I J A B h => Spec_mono (sp_save ad I J A B x) (fun v' Y' I' J' A' B' q => ?_), fun s' e => by subst e; exact ⟨hM, rfl⟩⟩
    · obtain ⟨q1, q2, rfl, rfl, rfl, rfl⟩ := q
      exact ⟨q1, ⟨ad, q2, rfl⟩, fun s' e => e ▸ h⟩
    · rw [if_neg hc, if_neg hc, if_neg hc] at q
      obtain ⟨q1, q2, rfl, rfl, rfl, rfl⟩ := q
      exact ⟨q1, q2, s, rfl, h⟩
theorem op_restore (hM : InvM s) (x : Int32) : OP M_X8_restore M_X9_restore [.int x] s isI := by
  have hz : ∀ (I : FI) (J : FJ) (A : FI) (B : FJ), InvR s I J A B → ∀ i, i < 2 → A 503 i = bI ((fun k => if k = 0 then s.2.1.1 else s.2.1.2) i) := fun I J A B h i hi => by
    rcases Nat.lt_or_ge i 1 with q | q
    · have e : i = 0 := by omega
      subst e; exact h.2.1.1
    · have e : i = 1 := by omega
      subst e; exact h.2.1.2
  by_cases hc : isIx x 2 = true
  · rcases ix2 hc with ⟨rfl, e⟩ | ⟨rfl, e⟩
    · obtain ⟨⟨m, s0, s1⟩, ⟨z0, z1⟩, tc, n, w⟩ := s
      cases z0 with
      | true =>
        have w0 : WE s0 := hM.2.1 rfl
        refine ⟨.int (s0 428).toInt32, (true, z1), fun s' => ∃ m', (∀ j, j < 621 → m' j = s0 j) ∧ s' = ((m', s0, s1), (true, z1), tc, n, w), ⟨_, rfl⟩, fun ad I J A B h => Spec_mono (c_restore_y0 ad z1 I J A B m s0 (WE_g w0) h.1 (h.2.1 rfl)) (fun v' Y' I' J' A' B' q => ⟨q.1, ⟨ad, q.2.1, rfl⟩, fun s' e2 => ?_⟩), fun ad I J A B h => Spec_mono (sp_restore ad I J A B _ _ (hz I J A B h)) (fun v' Y' I' J' A' B' q => ?_), fun s' e2 => ?_⟩
        · obtain ⟨m', hm', rfl⟩ := e2
          have k := InvC_B h (by omega) q.2.2.2
          exact ⟨RepW_c (WE_g w0) q.2.2.1 hm', fun z => k.2.1 (by omega) z, fun z => k.2.2.1 (by omega) z, k.2.2.2⟩
        · rw [if_pos hc, e, if_pos (show (if 0 = 0 then true else z1) = true from rfl), if_pos ⟨hc, rfl⟩] at q
          obtain ⟨q1, q2, rfl, rfl, rfl, rfl⟩ := q
          obtain ⟨h0, h1, h2, h3, h4, h5, h6⟩ := h
          refine ⟨by rw [q1]; exact congrArg (fun v : Int64 => some (Value.int v.toInt32)) (h2 rfl 428 (by omega)), q2, _, ⟨rsR (B 501) (B 502) (621 * 0) 621, fun j hj => ?_, rfl⟩, va_up_self _ _ _, h1, fun z j hj => by rw [va_up_ne _ _ (by omega)]; exact h2 z j hj, fun z j hj => by rw [va_up_ne _ _ (by omega)]; exact h3 z j hj, h4, h5, h6⟩
          unfold rsR
          rw [if_pos hj, show 621 * 0 + j = j by omega]
          exact h2 rfl j hj
        · obtain ⟨m', hm', rfl⟩ := e2
          exact ⟨⟨WE_c w0 hm', hM.2⟩, rfl⟩
      | false =>
        refine ⟨.int (-nI 102), (false, z1), fun s' => s' = ((m, s0, s1), (false, z1), tc, n, w), ⟨_, rfl⟩, fun ad I J A B h => Spec_mono (c_restore_n0 ad z1 I J A B) (fun v' Y' I' J' A' B' q => ?_), fun ad I J A B h => Spec_mono (sp_restore ad I J A B _ _ (hz I J A B h)) (fun v' Y' I' J' A' B' q => ?_), fun s' e2 => by subst e2; exact ⟨hM, rfl⟩⟩
        · obtain ⟨q1, q2, rfl, rfl, rfl, rfl⟩ := q
          exact ⟨q1, ⟨ad, q2, rfl⟩, fun s' e2 => e2 ▸ h⟩
        · rw [if_pos hc, e, if_neg (show ¬ (if 0 = 0 then false else z1) = true from Bool.false_ne_true), if_neg (fun q => absurd q.2 (show ¬ (if 0 = 0 then false else z1) = true from Bool.false_ne_true))] at q
          obtain ⟨q1, q2, rfl, rfl, rfl, rfl⟩ := q
          obtain ⟨h0, h1, h2, h3, h4, h5, h6⟩ := h
          exact ⟨q1, q2, _, rfl, (va_up_self _ _ _).trans h0, h1, fun z j hj => by rw [va_up_ne _ _ (by omega)]; exact h2 z j hj, fun z j hj => by rw [va_up_ne _ _ (by omega)]; exact h3 z j hj, h4, h5, h6⟩
    · obtain ⟨⟨m, s0, s1⟩, ⟨z0, z1⟩, tc, n, w⟩ := s
      cases z1 with
      | true =>
        have w1 : WE s1 := hM.2.2 rfl
        refine ⟨.int (s1 428).toInt32, (z0, true), fun s' => ∃ m', (∀ j, j < 621 → m' j = s1 j) ∧ s' = ((m', s0, s1), (z0, true), tc, n, w), ⟨_, rfl⟩, fun ad I J A B h => Spec_mono (c_restore_y1 ad z0 I J A B m s1 (WE_g w1) h.1 (h.2.2.1 rfl)) (fun v' Y' I' J' A' B' q => ⟨q.1, ⟨ad, q.2.1, rfl⟩, fun s' e2 => ?_⟩), fun ad I J A B h => Spec_mono (sp_restore ad I J A B _ _ (hz I J A B h)) (fun v' Y' I' J' A' B' q => ?_), fun s' e2 => ?_⟩
        · obtain ⟨m', hm', rfl⟩ := e2
          have k := InvC_B h (by omega) q.2.2.2
          exact ⟨RepW_c (WE_g w1) q.2.2.1 hm', fun z => k.2.1 (by omega) z, fun z => k.2.2.1 (by omega) z, k.2.2.2⟩
        · rw [if_pos hc, e, if_pos (show (if 1 = 0 then z0 else true) = true from rfl), if_pos ⟨hc, rfl⟩] at q
          obtain ⟨q1, q2, rfl, rfl, rfl, rfl⟩ := q
          obtain ⟨h0, h1, h2, h3, h4, h5, h6⟩ := h
          refine ⟨by rw [q1]; exact congrArg (fun v : Int64 => some (Value.int v.toInt32)) (h3 rfl 428 (by omega)), q2, _, ⟨rsR (B 501) (B 502) (621 * 1) 621, fun j hj => ?_, rfl⟩, va_up_self _ _ _, h1, fun z j hj => by rw [va_up_ne _ _ (by omega)]; exact h2 z j hj, fun z j hj => by rw [va_up_ne _ _ (by omega)]; exact h3 z j hj, h4, h5, h6⟩
          unfold rsR
          rw [if_pos hj, show 621 * 1 + j = 621 + j by omega]
          exact h3 rfl j hj
        · obtain ⟨m', hm', rfl⟩ := e2
          exact ⟨⟨WE_c w1 hm', hM.2⟩, rfl⟩
      | false =>
        refine ⟨.int (-nI 102), (z0, false), fun s' => s' = ((m, s0, s1), (z0, false), tc, n, w), ⟨_, rfl⟩, fun ad I J A B h => Spec_mono (c_restore_n1 ad z0 I J A B) (fun v' Y' I' J' A' B' q => ?_), fun ad I J A B h => Spec_mono (sp_restore ad I J A B _ _ (hz I J A B h)) (fun v' Y' I' J' A' B' q => ?_), fun s' e2 => by subst e2; exact ⟨hM, rfl⟩⟩
        · obtain ⟨q1, q2, rfl, rfl, rfl, rfl⟩ := q
          exact ⟨q1, ⟨ad, q2, rfl⟩, fun s' e2 => e2 ▸ h⟩
        · rw [if_pos hc, e, if_neg (show ¬ (if 1 = 0 then z0 else false) = true from Bool.false_ne_true), if_neg (fun q => absurd q.2 (show ¬ (if 1 = 0 then z0 else false) = true from Bool.false_ne_true))] at q
          obtain ⟨q1, q2, rfl, rfl, rfl, rfl⟩ := q
          obtain ⟨h0, h1, h2, h3, h4, h5, h6⟩ := h
          exact ⟨q1, q2, _, rfl, (va_up_self _ _ _).trans h0, h1, fun z j hj => by rw [va_up_ne _ _ (by omega)]; exact h2 z j hj, fun z j hj => by rw [va_up_ne _ _ (by omega)]; exact h3 z j hj, h4, h5, h6⟩
  · have hf : isIx x 2 = false := by cases q : isIx x 2 with | false => rfl | true => exact absurd q hc
    refine ⟨.int (-nI 101), s.2.1, fun s' => s' = s, ⟨_, rfl⟩, fun ad I J A B h => Spec_mono (c_restore_bad ad _ _ I J A B x hf) (fun v' Y' I' J' A' B' q => ?_), fun ad I J A B h => Spec_mono (sp_restore ad I J A B x _ (hz I J A B h)) (fun v' Y' I' J' A' B' q => ?_), fun s' e => by subst e; exact ⟨hM, rfl⟩⟩
    · obtain ⟨q1, q2, rfl, rfl, rfl, rfl⟩ := q
      exact ⟨q1, ⟨ad, q2, rfl⟩, fun s' e => e ▸ h⟩
    · rw [if_neg hc, if_neg (fun q => hc q.1)] at q
      obtain ⟨q1, q2, rfl, rfl, rfl, rfl⟩ := q
      obtain ⟨h0, h1, h2, h3, h4, h5, h6⟩ := h
      exact ⟨q1, q2, _, rfl, (va_up_self _ _ _).trans h0, h1, fun z j hj => by rw [va_up_ne _ _ (by omega)]; exact h2 z j hj, fun z j hj => by rw [va_up_ne _ _ (by omega)]; exact h3 z j hj, h4, h5, h6⟩
end Ops2
