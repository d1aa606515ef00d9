/-! the class: send -/
def nxl (n : Nat) : Nat := if n = 40 then 40 else n + 1
def rcv {α : Type} (f : Nat → α) (n : Nat) (x : α) : Nat → α := if n = 40 then va_up (va_cpy f f 1 0 39) 39 x else va_up f n x
theorem rcv_at {α : Type} {f : Nat → α} {n : Nat} {x : α} (hn : n ≤ 40) {i : Nat} (hi : i < nxl n) : rcv f n x i = if n = 40 then (if i = 39 then x else f (i + 1)) else (if i = n then x else f i) := by
  unfold rcv nxl at *
  by_cases q : n = 40
  · rw [if_pos q] at hi
    rw [if_pos q, if_pos q]
    by_cases e : i = 39
    · subst e; rw [va_up_self, if_pos rfl]
    · rw [va_up_ne _ _ e, if_neg e]
      unfold va_cpy
      rw [if_pos (by omega), show 1 + (i - 0) = i + 1 by omega]
  · rw [if_neg q] at hi
    rw [if_neg q, if_neg q]
    by_cases e : i = n
    · subst e; rw [va_up_self, if_pos rfl]
    · rw [va_up_ne _ _ e, if_neg e]
theorem RepW_recv {m : Nat → Int64} {I : FI} {J : FJ} {A : FI} {B : FJ} (g : WG m) (h : RepW 100 m I J A B) {u : Nat} (hu : u < 6) (s : Int64) {v : Int32} {n : Nat} (hn : n = lnG m u) (hv : v = cnX (fun p => (m (3 + p)).toInt32) s (12 * gN (m 0))) : RepW 100 (recvF m u n s) (up2 I (120 + 4 * u + 1) 3 (nI (nxl n))) J (va_up A (120 + 4 * u + 1 + 2) (rcv (A (120 + 4 * u + 1 + 2)) n v)) (va_up B (120 + 4 * u + 1 + 1) (rcv (B (120 + 4 * u + 1 + 1)) n s)) := by
  obtain ⟨h0, h1, h2, h3, h4, h5, h6, h7, h8⟩ := h
  obtain ⟨g0, g1, g2, g3, g4, g5⟩ := WGn g
  have h40 : n ≤ 40 := by rw [hn]; exact g5 u hu
  have e : ∀ j, j ≠ 81 + u → (j < 87 + 40 * u ∨ 87 + 40 * u + 40 ≤ j) → recvF m u n s j = m j := fun j a b => recvF_keep h40 a b
  have el : recvF m u n s (81 + u) = lN (nxl n) := recv_at h40
  have ln1 : lnG (recvF m u n s) u = nxl n := by unfold lnG; rw [el]; exact gN_lN (by unfold nxl; split <;> omega)
  have ln2 : ∀ w, w < 6 → w ≠ u → lnG (recvF m u n s) w = lnG m w := fun w hw hwu => lnG_cong (e _ (by omega) (by omega))
  have cn : ∀ t, cnX (fun p => (recvF m u n s (3 + p)).toInt32) t (12 * gN (recvF m u n s 0)) = cnX (fun p => (m (3 + p)).toInt32) t (12 * gN (m 0)) := fun t => by
    rw [e 0 (by omega) (by omega)]
    exact cnX_cong _ (fun p hp => by show (recvF m u n s (3 + p)).toInt32 = _; rw [e _ (by omega) (by omega)])
  refine ⟨r0_h (r0_m h0 (fun j hj => e j (by omega) (by omega))) (fun k _ => u2j (Or.inl (by omega))), r1_h (r1_m h1 g1 (fun j hj => e j (by omega) (by omega))) (u2j (Or.inl (by omega))), r2_h (r2_m h2 (fun j a b => e j (by omega) (by omega))) (va_up_ne _ _ (by omega)), r3_h (r3_m h3 (fun j a b => e j (by omega) (by omega))) (fun _ _ => rfl) (fun w hw => u2j (Or.inl (by omega))), ?_, ?_, r6_h (r6_m h6 g2 (fun j a b => e j (by omega) (by omega))) (fun k => u2j (Or.inl (by omega))) (va_up_ne _ _ (by omega)), r7_h (r7_m h7 g3 (fun j a b => e j (by omega) (by omega))) (fun k => u2j (Or.inl (by omega))) (va_up_ne _ _ (by omega)), r8_h (r8_m h8 g4 (fun j a b => e j (by omega) (by omega))) (u2j (Or.inl (by omega))) (va_up_ne _ _ (by omega)) (va_up_ne _ _ (by omega)) (va_up_ne _ _ (by omega))⟩
  · intro w hw
    show up2 I (120 + 4 * u + 1) 3 (nI (nxl n)) (120 + 4 * w + 1) 2 = _ ∧ up2 I (120 + 4 * u + 1) 3 (nI (nxl n)) (120 + 4 * w + 1) 3 = _ ∧ ∀ k, k < _ → va_up B (120 + 4 * u + 1 + 1) (rcv (B (120 + 4 * u + 1 + 1)) n s) (120 + 4 * w + 1 + 1) k = _
    have hw4 := h4 w hw
    by_cases q : w = u
    · subst q
      rw [ln1]
      refine ⟨(u2j (Or.inr (by decide))).trans hw4.1, up2_same _ _ _ _, fun k hk => ?_⟩
      rw [va_up_self, rcv_at h40 hk, recv_li hu h40 hk]
      by_cases q1 : n = 40
      · rw [if_pos q1, if_pos q1]
        by_cases q2 : k = 39
        · rw [if_pos q2, if_pos q2]
        · rw [if_neg q2, if_neg q2]
          exact hw4.2.2 (k + 1) (by unfold nxl at hk; rw [if_pos q1] at hk; omega)
      · rw [if_neg q1, if_neg q1]
        by_cases q2 : k = n
        · rw [if_pos q2, if_pos q2]
        · rw [if_neg q2, if_neg q2]
          exact hw4.2.2 k (by unfold nxl at hk; rw [if_neg q1] at hk; omega)
    · rw [ln2 w hw q, u2j (Or.inl (by omega)), u2j (Or.inl (by omega)), va_up_ne _ _ (by omega)]
      have := g5 w hw
      exact ⟨hw4.1, hw4.2.1, fun k hk => (hw4.2.2 k hk).trans (e _ (by omega) (by omega)).symm⟩
  · intro w hw k hk
    show va_up A (120 + 4 * u + 1 + 2) (rcv (A (120 + 4 * u + 1 + 2)) n v) (120 + 4 * w + 1 + 2) k = _
    rw [cn]
    by_cases q : w = u
    · subst q
      rw [ln1] at hk
      rw [va_up_self, rcv_at h40 hk, recv_li hu h40 hk]
      by_cases q1 : n = 40
      · rw [if_pos q1, if_pos q1]
        by_cases q2 : k = 39
        · rw [if_pos q2, if_pos q2]; exact hv
        · rw [if_neg q2, if_neg q2]
          exact h5 w hw (k + 1) (by unfold nxl at hk; rw [if_pos q1] at hk; omega)
      · rw [if_neg q1, if_neg q1]
        by_cases q2 : k = n
        · rw [if_pos q2, if_pos q2]; exact hv
        · rw [if_neg q2, if_neg q2]
          exact h5 w hw k (by unfold nxl at hk; rw [if_neg q1] at hk; omega)
    · rw [ln2 w hw q] at hk
      have := g5 w hw
      rw [va_up_ne _ _ (by omega), e _ (by omega) (by omega)]
      exact h5 w hw k hk
theorem mov_q {qn hn : Nat} {m : Nat → Int64} (hq : 1 ≤ qn) (h100 : qn ≤ 100) {k : Nat} (hk : k < qn - 1) : mov qn hn m (328 + k) = m (328 + (k + 1)) := by
  unfold mov
  rw [va_up_ne _ _ (by omega), va_up_ne _ _ (by omega)]
  unfold deq
  rw [if_neg (by omega), if_pos (by omega)]
  rfl
theorem mov_h {qn hn : Nat} {m : Nat → Int64} (h100 : qn ≤ 100) {k : Nat} : mov qn hn m (429 + k) = if k = hn then m 328 else m (429 + k) := by
  unfold mov
  by_cases e : k = hn
  · subst e; rw [va_up_ne _ _ (by omega), va_up_self, if_pos rfl]
  · rw [va_up_ne _ _ (by omega), va_up_ne _ _ (by omega), if_neg e, deq_ne (by omega) (by omega)]
theorem mov_hi {qn hn : Nat} {m : Nat → Int64} (h1 : qn ≤ 100) (h2 : hn < 100) {j : Nat} (hj : 529 ≤ j) : mov qn hn m j = m j := by unfold mov; rw [va_up_ne _ _ (by omega), va_up_ne _ _ (by omega), deq_ne (by omega) (by omega)]
theorem mov_327 {qn hn : Nat} {m : Nat → Int64} : mov qn hn m 327 = lN (qn - 1) := by unfold mov; rw [va_up_ne _ _ (by omega), va_up_ne _ _ (by omega), deq_327]
theorem mov_428 {qn hn : Nat} {m : Nat → Int64} : mov qn hn m 428 = lN (hn + 1) := by unfold mov; rw [va_up_self]
theorem RepW_mov {m : Nat → Int64} {I : FI} {J : FJ} {A : FI} {B : FJ} (g : WG m) (h : RepW 100 m I J A B) {qn hn : Nat} (eq : qn = gN (m 327)) (eh : hn = gN (m 428)) (hq : 1 ≤ qn) (hh : hn < 100) (v : Int32) : RepW 100 (mov qn hn m) (up2 (up2 I 103 3 (nI (qn - 1))) 106 3 (nI (hn + 1))) J (va_up (va_up A 105 (va_cpy (A 105) (A 105) 1 0 (qn - 1))) 108 (va_up (A 108) hn v)) (va_up (va_up B 104 (va_cpy (B 104) (B 104) 1 0 (qn - 1))) 107 (va_up (B 107) hn (m 328))) := by
  obtain ⟨h0, h1, h2, h3, h4, h5, h6, h7, h8⟩ := h
  obtain ⟨g0, g1, g2, g3, g4, g5⟩ := WGn g
  rw [← eq] at g2
  have e : ∀ j, j < 327 → mov qn hn m j = m j := fun j hj => mov_lo hj
  have f : ∀ j, 529 ≤ j → mov qn hn m j = m j := fun j hj => mov_hi g2 hh hj
  have kA : ∀ i, i ≠ 105 → i ≠ 108 → va_up (va_up A 105 (va_cpy (A 105) (A 105) 1 0 (qn - 1))) 108 (va_up (A 108) hn v) i = A i := fun i a b => by rw [va_up_ne _ _ b, va_up_ne _ _ a]
  have kB : ∀ i, i ≠ 104 → i ≠ 107 → va_up (va_up B 104 (va_cpy (B 104) (B 104) 1 0 (qn - 1))) 107 (va_up (B 107) hn (m 328)) i = B i := fun i a b => by rw [va_up_ne _ _ b, va_up_ne _ _ a]
  have kI : ∀ i k, (i ≠ 103 ∧ i ≠ 106) ∨ k ≠ 3 → up2 (up2 I 103 3 (nI (qn - 1))) 106 3 (nI (hn + 1)) i k = I i k := fun i k q => by
    rcases q with q | q
    · rw [u2j (Or.inl q.2), u2j (Or.inl q.1)]
    · rw [u2j (Or.inr q), u2j (Or.inr q)]
  refine ⟨r0_h (r0_m h0 (fun j hj => by rcases hj with hj | hj; (· exact e j (by omega)); (· exact f j (by omega)))) (fun k _ => kI _ _ (Or.inl (by omega))), r1_h (r1_m h1 g1 (fun j hj => e j (by omega))) (kI _ _ (Or.inl (by omega))), r2_h (r2_m h2 (fun j a b => e j (by omega))) (kA _ (by omega) (by omega)), r3_h (r3_m h3 (fun j a b => e j (by omega))) (fun _ _ => rfl) (fun w hw => kI _ _ (Or.inl (by omega))), r4_h (r4_m h4 g5 (fun j a b => e j (by omega))) (fun w hw k => kI _ _ (Or.inl (by omega))) (fun w hw => kB _ (by omega) (by omega)), r5_h (r5_m h5 g0 g5 (fun j hj => e j (by omega))) (fun w hw => kA _ (by omega) (by omega)), ?_, ?_, r8_h (r8_m h8 g4 (fun j a b => f j (by omega))) (kI _ _ (Or.inl (by omega))) (kA _ (by omega) (by omega)) (kA _ (by omega) (by omega)) (kA _ (by omega) (by omega))⟩
  · unfold r6w at h6 ⊢
    rw [← eq] at h6
    rw [mov_327, gN_lN (by omega)]
    refine ⟨(kI _ _ (Or.inr (by decide))).trans h6.1, (u2j (Or.inl (by decide))).trans (up2_same _ _ _ _), fun k hk => ?_⟩
    show va_up (va_up B 104 (va_cpy (B 104) (B 104) 1 0 (qn - 1))) 107 (va_up (B 107) hn (m 328)) 104 k = _
    rw [va_up_ne _ _ (by decide), va_up_self, mov_q hq g2 hk]
    unfold va_cpy
    rw [if_pos (by omega), show 1 + (k - 0) = k + 1 by omega]
    exact h6.2.2 (k + 1) (by omega)
  · unfold r7w at h7 ⊢
    rw [← eh] at h7
    rw [mov_428, gN_lN (by omega)]
    refine ⟨(kI _ _ (Or.inr (by decide))).trans h7.1, up2_same _ _ _ _, fun k hk => ?_⟩
    show va_up (va_up B 104 (va_cpy (B 104) (B 104) 1 0 (qn - 1))) 107 (va_up (B 107) hn (m 328)) 107 k = _
    rw [va_up_self, mov_h g2]
    by_cases q : k = hn
    · subst q; rw [va_up_self, if_pos rfl]
    · rw [va_up_ne _ _ q, if_neg q]
      exact h7.2.2 k (by omega)

set_option maxRecDepth 100000 in
set_option maxHeartbeats 4000000 in
theorem mb_receive (ad : Nat → Nat) (z0 z1 : Bool) (I : FI) (J : FJ) (A : FI) (B : FJ) (u n : Nat) (hu : u < 6) (hS : I (120 + 4 * u + 1) 3 = nI n) (hn : n ≤ 40) (hLm : I (120 + 4 * u + 1) 2 = nI 40) (s : Int64) (v : Int32) : Spec M_X2_receive [.ref (ad (120 + 4 * u)), .long s, .int v] (YC ad z0 z1) I J A B (eqP none (YC ad z0 z1) (up2 I (120 + 4 * u + 1) 3 (nI (nxl n))) J (va_up A (120 + 4 * u + 1 + 2) (rcv (A (120 + 4 * u + 1 + 2)) n v)) (va_up B (120 + 4 * u + 1 + 1) (rcv (B (120 + 4 * u + 1 + 1)) n s))) := by
  have hmb := mb7 (ad := ad) (z0 := z0) (z1 := z1) hu
  refine Spec_of (by decide) tk_X2_receive (Nat.le_of_ble_eq_true rfl) (fun X g rt => ?_)
  show Sim X (YC ad z0 z1) 0 [(0, .ref (ad (120 + 4 * u))), (1, .long s), (3, .int v)] [] I J A B 0 0
  refine S_n g 1 (pc' := 1) (lv' := [(0, .ref (ad (120 + 4 * u))), (1, .long s), (3, .int v)]) (st' := [.ref (ad (120 + 4 * u))]) rfl ?_
  refine S_getR g (i := 120 + 4 * u) (c := 2) (k := 0) (j := 120 + 4 * u + 1) (by omega) (by decide) (mb7 hu).1 rfl (mb7 hu).2.1 fl_X2_14 rfl ?_
  refine S_getI g (i := 120 + 4 * u + 1) (c := 6) (k := 3) (by omega) (by decide) (mb7 hu).2.2.2.1 rfl fl_X2_20 rfl ?_
  rw [hS]
  refine S_n g 1 (pc' := 9) (lv' := [(0, .ref (ad (120 + 4 * u))), (1, .long s), (3, .int v)]) (st' := [.int (nI 40), .int (nI n)]) rfl ?_
  refine S_icN_lt g (tgt := 19) (by omega) (by omega) rfl (by decide) (fun qz9 => ?_) (fun qz9 => ?_)
  · skip
    refine S_n g 1 (pc' := 20) (lv' := [(0, .ref (ad (120 + 4 * u))), (1, .long s), (3, .int v)]) (st' := [.ref (ad (120 + 4 * u))]) rfl ?_
    refine S_getR g (i := 120 + 4 * u) (c := 2) (k := 0) (j := 120 + 4 * u + 1) (by omega) (by decide) (mb7 hu).1 rfl (mb7 hu).2.1 fl_X2_14 rfl ?_
    refine S_n g 2 (pc' := 25) (lv' := [(0, .ref (ad (120 + 4 * u))), (1, .long s), (3, .int v)]) (st' := [.int v, .long s, .ref (ad (120 + 4 * u + 1))]) rfl ?_
    refine S_cV g (i := 120 + 4 * u + 1) (As := [.long s, .int v]) (st := []) (sl_append ad z0 z1 I J A B (120 + 4 * u + 1) 40 n hmb.2.2 (by decide) hS hn hLm (by omega) s v) mw_X6_append lk_X2_40 ⟨Nat.le_of_ble_eq_true rfl, Nat.le_of_ble_eq_true rfl⟩ (by omega) (by decide) (mb7 hu).2.2.2.1 rfl (Nat.le_of_ble_eq_true rfl) ⟨Nat.le_of_ble_eq_true rfl, Nat.le_of_ble_eq_true rfl⟩ rfl ?_
    show Sim X (YC ad z0 z1) 28 [(0, .ref (ad (120 + 4 * u))), (1, .long s), (3, .int v)] [] (up2 I (120 + 4 * u + 1) 3 (nI (n + 1))) J (va_up A (120 + 4 * u + 1 + 2) (va_up (A (120 + 4 * u + 1 + 2)) n v)) (va_up B (120 + 4 * u + 1 + 1) (va_up (B (120 + 4 * u + 1 + 1)) n s)) 0 0
    exact rtV rt rfl rfl (by unfold nxl rcv; rw [if_neg (show ¬ n = 40 by omega), if_neg (show ¬ n = 40 by omega), if_neg (show ¬ n = 40 by omega)]; exact eqP_rf)
  · skip
    have hn9 : n = 40 := by omega
    subst hn9
    refine S_n g 1 (pc' := 13) (lv' := [(0, .ref (ad (120 + 4 * u))), (1, .long s), (3, .int v)]) (st' := [.ref (ad (120 + 4 * u))]) rfl ?_
    refine S_getR g (i := 120 + 4 * u) (c := 2) (k := 0) (j := 120 + 4 * u + 1) (by omega) (by decide) (mb7 hu).1 rfl (mb7 hu).2.1 fl_X2_14 rfl ?_
    refine S_cV g (i := 120 + 4 * u + 1) (As := []) (st := []) (sl_removeFirst ad z0 z1 I J A B (120 + 4 * u + 1) 40 40 hmb.2.2 (by decide) hS (by decide) (by decide)) mw_X6_removeFirst lk_X2_37 ⟨Nat.le_of_ble_eq_true rfl, Nat.le_of_ble_eq_true rfl⟩ (by omega) (by decide) (mb7 hu).2.2.2.1 rfl (Nat.le_of_ble_eq_true rfl) ⟨Nat.le_of_ble_eq_true rfl, Nat.le_of_ble_eq_true rfl⟩ rfl ?_
    show Sim X (YC ad z0 z1) 19 [(0, .ref (ad (120 + 4 * u))), (1, .long s), (3, .int v)] [] (up2 I (120 + 4 * u + 1) 3 (nI 39)) J (va_up A (120 + 4 * u + 1 + 2) (va_cpy (A (120 + 4 * u + 1 + 2)) (A (120 + 4 * u + 1 + 2)) 1 0 39)) (va_up B (120 + 4 * u + 1 + 1) (va_cpy (B (120 + 4 * u + 1 + 1)) (B (120 + 4 * u + 1 + 1)) 1 0 39)) 0 0
    refine S_n g 1 (pc' := 20) (lv' := [(0, .ref (ad (120 + 4 * u))), (1, .long s), (3, .int v)]) (st' := [.ref (ad (120 + 4 * u))]) rfl ?_
    refine S_getR g (i := 120 + 4 * u) (c := 2) (k := 0) (j := 120 + 4 * u + 1) (by omega) (by decide) (mb7 hu).1 rfl (mb7 hu).2.1 fl_X2_14 rfl ?_
    refine S_n g 2 (pc' := 25) (lv' := [(0, .ref (ad (120 + 4 * u))), (1, .long s), (3, .int v)]) (st' := [.int v, .long s, .ref (ad (120 + 4 * u + 1))]) rfl ?_
    refine S_cV g (i := 120 + 4 * u + 1) (As := [.long s, .int v]) (st := []) (sl_append ad z0 z1 (up2 I (120 + 4 * u + 1) 3 (nI 39)) J (va_up A (120 + 4 * u + 1 + 2) (va_cpy (A (120 + 4 * u + 1 + 2)) (A (120 + 4 * u + 1 + 2)) 1 0 39)) (va_up B (120 + 4 * u + 1 + 1) (va_cpy (B (120 + 4 * u + 1 + 1)) (B (120 + 4 * u + 1 + 1)) 1 0 39)) (120 + 4 * u + 1) 40 39 hmb.2.2 (by decide) (up2_same _ _ _ _) (by decide) ((u2j (Or.inr (by decide))).trans hLm) (by decide) s v) mw_X6_append lk_X2_40 ⟨Nat.le_of_ble_eq_true rfl, Nat.le_of_ble_eq_true rfl⟩ (by omega) (by decide) (mb7 hu).2.2.2.1 rfl (Nat.le_of_ble_eq_true rfl) ⟨Nat.le_of_ble_eq_true rfl, Nat.le_of_ble_eq_true rfl⟩ rfl ?_
    rw [up2_c1, va_up1, va_up1, va_up_self, va_up_self]
    show Sim X (YC ad z0 z1) 28 [(0, .ref (ad (120 + 4 * u))), (1, .long s), (3, .int v)] [] (up2 I (120 + 4 * u + 1) 3 (nI 40)) J (va_up A (120 + 4 * u + 1 + 2) (va_up (va_cpy (A (120 + 4 * u + 1 + 2)) (A (120 + 4 * u + 1 + 2)) 1 0 39) 39 v)) (va_up B (120 + 4 * u + 1 + 1) (va_up (va_cpy (B (120 + 4 * u + 1 + 1)) (B (120 + 4 * u + 1 + 1)) 1 0 39) 39 s)) 0 0
    exact rtV rt rfl rfl eqP_rf

set_option maxRecDepth 100000 in
set_option maxHeartbeats 4000000 in
theorem w_broadcast (ad : Nat → Nat) (z0 z1 : Bool) (I : FI) (J : FJ) (A : FI) (B : FJ) (m : Nat → Int64) (nf nu nc qn hn pn : Nat) (ln : Nat → Nat) (hW : Wf m nf nu nc qn hn pn ln) (hR : RepW 100 m I J A B) (x : Int32) (hq1 : 1 ≤ qn) (hh1 : hn < 100) : Spec M_X7_broadcast [.ref (ad 100), .int x] (YC ad z0 z1) I J A B (cP ad z0 z1 I J A B (.int (preS (mov qn hn m) nu &&& (x ^^^ -nI 1))) (sendL (mov qn hn m) ln (preS (mov qn hn m) nu &&& (x ^^^ -nI 1)) (m 328) nu)) := by
  have hG := WF_g (Wf_WF hW)
  have hg := Wf_g0 hW
  obtain ⟨hmF, hmU, hmC, h1, h2, h3, h4, h5⟩ := hW.1
  have hF : I 100 5 = nI nf := by rw [hR.1.1, hmF, lN_i]
  have hU : I 100 6 = nI nu := by rw [hR.1.2.1, hmU, lN_i]
  have hC : I 100 7 = nI nc := by rw [hR.1.2.2.1, hmC, lN_i]
  have hQ : I 103 3 = nI qn := by rw [hR.2.2.2.2.2.2.1.2.1, hg.2.2.2.1]
  have hH : I 106 3 = nI hn := by rw [hR.2.2.2.2.2.2.2.1.2.1, hg.2.2.2.2.1]
  have hq2 := hW.2.1.2
  have hpr : I 100 8 = preS m nu := by rw [hR.2.1, hg.2.1]
  have hl : ∀ u, u < 6 → ln u ≤ 40 := fun u hu => (hW.2.2.2.2.1 u hu).2
  have hs0 : B 104 0 = m 328 := hR.2.2.2.2.2.2.1.2.2 0 (by rw [hg.2.2.2.1]; omega)
  have hok := hW.2.2.2.2.2.2.2.2.2.1 0 (by omega)
  have hx0 : isIx (nI 0) qn = true := decide_eq_true (by rw [nI_toInt (by decide)]; omega)
  have hcn : cnX (A 101) (m 328) (12 * nf) = cnX (fun p => (m (3 + p)).toInt32) (m 328) (12 * nf) := cnX_cong _ (fun p hp => hR.2.2.1 p (by omega))
  have hR1 := RepW_mov hG hR hg.2.2.2.1.symm hg.2.2.2.2.1.symm hq1 hh1 (cnX (A 101) (m 328) (12 * nf))
  have hW1 := Wf_mov hW (by omega) hh1
  have hpm : preS (mov qn hn m) nu = preS m nu := preS_cong (fun j a b => mov_lo (by omega)) nu h4
  rw [hpm]
  obtain ⟨rc, hrc⟩ : ∃ rc, rc = preS m nu &&& (x ^^^ -nI 1) := ⟨_, rfl⟩
  rw [← hrc]
  refine Spec_of (by decide) tk_X7_broadcast (Nat.le_of_ble_eq_true rfl) (fun X g rt => ?_)
  show Sim X (YC ad z0 z1) 0 [(0, .ref (ad 100)), (1, .int x)] [] I J A B 0 0
  refine S_n g 1 (pc' := 1) (lv' := [(0, .ref (ad 100)), (1, .int x)]) (st' := [.ref (ad 100)]) rfl ?_
  refine S_getR g (i := 100) (c := 7) (k := 2) (j := 103) (by decide) (by decide) rfl rfl rfl fl_X7_26 rfl ?_
  refine S_n g 1 (pc' := 5) (lv' := [(0, .ref (ad 100)), (1, .int x)]) (st' := [.int (nI 0), .ref (ad 103)]) rfl ?_
  refine S_cV g (i := 103) (As := [.int (nI 0)]) (st := []) (sl_setAt ad z0 z1 I J A B 103 100 qn (sl_q isW_100) (by decide) hQ hq2 (nI 0)) mw_X6_setAt lk_X7_114 ⟨Nat.le_of_ble_eq_true rfl, Nat.le_of_ble_eq_true rfl⟩ (by decide) (by decide) rfl rfl (Nat.le_of_ble_eq_true rfl) ⟨Nat.le_of_ble_eq_true rfl, Nat.le_of_ble_eq_true rfl⟩ rfl ?_
  rw [if_pos hx0, show ix (nI 0) = 0 from rfl, show B (103 + 1) 0 = m 328 from hs0]
  show Sim X (YC ad z0 z1) 8 [(0, .ref (ad 100)), (1, .int x)] [.long (m 328)] I J A B 0 0
  refine S_n g 3 (pc' := 11) (lv' := [(0, .ref (ad 100)), (1, .int x), (2, .long (m 328))]) (st' := [.long (m 328), .ref (ad 100)]) rfl ?_
  refine S_cV g (i := 100) (As := [.long (m 328)]) (st := []) (w_contentOf ad z0 z1 I J A B (m 328) nf hF h2) mw_X7_contentOf lk_X7_118 ⟨Nat.le_of_ble_eq_true rfl, Nat.le_of_ble_eq_true rfl⟩ (by decide) (by decide) rfl rfl (Nat.le_of_ble_eq_true rfl) ⟨Nat.le_of_ble_eq_true rfl, Nat.le_of_ble_eq_true rfl⟩ rfl ?_
  show Sim X (YC ad z0 z1) 14 [(0, .ref (ad 100)), (1, .int x), (2, .long (m 328))] [.int (cnX (A 101) (m 328) (12 * nf))] I J A B 0 0
  obtain ⟨v, hv⟩ : ∃ v, v = cnX (A 101) (m 328) (12 * nf) := ⟨_, rfl⟩
  rw [← hv] at hR1 hcn ⊢
  show Sim X (YC ad z0 z1) 14 [(0, .ref (ad 100)), (1, .int x), (2, .long (m 328))] [.int v] I J A B 0 0
  refine S_n g 2 (pc' := 17) (lv' := [(0, .ref (ad 100)), (1, .int x), (2, .long (m 328)), (4, .int v)]) (st' := [.ref (ad 100)]) rfl ?_
  refine S_getR g (i := 100) (c := 7) (k := 2) (j := 103) (by decide) (by decide) rfl rfl rfl fl_X7_26 rfl ?_
  refine S_cV g (i := 103) (As := []) (st := []) (sl_removeFirst ad z0 z1 I J A B 103 100 qn (sl_q isW_100) (by decide) hQ hq2 hq1) mw_X6_removeFirst lk_X7_122 ⟨Nat.le_of_ble_eq_true rfl, Nat.le_of_ble_eq_true rfl⟩ (by decide) (by decide) rfl rfl (Nat.le_of_ble_eq_true rfl) ⟨Nat.le_of_ble_eq_true rfl, Nat.le_of_ble_eq_true rfl⟩ rfl ?_
  show Sim X (YC ad z0 z1) 23 [(0, .ref (ad 100)), (1, .int x), (2, .long (m 328)), (4, .int v)] [] (up2 I 103 3 (nI (qn - 1))) J (va_up A 105 (va_cpy (A 105) (A 105) 1 0 (qn - 1))) (va_up B 104 (va_cpy (B 104) (B 104) 1 0 (qn - 1))) 0 0
  refine S_n g 1 (pc' := 24) (lv' := [(0, .ref (ad 100)), (1, .int x), (2, .long (m 328)), (4, .int v)]) (st' := [.ref (ad 100)]) rfl ?_
  refine S_getR g (i := 100) (c := 7) (k := 3) (j := 106) (by decide) (by decide) rfl rfl rfl fl_X7_30 rfl ?_
  refine S_n g 2 (pc' := 30) (lv' := [(0, .ref (ad 100)), (1, .int x), (2, .long (m 328)), (4, .int v)]) (st' := [.int v, .long (m 328), .ref (ad 106)]) rfl ?_
  refine S_cV g (i := 106) (As := [.long (m 328), .int v]) (st := []) (sl_append ad z0 z1 (up2 I 103 3 (nI (qn - 1))) J (va_up A 105 (va_cpy (A 105) (A 105) 1 0 (qn - 1))) (va_up B 104 (va_cpy (B 104) (B 104) 1 0 (qn - 1))) 106 100 hn (sl_h isW_100) (by decide) ((u2j (Or.inl (by decide))).trans hH) (by omega) ((u2j (Or.inl (by decide))).trans hR.2.2.2.2.2.2.2.1.1) hh1 (m 328) v) mw_X6_append lk_X7_125 ⟨Nat.le_of_ble_eq_true rfl, Nat.le_of_ble_eq_true rfl⟩ (by decide) (by decide) rfl rfl (Nat.le_of_ble_eq_true rfl) ⟨Nat.le_of_ble_eq_true rfl, Nat.le_of_ble_eq_true rfl⟩ rfl ?_
  show Sim X (YC ad z0 z1) 33 [(0, .ref (ad 100)), (1, .int x), (2, .long (m 328)), (4, .int v)] [] (up2 (up2 I 103 3 (nI (qn - 1))) 106 3 (nI (hn + 1))) J (va_up (va_up A 105 (va_cpy (A 105) (A 105) 1 0 (qn - 1))) 108 (va_up (A 108) hn v)) (va_up (va_up B 104 (va_cpy (B 104) (B 104) 1 0 (qn - 1))) 107 (va_up (B 107) hn (m 328))) 0 0
  refine S_n g 1 (pc' := 34) (lv' := [(0, .ref (ad 100)), (1, .int x), (2, .long (m 328)), (4, .int v)]) (st' := [.ref (ad 100)]) rfl ?_
  refine S_getI g (i := 100) (c := 7) (k := 8) (by decide) (by decide) rfl rfl fl_X7_51 rfl ?_
  show Sim X (YC ad z0 z1) 37 [(0, .ref (ad 100)), (1, .int x), (2, .long (m 328)), (4, .int v)] [.int (I 100 8)] (up2 (up2 I 103 3 (nI (qn - 1))) 106 3 (nI (hn + 1))) J (va_up (va_up A 105 (va_cpy (A 105) (A 105) 1 0 (qn - 1))) 108 (va_up (A 108) hn v)) (va_up (va_up B 104 (va_cpy (B 104) (B 104) 1 0 (qn - 1))) 107 (va_up (B 107) hn (m 328))) 0 0
  rw [hpr]
  refine S_n g 4 (pc' := 41) (lv' := [(0, .ref (ad 100)), (1, .int x), (2, .long (m 328)), (4, .int v)]) (st' := [.int ((preS m nu) &&& (x ^^^ (-nI 1)))]) rfl ?_
  refine S_steq (st' := [.int rc]) (by rw [(show (preS m nu) &&& (x ^^^ (-nI 1)) = rc from hrc.symm).symm]) ?_
  refine S_n g 3 (pc' := 46) (lv' := [(0, .ref (ad 100)), (1, .int x), (2, .long (m 328)), (4, .int v), (5, .int rc), (6, .int (nI 0))]) (st' := []) rfl ?_
  refine S_keep (lv' := [(0, .ref (ad 100)), (2, .long (m 328)), (4, .int v), (5, .int rc), (6, .int (nI 0))]) [0, 2, 4, 5, 6] rfl ?_
  have lp : ∀ (nn : Nat) (u : Nat) (I2 : FI) (J2 : FJ) (A2 : FI) (B2 : FJ), nu - u = nn → (u ≤ nu) → (RepW 100 (sendL (mov qn hn m) ln rc (m 328) u) I2 J2 A2 B2) → (kpC I J A B I2 J2 A2 B2) → Sim X (YC ad z0 z1) 46 [(0, .ref (ad 100)), (2, .long (m 328)), (4, .int v), (5, .int rc), (6, .int (nI u))] [] I2 J2 A2 B2 0 0 := by
    intro nn
    induction nn using Nat.strongRecOn with
    | ind nn ih =>
      intro u I2 J2 A2 B2 hmz hu0 hR2 hk2
      have lp := ih
      have hWu := Wf_sendL hW1 rc (s := m 328) hok u (by omega)
      have hU2 : I2 100 6 = nI nu := by rw [hR2.1.2.1, sendL_keep hl u (by omega) (by omega), mov_lo (by decide), hmU, lN_i]
      refine S_n g 2 (pc' := 49) (lv' := [(0, .ref (ad 100)), (2, .long (m 328)), (4, .int v), (5, .int rc), (6, .int (nI u))]) (st' := [.ref (ad 100), .int (nI u)]) rfl ?_
      refine S_getI g (i := 100) (c := 7) (k := 6) (by decide) (by decide) rfl rfl fl_X7_45 rfl ?_
      rw [hU2]
      refine S_icN_ge g (tgt := 84) (by omega) (by omega) rfl (by decide) (fun qz52 => ?_) (fun qz52 => ?_)
      · skip
        have hu9 : u = nu := by omega
        subst hu9
        refine S_n g 1 (pc' := 86) (lv' := [(0, .ref (ad 100)), (2, .long (m 328)), (4, .int v), (5, .int rc), (6, .int (nI u))]) (st' := [.int rc]) rfl ?_
        exact rtI rt rfl rfl (⟨rfl, rfl, hR2, hk2⟩)
      · skip
        refine S_n g 5 (pc' := 62) (lv' := [(0, .ref (ad 100)), (2, .long (m 328)), (4, .int v), (5, .int rc), (6, .int (nI u))]) (st' := [.int ((rc >>> ((nI u) &&& 31)) &&& (nI 1))]) rfl ?_
        refine S_steq (st' := [.int (nI (ti rc u).toNat)]) (by rw [(show (rc >>> ((nI u) &&& 31)) &&& (nI 1) = nI (ti rc u).toNat from bit32 (by omega) rc).symm]) ?_
        have hb1 : (ti rc u).toNat ≤ 1 := Bool.toNat_le _
        refine S_ifN_eq g (tgt := 78) (by omega) rfl (by decide) (fun qz62 => ?_) (fun qz62 => ?_)
        · skip
          have hs : sendL (mov qn hn m) ln rc (m 328) (u + 1) = sendL (mov qn hn m) ln rc (m 328) u := by rw [sendL, if_neg (by cases h : ti rc u <;> simp_all)]
          refine S_n g 1 (pc' := 81) (lv' := [(0, .ref (ad 100)), (2, .long (m 328)), (4, .int v), (5, .int rc), (6, .int ((nI u) + nI 1))]) (st' := []) rfl ?_
          rw [nI_add u 1]
          refine S_n g 1 (pc' := 46) (lv' := [(0, .ref (ad 100)), (2, .long (m 328)), (4, .int v), (5, .int rc), (6, .int (nI (u + 1)))]) (st' := []) rfl ?_
          exact lp (nu - (u + 1)) (by omega) (u + 1) I2 J2 A2 B2 rfl (by omega) (by rw [hs]; exact hR2) hk2
        · skip
          have hs : sendL (mov qn hn m) ln rc (m 328) (u + 1) = recvF (sendL (mov qn hn m) ln rc (m 328) u) u (ln u) (m 328) := by rw [sendL, if_pos (by cases h : ti rc u <;> simp_all)]
          have hu : u < 6 := by omega
          have hlu : lnG (sendL (mov qn hn m) ln rc (m 328) u) u = ln u := by rw [(Wf_g0 hWu).2.2.2.2.2.2 u hu, lnS_hi _ _ _ _ (Nat.le_refl u)]
          have h4u := hR2.2.2.2.2.1 u hu
          rw [hlu] at h4u
          refine S_n g 1 (pc' := 66) (lv' := [(0, .ref (ad 100)), (2, .long (m 328)), (4, .int v), (5, .int rc), (6, .int (nI u))]) (st' := [.ref (ad 100)]) rfl ?_
          refine S_getR g (i := 100) (c := 7) (k := 1) (j := 102) (by decide) (by decide) rfl rfl rfl fl_X7_17 rfl ?_
          refine S_n g 1 (pc' := 71) (lv' := [(0, .ref (ad 100)), (2, .long (m 328)), (4, .int v), (5, .int rc), (6, .int (nI u))]) (st' := [.int (nI u), .ref (ad 102)]) rfl ?_
          refine S_aaldN g (i := 102) (e := u) (j := 120 + 4 * u) (by decide) rfl (show u < 6 from by omega) (show (6 : Nat) < 2 ^ 31 from by decide) rfl rfl ?_
          refine S_n g 2 (pc' := 75) (lv' := [(0, .ref (ad 100)), (2, .long (m 328)), (4, .int v), (5, .int rc), (6, .int (nI u))]) (st' := [.int v, .long (m 328), .ref (ad (120 + 4 * u))]) rfl ?_
          refine S_cV g (i := 120 + 4 * u) (As := [.long (m 328), .int v]) (st := []) (mb_receive ad z0 z1 I2 J2 A2 B2 u (ln u) hu h4u.2.1 (hl u hu) h4u.1 (m 328) v) mw_X2_receive lk_X7_129 ⟨Nat.le_of_ble_eq_true rfl, Nat.le_of_ble_eq_true rfl⟩ (by omega) (by decide) (mb7 hu).1 rfl (Nat.le_of_ble_eq_true rfl) ⟨Nat.le_of_ble_eq_true rfl, Nat.le_of_ble_eq_true rfl⟩ rfl ?_
          show Sim X (YC ad z0 z1) 78 [(0, .ref (ad 100)), (2, .long (m 328)), (4, .int v), (5, .int rc), (6, .int (nI u))] [] (up2 I2 (120 + 4 * u + 1) 3 (nI (nxl (ln u)))) J2 (va_up A2 (120 + 4 * u + 1 + 2) (rcv (A2 (120 + 4 * u + 1 + 2)) (ln u) v)) (va_up B2 (120 + 4 * u + 1 + 1) (rcv (B2 (120 + 4 * u + 1 + 1)) (ln u) (m 328))) 0 0
          have hcn2 : v = cnX (fun p => (sendL (mov qn hn m) ln rc (m 328) u (3 + p)).toInt32) (m 328) (12 * gN (sendL (mov qn hn m) ln rc (m 328) u 0)) := by rw [(Wf_g0 hWu).1, hcn]; exact (cnX_cong _ (fun p hp => by show (sendL (mov qn hn m) ln rc (m 328) u (3 + p)).toInt32 = _; rw [sendL_keep hl u (by omega) (by omega), mov_lo (by omega)])).symm
          refine S_n g 1 (pc' := 81) (lv' := [(0, .ref (ad 100)), (2, .long (m 328)), (4, .int v), (5, .int rc), (6, .int ((nI u) + nI 1))]) (st' := []) rfl ?_
          rw [nI_add u 1]
          refine S_n g 1 (pc' := 46) (lv' := [(0, .ref (ad 100)), (2, .long (m 328)), (4, .int v), (5, .int rc), (6, .int (nI (u + 1)))]) (st' := []) rfl ?_
          exact lp (nu - (u + 1)) (by omega) (u + 1) (up2 I2 (120 + 4 * u + 1) 3 (nI (nxl (ln u)))) J2 (va_up A2 (120 + 4 * u + 1 + 2) (rcv (A2 (120 + 4 * u + 1 + 2)) (ln u) v)) (va_up B2 (120 + 4 * u + 1 + 1) (rcv (B2 (120 + 4 * u + 1 + 1)) (ln u) (m 328))) rfl (by omega) (by rw [hs]; exact RepW_recv (WF_g (Wf_WF hWu)) hR2 hu _ hlu.symm hcn2) (kpC_tr hk2 ⟨fun i hi => ⟨u2r (by omega), rfl, va_up_ne _ _ (by omega), va_up_ne _ _ (by omega)⟩, u2r (by omega), va_up_ne _ _ (by omega), u2j (Or.inl (by omega)), by rw [va_up_ne _ _ (by omega)], by rw [va_up_ne _ _ (by omega)]⟩)
  exact lp _ 0 (up2 (up2 I 103 3 (nI (qn - 1))) 106 3 (nI (hn + 1))) J (va_up (va_up A 105 (va_cpy (A 105) (A 105) 1 0 (qn - 1))) 108 (va_up (A 108) hn v)) (va_up (va_up B 104 (va_cpy (B 104) (B 104) 1 0 (qn - 1))) 107 (va_up (B 107) hn (m 328))) rfl (Nat.zero_le _) hR1 (⟨fun i hi => ⟨(u2r (by omega)).trans (u2r (by omega)), rfl, (va_up_ne _ _ (by omega)).trans (va_up_ne _ _ (by omega)), (va_up_ne _ _ (by omega)).trans (va_up_ne _ _ (by omega))⟩, rfl, rfl, rfl, rfl, rfl⟩)

set_option maxRecDepth 100000 in
set_option maxHeartbeats 4000000 in
theorem c_send (ad : Nat → Nat) (z0 z1 : Bool) (I : FI) (J : FJ) (A : FI) (B : FJ) (x : Int32) (m : Nat → Int64) (hG : WG m) (hR : RepW 100 m I J A B) : Spec M_X8_send [.ref (ad 0), .int x] (YC ad z0 z1) I J A B (cP ad z0 z1 I J A B (.int (k_send m x).1) (k_send m x).2) := by
  have hW : Wf m (gN (m 0)) (gN (m 1)) (gN (m 2)) (gN (m 327)) (gN (m 428)) (gN (m 529)) (lnG m) := hG
  unfold k_send
  obtain ⟨qn, hqn⟩ : ∃ qn, qn = gN (m 327) := ⟨_, rfl⟩
  obtain ⟨hn, hhn⟩ : ∃ hn, hn = gN (m 428) := ⟨_, rfl⟩
  rw [← hqn, ← hhn] at hW ⊢
  have hQ : I 103 3 = nI qn := by rw [hqn]; exact hR.2.2.2.2.2.2.1.2.1
  have hH : I 106 3 = nI hn := by rw [hhn]; exact hR.2.2.2.2.2.2.2.1.2.1
  have hq1 := hW.2.1.2
  have hh1 := hW.2.2.1.2
  generalize gN (m 0) = nf at hW
  generalize gN (m 1) = nu at hW ⊢
  generalize gN (m 2) = nc at hW
  refine Spec_of (by decide) tk_X8_send (Nat.le_of_ble_eq_true rfl) (fun X g rt => ?_)
  show Sim X (YC ad z0 z1) 0 [(0, .ref (ad 0)), (1, .int x)] [] I J A B 0 0
  refine S_n g 1 (pc' := 1) (lv' := [(0, .ref (ad 0)), (1, .int x)]) (st' := [.int x]) rfl ?_
  refine S_if_lt g (tgt := 10) rfl (by decide) (fun qz1 => ?_) (fun qz1 => ?_)
  · skip
    refine S_n g 1 (pc' := 12) (lv' := [(0, .ref (ad 0)), (1, .int x)]) (st' := [.int (-nI 101)]) rfl ?_
    exact rtI rt rfl rfl (⟨by rw [o_send, ix_lo qz1, if_neg (by decide)], rfl, by rw [o_send, ix_lo qz1, if_neg (by decide)]; exact hR, kpC_rf I J A B⟩)
  · skip
    refine S_n g 2 (pc' := 7) (lv' := [(0, .ref (ad 0)), (1, .int x)]) (st' := [.int (nI 64), .int x]) rfl ?_
    refine S_ic_lt g (tgt := 13) rfl (by decide) (fun qz7 => ?_) (fun qz7 => ?_)
    · skip
      have hx : isIx x 64 = true := isIx_of qz1 (fun q => absurd qz7 (nlt32.mpr q)) (by decide)
      refine S_n g 1 (pc' := 14) (lv' := [(0, .ref (ad 0)), (1, .int x)]) (st' := [.ref (ad 0)]) rfl ?_
      refine S_getR g (i := 0) (c := 8) (k := 0) (j := 100) (by decide) (by decide) rfl rfl rfl fl_X8_10 rfl ?_
      refine S_getR g (i := 100) (c := 7) (k := 2) (j := 103) (by decide) (by decide) rfl rfl rfl fl_X8_151 rfl ?_
      refine S_getI g (i := 103) (c := 6) (k := 3) (by decide) (by decide) rfl rfl fl_X8_72 rfl ?_
      rw [hQ]
      refine S_n g 1 (pc' := 24) (lv' := [(0, .ref (ad 0)), (1, .int x)]) (st' := [.int (nI 1), .int (nI qn)]) rfl ?_
      refine S_icN_ge g (tgt := 30) (by omega) (by omega) rfl (by decide) (fun qz24 => ?_) (fun qz24 => ?_)
      · skip
        refine S_n g 1 (pc' := 31) (lv' := [(0, .ref (ad 0)), (1, .int x)]) (st' := [.ref (ad 0)]) rfl ?_
        refine S_getR g (i := 0) (c := 8) (k := 0) (j := 100) (by decide) (by decide) rfl rfl rfl fl_X8_10 rfl ?_
        refine S_getR g (i := 100) (c := 7) (k := 3) (j := 106) (by decide) (by decide) rfl rfl rfl fl_X8_68 rfl ?_
        refine S_getI g (i := 106) (c := 6) (k := 3) (by decide) (by decide) rfl rfl fl_X8_72 rfl ?_
        rw [hH]
        refine S_n g 1 (pc' := 42) (lv' := [(0, .ref (ad 0)), (1, .int x)]) (st' := [.int (nI 100), .int (nI hn)]) rfl ?_
        refine S_icN_lt g (tgt := 48) (by omega) (by omega) rfl (by decide) (fun qz42 => ?_) (fun qz42 => ?_)
        · skip
          refine S_n g 1 (pc' := 49) (lv' := [(0, .ref (ad 0)), (1, .int x)]) (st' := [.ref (ad 0)]) rfl ?_
          refine S_getR g (i := 0) (c := 8) (k := 0) (j := 100) (by decide) (by decide) rfl rfl rfl fl_X8_10 rfl ?_
          refine S_n g 1 (pc' := 53) (lv' := [(0, .ref (ad 0)), (1, .int x)]) (st' := [.int x, .ref (ad 100)]) rfl ?_
          refine S_callV g (i := 100) (As := [.int x]) (st := []) (w_broadcast ad z0 z1 I J A B m nf nu nc qn hn _ (lnG m) hW hR x (by omega) (by omega)) mw_X7_broadcast lk_X8_181 ⟨Nat.le_of_ble_eq_true rfl, Nat.le_of_ble_eq_true rfl⟩ (by decide) (by decide) rfl rfl (Nat.le_of_ble_eq_true rfl) ⟨Nat.le_of_ble_eq_true rfl, Nat.le_of_ble_eq_true rfl⟩ rfl (fun v' Y' I2 J2 A2 B2 hpo => ?_)
          obtain ⟨rfl, rfl, hq5, hqk⟩ := hpo
          show Sim X (YC ad z0 z1) 56 [(0, .ref (ad 0)), (1, .int x)] [.int (preS (mov qn hn m) nu &&& (x ^^^ -nI 1))] I2 J2 A2 B2 0 0
          exact rtI rt rfl rfl (⟨by rw [o_send, if_pos hx, if_neg (by omega), if_neg (by omega)], rfl, by rw [o_send, if_pos hx, if_neg (by omega), if_neg (by omega)]; exact hq5, hqk⟩)
        · skip
          refine S_n g 1 (pc' := 47) (lv' := [(0, .ref (ad 0)), (1, .int x)]) (st' := [.int (-nI 103)]) rfl ?_
          exact rtI rt rfl rfl (⟨by rw [o_send, if_pos hx, if_neg (by omega), if_pos (by omega)], rfl, by rw [o_send, if_pos hx, if_neg (by omega), if_pos (by omega)]; exact hR, kpC_rf I J A B⟩)
      · skip
        refine S_n g 1 (pc' := 29) (lv' := [(0, .ref (ad 0)), (1, .int x)]) (st' := [.int (-nI 102)]) rfl ?_
        exact rtI rt rfl rfl (⟨by rw [o_send, if_pos hx, if_pos (by omega)], rfl, by rw [o_send, if_pos hx, if_pos (by omega)]; exact hR, kpC_rf I J A B⟩)
    · skip
      refine S_n g 1 (pc' := 12) (lv' := [(0, .ref (ad 0)), (1, .int x)]) (st' := [.int (-nI 101)]) rfl ?_
      exact rtI rt rfl rfl (⟨by rw [o_send, ix_hi (nlt32.mp qz7) (by decide), if_neg (by decide)], rfl, by rw [o_send, ix_hi (nlt32.mp qz7) (by decide), if_neg (by decide)]; exact hR, kpC_rf I J A B⟩)
