/-! what holds between the calls -/
def WE (m : Nat → Int64) : Prop := ∃ nf nu nc qn hn pn ln, Wf m nf nu nc qn hn pn ln ∧ (hn = 0 → ∀ u, u < 6 → ln u = 0)
section We
variable {m : Nat → Int64} {nf nu nc qn hn pn : Nat} {ln : Nat → Nat}
theorem WE_f (h : WE m) : WF m := by
  obtain ⟨a, b, c, d, e, f, g, h, -⟩ := h
  exact ⟨a, b, c, d, e, f, g, h⟩
theorem WE_g (h : WE m) : WG m := WF_g (WE_f h)
theorem WE_e (h : WE m) : Em m := by
  obtain ⟨a, b, c, d, e, f, g, h, q⟩ := h
  intro h0 u hu
  have e4 : gN (m 428) = e := by rw [h.2.2.1.1, gN_lN (by have := h.2.2.1.2; omega)]
  have e6 : lnG m u = g u := by unfold lnG; rw [(h.2.2.2.2.1 u hu).1, gN_lN (by have := (h.2.2.2.2.1 u hu).2; omega)]
  rw [e6]
  exact q (by omega) u hu
theorem WE_n (h : WE m) : WG m ∧ (gN (m 428) = 0 → ∀ u, u < 6 → lnG m u = 0) := ⟨WE_g h, WE_e h⟩
theorem Wf_WE {m : Nat → Int64} (h : Wf m nf nu nc qn hn pn ln) (e : hn = 0 → ∀ u, u < 6 → ln u = 0) : WE m := ⟨_, _, _, _, _, _, _, h, e⟩
theorem WE_sum (h : Wf m nf nu nc qn hn pn ln) (e : hn = 0 → ∀ u, u < 6 → ln u = 0) (s : Int64) : WE (o_sum nf qn m s).2 := by
  unfold o_sum
  have h5 := h.1.2.2.2.2.1
  have hq := h.2.1.2
  split
  · exact Wf_WE h e
  · next h1 =>
    split
    · exact Wf_WE h e
    · exact Wf_WE (Wf_push h (by omega) (sum_ok h5 h1)) e
theorem WE_resend (h : Wf m nf nu nc qn hn pn ln) (e : hn = 0 → ∀ u, u < 6 → ln u = 0) (x : Int32) : WE (o_resend qn hn m x).2 := by
  unfold o_resend
  have hq := h.2.1.2
  split
  · next h1 =>
    split
    · exact Wf_WE h e
    · exact Wf_WE (Wf_push h (by omega) (h.2.2.2.2.2.2.2.2.2.2.1 (ix x) (ix_lt h1))) e
  · exact Wf_WE h e
theorem WE_plan (h : Wf m nf nu nc qn hn pn ln) (e : hn = 0 → ∀ u, u < 6 → ln u = 0) (x y z : Int32) : WE (o_plan nf nu pn m x y z).2 := by
  unfold o_plan
  have hp := h.2.2.2.1.2
  split
  · next h1 =>
    split
    · next h2 =>
      split
      · next h3 =>
        split
        · exact Wf_WE h e
        · exact Wf_WE (Wf_plan h (by omega) (ix_lt h1) (ix_lt h2) (ix_lt h3)) e
      · exact Wf_WE h e
    · exact Wf_WE h e
  · exact Wf_WE h e
theorem WE_idle (h : Wf m nf nu nc qn hn pn ln) (e : hn = 0 → ∀ u, u < 6 → ln u = 0) (x : Int32) : WE (o_idle nf nu nc pn qn m x).2 := by
  unfold o_idle
  split
  · split
    · exact Wf_WE h e
    · exact Wf_WE (Wf_it h _ (Nat.min_le_right _ _)) e
  · exact Wf_WE h e
theorem WE_send (h : Wf m nf nu nc qn hn pn ln) (e : hn = 0 → ∀ u, u < 6 → ln u = 0) (x : Int32) : WE (o_send nu qn hn ln m x).2 := by
  by_cases h1 : isIx x 64 = true
  · by_cases h2 : qn = 0
    · unfold o_send; rw [if_pos h1, if_pos h2]; exact Wf_WE h e
    · by_cases h3 : hn = 100
      · unfold o_send; rw [if_pos h1, if_neg h2, if_pos h3]; exact Wf_WE h e
      · exact Wf_WE (Wf_send h x h1 h2 h3) (fun q => absurd q (Nat.succ_ne_zero _))
  · unfold o_send; rw [if_neg h1]; exact Wf_WE h e
theorem WE_sched (h : Wf m nf nu nc qn hn pn ln) (e : hn = 0 → ∀ u, u < 6 → ln u = 0) (x : Int32) : WE (o_schedule nf nu ln m x).2 := by
  unfold o_schedule
  split
  · exact Wf_WE (Wf_schedule h _) e
  · exact Wf_WE h e
theorem WE_do (h : WE m) (c : Nat × Nat × Nat) : WE (doC m c).2 := by
  obtain ⟨g, e⟩ := WE_n h
  unfold doC
  repeat' split
  · exact Wf_WE (Wf_wants g _ _) e
  · exact Wf_WE (Wf_wants g _ _) e
  · exact Wf_WE (Wf_storeSubsets g _) e
  · exact WE_idle g e _
  · exact WE_sched g e _
  · exact WE_send g e _
  · exact Wf_WE (Wf_comes g _ _) e
  · exact Wf_WE (Wf_comes g _ _) e
theorem WE_runL {L : List (Nat × Nat × Nat)} (h : WE m) : ∀ k, WE (runL L m k).2.2
  | 0 => h
  | k + 1 => by
    have ih := WE_runL (L := L) h k
    rw [runL_s]
    split
    · split
      · exact WE_do ih _
      · exact WE_do ih _
    · exact ih
theorem WE_run (h : WE m) (tc : Nat → Nat) (n : Nat) (w : Int32) : WE (o_run tc n m w).2.2 := by
  unfold o_run
  split
  · exact WE_runL h _
  · exact h
theorem WE_beg {nf nu nc : Nat} (h1 : 1 ≤ nf) (h2 : nf ≤ 5) (h3 : 1 ≤ nu) (h4 : nu ≤ 6) (h5 : nc ≤ 60) (h : isBeg nf nu nc m) : WE m := Wf_WE (Wf_beg h1 h2 h3 h4 h5 h) (fun _ _ _ => rfl)
theorem WE_c {m' : Nat → Int64} (h : WE m) (e : ∀ j, j < 621 → m' j = m j) : WE m' := by
  obtain ⟨a, b, c, d, e4, f, g, ⟨c0, c1, c2, c3, c4, c5, c6, c7, c8, c9, c10, c11, c12⟩, q⟩ := h
  exact ⟨a, b, c, d, e4, f, g, ⟨wc0_k c0 (fun j _ _ => e j (by omega)), wc1_k c1 (fun j _ _ => e j (by omega)), wc2_k c2 (fun j _ _ => e j (by omega)), wc3_k c3 (fun j _ _ => e j (by omega)), wc4_k c4 (fun j _ _ => e j (by omega)), wc5_k c5 (fun j _ _ => e j (by omega)), wc6_k c6 (fun j _ _ => e j (by omega)), wc7_k c7 (fun j _ _ => e j (by omega)), wc8_k (fun u hu => (c4 u hu).2) c8 (fun j _ _ => e j (by omega)), wc9_k c1.2 c9 (fun j _ _ => e j (by omega)), wc10_k c2.2 c10 (fun j _ _ => e j (by omega)), wc11_k c11 (fun j _ _ => e j (by omega)), wc12_k c3.2 c12 (fun j _ _ => e j (by omega))⟩, q⟩
theorem RepW_c {b : Nat} {m' : Nat → Int64} {I : FI} {J : FJ} {A : FI} {B : FJ} (hG : WG m) (h : RepW b m I J A B) (e : ∀ j, j < 621 → m' j = m j) : RepW b m' I J A B := by
  obtain ⟨h0, h1, h2, h3, h4, h5, h6, h7, h8⟩ := h
  have hl : ∀ u, u < 6 → lnG m u ≤ 40 := fun u hu => (hG.2.2.2.2.1 u hu).2
  exact ⟨r0_m h0 (fun j _ => e j (by omega)), r1_m h1 hG.1.2.2.2.2.2.2.1 (fun j _ => e j (by omega)), r2_m h2 (fun j _ _ => e j (by omega)), r3_m h3 (fun j _ _ => e j (by omega)), r4_m h4 hl (fun j _ _ => e j (by omega)), r5_m h5 hG.1.2.2.2.2.1 hl (fun j _ => e j (by omega)), r6_m h6 hG.2.1.2 (fun j _ _ => e j (by omega)), r7_m h7 hG.2.2.1.2 (fun j _ _ => e j (by omega)), r8_m h8 hG.2.2.2.1.2 (fun j _ _ => e j (by omega))⟩
end We
/-- what can be told of both: the row, the two kept ones; which are kept; the text, its length; the reason -/
abbrev ST : Type := ((Nat → Int64) × (Nat → Int64) × (Nat → Int64)) × (Bool × Bool) × (Nat → Nat) × Nat × Int32
def InvM (s : ST) : Prop := WE s.1.1 ∧ (s.2.1.1 = true → WE s.1.2.1) ∧ (s.2.1.2 = true → WE s.1.2.2)
def InvC (s : ST) (I : FI) (J : FJ) (A : FI) (B : FJ) : Prop := RepW 100 s.1.1 I J A B ∧ (s.2.1.1 = true → RepW 200 s.1.2.1 I J A B) ∧ (s.2.1.2 = true → RepW 300 s.1.2.2 I J A B) ∧ I 13 1 = nI s.2.2.2.1 ∧ RTc A s.2.2.1 s.2.2.2.1 ∧ I 0 7 = s.2.2.2.2 ∧ A 11 0 = nI 0 ∧ B 12 0 = lN 0
def InvR (s : ST) (I : FI) (_ : FJ) (A : FI) (B : FJ) : Prop := B 501 = s.1.1 ∧ (A 503 0 = bI s.2.1.1 ∧ A 503 1 = bI s.2.1.2) ∧ (s.2.1.1 = true → ∀ j, j < 621 → B 502 j = s.1.2.1 j) ∧ (s.2.1.2 = true → ∀ j, j < 621 → B 502 (621 + j) = s.1.2.2 j) ∧ I 500 4 = nI s.2.2.2.1 ∧ RT_ A s.2.2.1 s.2.2.2.1 ∧ I 500 5 = s.2.2.2.2
/-- the class' side of a call: it answers v, and comes where Rel says -/
def opC (M : MI) (as : List Value) (v : Value) (s : ST) (z : Bool × Bool) (Rel : ST → Prop) : Prop := ∀ (ad : Nat → Nat) (I : FI) (J : FJ) (A : FI) (B : FJ), InvC s I J A B → Spec M (.ref (ad 0) :: as) (YC ad s.2.1.1 s.2.1.2) I J A B (fun v' Y' I' J' A' B' => v' = some v ∧ (∃ ad', Y' = YC ad' z.1 z.2 ∧ ad' 0 = ad 0) ∧ ∀ s', Rel s' → InvC s' I' J' A' B')
def opR (M : MI) (as : List Value) (v : Value) (s : ST) (Rel : ST → Prop) : Prop := ∀ (ad : Nat → Nat) (I : FI) (J : FJ) (A : FI) (B : FJ), InvR s I J A B → Spec M (.ref (ad 500) :: as) (YR ad) I J A B (fun v' Y' I' J' A' B' => v' = some v ∧ Y' = YR ad ∧ ∃ s', Rel s' ∧ InvR s' I' J' A' B')
/-- both sides answer the same, and come to the same -/
def OP (MC MR : MI) (as : List Value) (s : ST) (P : Value → Prop) : Prop := ∃ (v : Value) (z : Bool × Bool) (Rel : ST → Prop), P v ∧ opC MC as v s z Rel ∧ opR MR as v s Rel ∧ ∀ s', Rel s' → InvM s' ∧ s'.2.1 = z
def isI (v : Value) : Prop := ∃ x, v = .int x
def isJ (v : Value) : Prop := ∃ x, v = .long x
/-- the row, set -/
def sM (s : ST) (m : Nat → Int64) : ST := ((m, s.1.2), s.2)
theorem InvC_kp {s : ST} {m' : Nat → Int64} {I : FI} {J : FJ} {A : FI} {B : FJ} {I' : FI} {J' : FJ} {A' : FI} {B' : FJ} (h : InvC s I J A B) (hR : RepW 100 m' I' J' A' B') (k : kpC I J A B I' J' A' B') : InvC (sM s m') I' J' A' B' := by
  obtain ⟨h0, h1, h2, h3, h4, h5, h6, h7⟩ := h
  obtain ⟨k0, k1, k2, k3, k4, k5⟩ := k
  refine ⟨hR, fun q => RepW_frb (h1 q) (fun i a b => k0 i (by omega)), fun q => RepW_frb (h2 q) (fun i a b => k0 i (by omega)), ?_, ⟨h4.1, fun i hi => ?_⟩, k3.trans h5, k4.trans h6, k5.trans h7⟩
  · show I' 13 1 = _
    rw [k1]; exact h3
  · rw [k2]; exact h4.2 i hi
theorem InvR_kp {s : ST} {m' : Nat → Int64} {I : FI} {J : FJ} {A : FI} {B : FJ} {I' : FI} {J' : FJ} {A' : FI} {B' : FJ} (h : InvR s I J A B) (hR : B' 501 = m') (k : kpR I J A B I' J' A' B') : InvR (sM s m') I' J' A' B' := by
  obtain ⟨h0, h1, h2, h3, h4, h5, h6⟩ := h
  obtain ⟨⟨k1, k2, -, -⟩, -, ⟨k3, k4, -⟩, k5⟩ := k
  refine ⟨hR, ?_, ?_, ?_, k1.trans h4, ⟨h5.1, fun i hi => ?_⟩, k2.trans h6⟩
  · rw [k3]; exact h1
  · intro q j hj
    rw [k5]; exact h2 q j hj
  · intro q j hj
    rw [k5]; exact h3 q j hj
  · rw [k4]; exact h5.2 i hi
theorem InvM_m {s : ST} {m' : Nat → Int64} (h : InvM s) (hw : WE m') : InvM (sM s m') := ⟨hw, h.2⟩
theorem RTc_of {A : FI} {tc : Nat → Nat} {n : Nat} (h : RTc A tc n) : n ≤ 80 := h.1
/-- a call of the usual kind -/
theorem OP_c {MC MR : MI} {as : List Value} {s : ST} {P : Value → Prop} (v : Value) (m' : Nat → Int64) (hv : P v) (hM : InvM s) (hw : WE m') (hC : ∀ (ad : Nat → Nat) (I : FI) (J : FJ) (A : FI) (B : FJ), InvC s I J A B → Spec MC (.ref (ad 0) :: as) (YC ad s.2.1.1 s.2.1.2) I J A B (cP ad s.2.1.1 s.2.1.2 I J A B v m')) (hR : ∀ (ad : Nat → Nat) (I : FI) (J : FJ) (A : FI) (B : FJ), InvR s I J A B → Spec MR (.ref (ad 500) :: as) (YR ad) I J A B (fun v' Y' I' J' A' B' => v' = some v ∧ Y' = YR ad ∧ B' 501 = m' ∧ kpR I J A B I' J' A' B')) : OP MC MR as s P := by
  refine ⟨v, s.2.1, fun s' => s' = sM s m', hv, fun ad I J A B h => Spec_mono (hC ad I J A B h) (fun v' Y' I' J' A' B' q => ?_), fun ad I J A B h => Spec_mono (hR ad I J A B h) (fun v' Y' I' J' A' B' q => ?_), fun s' e => ?_⟩
  · obtain ⟨q1, q2, q3, q4⟩ := q
    exact ⟨q1, ⟨ad, q2, rfl⟩, fun s' e => e ▸ InvC_kp h q3 q4⟩
  · obtain ⟨q1, q2, q3, q4⟩ := q
    exact ⟨q1, q2, _, rfl, InvR_kp h q3 q4⟩
  · subst e
    exact ⟨InvM_m hM hw, rfl⟩
theorem eq_R {ad : Nat → Nat} {I : FI} {J : FJ} {A : FI} {B : FJ} {v : Value} {m' : Nat → Int64} {M : MI} {av : List Value} (h : Spec M av (YR ad) I J A B (eqP (some v) (YR ad) I J A (va_up B 501 m'))) : Spec M av (YR ad) I J A B (fun v' Y' I' J' A' B' => v' = some v ∧ Y' = YR ad ∧ B' 501 = m' ∧ kpR I J A B I' J' A' B') :=
  Spec_mono h (fun v' Y' I' J' A' B' q => by
    obtain ⟨rfl, rfl, rfl, rfl, rfl, rfl⟩ := q
    exact ⟨rfl, rfl, va_up_self _ _ _, ⟨rfl, rfl, rfl, rfl⟩, rfl, ⟨rfl, rfl, rfl⟩, va_up_ne _ _ (by omega)⟩)
theorem eq_R0 {ad : Nat → Nat} {I : FI} {J : FJ} {A : FI} {B : FJ} {v : Value} {m' : Nat → Int64} {M : MI} {av : List Value} (e : B 501 = m') (h : Spec M av (YR ad) I J A B (eqP (some v) (YR ad) I J A B)) : Spec M av (YR ad) I J A B (fun v' Y' I' J' A' B' => v' = some v ∧ Y' = YR ad ∧ B' 501 = m' ∧ kpR I J A B I' J' A' B') :=
  Spec_mono h (fun v' Y' I' J' A' B' q => by
    obtain ⟨rfl, rfl, rfl, rfl, rfl, rfl⟩ := q
    exact ⟨rfl, rfl, e, kpR_rf _ _ _ _⟩)
theorem st_R {ad : Nat → Nat} {I : FI} {J : FJ} {A : FI} {B : FJ} {a : Int32} {m' : Nat → Int64} {M : MI} {av : List Value} (h : Spec M av (YR ad) I J A B (stP ad I J A B (a, m'))) : Spec M av (YR ad) I J A B (fun v' Y' I' J' A' B' => v' = some (.int a) ∧ Y' = YR ad ∧ B' 501 = m' ∧ kpR I J A B I' J' A' B') := h
theorem se_R {ad : Nat → Nat} {I : FI} {J : FJ} {A : FI} {B : FJ} {v : Value} {m' : Nat → Int64} {M : MI} {av : List Value} (e : B 501 = m') (h : Spec M av (YR ad) I J A B (seP ad I J A B v)) : Spec M av (YR ad) I J A B (fun v' Y' I' J' A' B' => v' = some v ∧ Y' = YR ad ∧ B' 501 = m' ∧ kpR I J A B I' J' A' B') :=
  Spec_mono h (fun v' Y' I' J' A' B' q => ⟨q.1, q.2.1, q.2.2.1.trans e, q.2.2.2⟩)
theorem sc_R {ad : Nat → Nat} {I : FI} {J : FJ} {A : FI} {B : FJ} {v : Value} {m' : Nat → Int64} {M : MI} {av : List Value} (e : B 501 = m') (h : Spec M av (YR ad) I J A B (scP (some v) (YR ad) I J A B)) : Spec M av (YR ad) I J A B (fun v' Y' I' J' A' B' => v' = some v ∧ Y' = YR ad ∧ B' 501 = m' ∧ kpR I J A B I' J' A' B') :=
  se_R e (Spec_mono h (fun v' Y' I' J' A' B' q => se_sc q))
section Ops
variable {s : ST}
theorem op_setContent (hM : InvM s) (x y : Int32) : OP M_X8_setContent M_X9_setContent [.int x, .int y] s isI := by
  obtain ⟨g, e⟩ := WE_n hM.1
  refine OP_c (.int (o_setContent (gN (s.1.1 0)) (gN (s.1.1 428)) s.1.1 x y).1) (o_setContent (gN (s.1.1 0)) (gN (s.1.1 428)) s.1.1 x y).2 ⟨_, rfl⟩ hM (Wf_WE (Wf_setContent g x y) e) (fun ad I J A B h => c_setContent ad _ _ I J A B x y s.1.1 g h.1 (WE_e hM.1)) (fun ad I J A B h => eq_R ?_)
  have hB := h.1
  rw [← hB] at g ⊢
  exact sp_setContent ad I J A B x y _ _ g.1.1 g.1.2.2.2.1 g.1.2.2.2.2.1 g.2.2.1.1 g.2.2.1.2
theorem op_store (hM : InvM s) (x y : Int32) : OP M_X8_store M_X9_store [.int x, .int y] s isI := by
  obtain ⟨g, e⟩ := WE_n hM.1
  refine OP_c (.int (o_store (gN (s.1.1 0)) (gN (s.1.1 1)) (gN (s.1.1 2)) s.1.1 x y).1) (o_store (gN (s.1.1 0)) (gN (s.1.1 1)) (gN (s.1.1 2)) s.1.1 x y).2 ⟨_, rfl⟩ hM (Wf_WE (Wf_store g x y) e) (fun ad I J A B h => c_store ad _ _ I J A B x y s.1.1 g h.1) (fun ad I J A B h => eq_R ?_)
  have hB := h.1
  rw [← hB] at g ⊢
  exact sp_store ad I J A B x y _ _ _ g.1
theorem op_drop (hM : InvM s) (x y : Int32) : OP M_X8_drop M_X9_drop [.int x, .int y] s isI := by
  obtain ⟨g, e⟩ := WE_n hM.1
  refine OP_c (.int (o_drop (gN (s.1.1 0)) (gN (s.1.1 1)) s.1.1 x y).1) (o_drop (gN (s.1.1 0)) (gN (s.1.1 1)) s.1.1 x y).2 ⟨_, rfl⟩ hM (Wf_WE (Wf_drop g x y) e) (fun ad I J A B h => c_drop ad _ _ I J A B x y s.1.1 g h.1) (fun ad I J A B h => eq_R ?_)
  have hB := h.1
  rw [← hB] at g ⊢
  exact sp_drop ad I J A B x y _ _ _ g.1
theorem op_storeSubsets (hM : InvM s) (x : Int32) : OP M_X8_storeSubsets M_X9_storeSubsets [.int x] s isI := by
  obtain ⟨g, e⟩ := WE_n hM.1
  refine OP_c (.int (k_subs s.1.1 x).1) (k_subs s.1.1 x).2 ⟨_, rfl⟩ hM (Wf_WE (Wf_storeSubsets g x) e) (fun ad I J A B h => c_subs ad _ _ I J A B x s.1.1 g h.1) (fun ad I J A B h => st_R ?_)
  have hB := h.1
  rw [← hB] at g ⊢
  exact s_subs ad I J A B g x
theorem op_storeRandom (hM : InvM s) (x : Int32) : OP M_X8_storeRandom M_X9_storeRandom [.int x] s isI := by
  obtain ⟨g, e⟩ := WE_n hM.1
  refine OP_c (.int (o_storeRandom (gN (s.1.1 0)) (gN (s.1.1 1)) (gN (s.1.1 2)) s.1.1 x).1) (o_storeRandom (gN (s.1.1 0)) (gN (s.1.1 1)) (gN (s.1.1 2)) s.1.1 x).2 ⟨_, rfl⟩ hM (Wf_WE (Wf_storeRandom g x) e) (fun ad I J A B h => c_random ad _ _ I J A B x s.1.1 g h.1) (fun ad I J A B h => eq_R ?_)
  have hB := h.1
  rw [← hB] at g ⊢
  exact sp_storeRandom ad I J A B x _ _ _ g.1
theorem op_plan (hM : InvM s) (x y z : Int32) : OP M_X8_plan M_X9_plan [.int x, .int y, .int z] s isI := by
  obtain ⟨g, e⟩ := WE_n hM.1
  refine OP_c (.int (o_plan (gN (s.1.1 0)) (gN (s.1.1 1)) (gN (s.1.1 529)) s.1.1 x y z).1) (o_plan (gN (s.1.1 0)) (gN (s.1.1 1)) (gN (s.1.1 529)) s.1.1 x y z).2 ⟨_, rfl⟩ hM (WE_plan g e x y z) (fun ad I J A B h => c_plan ad _ _ I J A B x y z s.1.1 g h.1) (fun ad I J A B h => eq_R ?_)
  have hB := h.1
  rw [← hB] at g ⊢
  exact sp_plan ad I J A B x y z _ _ _ _ g.1 g.2.2.2.1.1 g.2.2.2.1.2
theorem op_idle (hM : InvM s) (x : Int32) : OP M_X8_idle M_X9_idle [.int x] s isI := by
  obtain ⟨g, e⟩ := WE_n hM.1
  refine OP_c (.int (k_idle s.1.1 x).1) (k_idle s.1.1 x).2 ⟨_, rfl⟩ hM (WE_idle g e x) (fun ad I J A B h => c_idle ad _ _ I J A B x s.1.1 g h.1) (fun ad I J A B h => st_R ?_)
  have hB := h.1
  rw [← hB] at g ⊢
  exact s_idle ad I J A B g x
theorem op_cached (hM : InvM s) (x y : Int32) : OP M_X8_cached M_X9_cached [.int x, .int y] s isI := by
  obtain ⟨g, e⟩ := WE_n hM.1
  refine OP_c (.int (o_cached (gN (s.1.1 0)) (gN (s.1.1 1)) s.1.1 x y)) s.1.1 ⟨_, rfl⟩ hM hM.1 (fun ad I J A B h => c_cached ad _ _ I J A B x y s.1.1 g h.1) (fun ad I J A B h => eq_R0 h.1 ?_)
  have hB := h.1
  rw [← hB] at g ⊢
  exact sp_cached ad I J A B x y _ _ _ g.1
theorem op_want (hM : InvM s) (x y : Int32) : OP M_X8_want M_X9_want [.int x, .int y] s isI := by
  obtain ⟨g, e⟩ := WE_n hM.1
  refine OP_c (.int (k_want s.1.1 x y).1) (k_want s.1.1 x y).2 ⟨_, rfl⟩ hM (Wf_WE (Wf_wants g x y) e) (fun ad I J A B h => c_want ad _ _ I J A B x y s.1.1 g h.1) (fun ad I J A B h => st_R ?_)
  have hB := h.1
  rw [← hB] at g ⊢
  exact s_want ad I J A B g x y
theorem op_leave (hM : InvM s) (x : Int32) : OP M_X8_leave M_X9_leave [.int x] s isI := by
  obtain ⟨g, e⟩ := WE_n hM.1
  refine OP_c (.int (k_comes s.1.1 x false).1) (k_comes s.1.1 x false).2 ⟨_, rfl⟩ hM (Wf_WE (Wf_comes g x false) e) (fun ad I J A B h => c_leave ad _ _ I J A B x s.1.1 g h.1) (fun ad I J A B h => st_R ?_)
  have hB := h.1
  rw [← hB] at g ⊢
  exact s_leave ad I J A B g x
theorem op_join (hM : InvM s) (x : Int32) : OP M_X8_join M_X9_join [.int x] s isI := by
  obtain ⟨g, e⟩ := WE_n hM.1
  refine OP_c (.int (k_comes s.1.1 x true).1) (k_comes s.1.1 x true).2 ⟨_, rfl⟩ hM (Wf_WE (Wf_comes g x true) e) (fun ad I J A B h => c_join ad _ _ I J A B x s.1.1 g h.1) (fun ad I J A B h => st_R ?_)
  have hB := h.1
  rw [← hB] at g ⊢
  exact s_join ad I J A B g x
theorem op_sum (hM : InvM s) (x : Int64) : OP M_X8_sum M_X9_sum [.long x] s isI := by
  obtain ⟨g, e⟩ := WE_n hM.1
  refine OP_c (.int (o_sum (gN (s.1.1 0)) (gN (s.1.1 327)) s.1.1 x).1) (o_sum (gN (s.1.1 0)) (gN (s.1.1 327)) s.1.1 x).2 ⟨_, rfl⟩ hM (WE_sum g e x) (fun ad I J A B h => c_sum ad _ _ I J A B x s.1.1 g h.1) (fun ad I J A B h => eq_R ?_)
  have hB := h.1
  rw [← hB] at g ⊢
  exact sp_sum ad I J A B x _ _ g.1.1 g.2.1.1 g.2.1.2
theorem op_schedule (hM : InvM s) (x : Int32) : OP M_X8_schedule M_X9_schedule [.int x] s isI := by
  obtain ⟨g, e⟩ := WE_n hM.1
  refine OP_c (.int (k_sched s.1.1 x).1) (k_sched s.1.1 x).2 ⟨_, rfl⟩ hM (WE_sched g e x) (fun ad I J A B h => c_sched ad _ _ I J A B x s.1.1 g h.1) (fun ad I J A B h => st_R ?_)
  have hB := h.1
  rw [← hB] at g ⊢
  exact s_sched ad I J A B g x
theorem op_send (hM : InvM s) (x : Int32) : OP M_X8_send M_X9_send [.int x] s isI := by
  obtain ⟨g, e⟩ := WE_n hM.1
  refine OP_c (.int (k_send s.1.1 x).1) (k_send s.1.1 x).2 ⟨_, rfl⟩ hM (WE_send g e x) (fun ad I J A B h => c_send ad _ _ I J A B x s.1.1 g h.1) (fun ad I J A B h => st_R ?_)
  have hB := h.1
  rw [← hB] at g ⊢
  exact s_send ad I J A B g x
theorem op_resend (hM : InvM s) (x : Int32) : OP M_X8_resend M_X9_resend [.int x] s isI := by
  obtain ⟨g, e⟩ := WE_n hM.1
  refine OP_c (.int (o_resend (gN (s.1.1 327)) (gN (s.1.1 428)) s.1.1 x).1) (o_resend (gN (s.1.1 327)) (gN (s.1.1 428)) s.1.1 x).2 ⟨_, rfl⟩ hM (WE_resend g e x) (fun ad I J A B h => c_resend ad _ _ I J A B x s.1.1 g h.1) (fun ad I J A B h => eq_R ?_)
  have hB := h.1
  rw [← hB] at g ⊢
  exact sp_resend ad I J A B x _ _ g.2.1.1 g.2.1.2 g.2.2.1.1 g.2.2.1.2
theorem op_pending (hM : InvM s) (x : Int32) : OP M_X8_pending M_X9_pending [.int x] s isJ := by
  obtain ⟨g, e⟩ := WE_n hM.1
  refine OP_c (.long (o_at 328 (gN (s.1.1 327)) s.1.1 x)) s.1.1 ⟨_, rfl⟩ hM hM.1 (fun ad I J A B h => c_pending ad _ _ I J A B x s.1.1 g h.1) (fun ad I J A B h => eq_R0 h.1 ?_)
  have hB := h.1
  rw [← hB] at g ⊢
  exact sp_pending ad I J A B x _ g.2.1.1 g.2.1.2
theorem op_sent (hM : InvM s) (x : Int32) : OP M_X8_sent M_X9_sent [.int x] s isJ := by
  obtain ⟨g, e⟩ := WE_n hM.1
  refine OP_c (.long (o_at 429 (gN (s.1.1 428)) s.1.1 x)) s.1.1 ⟨_, rfl⟩ hM hM.1 (fun ad I J A B h => c_sent ad _ _ I J A B x s.1.1 g h.1) (fun ad I J A B h => eq_R0 h.1 ?_)
  have hB := h.1
  rw [← hB] at g ⊢
  exact sp_sent ad I J A B x _ g.2.2.1.1 g.2.2.1.2
theorem op_user (hM : InvM s) (x y : Int32) : OP M_X8_user M_X9_user [.int x, .int y] s isI := by
  obtain ⟨g, e⟩ := WE_n hM.1
  refine OP_c (.int (o_user (gN (s.1.1 0)) (gN (s.1.1 1)) (lnG s.1.1) s.1.1 x y)) s.1.1 ⟨_, rfl⟩ hM hM.1 (fun ad I J A B h => c_user ad _ _ I J A B x y s.1.1 g h.1) (fun ad I J A B h => sc_R h.1 ?_)
  have hB := h.1
  rw [← hB] at g ⊢
  exact sp_user ad I J A B x y _ _ _ g.1 (lnG (B 501)) (fun u hu => (g.2.2.2.2.1 u hu).1) (fun u hu => (g.2.2.2.2.1 u hu).2) (fun u hu => (g.2.2.2.2.2.1 u hu).1)
theorem op_decode (hM : InvM s) (x y : Int32) : OP M_X8_decode M_X9_decode [.int x, .int y] s isI := by
  obtain ⟨g, e⟩ := WE_n hM.1
  refine OP_c (.int (o_decode (gN (s.1.1 0)) (gN (s.1.1 1)) (lnG s.1.1) s.1.1 x y)) s.1.1 ⟨_, rfl⟩ hM hM.1 (fun ad I J A B h => c_decode ad _ _ I J A B x y s.1.1 g h.1) (fun ad I J A B h => sc_R h.1 ?_)
  have hB := h.1
  rw [← hB] at g ⊢
  exact sp_decode ad I J A B x y _ _ _ g.1 (lnG (B 501)) (fun u hu => (g.2.2.2.2.1 u hu).1) (fun u hu => (g.2.2.2.2.1 u hu).2)
theorem op_proof (hM : InvM s) (x y : Int32) : OP M_X8_proof M_X9_proof [.int x, .int y] s isJ := by
  obtain ⟨g, e⟩ := WE_n hM.1
  refine OP_c (.long (o_proof (gN (s.1.1 0)) (gN (s.1.1 1)) (lnG s.1.1) s.1.1 x y)) s.1.1 ⟨_, rfl⟩ hM hM.1 (fun ad I J A B h => c_proof ad _ _ I J A B x y s.1.1 g h.1) (fun ad I J A B h => sc_R h.1 ?_)
  have hB := h.1
  rw [← hB] at g ⊢
  exact sp_proof ad I J A B x y _ _ _ g.1 (lnG (B 501)) (fun u hu => (g.2.2.2.2.1 u hu).1) (fun u hu => (g.2.2.2.2.1 u hu).2)
theorem op_need (hM : InvM s) (x : Int32) : OP M_X8_need M_X9_need [.int x] s isI := by
  obtain ⟨g, e⟩ := WE_n hM.1
  refine OP_c (.int (o_need (gN (s.1.1 1)) (lnG s.1.1) s.1.1 x)) s.1.1 ⟨_, rfl⟩ hM hM.1 (fun ad I J A B h => c_need ad _ _ I J A B x s.1.1 g h.1) (fun ad I J A B h => sc_R h.1 ?_)
  have hB := h.1
  rw [← hB] at g ⊢
  exact sp_need ad I J A B x _ _ _ g.1 (lnG (B 501)) (fun u hu => (g.2.2.2.2.1 u hu).1) (fun u hu => (g.2.2.2.2.1 u hu).2) (fun u hu => (g.2.2.2.2.2.1 u hu).1)
theorem op_bound (hM : InvM s) : OP M_X8_bound M_X9_bound [] s isI := by
  obtain ⟨g, e⟩ := WE_n hM.1
  refine OP_c (.int (nI (o_bound s.1.1 (gN (s.1.1 1))))) s.1.1 ⟨_, rfl⟩ hM hM.1 (fun ad I J A B h => c_bound ad _ _ I J A B s.1.1 g h.1 h.2.2.2.2.2.2.1 h.2.2.2.2.2.2.2) (fun ad I J A B h => ?_)
  have hB := h.1
  rw [← hB] at g ⊢
  refine Spec_mono (sp_bound ad I J A B (gN (B 501 0)) (gN (B 501 1)) g.1.2.1 g.1.2.2.2.2.2.2.1 g.1.2.2.2.2.1 (fun u hu => (g.2.2.2.2.2.1 u hu).1)) (fun v' Y' I' J' A' B' q => ?_)
  obtain ⟨q1, q2, rfl, rfl, rfl, a, rfl⟩ := q
  exact ⟨q1, q2, rfl, ⟨rfl, rfl, rfl, rfl⟩, rfl, ⟨va_up_ne _ _ (by omega), va_up_ne _ _ (by omega), va_up_ne _ _ (by omega)⟩, rfl⟩
theorem op_rate (hM : InvM s) : OP M_X8_rate M_X9_rate [] s isI := by
  obtain ⟨g, e⟩ := WE_n hM.1
  refine OP_c (.int (o_rate (gN (s.1.1 428)))) s.1.1 ⟨_, rfl⟩ hM hM.1 (fun ad I J A B h => c_rate ad _ _ I J A B s.1.1 g h.1) (fun ad I J A B h => eq_R0 h.1 ?_)
  have hB := h.1
  rw [← hB] at g ⊢
  exact sp_rate ad I J A B _ g.2.2.1.1 g.2.2.1.2
theorem op_formula (hM : InvM s) (x : Int32) : OP M_X8_formula M_X9_formula [.int x] s isI := by
  obtain ⟨g, e⟩ := WE_n hM.1
  refine OP_c (.int (o_formula (gN (s.1.1 0)) (gN (s.1.1 1)) x)) s.1.1 ⟨_, rfl⟩ hM hM.1 (fun ad I J A B h => c_formula ad _ _ I J A B x s.1.1 g h.1) (fun ad I J A B h => eq_R0 h.1 ?_)
  have hB := h.1
  rw [← hB] at g ⊢
  exact sp_formula ad I J A B x _ _ _ g.1
theorem op_sharedRate (hM : InvM s) : OP M_X8_sharedRate M_X9_sharedRate [] s isI := by
  obtain ⟨g, e⟩ := WE_n hM.1
  refine OP_c (.int (o_shared (gN (s.1.1 0)) (gN (s.1.1 1)) (gN (s.1.1 2)))) s.1.1 ⟨_, rfl⟩ hM hM.1 (fun ad I J A B h => c_shared ad _ _ I J A B s.1.1 g h.1) (fun ad I J A B h => eq_R0 h.1 ?_)
  have hB := h.1
  rw [← hB] at g ⊢
  exact sp_sharedRate ad I J A B _ _ _ g.1
theorem op_count (hM : InvM s) (x : Int32) : OP M_X8_count M_X9_count [.int x] s isI := by
  obtain ⟨g, e⟩ := WE_n hM.1
  exact OP_c (.int (o_count s.1.1 s.2.2.2.1 x)) s.1.1 ⟨_, rfl⟩ hM hM.1 (fun ad I J A B h => c_count ad _ _ I J A B x _ s.1.1 g h.1 h.2.2.2.1) (fun ad I J A B h => se_R h.1 (sp_count ad I J A B x _ h.2.2.2.2.1 s.1.1 h.1 g))
theorem op_digest (hM : InvM s) : OP M_X8_digest M_X9_digest [] s isJ := by
  obtain ⟨g, e⟩ := WE_n hM.1
  refine ⟨.long (o_digest s.1.1 s.2.2.2.1), s.2.1, fun s' => s' = s, ⟨_, rfl⟩, fun ad I J A B h => Spec_mono (c_digest ad _ _ I J A B _ s.1.1 g h.1 h.2.2.2.1 h.2.2.2.2.2.2.1 h.2.2.2.2.2.2.2) (fun v' Y' I' J' A' B' q => ?_), fun ad I J A B h => Spec_mono (sp_digest ad I J A B _ h.2.2.2.2.1 s.1.1 h.1 g) (fun v' Y' I' J' A' B' q => ?_), fun s' e => by subst e; exact ⟨hM, rfl⟩⟩
  · obtain ⟨q1, q2, q3, q4⟩ := q
    exact ⟨q1, ⟨ad, q2, rfl⟩, fun s' e => e ▸ InvC_kp h q3 q4⟩
  · obtain ⟨q1, q2, q3, q4, k1, k2, k3, k4⟩ := q
    obtain ⟨h0, h1, h2, h3, h4, h5, h6⟩ := h
    refine ⟨q1, q2, s, rfl, q3, ?_, ?_, ?_, k1.trans h4, ⟨h5.1, fun i hi => ?_⟩, q4.trans h6⟩
    · rw [k2]; exact h1
    · rw [k4]; exact h2
    · rw [k4]; exact h3
    · rw [k3]; exact h5.2 i hi
end Ops
