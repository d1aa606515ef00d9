/-! layouts that grow: what constructors need of words, and what they build -/
theorem nY1 {Y : PS} {i q c j : Nat} (h : j ≠ i) : (newY Y i q c).1 j = Y.1 j := va_up_ne _ _ h
theorem nY1s {Y : PS} {i q c : Nat} : (newY Y i q c).1 i = q := va_up_self _ _ _
theorem nYK {Y : PS} {i q c j : Nat} (h : j ≠ i) : (newY Y i q c).2.1 j = Y.2.1 j := va_up_ne _ _ h
theorem nYKs {Y : PS} {i q c : Nat} : (newY Y i q c).2.1 i = c := va_up_self _ _ _
theorem nYR {Y : PS} {i q c j : Nat} (h : j ≠ i) : (newY Y i q c).2.2.2.2 j = Y.2.2.2.2 j := va_up_ne _ _ h
/-- what points, points to something that is there -/
def ClY (Y : PS) : Prop := ∀ j, Y.2.1 j < 15 → ∀ k x, (Y.2.2.2.1 j k = some x ∨ Y.2.2.2.2 j k = some x) → Y.2.1 x < 15
theorem frY_of {Y : PS} {i : Nat} (hC : ClY Y) (hi : i < 600) (hK : ¬ Y.2.1 i < 15) : frY Y i := ⟨hi, hK, fun j hj => ⟨fun k q => hK (hC j hj k i (Or.inl q)), fun k q => hK (hC j hj k i (Or.inr q))⟩⟩
theorem ClY_new {Y : PS} {i q c : Nat} (hC : ClY Y) (hc : c < 15) : ClY (newY Y i q c) := by
  intro j hj k x h
  have hx : ∀ y, Y.2.1 y < 15 → (newY Y i q c).2.1 y < 15 := fun y hy => by
    show va_up Y.2.1 i c y < 15
    by_cases e : y = i
    · rw [e, va_up_self]; exact hc
    · rw [va_up_ne _ _ e]; exact hy
  by_cases e : j = i
  · subst e
    rcases h with h | h
    · rw [show (newY Y j q c).2.2.2.1 j k = none from by show va_up _ j (fun _ => none) j k = none; rw [va_up_self]] at h; cases h
    · rw [show (newY Y j q c).2.2.2.2 j k = none from by show va_up _ j (fun _ => none) j k = none; rw [va_up_self]] at h; cases h
  · have hj2 : Y.2.1 j < 15 := by rw [show (newY Y i q c).2.1 j = Y.2.1 j from va_up_ne _ _ e] at hj; exact hj
    rw [show (newY Y i q c).2.2.2.1 j k = Y.2.2.2.1 j k from by show va_up Y.2.2.2.1 i (fun _ => none) j k = _; rw [va_up_ne _ _ e], show (newY Y i q c).2.2.2.2 j k = Y.2.2.2.2 j k from by show va_up Y.2.2.2.2 i (fun _ => none) j k = _; rw [va_up_ne _ _ e]] at h
    exact hx x (hC j hj2 k x h)
theorem ClY_put {Y : PS} {i k j : Nat} (hC : ClY Y) (hj : Y.2.1 j < 15) : ClY (putY Y i k j) := by
  intro a ha b x h
  rcases h with h | h
  · by_cases e : a = i ∧ b = k
    · obtain ⟨rfl, rfl⟩ := e
      rw [show (putY Y a b j).2.2.2.1 a b = some j from up2_same _ _ _ _] at h
      rw [← Option.some.inj h]; exact hj
    · have : (putY Y i k j).2.2.2.1 a b = Y.2.2.2.1 a b := by
        by_cases e2 : a = i
        · subst e2; exact up2_ix _ _ _ (fun z => e ⟨rfl, z⟩)
        · exact up2_ne _ _ _ _ e2
      rw [this] at h
      exact hC a ha b x (Or.inl h)
  · exact hC a ha b x (Or.inr h)
theorem ClY_ast {Y : PS} {i k j : Nat} (hC : ClY Y) (hj : Y.2.1 j < 15) : ClY (astY Y i k j) := by
  intro a ha b x h
  rcases h with h | h
  · exact hC a ha b x (Or.inl h)
  · by_cases e : a = i ∧ b = k
    · obtain ⟨rfl, rfl⟩ := e
      rw [show (astY Y a b j).2.2.2.2 a b = some j from up2_same _ _ _ _] at h
      rw [← Option.some.inj h]; exact hj
    · have : (astY Y i k j).2.2.2.2 a b = Y.2.2.2.2 a b := by
        by_cases e2 : a = i
        · subst e2; exact up2_ix _ _ _ (fun z => e ⟨rfl, z⟩)
        · exact up2_ne _ _ _ _ e2
      rw [this] at h
      exact hC a ha b x (Or.inr h)
/-- Y' is Y and the places S, laid as the tables kF and pF say; the object at t got its fields asg -/
def Bld (kF : Nat → Nat) (pF : FP') (Y Y' : PS) (S : Nat → Prop) (t : Nat) (asg : Nat → Prop) : Prop :=
  (∀ j, Y.2.1 j < 15 → Y'.1 j = Y.1 j) ∧ (∀ j, ¬ S j → Y'.2.1 j = Y.2.1 j) ∧ (∀ j, S j → ¬ Y.2.1 j < 15 ∧ Y'.2.1 j = kF j ∧ kF j < 15) ∧ Y'.2.2.1 = Y.2.2.1 ∧ (∀ j, Y.2.1 j < 15 → (j ≠ t → ∀ k, Y'.2.2.2.1 j k = Y.2.2.2.1 j k) ∧ ∀ k, Y'.2.2.2.2 j k = Y.2.2.2.2 j k) ∧ (∀ j, S j → ∀ k, (fkd (kF j))[k]? = some 2 → Y'.2.2.2.1 j k = pF j k) ∧ (∀ k, asg k → Y'.2.2.2.1 t k = pF t k) ∧ ClY Y'
section BB
variable {kF : Nat → Nat} {pF : FP'} {Y Y' Y1 Y2 : PS} {S S2 : Nat → Prop} {t : Nat} {asg asg2 : Nat → Prop}
theorem B_0 (hC : ClY Y) : Bld kF pF Y Y (fun _ => False) t (fun _ => False) := ⟨fun _ _ => rfl, fun _ _ => rfl, fun _ h => h.elim, rfl, fun _ _ => ⟨fun _ _ => rfl, fun _ => rfl⟩, fun _ h => h.elim, fun _ h => h.elim, hC⟩
theorem B_al (h : Bld kF pF Y Y' S t asg) {j : Nat} (hj : Y.2.1 j < 15) : Y'.2.1 j = Y.2.1 j := h.2.1 j (fun q => (h.2.2.1 j q).1 hj)
theorem B_arr (h : Bld kF pF Y Y' S t asg) {i q c : Nat} (hi : ¬ Y'.2.1 i < 15) (hc : kF i = c) (hc2 : c < 15) (hf : fkd c = []) (ht : Y.2.1 t < 15) : Bld kF pF Y (newY Y' i q c) (fun j => S j ∨ j = i) t asg := by
  have ne : ∀ j, Y.2.1 j < 15 → j ≠ i := fun j hj e => hi (by rw [← e, B_al h hj]; exact hj)
  have nS : ∀ j, S j → j ≠ i := fun j hj e => hi (by rw [← e, (h.2.2.1 j hj).2.1]; exact (h.2.2.1 j hj).2.2)
  have nI_ : ¬ Y.2.1 i < 15 := fun q => ne i q rfl
  obtain ⟨b1, b2, b3, b4, b5, b6, b7, b8⟩ := h
  refine ⟨fun j hj => (va_up_ne _ _ (ne j hj)).trans (b1 j hj), fun j hj => ?_, fun j hj => ?_, b4, fun j hj => ⟨fun hjt k => ?_, fun k => ?_⟩, fun j hj k hk => ?_, fun k hk => ?_, ClY_new b8 hc2⟩
  · show va_up Y'.2.1 i c j = _
    rw [va_up_ne _ _ (fun e => hj (Or.inr e))]
    exact b2 j (fun q => hj (Or.inl q))
  · show _ ∧ va_up Y'.2.1 i c j = _ ∧ _
    by_cases e : j = i
    · subst e; rw [va_up_self, hc]; exact ⟨nI_, rfl, hc2⟩
    · have hS := hj.resolve_right e
      rw [va_up_ne _ _ e]; exact b3 j hS
  · show va_up Y'.2.2.2.1 i _ j k = _
    rw [va_up_ne _ _ (ne j hj)]; exact (b5 j hj).1 hjt k
  · show va_up Y'.2.2.2.2 i _ j k = _
    rw [va_up_ne _ _ (ne j hj)]; exact (b5 j hj).2 k
  · by_cases e : j = i
    · subst e; rw [hc, hf] at hk; cases hk
    · have hS := hj.resolve_right e
      show va_up Y'.2.2.2.1 i _ j k = _
      rw [va_up_ne _ _ e]; exact b6 j hS k hk
  · show va_up Y'.2.2.2.1 i _ t k = _
    rw [va_up_ne _ _ (ne t ht)]; exact b7 k hk
theorem B_obj (h : Bld kF pF Y Y' S t asg) {i q c : Nat} (hi : ¬ Y'.2.1 i < 15) (hc : kF i = c) (hc2 : c < 15) (h2 : Bld kF pF (newY Y' i q c) Y2 S2 i asg2) (hall : ∀ k, (fkd c)[k]? = some 2 → asg2 k) (ht : Y.2.1 t < 15) : Bld kF pF Y Y2 (fun j => (S j ∨ j = i) ∨ S2 j) t asg := by
  have ne : ∀ j, Y.2.1 j < 15 → j ≠ i := fun j hj e => hi (by rw [← e, B_al h hj]; exact hj)
  have nS : ∀ j, S j → j ≠ i := fun j hj e => hi (by rw [← e, (h.2.2.1 j hj).2.1]; exact (h.2.2.1 j hj).2.2)
  have nI_ : ¬ Y.2.1 i < 15 := fun q => ne i q rfl
  have k1 : ∀ j, j ≠ i → (newY Y' i q c).2.1 j = Y'.2.1 j := fun j hj => va_up_ne _ _ hj
  have ki : (newY Y' i q c).2.1 i = c := va_up_self _ _ _
  have al1 : ∀ j, Y.2.1 j < 15 → (newY Y' i q c).2.1 j < 15 := fun j hj => by rw [k1 j (ne j hj), B_al h hj]; exact hj
  have als : ∀ j, S j → (newY Y' i q c).2.1 j < 15 := fun j hj => by rw [k1 j (nS j hj), (h.2.2.1 j hj).2.1]; exact (h.2.2.1 j hj).2.2
  obtain ⟨b1, b2, b3, b4, b5, b6, b7, b8⟩ := h
  obtain ⟨c1, c2, c3, c4, c5, c6, c7, c8⟩ := h2
  refine ⟨fun j hj => ?_, fun j hj => ?_, fun j hj => ?_, c4.trans b4, fun j hj => ⟨fun hjt k => ?_, fun k => ?_⟩, fun j hj k hk => ?_, fun k hk => ?_, c8⟩
  · rw [c1 j (al1 j hj)]; exact (va_up_ne _ _ (ne j hj)).trans (b1 j hj)
  · rw [c2 j (fun q => hj (Or.inr q)), k1 j (fun e => hj (Or.inl (Or.inr e)))]
    exact b2 j (fun q => hj (Or.inl (Or.inl q)))
  · rcases hj with (hj | hj) | hj
    · rw [c2 j (fun q => (c3 j q).1 (als j hj)), k1 j (nS j hj)]; exact b3 j hj
    · subst hj
      rw [c2 j (fun q => (c3 j q).1 (by rw [ki]; exact hc2)), ki, hc]; exact ⟨nI_, rfl, hc2⟩
    · exact ⟨fun q => (c3 j hj).1 (al1 j q), (c3 j hj).2⟩
  · rw [(c5 j (al1 j hj)).1 (ne j hj) k]
    show va_up Y'.2.2.2.1 i _ j k = _
    rw [va_up_ne _ _ (ne j hj)]; exact (b5 j hj).1 hjt k
  · rw [(c5 j (al1 j hj)).2 k]
    show va_up Y'.2.2.2.2 i _ j k = _
    rw [va_up_ne _ _ (ne j hj)]; exact (b5 j hj).2 k
  · rcases hj with (hj | hj) | hj
    · rw [(c5 j (als j hj)).1 (nS j hj) k]
      show va_up Y'.2.2.2.1 i _ j k = _
      rw [va_up_ne _ _ (nS j hj)]; exact b6 j hj k hk
    · subst hj; exact c7 k (hall k (by rw [← hc]; exact hk))
    · exact c6 j hj k hk
  · rw [(c5 t (al1 t ht)).1 (ne t ht) k]
    show va_up Y'.2.2.2.1 i _ t k = _
    rw [va_up_ne _ _ (ne t ht)]; exact b7 k hk
theorem B_put (h : Bld kF pF Y Y' S t asg) {k j : Nat} (ht : Y.2.1 t < 15) (hp : pF t k = some j) (hj : Y'.2.1 j < 15) : Bld kF pF Y (putY Y' t k j) S t (fun x => asg x ∨ x = k) := by
  obtain ⟨b1, b2, b3, b4, b5, b6, b7, b8⟩ := h
  refine ⟨b1, b2, b3, b4, fun a ha => ⟨fun hat x => ?_, (b5 a ha).2⟩, fun a ha x hx => ?_, fun x hx => ?_, ClY_put b8 hj⟩
  · show up2 Y'.2.2.2.1 t k (some j) a x = _
    rw [up2_ne _ _ _ _ hat]; exact (b5 a ha).1 hat x
  · show up2 Y'.2.2.2.1 t k (some j) a x = _
    rw [up2_ne _ _ _ _ (fun e => (b3 a ha).1 (by rw [e]; exact ht))]; exact b6 a ha x hx
  · show up2 Y'.2.2.2.1 t k (some j) t x = _
    by_cases e : x = k
    · subst e; rw [up2_same]; exact hp.symm
    · rw [up2_ix _ _ _ e]; exact b7 x (hx.resolve_right e)
theorem B_as (h : Bld kF pF Y Y' S t asg) {S3 : Nat → Prop} {asg3 : Nat → Prop} (e1 : ∀ j, S3 j ↔ S j) (e2 : ∀ k, asg3 k → asg k) : Bld kF pF Y Y' S3 t asg3 := by
  have : S3 = S := funext fun j => propext (e1 j)
  subst this
  exact ⟨h.1, h.2.1, h.2.2.1, h.2.2.2.1, h.2.2.2.2.1, h.2.2.2.2.2.1, fun k hk => h.2.2.2.2.2.2.1 k (e2 k hk), h.2.2.2.2.2.2.2⟩
end BB

theorem ai_w : Cond.arrayClass .int ∈ lw_all := in_tb 55 (by decide +kernel) rfl
theorem al_w : Cond.arrayClass .long ∈ lw_all := in_tb 56 (by decide +kernel) rfl
theorem az_w : Cond.arrayClass .boolean ∈ lw_all := in_tb 830 (by decide +kernel) rfl
theorem ao_2 : Cond.arrayOver (.object RX2) ∈ lw_nst := in_tn 30 (by decide +kernel) rfl
theorem ao_7 : Cond.arrayOver (.object RX7) ∈ lw_nst := in_tn 155 (by decide +kernel) rfl
theorem oi_i : Cond.instanceMethod objectInit ∈ lw_all := in_tb 21 (by decide +kernel) rfl
theorem oi_c : Cond.code objectInit ⟨#[0xb1]⟩ 1 none ∈ lw_all := in_tb 22 (by decide +kernel) rfl
theorem cl_L_7 : Cond.classLink RL 7 RX8 ∈ lw_all := in_tb 15 (by decide +kernel) rfl
theorem nw_L_7 : NWp RL 7 8 := ⟨RX8, TX8, 8, tyX8, rfl, cw_X8, tyX8_ok, cl_L_7, in_tb 16 (by decide +kernel) rfl, in_tb 1 (by decide +kernel) rfl, rfl, fun j hj => by rcases (show j = 0 ∨ j = 1 ∨ j = 2 ∨ j = 3 ∨ j = 4 ∨ j = 5 ∨ j = 6 ∨ j = 7 by omega) with rfl | rfl | rfl | rfl | rfl | rfl | rfl | rfl <;> rfl⟩
theorem cl_X8_7 : Cond.classLink RX8 7 RX7 ∈ lw_all := in_tb 23 (by decide +kernel) rfl
theorem nw_X8_7 : NWp RX8 7 7 := ⟨RX7, TX7, 10, tyX7, rfl, cw_X7, tyX7_ok, cl_X8_7, in_tb 24 (by decide +kernel) rfl, in_tb 2 (by decide +kernel) rfl, rfl, fun j hj => by rcases (show j = 0 ∨ j = 1 ∨ j = 2 ∨ j = 3 ∨ j = 4 ∨ j = 5 ∨ j = 6 ∨ j = 7 ∨ j = 8 ∨ j = 9 by omega) with rfl | rfl | rfl | rfl | rfl | rfl | rfl | rfl | rfl | rfl <;> rfl⟩
theorem cl_X7_15 : Cond.classLink RX7 15 RX2 ∈ lw_all := in_tb 29 (by decide +kernel) rfl
theorem nw_X7_15 : NWp RX7 15 2 := ⟨RX2, TX2, 3, tyX2, rfl, cw_X2, tyX2_ok, cl_X7_15, in_tb 80 (by decide +kernel) rfl, in_tb 5 (by decide +kernel) rfl, rfl, fun j hj => by rcases (show j = 0 ∨ j = 1 ∨ j = 2 by omega) with rfl | rfl | rfl <;> rfl⟩
theorem cl_X7_21 : Cond.classLink RX7 21 RX6 ∈ lw_all := in_tb 31 (by decide +kernel) rfl
theorem nw_X7_21 : NWp RX7 21 6 := ⟨RX6, TX6, 4, tyX6, rfl, cw_X6, tyX6_ok, cl_X7_21, in_tb 32 (by decide +kernel) rfl, in_tb 3 (by decide +kernel) rfl, rfl, fun j hj => by rcases (show j = 0 ∨ j = 1 ∨ j = 2 ∨ j = 3 by omega) with rfl | rfl | rfl | rfl <;> rfl⟩
theorem cl_X7_33 : Cond.classLink RX7 33 RX3 ∈ lw_all := in_tb 57 (by decide +kernel) rfl
theorem nw_X7_33 : NWp RX7 33 3 := ⟨RX3, TX3, 4, tyX3, rfl, cw_X3, tyX3_ok, cl_X7_33, in_tb 58 (by decide +kernel) rfl, in_tb 4 (by decide +kernel) rfl, rfl, fun j hj => by rcases (show j = 0 ∨ j = 1 ∨ j = 2 ∨ j = 3 by omega) with rfl | rfl | rfl | rfl <;> rfl⟩
theorem cl_X2_9 : Cond.classLink RX2 9 RX6 ∈ lw_all := in_tb 85 (by decide +kernel) rfl
theorem nw_X2_9 : NWp RX2 9 6 := ⟨RX6, TX6, 4, tyX6, rfl, cw_X6, tyX6_ok, cl_X2_9, in_tb 32 (by decide +kernel) rfl, in_tb 3 (by decide +kernel) rfl, rfl, fun j hj => by rcases (show j = 0 ∨ j = 1 ∨ j = 2 ∨ j = 3 by omega) with rfl | rfl | rfl | rfl <;> rfl⟩
theorem cl_X8_20 : Cond.classLink RX8 20 RX1 ∈ lw_all := in_tb 156 (by decide +kernel) rfl
theorem nw_X8_20 : NWp RX8 20 1 := ⟨RX1, TX1, 6, tyX1, rfl, cw_X1, tyX1_ok, cl_X8_20, in_tb 157 (by decide +kernel) rfl, in_tb 6 (by decide +kernel) rfl, rfl, fun j hj => by rcases (show j = 0 ∨ j = 1 ∨ j = 2 ∨ j = 3 ∨ j = 4 ∨ j = 5 by omega) with rfl | rfl | rfl | rfl | rfl | rfl <;> rfl⟩
theorem cl_X8_27 : Cond.classLink RX8 27 RX5 ∈ lw_all := in_tb 182 (by decide +kernel) rfl
theorem nw_X8_27 : NWp RX8 27 5 := ⟨RX5, TX5, 5, tyX5, rfl, cw_X5, tyX5_ok, cl_X8_27, in_tb 183 (by decide +kernel) rfl, in_tb 7 (by decide +kernel) rfl, rfl, fun j hj => by rcases (show j = 0 ∨ j = 1 ∨ j = 2 ∨ j = 3 ∨ j = 4 by omega) with rfl | rfl | rfl | rfl | rfl <;> rfl⟩
theorem cl_X8_34 : Cond.classLink RX8 34 RX0 ∈ lw_all := in_tb 204 (by decide +kernel) rfl
theorem nw_X8_34 : NWp RX8 34 0 := ⟨RX0, TX0, 2, tyX0, rfl, cw_X0, tyX0_ok, cl_X8_34, in_tb 205 (by decide +kernel) rfl, in_tb 8 (by decide +kernel) rfl, rfl, fun j hj => by rcases (show j = 0 ∨ j = 1 by omega) with rfl | rfl <;> rfl⟩
theorem cl_X8_41 : Cond.classLink RX8 41 RX4 ∈ lw_all := in_tb 217 (by decide +kernel) rfl
theorem nw_X8_41 : NWp RX8 41 4 := ⟨RX4, TX4, 7, tyX4, rfl, cw_X4, tyX4_ok, cl_X8_41, in_tb 218 (by decide +kernel) rfl, in_tb 9 (by decide +kernel) rfl, rfl, fun j hj => by rcases (show j = 0 ∨ j = 1 ∨ j = 2 ∨ j = 3 ∨ j = 4 ∨ j = 5 ∨ j = 6 by omega) with rfl | rfl | rfl | rfl | rfl | rfl | rfl <;> rfl⟩
theorem cl_L_10 : Cond.classLink RL 10 RX9 ∈ lw_all := in_tb 752 (by decide +kernel) rfl
theorem nw_L_10 : NWp RL 10 9 := ⟨RX9, TX9, 22, tyX9, rfl, cw_X9, tyX9_ok, cl_L_10, in_tb 753 (by decide +kernel) rfl, in_tb 10 (by decide +kernel) rfl, rfl, fun j hj => by rcases (show j = 0 ∨ j = 1 ∨ j = 2 ∨ j = 3 ∨ j = 4 ∨ j = 5 ∨ j = 6 ∨ j = 7 ∨ j = 8 ∨ j = 9 ∨ j = 10 ∨ j = 11 ∨ j = 12 ∨ j = 13 ∨ j = 14 ∨ j = 15 ∨ j = 16 ∨ j = 17 ∨ j = 18 ∨ j = 19 ∨ j = 20 ∨ j = 21 by omega) with rfl | rfl | rfl | rfl | rfl | rfl | rfl | rfl | rfl | rfl | rfl | rfl | rfl | rfl | rfl | rfl | rfl | rfl | rfl | rfl | rfl | rfl <;> rfl⟩
theorem fx_X6_13 : FXp RX6 13 6 0 (.array .long) := ⟨RX6, TX6, 4, tyX6, rfl, by decide, rfl, cw_X6, tyX6_ok, nmX6, rfl, rfl, by decide +kernel, in_tb 37 (by decide +kernel) rfl⟩
theorem fx_X6_17 : FXp RX6 17 6 1 (.array .int) := ⟨RX6, TX6, 4, tyX6, rfl, by decide, rfl, cw_X6, tyX6_ok, nmX6, rfl, rfl, by decide +kernel, in_tb 38 (by decide +kernel) rfl⟩
theorem fx_X6_7 : FXp RX6 7 6 2 (.int) := ⟨RX6, TX6, 4, tyX6, rfl, by decide, rfl, cw_X6, tyX6_ok, nmX6, rfl, rfl, by decide +kernel, in_tb 39 (by decide +kernel) rfl⟩
theorem fx_X3_9 : FXp RX3 9 3 0 (.array .int) := ⟨RX3, TX3, 4, tyX3, rfl, by decide, rfl, cw_X3, tyX3_ok, nmX3, rfl, rfl, by decide +kernel, in_tb 63 (by decide +kernel) rfl⟩
theorem fx_X3_15 : FXp RX3 15 3 1 (.array .int) := ⟨RX3, TX3, 4, tyX3, rfl, by decide, rfl, cw_X3, tyX3_ok, nmX3, rfl, rfl, by decide +kernel, in_tb 65 (by decide +kernel) rfl⟩
theorem fx_X3_18 : FXp RX3 18 3 2 (.array .int) := ⟨RX3, TX3, 4, tyX3, rfl, by decide, rfl, cw_X3, tyX3_ok, nmX3, rfl, rfl, by decide +kernel, in_tb 67 (by decide +kernel) rfl⟩
theorem fx_X2_14 : FXp RX2 14 2 0 (.object RX6) := ⟨RX2, TX2, 3, tyX2, rfl, by decide, rfl, cw_X2, tyX2_ok, nmX2, rfl, rfl, by decide +kernel, in_tb 87 (by decide +kernel) rfl⟩
theorem fx_X7_9 : FXp RX7 9 7 0 (.array .int) := ⟨RX7, TX7, 10, tyX7, rfl, by decide, rfl, cw_X7, tyX7_ok, nmX7, rfl, rfl, by decide +kernel, in_tb 109 (by decide +kernel) rfl⟩
theorem fx_X7_17 : FXp RX7 17 7 1 (.array (.object RX2)) := ⟨RX7, TX7, 10, tyX7, rfl, by decide, rfl, cw_X7, tyX7_ok, nmX7, rfl, rfl, by decide +kernel, in_tb 111 (by decide +kernel) rfl⟩
theorem fx_X7_26 : FXp RX7 26 7 2 (.object RX6) := ⟨RX7, TX7, 10, tyX7, rfl, by decide, rfl, cw_X7, tyX7_ok, nmX7, rfl, rfl, by decide +kernel, in_tb 115 (by decide +kernel) rfl⟩
theorem fx_X7_30 : FXp RX7 30 7 3 (.object RX6) := ⟨RX7, TX7, 10, tyX7, rfl, by decide, rfl, cw_X7, tyX7_ok, nmX7, rfl, rfl, by decide +kernel, in_tb 118 (by decide +kernel) rfl⟩
theorem fx_X7_36 : FXp RX7 36 7 4 (.object RX3) := ⟨RX7, TX7, 10, tyX7, rfl, by decide, rfl, cw_X7, tyX7_ok, nmX7, rfl, rfl, by decide +kernel, in_tb 120 (by decide +kernel) rfl⟩
theorem fx_X1_9 : FXp RX1 9 1 0 (.array .long) := ⟨RX1, TX1, 6, tyX1, rfl, by decide, rfl, cw_X1, tyX1_ok, nmX1, rfl, rfl, by decide +kernel, in_tb 162 (by decide +kernel) rfl⟩
theorem fx_X1_15 : FXp RX1 15 1 1 (.array .long) := ⟨RX1, TX1, 6, tyX1, rfl, by decide, rfl, cw_X1, tyX1_ok, nmX1, rfl, rfl, by decide +kernel, in_tb 163 (by decide +kernel) rfl⟩
theorem fx_X1_18 : FXp RX1 18 1 2 (.array .long) := ⟨RX1, TX1, 6, tyX1, rfl, by decide, rfl, cw_X1, tyX1_ok, nmX1, rfl, rfl, by decide +kernel, in_tb 164 (by decide +kernel) rfl⟩
theorem fx_X5_9 : FXp RX5 9 5 0 (.array .long) := ⟨RX5, TX5, 5, tyX5, rfl, by decide, rfl, cw_X5, tyX5_ok, nmX5, rfl, rfl, by decide +kernel, in_tb 188 (by decide +kernel) rfl⟩
theorem fx_X5_15 : FXp RX5 15 5 1 (.array .int) := ⟨RX5, TX5, 5, tyX5, rfl, by decide, rfl, cw_X5, tyX5_ok, nmX5, rfl, rfl, by decide +kernel, in_tb 189 (by decide +kernel) rfl⟩
theorem fx_X5_19 : FXp RX5 19 5 2 (.array .long) := ⟨RX5, TX5, 5, tyX5, rfl, by decide, rfl, cw_X5, tyX5_ok, nmX5, rfl, rfl, by decide +kernel, in_tb 190 (by decide +kernel) rfl⟩
theorem fx_X0_9 : FXp RX0 9 0 0 (.array .int) := ⟨RX0, TX0, 2, tyX0, rfl, by decide, rfl, cw_X0, tyX0_ok, nmX0, rfl, rfl, by decide +kernel, in_tb 210 (by decide +kernel) rfl⟩
theorem fx_X0_15 : FXp RX0 15 0 1 (.array .long) := ⟨RX0, TX0, 2, tyX0, rfl, by decide, rfl, cw_X0, tyX0_ok, nmX0, rfl, rfl, by decide +kernel, in_tb 211 (by decide +kernel) rfl⟩
theorem fx_X4_9 : FXp RX4 9 4 0 (.array .int) := ⟨RX4, TX4, 7, tyX4, rfl, by decide, rfl, cw_X4, tyX4_ok, nmX4, rfl, rfl, by decide +kernel, in_tb 223 (by decide +kernel) rfl⟩
theorem fx_X8_10 : FXp RX8 10 8 0 (.object RX7) := ⟨RX8, TX8, 8, tyX8, rfl, by decide, rfl, cw_X8, tyX8_ok, nmX8, rfl, rfl, by decide +kernel, in_tb 257 (by decide +kernel) rfl⟩
theorem fx_X8_16 : FXp RX8 16 8 1 (.array (.object RX7)) := ⟨RX8, TX8, 8, tyX8, rfl, by decide, rfl, cw_X8, tyX8_ok, nmX8, rfl, rfl, by decide +kernel, in_tb 258 (by decide +kernel) rfl⟩
theorem fx_X8_23 : FXp RX8 23 8 2 (.object RX1) := ⟨RX8, TX8, 8, tyX8, rfl, by decide, rfl, cw_X8, tyX8_ok, nmX8, rfl, rfl, by decide +kernel, in_tb 259 (by decide +kernel) rfl⟩
theorem fx_X8_30 : FXp RX8 30 8 3 (.object RX5) := ⟨RX8, TX8, 8, tyX8, rfl, by decide, rfl, cw_X8, tyX8_ok, nmX8, rfl, rfl, by decide +kernel, in_tb 260 (by decide +kernel) rfl⟩
theorem fx_X8_37 : FXp RX8 37 8 4 (.object RX0) := ⟨RX8, TX8, 8, tyX8, rfl, by decide, rfl, cw_X8, tyX8_ok, nmX8, rfl, rfl, by decide +kernel, in_tb 261 (by decide +kernel) rfl⟩
theorem fx_X8_44 : FXp RX8 44 8 5 (.object RX4) := ⟨RX8, TX8, 8, tyX8, rfl, by decide, rfl, cw_X8, tyX8_ok, nmX8, rfl, rfl, by decide +kernel, in_tb 262 (by decide +kernel) rfl⟩
theorem fx_X8_48 : FXp RX8 48 8 6 (.array .int) := ⟨RX8, TX8, 8, tyX8, rfl, by decide, rfl, cw_X8, tyX8_ok, nmX8, rfl, rfl, by decide +kernel, in_tb 263 (by decide +kernel) rfl⟩
theorem fx_X9_7 : FXp RX9 7 9 0 (.array .long) := ⟨RX9, TX9, 22, tyX9, rfl, by decide, rfl, cw_X9, tyX9_ok, nmX9, rfl, rfl, by decide +kernel, in_tb 763 (by decide +kernel) rfl⟩
theorem fx_X9_13 : FXp RX9 13 9 1 (.array .long) := ⟨RX9, TX9, 22, tyX9, rfl, by decide, rfl, cw_X9, tyX9_ok, nmX9, rfl, rfl, by decide +kernel, in_tb 764 (by decide +kernel) rfl⟩
theorem fx_X9_16 : FXp RX9 16 9 2 (.array .boolean) := ⟨RX9, TX9, 22, tyX9, rfl, by decide, rfl, cw_X9, tyX9_ok, nmX9, rfl, rfl, by decide +kernel, in_tb 765 (by decide +kernel) rfl⟩
theorem fx_X9_20 : FXp RX9 20 9 3 (.array .int) := ⟨RX9, TX9, 22, tyX9, rfl, by decide, rfl, cw_X9, tyX9_ok, nmX9, rfl, rfl, by decide +kernel, in_tb 766 (by decide +kernel) rfl⟩
theorem fx_X9_28 : FXp RX9 28 9 6 (.array .long) := ⟨RX9, TX9, 22, tyX9, rfl, by decide, rfl, cw_X9, tyX9_ok, nmX9, rfl, rfl, by decide +kernel, in_tb 769 (by decide +kernel) rfl⟩
theorem fx_X9_31 : FXp RX9 31 9 7 (.array .long) := ⟨RX9, TX9, 22, tyX9, rfl, by decide, rfl, cw_X9, tyX9_ok, nmX9, rfl, rfl, by decide +kernel, in_tb 770 (by decide +kernel) rfl⟩
theorem fx_X9_34 : FXp RX9 34 9 8 (.array .long) := ⟨RX9, TX9, 22, tyX9, rfl, by decide, rfl, cw_X9, tyX9_ok, nmX9, rfl, rfl, by decide +kernel, in_tb 771 (by decide +kernel) rfl⟩
theorem fx_X9_37 : FXp RX9 37 9 12 (.array .int) := ⟨RX9, TX9, 22, tyX9, rfl, by decide, rfl, cw_X9, tyX9_ok, nmX9, rfl, rfl, by decide +kernel, in_tb 775 (by decide +kernel) rfl⟩
theorem fx_X9_40 : FXp RX9 40 9 13 (.array .long) := ⟨RX9, TX9, 22, tyX9, rfl, by decide, rfl, cw_X9, tyX9_ok, nmX9, rfl, rfl, by decide +kernel, in_tb 776 (by decide +kernel) rfl⟩
theorem fx_X9_43 : FXp RX9 43 9 14 (.array .int) := ⟨RX9, TX9, 22, tyX9, rfl, by decide, rfl, cw_X9, tyX9_ok, nmX9, rfl, rfl, by decide +kernel, in_tb 777 (by decide +kernel) rfl⟩
theorem fx_X9_46 : FXp RX9 46 9 15 (.array .boolean) := ⟨RX9, TX9, 22, tyX9, rfl, by decide, rfl, cw_X9, tyX9_ok, nmX9, rfl, rfl, by decide +kernel, in_tb 778 (by decide +kernel) rfl⟩
theorem fx_X9_49 : FXp RX9 49 9 17 (.array .int) := ⟨RX9, TX9, 22, tyX9, rfl, by decide, rfl, cw_X9, tyX9_ok, nmX9, rfl, rfl, by decide +kernel, in_tb 780 (by decide +kernel) rfl⟩
theorem fx_X9_52 : FXp RX9 52 9 18 (.array .int) := ⟨RX9, TX9, 22, tyX9, rfl, by decide, rfl, cw_X9, tyX9_ok, nmX9, rfl, rfl, by decide +kernel, in_tb 781 (by decide +kernel) rfl⟩
