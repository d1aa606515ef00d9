/-! a slot is saved for the first time -/
/-- the class' layout, no pointer but those that are there -/
def ppK (i k : Nat) : Option Nat := bif Nat.blt k 12 then ppC i k else none
def rrK (z0 z1 : Bool) (i e : Nat) : Option Nat := bif Nat.blt e (nnC i) && (Nat.beq (kdC z0 z1 i) 13 || Nat.beq (kdC z0 z1 i) 14) then rrC z0 z1 i e else none
abbrev YK (ad : Nat → Nat) (z0 z1 : Bool) : PS := (ad, kdC z0 z1, nnC, ppK, rrK z0 z1)
theorem ppK_lt {i k : Nat} (h : k < 12) : ppK i k = ppC i k := by unfold ppK; rw [Nat.blt_eq.mpr h]; rfl
theorem ppK_ge {i k : Nat} (h : ¬ k < 12) : ppK i k = none := by
  unfold ppK
  cases hb : Nat.blt k 12 with
  | false => rfl
  | true => exact absurd (Nat.blt_eq.mp hb) h
theorem rrK_in {z0 z1 : Bool} {i e : Nat} (h : e < nnC i) (hk : kdC z0 z1 i = 13 ∨ kdC z0 z1 i = 14) : rrK z0 z1 i e = rrC z0 z1 i e := by
  unfold rrK
  rw [Nat.blt_eq.mpr h]
  rcases hk with hk | hk <;> rw [hk] <;> rfl
theorem kd_400 {z0 z1 : Bool} {j : Nat} (h : kdC z0 z1 j < 15) : j < 400 := by
  rcases Nat.lt_or_ge j 400 with q | q
  · exact q
  · exfalso
    have e : ∀ n, n ≤ 400 → Nat.blt j n = false := fun n hn => by
      cases hb : Nat.blt j n with
      | false => rfl
      | true => exact absurd (Nat.blt_eq.mp hb) (by omega)
    unfold kdC at h
    rw [e 100 (by omega), e 200 (by omega), e 300 (by omega), e 400 (by omega)] at h
    exact absurd (show (99 : Nat) < 15 from h) (by decide)
set_option maxRecDepth 100000 in
theorem kd_len : ∀ z0 z1 : Bool, ∀ j, j < 600 → (fkd (kdC z0 z1 j)).length ≤ 12 := by decide +kernel
set_option maxRecDepth 100000 in
theorem cl_pp : ∀ z0 z1 : Bool, ∀ j, j < 400 → kdC z0 z1 j < 15 → ∀ k, k < 12 → (ppC j k).all (fun x => Nat.blt (kdC z0 z1 x) 15) = true := by decide +kernel
set_option maxRecDepth 100000 in
theorem cl_rr : ∀ z0 z1 : Bool, ∀ j, j < 400 → kdC z0 z1 j = 13 ∨ kdC z0 z1 j = 14 → nnC j ≤ 6 ∧ ∀ k, k < nnC j → (rrC z0 z1 j k).all (fun x => Nat.blt (kdC z0 z1 x) 15) = true := by decide +kernel
theorem ClY_YK {ad : Nat → Nat} {z0 z1 : Bool} : ClY (YK ad z0 z1) := by
  intro j hj k x h
  have hj : kdC z0 z1 j < 15 := hj
  show kdC z0 z1 x < 15
  have j4 := kd_400 hj
  rcases h with h | h
  · have h : ppK j k = some x := h
    by_cases hk : k < 12
    · rw [ppK_lt hk] at h
      have := cl_pp z0 z1 j j4 hj k hk
      rw [h] at this
      exact Nat.blt_eq.mp this
    · rw [ppK_ge hk] at h; cases h
  · have h : rrK z0 z1 j k = some x := h
    unfold rrK at h
    cases hb : (Nat.blt k (nnC j) && (Nat.beq (kdC z0 z1 j) 13 || Nat.beq (kdC z0 z1 j) 14)) with
    | false => rw [hb] at h; cases h
    | true =>
      rw [hb] at h
      have h : rrC z0 z1 j k = some x := h
      rw [Bool.and_eq_true, Bool.or_eq_true] at hb
      have hk := Nat.blt_eq.mp hb.1
      have := (cl_rr z0 z1 j j4 (hb.2.imp Nat.eq_of_beq_eq_true Nat.eq_of_beq_eq_true)).2 k hk
      rw [h] at this
      exact Nat.blt_eq.mp this
set_option maxRecDepth 100000 in
theorem Sim_K {X : MX} {ad : Nat → Nat} {z0 z1 : Bool} {pc : Nat} {lv : List (Nat × Value)} {st : List Value} {I : FI} {J : FJ} {A : FI} {B : FJ} {kc n : Nat} (kk : Sim X (YK ad z0 z1) pc lv st I J A B kc n) : Sim X (YC ad z0 z1) pc lv st I J A B kc n :=
  Sim_Y (Y := YC ad z0 z1) (Y2 := YK ad z0 z1) (fun _ _ => rfl) (fun i hi h15 => ⟨rfl, rfl, fun k h => by
    have hk : k < 12 := Nat.lt_of_lt_of_le (List.getElem?_eq_some_iff.mp h).1 (kd_len z0 z1 i hi)
    exact congrArg (Option.map ad) (ppK_lt hk).symm, fun h e he => congrArg (Option.map ad) (rrK_in he h).symm⟩) kk

set_option maxRecDepth 100000 in
theorem kdS_in0 (z1 : Bool) : ∀ i, i < 600 → (((200 ≤ i ∧ i ≤ 212) ∨ (220 ≤ i ∧ i < 244)) ∧ kdC true true i = kdC true z1 i) ∨ (kdC false z1 i = kdC true z1 i ∧ ¬ ((200 ≤ i ∧ i ≤ 212) ∨ (220 ≤ i ∧ i < 244))) := by cases z1 <;> decide
set_option maxRecDepth 100000 in
theorem kdS_130 (z1 : Bool) : ∀ i, i < 600 → kdC true z1 i = 13 ∨ kdC true z1 i = 14 → i = 202 ∨ i = 1 ∨ (i ≠ 202 ∧ i ≠ 1 ∧ ¬ ((200 ≤ i ∧ i ≤ 212) ∨ (220 ≤ i ∧ i < 244)) ∧ 100 ≤ i) := by cases z1 <;> decide
set_option maxRecDepth 100000 in
theorem Sim_S0 {X : MX} {ad : Nat → Nat} {z1 : Bool} {Y : PS} {pc : Nat} {lv : List (Nat × Value)} {st : List Value} {I : FI} {J : FJ} {A : FI} {B : FJ} {kc n : Nat} (b : Bld (kdC true true) ppC (YK ad false z1) Y (fun i => ((200 ≤ i ∧ i ≤ 212) ∨ (220 ≤ i ∧ i < 244))) 0 (fun _ => False)) (h0 : ∀ k, k < 12 → Y.2.2.2.1 0 k = ppC 0 k) (h2 : ∀ e, e < 6 → Y.2.2.2.2 202 e = some (220 + 4 * e)) (kk : Sim X (YC Y.1 true z1) pc lv st I J A B kc n) : Sim X (astY Y 1 0 200) pc lv st I J A B kc n := by
  have hk : ∀ i, i < 600 → Y.2.1 i = kdC true z1 i := by
    intro i hi
    rcases kdS_in0 z1 i hi with ⟨h, e⟩ | ⟨e, h⟩
    · rw [(b.2.2.1 i h).2.1, e]
    · rw [b.2.1 i h]; exact e
  have hN : Y.2.2.1 = nnC := b.2.2.2.1
  refine Sim_C (Y := astY Y 1 0 200) (z0 := true) (z1 := z1) hk hN (fun i hi h15 k h => ?_) (fun i hi h e he => ?_) kk
  · have h15 : Y.2.1 i < 15 := h15
    have h : (fkd (Y.2.1 i))[k]? = some 2 := h
    show Y.2.2.2.1 i k = ppC i k
    have hk12 : k < 12 := Nat.lt_of_lt_of_le (List.getElem?_eq_some_iff.mp h).1 (by rw [hk i hi]; exact kd_len _ _ i hi)
    by_cases z : i = 0
    · subst z; exact h0 k hk12
    · rcases kdS_in0 z1 i hi with ⟨q, e⟩ | ⟨e, q⟩
      · exact b.2.2.2.2.2.1 i q k (by rw [e, ← hk i hi]; exact h)
      · rw [hk i hi] at h15
        exact ((b.2.2.2.2.1 i (show kdC false z1 i < 15 by rw [e]; exact h15)).1 z k).trans (ppK_lt hk12)
  · have h : kdC true z1 i = 13 ∨ kdC true z1 i = 14 := by rw [← hk i hi]; exact h
    show up2 Y.2.2.2.2 1 0 (some 200) i e = rrC true z1 i e
    rcases kdS_130 z1 i hi h with rfl | rfl | ⟨z1_, z2_, q, z4_⟩
    · rw [up2_ne _ _ _ _ (by omega), h2 e he]; rfl
    · have al : kdC false z1 1 < 15 := by cases z1 <;> decide
      have e1 := ((b.2.2.2.2.1 1 al).2 e).trans (rrK_in (i := 1) he (Or.inr (by cases z1 <;> rfl)))
      by_cases z : e = 0
      · subst z; rw [up2_same]; rfl
      · rw [up2_ix _ _ _ z, e1]
        show rrC false z1 1 e = rrC true z1 1 e
        rcases e with _ | _ | e
        · first | exact absurd rfl z | rfl
        · first | exact absurd rfl z | rfl
        · rfl
    · rcases kdS_in0 z1 i hi with ⟨w, e5⟩ | ⟨e5, w⟩
      · exact absurd w q
      · rw [up2_ne _ _ _ _ z2_]
        have al : kdC false z1 i < 15 := by rw [e5]; rcases h with h | h <;> rw [h] <;> decide
        refine (((b.2.2.2.2.1 i al).2 e).trans (rrK_in (i := i) he (by rw [e5]; exact h))).trans ?_
        show rrC false z1 i e = rrC true z1 i e
        unfold rrC
        rw [show Nat.blt i 100 = false from by cases hb : Nat.blt i 100 with | false => rfl | true => exact absurd (Nat.blt_eq.mp hb) (by omega)]
        rfl

set_option maxRecDepth 100000 in
set_option maxHeartbeats 4000000 in
theorem c_save_n0 (ad : Nat → Nat) (z1 : Bool) (I : FI) (J : FJ) (A : FI) (B : FJ) (m : Nat → Int64) (hG : WG m) (hR : RepW 100 m I J A B) : Spec M_X8_save [.ref (ad 0), .int (nI 0)] (YC ad false z1) I J A B (fun v' Y' I' J' A' B' => v' = some (.int (m 428).toInt32) ∧ (∃ ad', Y' = YC ad' true z1 ∧ ad' 0 = ad 0) ∧ RepW 200 m I' J' A' B' ∧ kpB 200 I J A B I' J' A' B') := by
  refine Spec_of (by decide) tk_X8_save (Nat.le_of_ble_eq_true rfl) (fun X g rt => ?_)
  show Sim X (YC ad false z1) 0 [(0, .ref (ad 0)), (1, .int (nI 0))] [] I J A B 0 0
  refine S_n g 1 (pc' := 1) (lv' := [(0, .ref (ad 0)), (1, .int (nI 0))]) (st' := [.int (nI 0)]) rfl ?_
  refine S_ifN_lt g (tgt := 9) (by omega) rfl (by decide) ?_
  refine S_n g 2 (pc' := 6) (lv' := [(0, .ref (ad 0)), (1, .int (nI 0))]) (st' := [.int (nI 2), .int (nI 0)]) rfl ?_
  refine S_icN_lt g (tgt := 12) (by omega) (by omega) rfl (by decide) (fun qz6 => ?_) (fun qz6 => absurd qz6 (by decide))
  refine S_n g 1 (pc' := 13) (lv' := [(0, .ref (ad 0)), (1, .int (nI 0))]) (st' := [.ref (ad 0)]) rfl ?_
  refine S_getR g (i := 0) (c := 8) (k := 1) (j := 1) (by decide) (by decide) rfl rfl rfl fl_X8_16 rfl ?_
  refine S_n g 1 (pc' := 17) (lv' := [(0, .ref (ad 0)), (1, .int (nI 0))]) (st' := [.int (nI 0), .ref (ad 1)]) rfl ?_
  refine S_aald14 g (i := 1) (by decide) rfl (vp_in_nI (show 0 < 2 by decide) (show (2 : Nat) < 2 ^ 31 by decide)) rfl ?_
  show Sim X (YC ad false z1) 18 [(0, .ref (ad 0)), (1, .int (nI 0))] [.null] I J A B 0 0
  refine S_asN g (k := 2) (lv' := [(2, .null), (0, .ref (ad 0)), (1, .int (nI 0))]) (by decide) rfl rfl ?_
  refine S_alN g rfl rfl ?_
  refine S_nonnullN g rfl ?_
  refine S_less (lv' := [(0, .ref (ad 0)), (1, .int (nI 0))]) (fun q hq => List.mem_cons_of_mem _ hq) ?_
  refine Sim_K ?_
  obtain ⟨Y, hY⟩ : ∃ Y : PS, Y = (YK ad false z1) := ⟨_, rfl⟩
  have hC : ClY Y := hY ▸ ClY_YK
  have hK : Y.2.1 0 = 8 := by rw [hY]; rfl
  have hK0 := hK
  have hKt := hK
  have hT15 : Y.2.1 0 < 15 := by rw [hK]; decide
  have hN : Y.2.2.1 = nnC := by rw [hY]
  have hfree : ∀ j, 199 < j → j < 244 → ¬ Y.2.1 j < 15 := by
    intro j h1 h2
    rw [hY]
    show ¬ kdC false z1 j < 15
    have : ∀ z1 : Bool, ∀ j, j < 244 → 199 < j → ¬ kdC false z1 j < 15 := by decide
    exact this z1 j h2 h1
  have h00 : ∀ k, k < 12 → Y.2.2.2.1 0 k = ppC 0 k := fun k hk => by rw [hY]; exact ppK_lt hk
  have a0 : ad 0 = Y.1 0 := by rw [hY]
  rw [a0, ← hY]
  have b0 : Bld (kdC true true) ppC Y Y (fun _ => False) 0 (fun _ => False) := B_0 hC
  have hf0 : ¬ Y.2.1 (200) < 15 := by rw [b0.2.1 (200) (by first | (dsimp only; omega) | (simp only [false_or]; omega) | simp)]; exact hfree _ (by omega) (by omega)
  refine S_newO g (i := 200) (c := 7) (frY_of b0.2.2.2.2.2.2.2 (by omega) hf0) (by decide) nw_X8_7 (Nat.le_of_ble_eq_true rfl) (Nat.le_of_ble_eq_true rfl) rfl (fun q0 => ?_)
  obtain ⟨Y1, hY1⟩ : ∃ Y1 : PS, Y1 = newY Y (200) q0 7 := ⟨_, rfl⟩
  rw [← hY1]
  have ea1 : Y1.1 (0) = Y.1 (0) := by rw [hY1]; exact nY1 (by omega)
  rw [← ea1]
  have eq1 : Y1.1 (200) = q0 := by rw [hY1]; exact nY1s
  rw [← eq1]
  have hKn1 : Y1.2.1 (200) = 7 := by rw [hY1]; exact nYKs
  have hKt : Y1.2.1 (0) = 8 := by rw [hY1, nYK (by omega)]; exact hKt
  have hCn1 : ClY Y1 := by rw [hY1]; exact ClY_new b0.2.2.2.2.2.2.2 (by decide)
  have hLn1 : Y1.2.2.1 = Y.2.2.1 := by rw [hY1]; exact b0.2.2.2.1
  have hFn1 : ∀ j, j ≠ 200 → Y1.2.1 j = Y.2.1 j := fun j hj => by rw [hY1]; exact nYK hj
  refine S_n g 1 (pc' := 27) (lv' := [(0, .ref (Y1.1 (0))), (1, .int (nI 0))]) (st' := [.ref (Y1.1 (200)), .ref (Y1.1 (200))]) rfl ?_
  refine S_callI g (b := Y1.1 (200)) (As := []) (st := [.ref (Y1.1 (200))]) (in_X7_200 Y1 (va_up (I) (200) (fun _ => 0)) (va_up (J) (200) (fun _ => 0)) (A) (B) hCn1 hKn1 (fun j x y => by rw [hFn1 j (by omega), b0.2.1 j (by first | (dsimp only; omega) | (simp only [false_or]; omega) | simp)]; exact hfree j (by omega) (by omega)) (hLn1.trans hN)) mw_X7_init mi_X7_init rfl rfl lk_X8_9 ⟨Nat.le_of_ble_eq_true rfl, Nat.le_of_ble_eq_true rfl⟩ rfl (Nat.le_of_ble_eq_true rfl) ⟨Nat.le_of_ble_eq_true rfl, Nat.le_of_ble_eq_true rfl⟩ rfl (fun v' Y2 I1 J1 A1 B1 hpo => ?_)
  obtain ⟨rfl, h22, hR202, hLim, hkp⟩ := hpo
  have b2 := B_obj (q := q0) (c := 7) b0 hf0 (show (kdC true true) 200 = 7 from rfl) (by decide) (hY1 ▸ h22) (fun k h => ref7 h) hT15
  have ea2p0 : Y2.1 (0) = Y1.1 (0) := h22.1 (0) (by rw [hKt]; decide)
  rw [← ea2p0]
  have ea2p200 : Y2.1 (200) = Y1.1 (200) := h22.1 (200) (by rw [hKn1]; decide)
  rw [← ea2p200]
  show Sim X Y2 30 [(0, .ref (Y2.1 (0))), (1, .int (nI 0))] [.ref (Y2.1 (200))] (I1) (J1) (A1) (B1) _ _
  have hKt : Y2.2.1 (0) = 8 := (B_al b2 hT15).trans hK
  have h0m : ∀ k, k < 12 → Y2.2.2.2.1 0 k = ppC 0 k := fun k hk => by rw [(h22.2.2.2.2.1 0 (by rw [hFn1 0 (by omega), hK]; decide)).1 (by omega) k, hY1]; show va_up Y.2.2.2.1 200 (fun _ => none) 0 k = _; rw [va_up_ne _ _ (by omega)]; exact h00 k hk
  have hK1 : Y2.2.1 1 = 14 := (B_al b2 (show Y.2.1 1 < 15 by rw [hY]; show kdC false z1 1 < 15; cases z1 <;> decide)).trans (by rw [hY]; rfl)
  have hKb : Y2.2.1 200 = 7 := (b2.2.2.1 200 (by simp)).2.1
  refine S_n g 2 (pc' := 32) (lv' := [(0, .ref (Y2.1 0)), (1, .int (nI 0)), (2, .ref (Y2.1 200))]) (st' := [.ref (Y2.1 0)]) rfl ?_
  have hKt : Y2.2.1 0 = 8 := (B_al b2 hT15).trans hK
  refine S_getR g (i := 0) (c := 8) (k := 1) (j := 1) (by decide) (by decide) hKt rfl (h0m 1 (by decide)) fl_X8_16 rfl ?_
  refine S_n g 2 (pc' := 37) (lv' := [(0, .ref (Y2.1 0)), (1, .int (nI 0)), (2, .ref (Y2.1 200))]) (st' := [.ref (Y2.1 200), .int (nI 0), .ref (Y2.1 1)]) rfl ?_
  refine S_ast14 g (i := 1) (e := 0) (j := 200) (by omega) hK1 (by omega) hKb (vp_in_nI (show 0 < Y2.2.2.1 1 from by rw [b2.2.2.2.1, hN]; decide) (by rw [b2.2.2.2.1, hN]; decide)) (nI_clamp (by omega)) rfl ?_
  have bz : Bld (kdC true true) ppC (YK ad false z1) Y2 (fun i => ((200 ≤ i ∧ i ≤ 212) ∨ (220 ≤ i ∧ i < 244))) 0 (fun _ => False) := hY ▸ (B_as b2 (fun j => by constructor <;> intro h <;> simp only [false_or] at h ⊢ <;> omega) (fun k h => h.elim))
  refine Sim_S0 bz h0m hR202 ?_
  have a9 : Y2.1 0 = ad 0 := (b2.1 0 hT15).trans a0.symm
  obtain ⟨aw, haw⟩ : ∃ aw, aw = Y2.1 := ⟨_, rfl⟩
  rw [← haw]
  rw [← haw] at a9
  have hkB : kpB 200 I J A B I1 J1 A1 B1 := fun j hj => by
    have q := hkp j (by omega)
    rw [va_up_ne _ _ (by omega), va_up_ne _ _ (by omega)] at q
    exact q
  have hR1 : RepW 100 m I1 J1 A1 B1 := RepW_frb hR (fun i x y => hkB i (by omega))
  refine S_n g 2 (pc' := 40) (lv' := [(0, .ref (aw 0)), (1, .int (nI 0)), (2, .ref (aw 200))]) (st' := [.ref (aw 0), .ref (aw 200)]) rfl ?_
  refine S_getR g (i := 0) (c := 8) (k := 0) (j := 100) (by decide) (by decide) rfl rfl rfl fl_X8_10 rfl ?_
  refine S_callV g (i := 200) (As := [.ref (aw 100)]) (st := []) (w_copy_s0 aw z1 I1 J1 A1 B1 m hG hR1 hLim) mw_X7_copyFrom lk_X8_301 ⟨Nat.le_of_ble_eq_true rfl, Nat.le_of_ble_eq_true rfl⟩ (by decide) (by decide) rfl rfl (Nat.le_of_ble_eq_true rfl) ⟨Nat.le_of_ble_eq_true rfl, Nat.le_of_ble_eq_true rfl⟩ rfl (fun v' Y' I2 J2 A2 B2 hpo => ?_)
  obtain ⟨rfl, rfl, hR2, hk2⟩ := hpo
  have hk9 := kpB_tr hkB hk2
  have hH : I2 106 3 = (m 428).toInt32 := by rw [(hk9 106 (by omega)).1, hG.2.2.1.1, lN_i]; exact hR.2.2.2.2.2.2.2.1.2.1
  refine S_n g 1 (pc' := 47) (lv' := [(0, .ref (aw 0)), (1, .int (nI 0)), (2, .ref (aw 200))]) (st' := [.ref (aw 0)]) rfl ?_
  refine S_getR g (i := 0) (c := 8) (k := 0) (j := 100) (by decide) (by decide) rfl rfl rfl fl_X8_10 rfl ?_
  refine S_getR g (i := 100) (c := 7) (k := 3) (j := 106) (by decide) (by decide) rfl rfl rfl fl_X8_68 rfl ?_
  refine S_getI g (i := 106) (c := 6) (k := 3) (by decide) (by decide) rfl rfl fl_X8_72 rfl ?_
  rw [hH]
  exact rt 56 _ (some (.int _)) _ _ _ _ _ _ _ ⟨rfl, _, rfl, rfl⟩ (Nat.le_of_ble_eq_true rfl) (Nat.le_of_ble_eq_true rfl) ⟨rfl, ⟨aw, rfl, a9⟩, hR2, hk9⟩

set_option maxRecDepth 100000 in
theorem kdS_in1 (z0 : Bool) : ∀ i, i < 600 → (((300 ≤ i ∧ i ≤ 312) ∨ (320 ≤ i ∧ i < 344)) ∧ kdC true true i = kdC z0 true i) ∨ (kdC z0 false i = kdC z0 true i ∧ ¬ ((300 ≤ i ∧ i ≤ 312) ∨ (320 ≤ i ∧ i < 344))) := by cases z0 <;> decide
set_option maxRecDepth 100000 in
theorem kdS_131 (z0 : Bool) : ∀ i, i < 600 → kdC z0 true i = 13 ∨ kdC z0 true i = 14 → i = 302 ∨ i = 1 ∨ (i ≠ 302 ∧ i ≠ 1 ∧ ¬ ((300 ≤ i ∧ i ≤ 312) ∨ (320 ≤ i ∧ i < 344)) ∧ 100 ≤ i) := by cases z0 <;> decide
set_option maxRecDepth 100000 in
theorem Sim_S1 {X : MX} {ad : Nat → Nat} {z0 : Bool} {Y : PS} {pc : Nat} {lv : List (Nat × Value)} {st : List Value} {I : FI} {J : FJ} {A : FI} {B : FJ} {kc n : Nat} (b : Bld (kdC true true) ppC (YK ad z0 false) Y (fun i => ((300 ≤ i ∧ i ≤ 312) ∨ (320 ≤ i ∧ i < 344))) 0 (fun _ => False)) (h0 : ∀ k, k < 12 → Y.2.2.2.1 0 k = ppC 0 k) (h2 : ∀ e, e < 6 → Y.2.2.2.2 302 e = some (320 + 4 * e)) (kk : Sim X (YC Y.1 z0 true) pc lv st I J A B kc n) : Sim X (astY Y 1 1 300) pc lv st I J A B kc n := by
  have hk : ∀ i, i < 600 → Y.2.1 i = kdC z0 true i := by
    intro i hi
    rcases kdS_in1 z0 i hi with ⟨h, e⟩ | ⟨e, h⟩
    · rw [(b.2.2.1 i h).2.1, e]
    · rw [b.2.1 i h]; exact e
  have hN : Y.2.2.1 = nnC := b.2.2.2.1
  refine Sim_C (Y := astY Y 1 1 300) (z0 := z0) (z1 := true) hk hN (fun i hi h15 k h => ?_) (fun i hi h e he => ?_) kk
  · have h15 : Y.2.1 i < 15 := h15
    have h : (fkd (Y.2.1 i))[k]? = some 2 := h
    show Y.2.2.2.1 i k = ppC i k
    have hk12 : k < 12 := Nat.lt_of_lt_of_le (List.getElem?_eq_some_iff.mp h).1 (by rw [hk i hi]; exact kd_len _ _ i hi)
    by_cases z : i = 0
    · subst z; exact h0 k hk12
    · rcases kdS_in1 z0 i hi with ⟨q, e⟩ | ⟨e, q⟩
      · exact b.2.2.2.2.2.1 i q k (by rw [e, ← hk i hi]; exact h)
      · rw [hk i hi] at h15
        exact ((b.2.2.2.2.1 i (show kdC z0 false i < 15 by rw [e]; exact h15)).1 z k).trans (ppK_lt hk12)
  · have h : kdC z0 true i = 13 ∨ kdC z0 true i = 14 := by rw [← hk i hi]; exact h
    show up2 Y.2.2.2.2 1 1 (some 300) i e = rrC z0 true i e
    rcases kdS_131 z0 i hi h with rfl | rfl | ⟨z1_, z2_, q, z4_⟩
    · rw [up2_ne _ _ _ _ (by omega), h2 e he]; rfl
    · have al : kdC z0 false 1 < 15 := by cases z0 <;> decide
      have e1 := ((b.2.2.2.2.1 1 al).2 e).trans (rrK_in (i := 1) he (Or.inr (by cases z0 <;> rfl)))
      by_cases z : e = 1
      · subst z; rw [up2_same]; rfl
      · rw [up2_ix _ _ _ z, e1]
        show rrC z0 false 1 e = rrC z0 true 1 e
        rcases e with _ | _ | e
        · first | exact absurd rfl z | rfl
        · first | exact absurd rfl z | rfl
        · rfl
    · rcases kdS_in1 z0 i hi with ⟨w, e5⟩ | ⟨e5, w⟩
      · exact absurd w q
      · rw [up2_ne _ _ _ _ z2_]
        have al : kdC z0 false i < 15 := by rw [e5]; rcases h with h | h <;> rw [h] <;> decide
        refine (((b.2.2.2.2.1 i al).2 e).trans (rrK_in (i := i) he (by rw [e5]; exact h))).trans ?_
        show rrC z0 false i e = rrC z0 true i e
        unfold rrC
        rw [show Nat.blt i 100 = false from by cases hb : Nat.blt i 100 with | false => rfl | true => exact absurd (Nat.blt_eq.mp hb) (by omega)]
        rfl

set_option maxRecDepth 100000 in
set_option maxHeartbeats 4000000 in
theorem c_save_n1 (ad : Nat → Nat) (z0 : Bool) (I : FI) (J : FJ) (A : FI) (B : FJ) (m : Nat → Int64) (hG : WG m) (hR : RepW 100 m I J A B) : Spec M_X8_save [.ref (ad 0), .int (nI 1)] (YC ad z0 false) I J A B (fun v' Y' I' J' A' B' => v' = some (.int (m 428).toInt32) ∧ (∃ ad', Y' = YC ad' z0 true ∧ ad' 0 = ad 0) ∧ RepW 300 m I' J' A' B' ∧ kpB 300 I J A B I' J' A' B') := by
  refine Spec_of (by decide) tk_X8_save (Nat.le_of_ble_eq_true rfl) (fun X g rt => ?_)
  show Sim X (YC ad z0 false) 0 [(0, .ref (ad 0)), (1, .int (nI 1))] [] I J A B 0 0
  refine S_n g 1 (pc' := 1) (lv' := [(0, .ref (ad 0)), (1, .int (nI 1))]) (st' := [.int (nI 1)]) rfl ?_
  refine S_ifN_lt g (tgt := 9) (by omega) rfl (by decide) ?_
  refine S_n g 2 (pc' := 6) (lv' := [(0, .ref (ad 0)), (1, .int (nI 1))]) (st' := [.int (nI 2), .int (nI 1)]) rfl ?_
  refine S_icN_lt g (tgt := 12) (by omega) (by omega) rfl (by decide) (fun qz6 => ?_) (fun qz6 => absurd qz6 (by decide))
  refine S_n g 1 (pc' := 13) (lv' := [(0, .ref (ad 0)), (1, .int (nI 1))]) (st' := [.ref (ad 0)]) rfl ?_
  refine S_getR g (i := 0) (c := 8) (k := 1) (j := 1) (by decide) (by decide) rfl rfl rfl fl_X8_16 rfl ?_
  refine S_n g 1 (pc' := 17) (lv' := [(0, .ref (ad 0)), (1, .int (nI 1))]) (st' := [.int (nI 1), .ref (ad 1)]) rfl ?_
  refine S_aald14 g (i := 1) (by decide) rfl (vp_in_nI (show 1 < 2 by decide) (show (2 : Nat) < 2 ^ 31 by decide)) rfl ?_
  show Sim X (YC ad z0 false) 18 [(0, .ref (ad 0)), (1, .int (nI 1))] [.null] I J A B 0 0
  refine S_asN g (k := 2) (lv' := [(2, .null), (0, .ref (ad 0)), (1, .int (nI 1))]) (by decide) rfl rfl ?_
  refine S_alN g rfl rfl ?_
  refine S_nonnullN g rfl ?_
  refine S_less (lv' := [(0, .ref (ad 0)), (1, .int (nI 1))]) (fun q hq => List.mem_cons_of_mem _ hq) ?_
  refine Sim_K ?_
  obtain ⟨Y, hY⟩ : ∃ Y : PS, Y = (YK ad z0 false) := ⟨_, rfl⟩
  have hC : ClY Y := hY ▸ ClY_YK
  have hK : Y.2.1 0 = 8 := by rw [hY]; rfl
  have hK0 := hK
  have hKt := hK
  have hT15 : Y.2.1 0 < 15 := by rw [hK]; decide
  have hN : Y.2.2.1 = nnC := by rw [hY]
  have hfree : ∀ j, 299 < j → j < 344 → ¬ Y.2.1 j < 15 := by
    intro j h1 h2
    rw [hY]
    show ¬ kdC z0 false j < 15
    have : ∀ z0 : Bool, ∀ j, j < 344 → 299 < j → ¬ kdC z0 false j < 15 := by decide
    exact this z0 j h2 h1
  have h00 : ∀ k, k < 12 → Y.2.2.2.1 0 k = ppC 0 k := fun k hk => by rw [hY]; exact ppK_lt hk
  have a0 : ad 0 = Y.1 0 := by rw [hY]
  rw [a0, ← hY]
  have b0 : Bld (kdC true true) ppC Y Y (fun _ => False) 0 (fun _ => False) := B_0 hC
  have hf0 : ¬ Y.2.1 (300) < 15 := by rw [b0.2.1 (300) (by first | (dsimp only; omega) | (simp only [false_or]; omega) | simp)]; exact hfree _ (by omega) (by omega)
  refine S_newO g (i := 300) (c := 7) (frY_of b0.2.2.2.2.2.2.2 (by omega) hf0) (by decide) nw_X8_7 (Nat.le_of_ble_eq_true rfl) (Nat.le_of_ble_eq_true rfl) rfl (fun q0 => ?_)
  obtain ⟨Y1, hY1⟩ : ∃ Y1 : PS, Y1 = newY Y (300) q0 7 := ⟨_, rfl⟩
  rw [← hY1]
  have ea1 : Y1.1 (0) = Y.1 (0) := by rw [hY1]; exact nY1 (by omega)
  rw [← ea1]
  have eq1 : Y1.1 (300) = q0 := by rw [hY1]; exact nY1s
  rw [← eq1]
  have hKn1 : Y1.2.1 (300) = 7 := by rw [hY1]; exact nYKs
  have hKt : Y1.2.1 (0) = 8 := by rw [hY1, nYK (by omega)]; exact hKt
  have hCn1 : ClY Y1 := by rw [hY1]; exact ClY_new b0.2.2.2.2.2.2.2 (by decide)
  have hLn1 : Y1.2.2.1 = Y.2.2.1 := by rw [hY1]; exact b0.2.2.2.1
  have hFn1 : ∀ j, j ≠ 300 → Y1.2.1 j = Y.2.1 j := fun j hj => by rw [hY1]; exact nYK hj
  refine S_n g 1 (pc' := 27) (lv' := [(0, .ref (Y1.1 (0))), (1, .int (nI 1))]) (st' := [.ref (Y1.1 (300)), .ref (Y1.1 (300))]) rfl ?_
  refine S_callI g (b := Y1.1 (300)) (As := []) (st := [.ref (Y1.1 (300))]) (in_X7_300 Y1 (va_up (I) (300) (fun _ => 0)) (va_up (J) (300) (fun _ => 0)) (A) (B) hCn1 hKn1 (fun j x y => by rw [hFn1 j (by omega), b0.2.1 j (by first | (dsimp only; omega) | (simp only [false_or]; omega) | simp)]; exact hfree j (by omega) (by omega)) (hLn1.trans hN)) mw_X7_init mi_X7_init rfl rfl lk_X8_9 ⟨Nat.le_of_ble_eq_true rfl, Nat.le_of_ble_eq_true rfl⟩ rfl (Nat.le_of_ble_eq_true rfl) ⟨Nat.le_of_ble_eq_true rfl, Nat.le_of_ble_eq_true rfl⟩ rfl (fun v' Y2 I1 J1 A1 B1 hpo => ?_)
  obtain ⟨rfl, h22, hR302, hLim, hkp⟩ := hpo
  have b2 := B_obj (q := q0) (c := 7) b0 hf0 (show (kdC true true) 300 = 7 from rfl) (by decide) (hY1 ▸ h22) (fun k h => ref7 h) hT15
  have ea2p0 : Y2.1 (0) = Y1.1 (0) := h22.1 (0) (by rw [hKt]; decide)
  rw [← ea2p0]
  have ea2p300 : Y2.1 (300) = Y1.1 (300) := h22.1 (300) (by rw [hKn1]; decide)
  rw [← ea2p300]
  show Sim X Y2 30 [(0, .ref (Y2.1 (0))), (1, .int (nI 1))] [.ref (Y2.1 (300))] (I1) (J1) (A1) (B1) _ _
  have hKt : Y2.2.1 (0) = 8 := (B_al b2 hT15).trans hK
  have h0m : ∀ k, k < 12 → Y2.2.2.2.1 0 k = ppC 0 k := fun k hk => by rw [(h22.2.2.2.2.1 0 (by rw [hFn1 0 (by omega), hK]; decide)).1 (by omega) k, hY1]; show va_up Y.2.2.2.1 300 (fun _ => none) 0 k = _; rw [va_up_ne _ _ (by omega)]; exact h00 k hk
  have hK1 : Y2.2.1 1 = 14 := (B_al b2 (show Y.2.1 1 < 15 by rw [hY]; show kdC z0 false 1 < 15; cases z0 <;> decide)).trans (by rw [hY]; rfl)
  have hKb : Y2.2.1 300 = 7 := (b2.2.2.1 300 (by simp)).2.1
  refine S_n g 2 (pc' := 32) (lv' := [(0, .ref (Y2.1 0)), (1, .int (nI 1)), (2, .ref (Y2.1 300))]) (st' := [.ref (Y2.1 0)]) rfl ?_
  have hKt : Y2.2.1 0 = 8 := (B_al b2 hT15).trans hK
  refine S_getR g (i := 0) (c := 8) (k := 1) (j := 1) (by decide) (by decide) hKt rfl (h0m 1 (by decide)) fl_X8_16 rfl ?_
  refine S_n g 2 (pc' := 37) (lv' := [(0, .ref (Y2.1 0)), (1, .int (nI 1)), (2, .ref (Y2.1 300))]) (st' := [.ref (Y2.1 300), .int (nI 1), .ref (Y2.1 1)]) rfl ?_
  refine S_ast14 g (i := 1) (e := 1) (j := 300) (by omega) hK1 (by omega) hKb (vp_in_nI (show 1 < Y2.2.2.1 1 from by rw [b2.2.2.2.1, hN]; decide) (by rw [b2.2.2.2.1, hN]; decide)) (nI_clamp (by omega)) rfl ?_
  have bz : Bld (kdC true true) ppC (YK ad z0 false) Y2 (fun i => ((300 ≤ i ∧ i ≤ 312) ∨ (320 ≤ i ∧ i < 344))) 0 (fun _ => False) := hY ▸ (B_as b2 (fun j => by constructor <;> intro h <;> simp only [false_or] at h ⊢ <;> omega) (fun k h => h.elim))
  refine Sim_S1 bz h0m hR302 ?_
  have a9 : Y2.1 0 = ad 0 := (b2.1 0 hT15).trans a0.symm
  obtain ⟨aw, haw⟩ : ∃ aw, aw = Y2.1 := ⟨_, rfl⟩
  rw [← haw]
  rw [← haw] at a9
  have hkB : kpB 300 I J A B I1 J1 A1 B1 := fun j hj => by
    have q := hkp j (by omega)
    rw [va_up_ne _ _ (by omega), va_up_ne _ _ (by omega)] at q
    exact q
  have hR1 : RepW 100 m I1 J1 A1 B1 := RepW_frb hR (fun i x y => hkB i (by omega))
  refine S_n g 2 (pc' := 40) (lv' := [(0, .ref (aw 0)), (1, .int (nI 1)), (2, .ref (aw 300))]) (st' := [.ref (aw 0), .ref (aw 300)]) rfl ?_
  refine S_getR g (i := 0) (c := 8) (k := 0) (j := 100) (by decide) (by decide) rfl rfl rfl fl_X8_10 rfl ?_
  refine S_callV g (i := 300) (As := [.ref (aw 100)]) (st := []) (w_copy_s1 aw z0 I1 J1 A1 B1 m hG hR1 hLim) mw_X7_copyFrom lk_X8_301 ⟨Nat.le_of_ble_eq_true rfl, Nat.le_of_ble_eq_true rfl⟩ (by decide) (by decide) rfl rfl (Nat.le_of_ble_eq_true rfl) ⟨Nat.le_of_ble_eq_true rfl, Nat.le_of_ble_eq_true rfl⟩ rfl (fun v' Y' I2 J2 A2 B2 hpo => ?_)
  obtain ⟨rfl, rfl, hR2, hk2⟩ := hpo
  have hk9 := kpB_tr hkB hk2
  have hH : I2 106 3 = (m 428).toInt32 := by rw [(hk9 106 (by omega)).1, hG.2.2.1.1, lN_i]; exact hR.2.2.2.2.2.2.2.1.2.1
  refine S_n g 1 (pc' := 47) (lv' := [(0, .ref (aw 0)), (1, .int (nI 1)), (2, .ref (aw 300))]) (st' := [.ref (aw 0)]) rfl ?_
  refine S_getR g (i := 0) (c := 8) (k := 0) (j := 100) (by decide) (by decide) rfl rfl rfl fl_X8_10 rfl ?_
  refine S_getR g (i := 100) (c := 7) (k := 3) (j := 106) (by decide) (by decide) rfl rfl rfl fl_X8_68 rfl ?_
  refine S_getI g (i := 106) (c := 6) (k := 3) (by decide) (by decide) rfl rfl fl_X8_72 rfl ?_
  rw [hH]
  exact rt 56 _ (some (.int _)) _ _ _ _ _ _ _ ⟨rfl, _, rfl, rfl⟩ (Nat.le_of_ble_eq_true rfl) (Nat.le_of_ble_eq_true rfl) ⟨rfl, ⟨aw, rfl, a9⟩, hR2, hk9⟩
