/-! the class: caches and wants -/
/-- what a call leaves as it was: slots, text, reason, the bound's first entries -/
def kpC (I : FI) (J : FJ) (A : FI) (B : FJ) (I' : FI) (J' : FJ) (A' : FI) (B' : FJ) : Prop := (∀ i, 200 ≤ i → I' i = I i ∧ J' i = J i ∧ A' i = A i ∧ B' i = B i) ∧ I' 13 = I 13 ∧ A' 14 = A 14 ∧ I' 0 7 = I 0 7 ∧ A' 11 0 = A 11 0 ∧ B' 12 0 = B 12 0
theorem kpC_rf (I : FI) (J : FJ) (A : FI) (B : FJ) : kpC I J A B I J A B := ⟨fun _ _ => ⟨rfl, rfl, rfl, rfl⟩, rfl, rfl, rfl, rfl, rfl⟩
theorem kpC_tr {I : FI} {J : FJ} {A : FI} {B : FJ} {I' : FI} {J' : FJ} {A' : FI} {B' : FJ} {I2 : FI} {J2 : FJ} {A2 : FI} {B2 : FJ} (h : kpC I J A B I' J' A' B') (q : kpC I' J' A' B' I2 J2 A2 B2) : kpC I J A B I2 J2 A2 B2 := by
  obtain ⟨a, b, c, d, e, f⟩ := h
  obtain ⟨a', b', c', d', e', f'⟩ := q
  exact ⟨fun i hi => ⟨(a' i hi).1.trans (a i hi).1, (a' i hi).2.1.trans (a i hi).2.1, (a' i hi).2.2.1.trans (a i hi).2.2.1, (a' i hi).2.2.2.trans (a i hi).2.2.2⟩, b'.trans b, c'.trans c, d'.trans d, e'.trans e, f'.trans f⟩
def cP (ad : Nat → Nat) (z0 z1 : Bool) (I : FI) (J : FJ) (A : FI) (B : FJ) (v : Value) (m : Nat → Int64) : PO := fun v' Y' I' J' A' B' => v' = some v ∧ Y' = YC ad z0 z1 ∧ RepW 100 m I' J' A' B' ∧ kpC I J A B I' J' A' B'
theorem u2j {α : Type} {J : Nat → Nat → α} {i k j l : Nat} {v : α} (h : j ≠ i ∨ l ≠ k) : up2 J i k v j l = J j l := by
  rcases h with h | h
  · rw [up2_ne _ _ _ _ h]
  · by_cases e : j = i
    · subst e; rw [up2_ix _ _ _ h]
    · rw [up2_ne _ _ _ _ e]
theorem u2r {α : Type} {J : Nat → Nat → α} {i k j : Nat} {v : α} (h : j ≠ i) : up2 J i k v j = J j := funext fun l => up2_ne _ _ _ _ h
theorem WGn {m : Nat → Int64} (h : WG m) : gN (m 0) ≤ 5 ∧ gN (m 1) ≤ 6 ∧ gN (m 327) ≤ 100 ∧ gN (m 428) ≤ 100 ∧ gN (m 529) ≤ 30 ∧ ∀ u, u < 6 → lnG m u ≤ 40 := ⟨h.1.2.2.2.2.1, h.1.2.2.2.2.2.2.1, h.2.1.2, h.2.2.1.2, h.2.2.2.1.2, fun u hu => (h.2.2.2.2.1 u hu).2⟩
theorem RepW_cache {m : Nat → Int64} {I : FI} {J : FJ} {A : FI} {B : FJ} (g : WG m) (h : RepW 100 m I J A B) {u : Nat} (hu : u < 6) (v : Int64) : RepW 100 (va_up m (63 + u) v) I (up2 J (120 + 4 * u) 1 v) A B := by
  obtain ⟨h0, h1, h2, h3, h4, h5, h6, h7, h8⟩ := h
  obtain ⟨g0, g1, g2, g3, g4, g5⟩ := WGn g
  refine ⟨r0_m h0 (fun j hj => ne1 (by omega)), r1_m h1 g1 (fun j hj => ne1 (by omega)), r2_m h2 (fun j a b => ne1 (by omega)), fun w hw => ?_, r4_m h4 g5 (fun j a b => ne1 (by omega)), r5_m h5 g0 g5 (fun j hj => ne1 (by omega)), r6_m h6 g2 (fun j a b => ne1 (by omega)), r7_m h7 g3 (fun j a b => ne1 (by omega)), r8_m h8 g4 (fun j a b => ne1 (by omega))⟩
  rw [ne1 (show 69 + w ≠ 63 + u by omega)]
  by_cases e : w = u
  · subst e
    rw [va_up_self]
    exact ⟨up2_same _ _ _ _, (h3 w hw).2⟩
  · rw [ne1 (show 63 + w ≠ 63 + u by omega), u2j (Or.inl (by omega))]
    exact h3 w hw
theorem RepW_want {m : Nat → Int64} {I : FI} {J : FJ} {A : FI} {B : FJ} (g : WG m) (h : RepW 100 m I J A B) {u : Nat} (hu : u < 6) (v : Int64) : RepW 100 (va_up m (69 + u) v) (up2 I (120 + 4 * u) 2 v.toInt32) J A B := by
  obtain ⟨h0, h1, h2, h3, h4, h5, h6, h7, h8⟩ := h
  obtain ⟨g0, g1, g2, g3, g4, g5⟩ := WGn g
  refine ⟨r0_h (r0_m h0 (fun j hj => ne1 (by omega))) (fun k _ => u2j (Or.inl (by omega))), r1_h (r1_m h1 g1 (fun j hj => ne1 (by omega))) (u2j (Or.inl (by omega))), r2_m h2 (fun j a b => ne1 (by omega)), fun w hw => ?_, r4_h (r4_m h4 g5 (fun j a b => ne1 (by omega))) (fun w hw k => u2j (Or.inl (by omega))) (fun _ _ => rfl), r5_m h5 g0 g5 (fun j hj => ne1 (by omega)), r6_h (r6_m h6 g2 (fun j a b => ne1 (by omega))) (fun k => u2j (Or.inl (by omega))) rfl, r7_h (r7_m h7 g3 (fun j a b => ne1 (by omega))) (fun k => u2j (Or.inl (by omega))) rfl, r8_h (r8_m h8 g4 (fun j a b => ne1 (by omega))) (u2j (Or.inl (by omega))) rfl rfl rfl⟩
  rw [ne1 (show 63 + w ≠ 69 + u by omega)]
  by_cases e : w = u
  · subst e
    rw [va_up_self]
    exact ⟨(h3 w hw).1, up2_same _ _ _ _⟩
  · rw [ne1 (show 69 + w ≠ 69 + u by omega), u2j (Or.inl (by omega))]
    exact h3 w hw

set_option maxRecDepth 100000 in
set_option maxHeartbeats 4000000 in
theorem c_cached (ad : Nat → Nat) (z0 z1 : Bool) (I : FI) (J : FJ) (A : FI) (B : FJ) (x y : Int32) (m : Nat → Int64) (hG : WG m) (hR : RepW 100 m I J A B) : Spec M_X8_cached [.ref (ad 0), .int x, .int y] (YC ad z0 z1) I J A B (cP ad z0 z1 I J A B (.int (o_cached (gN (m 0)) (gN (m 1)) m x y)) m) := by
  obtain ⟨nf, hnf⟩ : ∃ nf, nf = gN (m 0) := ⟨_, rfl⟩
  obtain ⟨nu, hnu⟩ : ∃ nu, nu = gN (m 1) := ⟨_, rfl⟩
  obtain ⟨nc, hnc⟩ : ∃ nc, nc = gN (m 2) := ⟨_, rfl⟩
  have hD := hG.1
  unfold wc0 at hD
  rw [← hnf, ← hnu, ← hnc] at hD
  obtain ⟨hmF, hmU, hmC, h1, h2, h3, h4, h5⟩ := hD
  have hF : I 100 5 = nI nf := by rw [hR.1.1, hmF, lN_i]
  have hU : I 100 6 = nI nu := by rw [hR.1.2.1, hmU, lN_i]
  have hC : I 100 7 = nI nc := by rw [hR.1.2.2.1, hmC, lN_i]
  rw [← hnf, ← hnu]
  refine Spec_of (by decide) tk_X8_cached (Nat.le_of_ble_eq_true rfl) (fun X g rt => ?_)
  show Sim X (YC ad z0 z1) 0 [(0, .ref (ad 0)), (1, .int x), (2, .int y)] [] I J A B 0 0
  refine S_n g 1 (pc' := 1) (lv' := [(0, .ref (ad 0)), (1, .int x), (2, .int y)]) (st' := [.ref (ad 0)]) rfl ?_
  refine S_getR g (i := 0) (c := 8) (k := 0) (j := 100) (by decide) (by decide) rfl rfl rfl fl_X8_10 rfl ?_
  refine S_n g 1 (pc' := 5) (lv' := [(0, .ref (ad 0)), (1, .int x), (2, .int y)]) (st' := [.int x, .ref (ad 100)]) rfl ?_
  refine S_cV g (i := 100) (As := [.int x]) (st := []) (w_hasUser ad z0 z1 I J A B x nu hU h4) mw_X7_hasUser lk_X8_80 ⟨Nat.le_of_ble_eq_true rfl, Nat.le_of_ble_eq_true rfl⟩ (by decide) (by decide) rfl rfl (Nat.le_of_ble_eq_true rfl) ⟨Nat.le_of_ble_eq_true rfl, Nat.le_of_ble_eq_true rfl⟩ rfl ?_
  show Sim X (YC ad z0 z1) 8 [(0, .ref (ad 0)), (1, .int x), (2, .int y)] [.int (bI (isIx x nu))] I J A B 0 0
  refine S_ifB_eq g (tgt := 22) rfl (by decide) (fun qz8 => ?_) (fun qz8 => ?_)
  · skip
    refine S_n g 1 (pc' := 24) (lv' := [(0, .ref (ad 0)), (1, .int x), (2, .int y)]) (st' := [.int (-nI 101)]) rfl ?_
    exact rtI rt rfl rfl (⟨by simp [o_cached, qz8], rfl, hR, kpC_rf I J A B⟩)
  · skip
    refine S_n g 1 (pc' := 12) (lv' := [(0, .ref (ad 0)), (1, .int x), (2, .int y)]) (st' := [.ref (ad 0)]) rfl ?_
    refine S_getR g (i := 0) (c := 8) (k := 0) (j := 100) (by decide) (by decide) rfl rfl rfl fl_X8_10 rfl ?_
    refine S_n g 1 (pc' := 16) (lv' := [(0, .ref (ad 0)), (1, .int x), (2, .int y)]) (st' := [.int y, .ref (ad 100)]) rfl ?_
    refine S_cV g (i := 100) (As := [.int y]) (st := []) (w_hasPiece ad z0 z1 I J A B y nf hF h2) mw_X7_hasPiece lk_X8_64 ⟨Nat.le_of_ble_eq_true rfl, Nat.le_of_ble_eq_true rfl⟩ (by decide) (by decide) rfl rfl (Nat.le_of_ble_eq_true rfl) ⟨Nat.le_of_ble_eq_true rfl, Nat.le_of_ble_eq_true rfl⟩ rfl ?_
    show Sim X (YC ad z0 z1) 19 [(0, .ref (ad 0)), (1, .int x), (2, .int y)] [.int (bI (isIx y (12 * nf)))] I J A B 0 0
    refine S_ifB_ne g (tgt := 25) rfl (by decide) (fun qz19 => ?_) (fun qz19 => ?_)
    · skip
      obtain ⟨u, hu, hxu⟩ := isIx_t qz8
      subst hxu
      have hcu : (nI u).toNatClampNeg = u := nI_clamp (by omega)
      have hu : u < 6 := by omega
      have hJu : J (120 + 4 * u) 1 = m (63 + u) := (hR.2.2.2.1 u hu).1
      have hIu : I (120 + 4 * u) 2 = (m (69 + u)).toInt32 := (hR.2.2.2.1 u hu).2
      have hmb := mb7 (ad := ad) (z0 := z0) (z1 := z1) hu
      have hin : inP nf (m (63 + u)) := by rw [hnf]; exact (hG.2.2.2.2.2.2.2.1 u hu).1
      obtain ⟨p, hp, hxp⟩ := isIx_t qz19
      subst hxp
      have hcp : (nI p).toNatClampNeg = p := nI_clamp (by omega)
      refine S_n g 1 (pc' := 26) (lv' := [(0, .ref (ad 0)), (1, .int (nI u)), (2, .int (nI p))]) (st' := [.ref (ad 0)]) rfl ?_
      refine S_getR g (i := 0) (c := 8) (k := 0) (j := 100) (by decide) (by decide) rfl rfl rfl fl_X8_10 rfl ?_
      refine S_getR g (i := 100) (c := 7) (k := 1) (j := 102) (by decide) (by decide) rfl rfl rfl fl_X8_83 rfl ?_
      refine S_n g 1 (pc' := 33) (lv' := [(0, .ref (ad 0)), (1, .int (nI u)), (2, .int (nI p))]) (st' := [.int (nI u), .ref (ad 102)]) rfl ?_
      refine S_aaldN g (i := 102) (e := u) (j := 120 + 4 * u) (by decide) rfl (show u < 6 from by omega) (show (6 : Nat) < 2 ^ 31 from by decide) rfl rfl ?_
      refine S_n g 1 (pc' := 35) (lv' := [(0, .ref (ad 0)), (1, .int (nI u)), (2, .int (nI p))]) (st' := [.int (nI p), .ref (ad (120 + 4 * u))]) rfl ?_
      refine S_cV g (i := 120 + 4 * u) (As := [.int (nI p)]) (st := []) (mb_holds ad z0 z1 I J A B (120 + 4 * u) (by omega) hmb.1 p (by omega)) mw_X2_holds lk_X8_87 ⟨Nat.le_of_ble_eq_true rfl, Nat.le_of_ble_eq_true rfl⟩ (by omega) (by decide) (mb7 hu).1 rfl (Nat.le_of_ble_eq_true rfl) ⟨Nat.le_of_ble_eq_true rfl, Nat.le_of_ble_eq_true rfl⟩ rfl ?_
      rw [hJu]
      show Sim X (YC ad z0 z1) 38 [(0, .ref (ad 0)), (1, .int (nI u)), (2, .int (nI p))] [.int (bI (tb (m (63 + u)) p))] I J A B 0 0
      refine S_ifB_eq g (tgt := 45) rfl (by decide) (fun qz38 => ?_) (fun qz38 => ?_)
      · skip
        refine S_n g 1 (pc' := 46) (lv' := [(0, .ref (ad 0)), (1, .int (nI u)), (2, .int (nI p))]) (st' := [.int (nI 0)]) rfl ?_
        exact rtI rt rfl rfl (⟨by simp [o_cached, qz8, qz19, ix, hcu, hcp, bI, qz38], rfl, hR, kpC_rf I J A B⟩)
      · skip
        refine S_n g 2 (pc' := 46) (lv' := [(0, .ref (ad 0)), (1, .int (nI u)), (2, .int (nI p))]) (st' := [.int (nI 1)]) rfl ?_
        exact rtI rt rfl rfl (⟨by simp [o_cached, qz8, qz19, ix, hcu, hcp, bI, qz38], rfl, hR, kpC_rf I J A B⟩)
    · skip
      refine S_n g 1 (pc' := 24) (lv' := [(0, .ref (ad 0)), (1, .int x), (2, .int y)]) (st' := [.int (-nI 101)]) rfl ?_
      exact rtI rt rfl rfl (⟨by simp [o_cached, qz8, qz19], rfl, hR, kpC_rf I J A B⟩)

set_option maxRecDepth 100000 in
set_option maxHeartbeats 4000000 in
theorem c_store (ad : Nat → Nat) (z0 z1 : Bool) (I : FI) (J : FJ) (A : FI) (B : FJ) (x y : Int32) (m : Nat → Int64) (hG : WG m) (hR : RepW 100 m I J A B) : Spec M_X8_store [.ref (ad 0), .int x, .int y] (YC ad z0 z1) I J A B (cP ad z0 z1 I J A B (.int (o_store (gN (m 0)) (gN (m 1)) (gN (m 2)) m x y).1) (o_store (gN (m 0)) (gN (m 1)) (gN (m 2)) m x y).2) := by
  obtain ⟨nf, hnf⟩ : ∃ nf, nf = gN (m 0) := ⟨_, rfl⟩
  obtain ⟨nu, hnu⟩ : ∃ nu, nu = gN (m 1) := ⟨_, rfl⟩
  obtain ⟨nc, hnc⟩ : ∃ nc, nc = gN (m 2) := ⟨_, rfl⟩
  have hD := hG.1
  unfold wc0 at hD
  rw [← hnf, ← hnu, ← hnc] at hD
  obtain ⟨hmF, hmU, hmC, h1, h2, h3, h4, h5⟩ := hD
  have hF : I 100 5 = nI nf := by rw [hR.1.1, hmF, lN_i]
  have hU : I 100 6 = nI nu := by rw [hR.1.2.1, hmU, lN_i]
  have hC : I 100 7 = nI nc := by rw [hR.1.2.2.1, hmC, lN_i]
  rw [← hnf, ← hnu, ← hnc]
  refine Spec_of (by decide) tk_X8_store (Nat.le_of_ble_eq_true rfl) (fun X g rt => ?_)
  show Sim X (YC ad z0 z1) 0 [(0, .ref (ad 0)), (1, .int x), (2, .int y)] [] I J A B 0 0
  refine S_n g 1 (pc' := 1) (lv' := [(0, .ref (ad 0)), (1, .int x), (2, .int y)]) (st' := [.ref (ad 0)]) rfl ?_
  refine S_getR g (i := 0) (c := 8) (k := 0) (j := 100) (by decide) (by decide) rfl rfl rfl fl_X8_10 rfl ?_
  refine S_n g 1 (pc' := 5) (lv' := [(0, .ref (ad 0)), (1, .int x), (2, .int y)]) (st' := [.int x, .ref (ad 100)]) rfl ?_
  refine S_cV g (i := 100) (As := [.int x]) (st := []) (w_hasUser ad z0 z1 I J A B x nu hU h4) mw_X7_hasUser lk_X8_80 ⟨Nat.le_of_ble_eq_true rfl, Nat.le_of_ble_eq_true rfl⟩ (by decide) (by decide) rfl rfl (Nat.le_of_ble_eq_true rfl) ⟨Nat.le_of_ble_eq_true rfl, Nat.le_of_ble_eq_true rfl⟩ rfl ?_
  show Sim X (YC ad z0 z1) 8 [(0, .ref (ad 0)), (1, .int x), (2, .int y)] [.int (bI (isIx x nu))] I J A B 0 0
  refine S_ifB_eq g (tgt := 22) rfl (by decide) (fun qz8 => ?_) (fun qz8 => ?_)
  · skip
    refine S_n g 1 (pc' := 24) (lv' := [(0, .ref (ad 0)), (1, .int x), (2, .int y)]) (st' := [.int (-nI 101)]) rfl ?_
    exact rtI rt rfl rfl (⟨by simp [o_store, qz8], rfl, by simp [o_store, qz8]; exact hR, kpC_rf I J A B⟩)
  · skip
    refine S_n g 1 (pc' := 12) (lv' := [(0, .ref (ad 0)), (1, .int x), (2, .int y)]) (st' := [.ref (ad 0)]) rfl ?_
    refine S_getR g (i := 0) (c := 8) (k := 0) (j := 100) (by decide) (by decide) rfl rfl rfl fl_X8_10 rfl ?_
    refine S_n g 1 (pc' := 16) (lv' := [(0, .ref (ad 0)), (1, .int x), (2, .int y)]) (st' := [.int y, .ref (ad 100)]) rfl ?_
    refine S_cV g (i := 100) (As := [.int y]) (st := []) (w_hasPiece ad z0 z1 I J A B y nf hF h2) mw_X7_hasPiece lk_X8_64 ⟨Nat.le_of_ble_eq_true rfl, Nat.le_of_ble_eq_true rfl⟩ (by decide) (by decide) rfl rfl (Nat.le_of_ble_eq_true rfl) ⟨Nat.le_of_ble_eq_true rfl, Nat.le_of_ble_eq_true rfl⟩ rfl ?_
    show Sim X (YC ad z0 z1) 19 [(0, .ref (ad 0)), (1, .int x), (2, .int y)] [.int (bI (isIx y (12 * nf)))] I J A B 0 0
    refine S_ifB_ne g (tgt := 25) rfl (by decide) (fun qz19 => ?_) (fun qz19 => ?_)
    · skip
      obtain ⟨u, hu, hxu⟩ := isIx_t qz8
      subst hxu
      have hcu : (nI u).toNatClampNeg = u := nI_clamp (by omega)
      have hu : u < 6 := by omega
      have hJu : J (120 + 4 * u) 1 = m (63 + u) := (hR.2.2.2.1 u hu).1
      have hIu : I (120 + 4 * u) 2 = (m (69 + u)).toInt32 := (hR.2.2.2.1 u hu).2
      have hmb := mb7 (ad := ad) (z0 := z0) (z1 := z1) hu
      have hin : inP nf (m (63 + u)) := by rw [hnf]; exact (hG.2.2.2.2.2.2.2.1 u hu).1
      obtain ⟨p, hp, hxp⟩ := isIx_t qz19
      subst hxp
      have hcp : (nI p).toNatClampNeg = p := nI_clamp (by omega)
      have ho : o_store nf nu nc m (nI u) (nI p) = if tb (m (63 + u)) p = true then (-nI 102, m) else if nc ≤ ctb (m (63 + u)) 60 then (-nI 103, m) else (nI (ctb (m (63 + u) ||| b1 p) 60), va_up m (63 + u) (m (63 + u) ||| b1 p)) := by simp only [o_store, qz8, qz19, if_true, ix, hcu, hcp]
      have hin2 : inP nf (m (63 + u) ||| b1 p) := inP_or hin (inP_b1 (by omega) h2)
      refine S_n g 1 (pc' := 26) (lv' := [(0, .ref (ad 0)), (1, .int (nI u)), (2, .int (nI p))]) (st' := [.ref (ad 0)]) rfl ?_
      refine S_getR g (i := 0) (c := 8) (k := 0) (j := 100) (by decide) (by decide) rfl rfl rfl fl_X8_10 rfl ?_
      refine S_getR g (i := 100) (c := 7) (k := 1) (j := 102) (by decide) (by decide) rfl rfl rfl fl_X8_83 rfl ?_
      refine S_n g 1 (pc' := 33) (lv' := [(0, .ref (ad 0)), (1, .int (nI u)), (2, .int (nI p))]) (st' := [.int (nI u), .ref (ad 102)]) rfl ?_
      refine S_aaldN g (i := 102) (e := u) (j := 120 + 4 * u) (by decide) rfl (show u < 6 from by omega) (show (6 : Nat) < 2 ^ 31 from by decide) rfl rfl ?_
      refine S_n g 3 (pc' := 37) (lv' := [(0, .ref (ad 0)), (1, .int (nI u)), (2, .int (nI p)), (3, .ref (ad (120 + 4 * u)))]) (st' := [.int (nI p), .ref (ad (120 + 4 * u))]) rfl ?_
      refine S_cV g (i := 120 + 4 * u) (As := [.int (nI p)]) (st := []) (mb_holds ad z0 z1 I J A B (120 + 4 * u) (by omega) hmb.1 p (by omega)) mw_X2_holds lk_X8_87 ⟨Nat.le_of_ble_eq_true rfl, Nat.le_of_ble_eq_true rfl⟩ (by omega) (by decide) (mb7 hu).1 rfl (Nat.le_of_ble_eq_true rfl) ⟨Nat.le_of_ble_eq_true rfl, Nat.le_of_ble_eq_true rfl⟩ rfl ?_
      rw [hJu]
      show Sim X (YC ad z0 z1) 40 [(0, .ref (ad 0)), (1, .int (nI u)), (2, .int (nI p)), (3, .ref (ad (120 + 4 * u)))] [.int (bI (tb (m (63 + u)) p))] I J A B 0 0
      refine S_ifB_eq g (tgt := 46) rfl (by decide) (fun qz40 => ?_) (fun qz40 => ?_)
      · skip
        rw [if_neg (by rw [qz40]; decide)] at ho
        have hcl := ctb_le (m (63 + u)) 60
        refine S_n g 1 (pc' := 47) (lv' := [(0, .ref (ad 0)), (1, .int (nI u)), (2, .int (nI p)), (3, .ref (ad (120 + 4 * u)))]) (st' := [.ref (ad (120 + 4 * u))]) rfl ?_
        refine S_cV g (i := 120 + 4 * u) (As := []) (st := []) (mb_held ad z0 z1 I J A B (120 + 4 * u) (by omega) hmb.1) mw_X2_held lk_X8_92 ⟨Nat.le_of_ble_eq_true rfl, Nat.le_of_ble_eq_true rfl⟩ (by omega) (by decide) (mb7 hu).1 rfl (Nat.le_of_ble_eq_true rfl) ⟨Nat.le_of_ble_eq_true rfl, Nat.le_of_ble_eq_true rfl⟩ rfl ?_
        rw [hJu, ctb_64 h2 hin]
        show Sim X (YC ad z0 z1) 50 [(0, .ref (ad 0)), (1, .int (nI u)), (2, .int (nI p)), (3, .ref (ad (120 + 4 * u)))] [.int (nI (ctb (m (63 + u)) 60))] I J A B 0 0
        refine S_n g 1 (pc' := 51) (lv' := [(0, .ref (ad 0)), (1, .int (nI u)), (2, .int (nI p)), (3, .ref (ad (120 + 4 * u)))]) (st' := [.ref (ad 0), .int (nI (ctb (m (63 + u)) 60))]) rfl ?_
        refine S_getR g (i := 0) (c := 8) (k := 0) (j := 100) (by decide) (by decide) rfl rfl rfl fl_X8_10 rfl ?_
        refine S_getI g (i := 100) (c := 7) (k := 7) (by decide) (by decide) rfl rfl fl_X8_95 rfl ?_
        rw [hC]
        refine S_icN_lt g (tgt := 63) (by omega) (by omega) rfl (by decide) (fun qz57 => ?_) (fun qz57 => ?_)
        · skip
          rw [if_neg (by omega)] at ho
          refine S_n g 2 (pc' := 65) (lv' := [(0, .ref (ad 0)), (1, .int (nI u)), (2, .int (nI p)), (3, .ref (ad (120 + 4 * u)))]) (st' := [.ref (ad (120 + 4 * u)), .ref (ad (120 + 4 * u))]) rfl ?_
          refine S_getJ g (i := 120 + 4 * u) (c := 2) (k := 1) (by omega) (by decide) (mb7 hu).1 rfl fl_X8_98 rfl ?_
          rw [hJu]
          refine S_n g 4 (pc' := 72) (lv' := [(0, .ref (ad 0)), (1, .int (nI u)), (2, .int (nI p)), (3, .ref (ad (120 + 4 * u)))]) (st' := [.long ((m (63 + u)) ||| ((lN 1) <<< ((nI p).toInt64 &&& 63))), .ref (ad (120 + 4 * u))]) rfl ?_
          refine S_putJ g (i := 120 + 4 * u) (c := 2) (k := 1) (by omega) (by decide) (mb7 hu).1 rfl fw_X8_98 rfl ?_
          refine S_n g 1 (pc' := 76) (lv' := [(0, .ref (ad 0)), (1, .int (nI u)), (2, .int (nI p)), (3, .ref (ad (120 + 4 * u)))]) (st' := [.ref (ad (120 + 4 * u))]) rfl ?_
          refine S_cV g (i := 120 + 4 * u) (As := []) (st := []) (mb_held ad z0 z1 I (up2 J (120 + 4 * u) 1 ((m (63 + u)) ||| ((lN 1) <<< ((nI p).toInt64 &&& 63)))) A B (120 + 4 * u) (by omega) hmb.1) mw_X2_held lk_X8_92 ⟨Nat.le_of_ble_eq_true rfl, Nat.le_of_ble_eq_true rfl⟩ (by omega) (by decide) (mb7 hu).1 rfl (Nat.le_of_ble_eq_true rfl) ⟨Nat.le_of_ble_eq_true rfl, Nat.le_of_ble_eq_true rfl⟩ rfl ?_
          rw [up2_same, ctb_64 h2 hin2]
          show Sim X (YC ad z0 z1) 79 [(0, .ref (ad 0)), (1, .int (nI u)), (2, .int (nI p)), (3, .ref (ad (120 + 4 * u)))] [.int (nI (ctb (m (63 + u) ||| b1 p) 60))] I (up2 J (120 + 4 * u) 1 ((m (63 + u)) ||| ((lN 1) <<< ((nI p).toInt64 &&& 63)))) A B 0 0
          exact rtI rt rfl rfl (⟨by rw [ho], rfl, by rw [ho]; exact RepW_cache hG hR hu _, fun i hi => ⟨rfl, u2r (by omega), rfl, rfl⟩, rfl, rfl, rfl, rfl, rfl⟩)
        · skip
          rw [if_pos (by omega)] at ho
          refine S_n g 1 (pc' := 62) (lv' := [(0, .ref (ad 0)), (1, .int (nI u)), (2, .int (nI p)), (3, .ref (ad (120 + 4 * u)))]) (st' := [.int (-nI 103)]) rfl ?_
          exact rtI rt rfl rfl (⟨by rw [ho], rfl, by rw [ho]; exact hR, kpC_rf I J A B⟩)
      · skip
        rw [if_pos qz40] at ho
        refine S_n g 1 (pc' := 45) (lv' := [(0, .ref (ad 0)), (1, .int (nI u)), (2, .int (nI p)), (3, .ref (ad (120 + 4 * u)))]) (st' := [.int (-nI 102)]) rfl ?_
        exact rtI rt rfl rfl (⟨by rw [ho], rfl, by rw [ho]; exact hR, kpC_rf I J A B⟩)
    · skip
      refine S_n g 1 (pc' := 24) (lv' := [(0, .ref (ad 0)), (1, .int x), (2, .int y)]) (st' := [.int (-nI 101)]) rfl ?_
      exact rtI rt rfl rfl (⟨by simp [o_store, qz8, qz19], rfl, by simp [o_store, qz8, qz19]; exact hR, kpC_rf I J A B⟩)
