/-! the reference, part 19: calls of the text are done -/
def lnG (m : Nat → Int64) (u : Nat) : Nat := gN (m (81 + u))
/-- m is well formed, with its own numbers -/
abbrev WG (m : Nat → Int64) : Prop := Wf m (gN (m 0)) (gN (m 1)) (gN (m 2)) (gN (m 327)) (gN (m 428)) (gN (m 529)) (lnG m)
theorem WF_g {m : Nat → Int64} (h : WF m) : WG m := by
  obtain ⟨nf, nu, nc, qn, hn, pn, ln, h⟩ := h
  obtain ⟨c0, c1, c2, c3, c4, c5, c6, c7, c8, c9, c10, c11, c12⟩ := h
  have e0 : gN (m 0) = nf := by rw [c0.1, gN_lN (by have := c0.2.2.2.2.1; omega)]
  have e1 : gN (m 1) = nu := by rw [c0.2.1, gN_lN (by have := c0.2.2.2.2.2.2.1; omega)]
  have e2 : gN (m 2) = nc := by rw [c0.2.2.1, gN_lN (by have := c0.2.2.2.2.2.2.2; omega)]
  have e3 : gN (m 327) = qn := by rw [c1.1, gN_lN (by have := c1.2; omega)]
  have e4 : gN (m 428) = hn := by rw [c2.1, gN_lN (by have := c2.2; omega)]
  have e5 : gN (m 529) = pn := by rw [c3.1, gN_lN (by have := c3.2; omega)]
  have e6 : ∀ u, u < 6 → lnG m u = ln u := fun u hu => by unfold lnG; rw [(c4 u hu).1, gN_lN (by have := (c4 u hu).2; omega)]
  unfold WG
  rw [e0, e1, e2, e3, e4, e5]
  exact ⟨c0, c1, c2, c3, fun u hu => by rw [e6 u hu]; exact c4 u hu, c5, c6, c7, fun u hu i hi => c8 u hu i (by rw [e6 u hu] at hi; exact hi), c9, c10, c11, c12⟩
def k_want (m : Nat → Int64) (x y : Int32) := o_want (gN (m 0)) (gN (m 1)) m x y
def k_subs (m : Nat → Int64) (x : Int32) := o_storeSubsets (gN (m 0)) (gN (m 1)) (gN (m 2)) m x
def k_idle (m : Nat → Int64) (x : Int32) := o_idle (gN (m 0)) (gN (m 1)) (gN (m 2)) (gN (m 529)) (gN (m 327)) m x
def k_sched (m : Nat → Int64) (x : Int32) := o_schedule (gN (m 0)) (gN (m 1)) (lnG m) m x
def k_send (m : Nat → Int64) (x : Int32) := o_send (gN (m 1)) (gN (m 327)) (gN (m 428)) (lnG m) m x
def k_comes (m : Nat → Int64) (x : Int32) (b : Bool) := o_comes (gN (m 1)) m x b
/-- a call of the text -/
def doC (m : Nat → Int64) (c : Nat × Nat × Nat) : Int32 × (Nat → Int64) :=
  if c.1 = 119 then k_want m (nI c.2.1) (nI c.2.2) else if c.1 = 110 then k_want m (nI c.2.1) (-nI 1) else if c.1 = 113 then k_subs m (nI c.2.1) else if c.1 = 105 then k_idle m (nI c.2.1) else if c.1 = 115 then k_sched m (nI c.2.1) else if c.1 = 116 then k_send m (nI c.2.1) else if c.1 = 108 then k_comes m (nI c.2.1) false else k_comes m (nI c.2.1) true
theorem WF_do {m : Nat → Int64} (h : WF m) (c : Nat × Nat × Nat) : WF (doC m c).2 := by
  have g := WF_g h
  unfold doC
  repeat' split
  · exact Wf_WF (Wf_wants g _ _)
  · exact Wf_WF (Wf_wants g _ _)
  · exact Wf_WF (Wf_storeSubsets g _)
  · exact WF_idle g _
  · exact WF_schedule g _
  · exact WF_send g _
  · exact Wf_WF (Wf_comes g _ _)
  · exact Wf_WF (Wf_comes g _ _)
/-- a value and a new row, all else that counts as it was -/
def stP (ad : Nat → Nat) (I : FI) (J : FJ) (A : FI) (B : FJ) (r : Int32 × (Nat → Int64)) : PO := fun v' Y' I' J' A' B' => v' = some (.int r.1) ∧ Y' = YR ad ∧ B' 501 = r.2 ∧ kpR I J A B I' J' A' B'
theorem st_eq {ad : Nat → Nat} {I : FI} {J : FJ} {A : FI} {B : FJ} {a : Int32} {b : Nat → Int64} {v : Option Value} {Y' : PS} {I' : FI} {J' : FJ} {A' : FI} {B' : FJ} (h : eqP (some (.int a)) (YR ad) I J A (va_up B 501 b) v Y' I' J' A' B') : stP ad I J A B (a, b) v Y' I' J' A' B' := by
  obtain ⟨rfl, rfl, rfl, rfl, rfl, rfl⟩ := h
  exact ⟨rfl, rfl, va_up_self _ _ _, ⟨rfl, rfl, rfl, rfl⟩, rfl, ⟨rfl, rfl, rfl⟩, rfl⟩
theorem s_want (ad : Nat → Nat) (I : FI) (J : FJ) (A : FI) (B : FJ) (h : WG (B 501)) (x y : Int32) : Spec M_X9_want [.ref (ad 500), .int x, .int y] (YR ad) I J A B (stP ad I J A B (k_want (B 501) x y)) := Spec_mono (sp_want ad I J A B x y _ _ _ h.1) (fun _ _ _ _ _ _ q => st_eq q)
theorem s_subs (ad : Nat → Nat) (I : FI) (J : FJ) (A : FI) (B : FJ) (h : WG (B 501)) (x : Int32) : Spec M_X9_storeSubsets [.ref (ad 500), .int x] (YR ad) I J A B (stP ad I J A B (k_subs (B 501) x)) := Spec_mono (sp_storeSubsets ad I J A B x _ _ _ h.1) (fun _ _ _ _ _ _ q => by
  obtain ⟨rfl, rfl, rfl, rfl, rfl, f, rfl⟩ := q
  exact ⟨rfl, rfl, va_up_self _ _ _, ⟨rfl, rfl, rfl, rfl⟩, rfl, ⟨rfl, rfl, rfl⟩, rfl⟩)
theorem s_idle (ad : Nat → Nat) (I : FI) (J : FJ) (A : FI) (B : FJ) (h : WG (B 501)) (x : Int32) : Spec M_X9_idle [.ref (ad 500), .int x] (YR ad) I J A B (stP ad I J A B (k_idle (B 501) x)) := Spec_mono (sp_idle ad I J A B x _ _ _ _ _ h.1 h.2.2.2.1.1 h.2.2.2.1.2 h.2.1.1 h.2.1.2) (fun _ _ _ _ _ _ q => st_eq q)
theorem s_sched (ad : Nat → Nat) (I : FI) (J : FJ) (A : FI) (B : FJ) (h : WG (B 501)) (x : Int32) : Spec M_X9_schedule [.ref (ad 500), .int x] (YR ad) I J A B (stP ad I J A B (k_sched (B 501) x)) :=
  have hW : ∀ u, u < 6 → okW (B 501) u (gN (B 501 0)) := fun u hu => (h.2.2.2.2.2.1 u hu).1
  Spec_mono (sp_schedule ad I J A B x (B 501) rfl _ _ _ h.1 (lnG (B 501)) (fun u hu => (h.2.2.2.2.1 u hu).1) (fun u hu => (h.2.2.2.2.1 u hu).2) hW (fun ld k s _ hk hs => Nat.le_trans (sch_bd h.1.2.2.2.2.1 h.1.2.2.2.2.2.2.1 _ hW ld k s hk hs) (by decide)) (fun u hu => sch_hc h.1.2.2.2.2.1 _ hW (Nat.lt_of_lt_of_le hu h.1.2.2.2.2.2.2.1))) (fun _ _ _ _ _ _ q => q)
theorem s_send (ad : Nat → Nat) (I : FI) (J : FJ) (A : FI) (B : FJ) (h : WG (B 501)) (x : Int32) : Spec M_X9_send [.ref (ad 500), .int x] (YR ad) I J A B (stP ad I J A B (k_send (B 501) x)) := Spec_mono (sp_send ad I J A B x _ _ _ _ _ h.1 h.2.1.1 h.2.1.2 h.2.2.1.1 h.2.2.1.2 (lnG (B 501)) (fun u hu => (h.2.2.2.2.1 u hu).1) (fun u hu => (h.2.2.2.2.1 u hu).2)) (fun _ _ _ _ _ _ q => st_eq q)
theorem s_leave (ad : Nat → Nat) (I : FI) (J : FJ) (A : FI) (B : FJ) (h : WG (B 501)) (x : Int32) : Spec M_X9_leave [.ref (ad 500), .int x] (YR ad) I J A B (stP ad I J A B (k_comes (B 501) x false)) := Spec_mono (sp_leave ad I J A B x _ h.1.2.1 h.1.2.2.2.2.2.1 h.1.2.2.2.2.2.2.1) (fun _ _ _ _ _ _ q => st_eq q)
theorem s_join (ad : Nat → Nat) (I : FI) (J : FJ) (A : FI) (B : FJ) (h : WG (B 501)) (x : Int32) : Spec M_X9_join [.ref (ad 500), .int x] (YR ad) I J A B (stP ad I J A B (k_comes (B 501) x true)) := Spec_mono (sp_join ad I J A B x _ h.1.2.1 h.1.2.2.2.2.2.1 h.1.2.2.2.2.2.2.1) (fun _ _ _ _ _ _ q => st_eq q)

set_option maxRecDepth 100000 in
set_option maxHeartbeats 4000000 in
theorem sp_does (ad : Nat → Nat) (I : FI) (J : FJ) (A : FI) (B : FJ) (m0 : Nat → Int64) (hm0 : B 501 = m0) (hW : WF m0) (L : List (Nat × Nat × Nat)) (hR : RC (A 513) L) (k : Nat) (hk : k < L.length) (hk9 : k < 30) : Spec M_X9_does [.ref (ad 500), .int (nI k)] (YR ad) I J A B (stP ad I J A B (doC m0 L[k])) := by
  have hG := WF_g hW
  rw [← hm0] at hG ⊢
  obtain ⟨r1, r2, r3, r4, r5⟩ := hR k hk
  obtain ⟨⟨c, a, b⟩, hcab⟩ : ∃ z, z = L[k] := ⟨_, rfl⟩
  rw [← hcab] at r1 r2 r3 r4 r5 ⊢
  simp only [] at r1 r2 r3 r4 r5
  refine Spec_of (by decide) tk_X9_does (Nat.le_of_ble_eq_true rfl) (fun X g rt => ?_)
  show Sim X (YR ad) 0 [(0, .ref (ad 500)), (1, .int (nI k))] [] I J A B 0 0
  refine S_n g 1 (pc' := 1) (lv' := [(0, .ref (ad 500)), (1, .int (nI k))]) (st' := [.ref (ad 500)]) rfl ?_
  refine S_getR g (i := 500) (c := 9) (k := 18) (j := 513) (by decide) (by decide) rfl rfl rfl fl_X9_52 rfl ?_
  refine S_n g 3 (pc' := 7) (lv' := [(0, .ref (ad 500)), (1, .int (nI k))]) (st' := [.int ((nI 3) * (nI k)), .ref (ad 513)]) rfl ?_
  rw [pk_mul 3 k]
  refine S_n g 2 (pc' := 9) (lv' := [(0, .ref (ad 500)), (1, .int (nI k))]) (st' := [.int ((nI (3 * k)) + (nI 1)), .ref (ad 513)]) rfl ?_
  rw [nI_add (3 * k) 1]
  refine S_ialdN g (i := 513) (e := (3 * k) + 1) (by decide) rfl (show (3 * k) + 1 < 120 from by omega) (show (120 : Nat) < 2 ^ 31 from by decide) rfl ?_
  rw [r3]
  refine S_n g 2 (pc' := 12) (lv' := [(0, .ref (ad 500)), (1, .int (nI k)), (2, .int (nI a))]) (st' := [.ref (ad 500)]) rfl ?_
  refine S_getR g (i := 500) (c := 9) (k := 18) (j := 513) (by decide) (by decide) rfl rfl rfl fl_X9_52 rfl ?_
  refine S_n g 3 (pc' := 18) (lv' := [(0, .ref (ad 500)), (1, .int (nI k)), (2, .int (nI a))]) (st' := [.int ((nI 3) * (nI k)), .ref (ad 513)]) rfl ?_
  rw [pk_mul 3 k]
  refine S_n g 2 (pc' := 20) (lv' := [(0, .ref (ad 500)), (1, .int (nI k)), (2, .int (nI a))]) (st' := [.int ((nI (3 * k)) + (nI 2)), .ref (ad 513)]) rfl ?_
  rw [nI_add (3 * k) 2]
  refine S_ialdN g (i := 513) (e := (3 * k) + 2) (by decide) rfl (show (3 * k) + 2 < 120 from by omega) (show (120 : Nat) < 2 ^ 31 from by decide) rfl ?_
  refine S_n g 2 (pc' := 23) (lv' := [(0, .ref (ad 500)), (1, .int (nI k)), (2, .int (nI a)), (3, .int (A 513 ((3 * k) + 2)))]) (st' := [.ref (ad 500)]) rfl ?_
  refine S_getR g (i := 500) (c := 9) (k := 18) (j := 513) (by decide) (by decide) rfl rfl rfl fl_X9_52 rfl ?_
  refine S_n g 3 (pc' := 29) (lv' := [(0, .ref (ad 500)), (1, .int (nI k)), (2, .int (nI a)), (3, .int (A 513 ((3 * k) + 2)))]) (st' := [.int ((nI 3) * (nI k)), .ref (ad 513)]) rfl ?_
  rw [pk_mul 3 k]
  refine S_ialdN g (i := 513) (e := 3 * k) (by decide) rfl (show 3 * k < 120 from by omega) (show (120 : Nat) < 2 ^ 31 from by decide) rfl ?_
  rw [r1]
  by_cases hin : 105 ≤ c ∧ c ≤ 119
  · skip
    rcases (show c = 105 ∨ c = 106 ∨ c = 107 ∨ c = 108 ∨ c = 109 ∨ c = 110 ∨ c = 111 ∨ c = 112 ∨ c = 113 ∨ c = 114 ∨ c = 115 ∨ c = 116 ∨ c = 117 ∨ c = 118 ∨ c = 119 by omega) with rfl | rfl | rfl | rfl | rfl | rfl | rfl | rfl | rfl | rfl | rfl | rfl | rfl | rfl | rfl
    · skip
      refine S_swIn g (off := 94) (tgt := 124) rfl (by decide) (by decide) rfl rfl ?_
      refine S_n g 2 (pc' := 126) (lv' := [(0, .ref (ad 500)), (1, .int (nI k)), (2, .int (nI a)), (3, .int (A 513 ((3 * k) + 2)))]) (st' := [.int (nI a), .ref (ad 500)]) rfl ?_
      refine S_callV g (i := 500) (As := [.int (nI a)]) (st := []) (s_idle ad I J A B hG (nI a)) mw_X9_idle lk_X9_270 ⟨Nat.le_of_ble_eq_true rfl, Nat.le_of_ble_eq_true rfl⟩ (by decide) (by decide) rfl rfl (Nat.le_of_ble_eq_true rfl) ⟨Nat.le_of_ble_eq_true rfl, Nat.le_of_ble_eq_true rfl⟩ rfl (fun v' Y' I2 J2 A2 B2 hpo => ?_)
      obtain ⟨rfl, rfl, hq5, hqk⟩ := hpo
      show Sim X (YR ad) 129 [(0, .ref (ad 500)), (1, .int (nI k)), (2, .int (nI a)), (3, .int (A 513 ((3 * k) + 2)))] [.int (k_idle (B 501) (nI a)).1] I2 J2 A2 B2 0 0
      exact rtI rt rfl rfl (⟨by rw [show doC (B 501) (105, a, b) = k_idle (B 501) (nI a) from rfl], rfl, by rw [show doC (B 501) (105, a, b) = k_idle (B 501) (nI a) from rfl]; exact hq5, hqk⟩)
    · skip
      refine S_swIn g (off := 118) (tgt := 148) rfl (by decide) (by decide) rfl rfl ?_
      refine S_n g 2 (pc' := 150) (lv' := [(0, .ref (ad 500)), (1, .int (nI k)), (2, .int (nI a)), (3, .int (A 513 ((3 * k) + 2)))]) (st' := [.int (nI a), .ref (ad 500)]) rfl ?_
      refine S_callV g (i := 500) (As := [.int (nI a)]) (st := []) (s_join ad I J A B hG (nI a)) mw_X9_join lk_X9_282 ⟨Nat.le_of_ble_eq_true rfl, Nat.le_of_ble_eq_true rfl⟩ (by decide) (by decide) rfl rfl (Nat.le_of_ble_eq_true rfl) ⟨Nat.le_of_ble_eq_true rfl, Nat.le_of_ble_eq_true rfl⟩ rfl (fun v' Y' I2 J2 A2 B2 hpo => ?_)
      obtain ⟨rfl, rfl, hq5, hqk⟩ := hpo
      show Sim X (YR ad) 153 [(0, .ref (ad 500)), (1, .int (nI k)), (2, .int (nI a)), (3, .int (A 513 ((3 * k) + 2)))] [.int (k_comes (B 501) (nI a) true).1] I2 J2 A2 B2 0 0
      exact rtI rt rfl rfl (⟨by rw [show doC (B 501) (106, a, b) = k_comes (B 501) (nI a) true from rfl], rfl, by rw [show doC (B 501) (106, a, b) = k_comes (B 501) (nI a) true from rfl]; exact hq5, hqk⟩)
    · skip
      refine S_swIn g (off := 118) (tgt := 148) rfl (by decide) (by decide) rfl rfl ?_
      refine S_n g 2 (pc' := 150) (lv' := [(0, .ref (ad 500)), (1, .int (nI k)), (2, .int (nI a)), (3, .int (A 513 ((3 * k) + 2)))]) (st' := [.int (nI a), .ref (ad 500)]) rfl ?_
      refine S_callV g (i := 500) (As := [.int (nI a)]) (st := []) (s_join ad I J A B hG (nI a)) mw_X9_join lk_X9_282 ⟨Nat.le_of_ble_eq_true rfl, Nat.le_of_ble_eq_true rfl⟩ (by decide) (by decide) rfl rfl (Nat.le_of_ble_eq_true rfl) ⟨Nat.le_of_ble_eq_true rfl, Nat.le_of_ble_eq_true rfl⟩ rfl (fun v' Y' I2 J2 A2 B2 hpo => ?_)
      obtain ⟨rfl, rfl, hq5, hqk⟩ := hpo
      show Sim X (YR ad) 153 [(0, .ref (ad 500)), (1, .int (nI k)), (2, .int (nI a)), (3, .int (A 513 ((3 * k) + 2)))] [.int (k_comes (B 501) (nI a) true).1] I2 J2 A2 B2 0 0
      exact rtI rt rfl rfl (⟨by rw [show doC (B 501) (107, a, b) = k_comes (B 501) (nI a) true from rfl], rfl, by rw [show doC (B 501) (107, a, b) = k_comes (B 501) (nI a) true from rfl]; exact hq5, hqk⟩)
    · skip
      refine S_swIn g (off := 112) (tgt := 142) rfl (by decide) (by decide) rfl rfl ?_
      refine S_n g 2 (pc' := 144) (lv' := [(0, .ref (ad 500)), (1, .int (nI k)), (2, .int (nI a)), (3, .int (A 513 ((3 * k) + 2)))]) (st' := [.int (nI a), .ref (ad 500)]) rfl ?_
      refine S_callV g (i := 500) (As := [.int (nI a)]) (st := []) (s_leave ad I J A B hG (nI a)) mw_X9_leave lk_X9_279 ⟨Nat.le_of_ble_eq_true rfl, Nat.le_of_ble_eq_true rfl⟩ (by decide) (by decide) rfl rfl (Nat.le_of_ble_eq_true rfl) ⟨Nat.le_of_ble_eq_true rfl, Nat.le_of_ble_eq_true rfl⟩ rfl (fun v' Y' I2 J2 A2 B2 hpo => ?_)
      obtain ⟨rfl, rfl, hq5, hqk⟩ := hpo
      show Sim X (YR ad) 147 [(0, .ref (ad 500)), (1, .int (nI k)), (2, .int (nI a)), (3, .int (A 513 ((3 * k) + 2)))] [.int (k_comes (B 501) (nI a) false).1] I2 J2 A2 B2 0 0
      exact rtI rt rfl rfl (⟨by rw [show doC (B 501) (108, a, b) = k_comes (B 501) (nI a) false from rfl], rfl, by rw [show doC (B 501) (108, a, b) = k_comes (B 501) (nI a) false from rfl]; exact hq5, hqk⟩)
    · skip
      refine S_swIn g (off := 118) (tgt := 148) rfl (by decide) (by decide) rfl rfl ?_
      refine S_n g 2 (pc' := 150) (lv' := [(0, .ref (ad 500)), (1, .int (nI k)), (2, .int (nI a)), (3, .int (A 513 ((3 * k) + 2)))]) (st' := [.int (nI a), .ref (ad 500)]) rfl ?_
      refine S_callV g (i := 500) (As := [.int (nI a)]) (st := []) (s_join ad I J A B hG (nI a)) mw_X9_join lk_X9_282 ⟨Nat.le_of_ble_eq_true rfl, Nat.le_of_ble_eq_true rfl⟩ (by decide) (by decide) rfl rfl (Nat.le_of_ble_eq_true rfl) ⟨Nat.le_of_ble_eq_true rfl, Nat.le_of_ble_eq_true rfl⟩ rfl (fun v' Y' I2 J2 A2 B2 hpo => ?_)
      obtain ⟨rfl, rfl, hq5, hqk⟩ := hpo
      show Sim X (YR ad) 153 [(0, .ref (ad 500)), (1, .int (nI k)), (2, .int (nI a)), (3, .int (A 513 ((3 * k) + 2)))] [.int (k_comes (B 501) (nI a) true).1] I2 J2 A2 B2 0 0
      exact rtI rt rfl rfl (⟨by rw [show doC (B 501) (109, a, b) = k_comes (B 501) (nI a) true from rfl], rfl, by rw [show doC (B 501) (109, a, b) = k_comes (B 501) (nI a) true from rfl]; exact hq5, hqk⟩)
    · skip
      refine S_swIn g (off := 81) (tgt := 111) rfl (by decide) (by decide) rfl rfl ?_
      refine S_n g 3 (pc' := 114) (lv' := [(0, .ref (ad 500)), (1, .int (nI k)), (2, .int (nI a)), (3, .int (A 513 ((3 * k) + 2)))]) (st' := [.int (-nI 1), .int (nI a), .ref (ad 500)]) rfl ?_
      refine S_callV g (i := 500) (As := [.int (nI a), .int (-nI 1)]) (st := []) (s_want ad I J A B hG (nI a) (-nI 1)) mw_X9_want lk_X9_264 ⟨Nat.le_of_ble_eq_true rfl, Nat.le_of_ble_eq_true rfl⟩ (by decide) (by decide) rfl rfl (Nat.le_of_ble_eq_true rfl) ⟨Nat.le_of_ble_eq_true rfl, Nat.le_of_ble_eq_true rfl⟩ rfl (fun v' Y' I2 J2 A2 B2 hpo => ?_)
      obtain ⟨rfl, rfl, hq5, hqk⟩ := hpo
      show Sim X (YR ad) 117 [(0, .ref (ad 500)), (1, .int (nI k)), (2, .int (nI a)), (3, .int (A 513 ((3 * k) + 2)))] [.int (k_want (B 501) (nI a) (-nI 1)).1] I2 J2 A2 B2 0 0
      exact rtI rt rfl rfl (⟨by rw [show doC (B 501) (110, a, b) = k_want (B 501) (nI a) (-nI 1) from rfl], rfl, by rw [show doC (B 501) (110, a, b) = k_want (B 501) (nI a) (-nI 1) from rfl]; exact hq5, hqk⟩)
    · skip
      refine S_swIn g (off := 118) (tgt := 148) rfl (by decide) (by decide) rfl rfl ?_
      refine S_n g 2 (pc' := 150) (lv' := [(0, .ref (ad 500)), (1, .int (nI k)), (2, .int (nI a)), (3, .int (A 513 ((3 * k) + 2)))]) (st' := [.int (nI a), .ref (ad 500)]) rfl ?_
      refine S_callV g (i := 500) (As := [.int (nI a)]) (st := []) (s_join ad I J A B hG (nI a)) mw_X9_join lk_X9_282 ⟨Nat.le_of_ble_eq_true rfl, Nat.le_of_ble_eq_true rfl⟩ (by decide) (by decide) rfl rfl (Nat.le_of_ble_eq_true rfl) ⟨Nat.le_of_ble_eq_true rfl, Nat.le_of_ble_eq_true rfl⟩ rfl (fun v' Y' I2 J2 A2 B2 hpo => ?_)
      obtain ⟨rfl, rfl, hq5, hqk⟩ := hpo
      show Sim X (YR ad) 153 [(0, .ref (ad 500)), (1, .int (nI k)), (2, .int (nI a)), (3, .int (A 513 ((3 * k) + 2)))] [.int (k_comes (B 501) (nI a) true).1] I2 J2 A2 B2 0 0
      exact rtI rt rfl rfl (⟨by rw [show doC (B 501) (111, a, b) = k_comes (B 501) (nI a) true from rfl], rfl, by rw [show doC (B 501) (111, a, b) = k_comes (B 501) (nI a) true from rfl]; exact hq5, hqk⟩)
    · skip
      refine S_swIn g (off := 118) (tgt := 148) rfl (by decide) (by decide) rfl rfl ?_
      refine S_n g 2 (pc' := 150) (lv' := [(0, .ref (ad 500)), (1, .int (nI k)), (2, .int (nI a)), (3, .int (A 513 ((3 * k) + 2)))]) (st' := [.int (nI a), .ref (ad 500)]) rfl ?_
      refine S_callV g (i := 500) (As := [.int (nI a)]) (st := []) (s_join ad I J A B hG (nI a)) mw_X9_join lk_X9_282 ⟨Nat.le_of_ble_eq_true rfl, Nat.le_of_ble_eq_true rfl⟩ (by decide) (by decide) rfl rfl (Nat.le_of_ble_eq_true rfl) ⟨Nat.le_of_ble_eq_true rfl, Nat.le_of_ble_eq_true rfl⟩ rfl (fun v' Y' I2 J2 A2 B2 hpo => ?_)
      obtain ⟨rfl, rfl, hq5, hqk⟩ := hpo
      show Sim X (YR ad) 153 [(0, .ref (ad 500)), (1, .int (nI k)), (2, .int (nI a)), (3, .int (A 513 ((3 * k) + 2)))] [.int (k_comes (B 501) (nI a) true).1] I2 J2 A2 B2 0 0
      exact rtI rt rfl rfl (⟨by rw [show doC (B 501) (112, a, b) = k_comes (B 501) (nI a) true from rfl], rfl, by rw [show doC (B 501) (112, a, b) = k_comes (B 501) (nI a) true from rfl]; exact hq5, hqk⟩)
    · skip
      refine S_swIn g (off := 88) (tgt := 118) rfl (by decide) (by decide) rfl rfl ?_
      refine S_n g 2 (pc' := 120) (lv' := [(0, .ref (ad 500)), (1, .int (nI k)), (2, .int (nI a)), (3, .int (A 513 ((3 * k) + 2)))]) (st' := [.int (nI a), .ref (ad 500)]) rfl ?_
      refine S_callV g (i := 500) (As := [.int (nI a)]) (st := []) (s_subs ad I J A B hG (nI a)) mw_X9_storeSubsets lk_X9_267 ⟨Nat.le_of_ble_eq_true rfl, Nat.le_of_ble_eq_true rfl⟩ (by decide) (by decide) rfl rfl (Nat.le_of_ble_eq_true rfl) ⟨Nat.le_of_ble_eq_true rfl, Nat.le_of_ble_eq_true rfl⟩ rfl (fun v' Y' I2 J2 A2 B2 hpo => ?_)
      obtain ⟨rfl, rfl, hq5, hqk⟩ := hpo
      show Sim X (YR ad) 123 [(0, .ref (ad 500)), (1, .int (nI k)), (2, .int (nI a)), (3, .int (A 513 ((3 * k) + 2)))] [.int (k_subs (B 501) (nI a)).1] I2 J2 A2 B2 0 0
      exact rtI rt rfl rfl (⟨by rw [show doC (B 501) (113, a, b) = k_subs (B 501) (nI a) from rfl], rfl, by rw [show doC (B 501) (113, a, b) = k_subs (B 501) (nI a) from rfl]; exact hq5, hqk⟩)
    · skip
      refine S_swIn g (off := 118) (tgt := 148) rfl (by decide) (by decide) rfl rfl ?_
      refine S_n g 2 (pc' := 150) (lv' := [(0, .ref (ad 500)), (1, .int (nI k)), (2, .int (nI a)), (3, .int (A 513 ((3 * k) + 2)))]) (st' := [.int (nI a), .ref (ad 500)]) rfl ?_
      refine S_callV g (i := 500) (As := [.int (nI a)]) (st := []) (s_join ad I J A B hG (nI a)) mw_X9_join lk_X9_282 ⟨Nat.le_of_ble_eq_true rfl, Nat.le_of_ble_eq_true rfl⟩ (by decide) (by decide) rfl rfl (Nat.le_of_ble_eq_true rfl) ⟨Nat.le_of_ble_eq_true rfl, Nat.le_of_ble_eq_true rfl⟩ rfl (fun v' Y' I2 J2 A2 B2 hpo => ?_)
      obtain ⟨rfl, rfl, hq5, hqk⟩ := hpo
      show Sim X (YR ad) 153 [(0, .ref (ad 500)), (1, .int (nI k)), (2, .int (nI a)), (3, .int (A 513 ((3 * k) + 2)))] [.int (k_comes (B 501) (nI a) true).1] I2 J2 A2 B2 0 0
      exact rtI rt rfl rfl (⟨by rw [show doC (B 501) (114, a, b) = k_comes (B 501) (nI a) true from rfl], rfl, by rw [show doC (B 501) (114, a, b) = k_comes (B 501) (nI a) true from rfl]; exact hq5, hqk⟩)
    · skip
      refine S_swIn g (off := 100) (tgt := 130) rfl (by decide) (by decide) rfl rfl ?_
      refine S_n g 2 (pc' := 132) (lv' := [(0, .ref (ad 500)), (1, .int (nI k)), (2, .int (nI a)), (3, .int (A 513 ((3 * k) + 2)))]) (st' := [.int (nI a), .ref (ad 500)]) rfl ?_
      refine S_callV g (i := 500) (As := [.int (nI a)]) (st := []) (s_sched ad I J A B hG (nI a)) mw_X9_schedule lk_X9_273 ⟨Nat.le_of_ble_eq_true rfl, Nat.le_of_ble_eq_true rfl⟩ (by decide) (by decide) rfl rfl (Nat.le_of_ble_eq_true rfl) ⟨Nat.le_of_ble_eq_true rfl, Nat.le_of_ble_eq_true rfl⟩ rfl (fun v' Y' I2 J2 A2 B2 hpo => ?_)
      obtain ⟨rfl, rfl, hq5, hqk⟩ := hpo
      show Sim X (YR ad) 135 [(0, .ref (ad 500)), (1, .int (nI k)), (2, .int (nI a)), (3, .int (A 513 ((3 * k) + 2)))] [.int (k_sched (B 501) (nI a)).1] I2 J2 A2 B2 0 0
      exact rtI rt rfl rfl (⟨by rw [show doC (B 501) (115, a, b) = k_sched (B 501) (nI a) from rfl], rfl, by rw [show doC (B 501) (115, a, b) = k_sched (B 501) (nI a) from rfl]; exact hq5, hqk⟩)
    · skip
      refine S_swIn g (off := 106) (tgt := 136) rfl (by decide) (by decide) rfl rfl ?_
      refine S_n g 2 (pc' := 138) (lv' := [(0, .ref (ad 500)), (1, .int (nI k)), (2, .int (nI a)), (3, .int (A 513 ((3 * k) + 2)))]) (st' := [.int (nI a), .ref (ad 500)]) rfl ?_
      refine S_callV g (i := 500) (As := [.int (nI a)]) (st := []) (s_send ad I J A B hG (nI a)) mw_X9_send lk_X9_276 ⟨Nat.le_of_ble_eq_true rfl, Nat.le_of_ble_eq_true rfl⟩ (by decide) (by decide) rfl rfl (Nat.le_of_ble_eq_true rfl) ⟨Nat.le_of_ble_eq_true rfl, Nat.le_of_ble_eq_true rfl⟩ rfl (fun v' Y' I2 J2 A2 B2 hpo => ?_)
      obtain ⟨rfl, rfl, hq5, hqk⟩ := hpo
      show Sim X (YR ad) 141 [(0, .ref (ad 500)), (1, .int (nI k)), (2, .int (nI a)), (3, .int (A 513 ((3 * k) + 2)))] [.int (k_send (B 501) (nI a)).1] I2 J2 A2 B2 0 0
      exact rtI rt rfl rfl (⟨by rw [show doC (B 501) (116, a, b) = k_send (B 501) (nI a) from rfl], rfl, by rw [show doC (B 501) (116, a, b) = k_send (B 501) (nI a) from rfl]; exact hq5, hqk⟩)
    · skip
      refine S_swIn g (off := 118) (tgt := 148) rfl (by decide) (by decide) rfl rfl ?_
      refine S_n g 2 (pc' := 150) (lv' := [(0, .ref (ad 500)), (1, .int (nI k)), (2, .int (nI a)), (3, .int (A 513 ((3 * k) + 2)))]) (st' := [.int (nI a), .ref (ad 500)]) rfl ?_
      refine S_callV g (i := 500) (As := [.int (nI a)]) (st := []) (s_join ad I J A B hG (nI a)) mw_X9_join lk_X9_282 ⟨Nat.le_of_ble_eq_true rfl, Nat.le_of_ble_eq_true rfl⟩ (by decide) (by decide) rfl rfl (Nat.le_of_ble_eq_true rfl) ⟨Nat.le_of_ble_eq_true rfl, Nat.le_of_ble_eq_true rfl⟩ rfl (fun v' Y' I2 J2 A2 B2 hpo => ?_)
      obtain ⟨rfl, rfl, hq5, hqk⟩ := hpo
      show Sim X (YR ad) 153 [(0, .ref (ad 500)), (1, .int (nI k)), (2, .int (nI a)), (3, .int (A 513 ((3 * k) + 2)))] [.int (k_comes (B 501) (nI a) true).1] I2 J2 A2 B2 0 0
      exact rtI rt rfl rfl (⟨by rw [show doC (B 501) (117, a, b) = k_comes (B 501) (nI a) true from rfl], rfl, by rw [show doC (B 501) (117, a, b) = k_comes (B 501) (nI a) true from rfl]; exact hq5, hqk⟩)
    · skip
      refine S_swIn g (off := 118) (tgt := 148) rfl (by decide) (by decide) rfl rfl ?_
      refine S_n g 2 (pc' := 150) (lv' := [(0, .ref (ad 500)), (1, .int (nI k)), (2, .int (nI a)), (3, .int (A 513 ((3 * k) + 2)))]) (st' := [.int (nI a), .ref (ad 500)]) rfl ?_
      refine S_callV g (i := 500) (As := [.int (nI a)]) (st := []) (s_join ad I J A B hG (nI a)) mw_X9_join lk_X9_282 ⟨Nat.le_of_ble_eq_true rfl, Nat.le_of_ble_eq_true rfl⟩ (by decide) (by decide) rfl rfl (Nat.le_of_ble_eq_true rfl) ⟨Nat.le_of_ble_eq_true rfl, Nat.le_of_ble_eq_true rfl⟩ rfl (fun v' Y' I2 J2 A2 B2 hpo => ?_)
      obtain ⟨rfl, rfl, hq5, hqk⟩ := hpo
      show Sim X (YR ad) 153 [(0, .ref (ad 500)), (1, .int (nI k)), (2, .int (nI a)), (3, .int (A 513 ((3 * k) + 2)))] [.int (k_comes (B 501) (nI a) true).1] I2 J2 A2 B2 0 0
      exact rtI rt rfl rfl (⟨by rw [show doC (B 501) (118, a, b) = k_comes (B 501) (nI a) true from rfl], rfl, by rw [show doC (B 501) (118, a, b) = k_comes (B 501) (nI a) true from rfl]; exact hq5, hqk⟩)
    · skip
      refine S_swIn g (off := 74) (tgt := 104) rfl (by decide) (by decide) rfl rfl ?_
      obtain ⟨r6, r7⟩ := r5 rfl
      rw [r6]
      show Sim X (YR ad) 104 [(0, .ref (ad 500)), (1, .int (nI k)), (2, .int (nI a)), (3, .int (nI b))] [] I J A B 0 0
      refine S_n g 3 (pc' := 107) (lv' := [(0, .ref (ad 500)), (1, .int (nI k)), (2, .int (nI a)), (3, .int (nI b))]) (st' := [.int (nI b), .int (nI a), .ref (ad 500)]) rfl ?_
      refine S_callV g (i := 500) (As := [.int (nI a), .int (nI b)]) (st := []) (s_want ad I J A B hG (nI a) (nI b)) mw_X9_want lk_X9_264 ⟨Nat.le_of_ble_eq_true rfl, Nat.le_of_ble_eq_true rfl⟩ (by decide) (by decide) rfl rfl (Nat.le_of_ble_eq_true rfl) ⟨Nat.le_of_ble_eq_true rfl, Nat.le_of_ble_eq_true rfl⟩ rfl (fun v' Y' I2 J2 A2 B2 hpo => ?_)
      obtain ⟨rfl, rfl, hq5, hqk⟩ := hpo
      show Sim X (YR ad) 110 [(0, .ref (ad 500)), (1, .int (nI k)), (2, .int (nI a)), (3, .int (nI b))] [.int (k_want (B 501) (nI a) (nI b)).1] I2 J2 A2 B2 0 0
      exact rtI rt rfl rfl (⟨by rw [show doC (B 501) (119, a, b) = k_want (B 501) (nI a) (nI b) from rfl], rfl, by rw [show doC (B 501) (119, a, b) = k_want (B 501) (nI a) (nI b) from rfl]; exact hq5, hqk⟩)
  · skip
    have hto : (nI c).toInt < 105 ∨ 119 < (nI c).toInt := by rw [nI_toInt (by omega)]; omega
    refine S_swOut g (tgt := 148) rfl hto rfl ?_
    refine S_n g 2 (pc' := 150) (lv' := [(0, .ref (ad 500)), (1, .int (nI k)), (2, .int (nI a)), (3, .int (A 513 ((3 * k) + 2)))]) (st' := [.int (nI a), .ref (ad 500)]) rfl ?_
    refine S_callV g (i := 500) (As := [.int (nI a)]) (st := []) (s_join ad I J A B hG (nI a)) mw_X9_join lk_X9_282 ⟨Nat.le_of_ble_eq_true rfl, Nat.le_of_ble_eq_true rfl⟩ (by decide) (by decide) rfl rfl (Nat.le_of_ble_eq_true rfl) ⟨Nat.le_of_ble_eq_true rfl, Nat.le_of_ble_eq_true rfl⟩ rfl (fun v' Y' I2 J2 A2 B2 hpo => ?_)
    obtain ⟨rfl, rfl, hq5, hqk⟩ := hpo
    show Sim X (YR ad) 153 [(0, .ref (ad 500)), (1, .int (nI k)), (2, .int (nI a)), (3, .int (A 513 ((3 * k) + 2)))] [.int (k_comes (B 501) (nI a) true).1] I2 J2 A2 B2 0 0
    exact rtI rt rfl rfl (⟨by rw [show doC (B 501) (c, a, b) = k_comes (B 501) (nI a) true from by simp only [doC]; rw [if_neg (by omega), if_neg (by omega), if_neg (by omega), if_neg (by omega), if_neg (by omega), if_neg (by omega), if_neg (by omega)]], rfl, by rw [show doC (B 501) (c, a, b) = k_comes (B 501) (nI a) true from by simp only [doC]; rw [if_neg (by omega), if_neg (by omega), if_neg (by omega), if_neg (by omega), if_neg (by omega), if_neg (by omega), if_neg (by omega)]]; exact hq5, hqk⟩)
