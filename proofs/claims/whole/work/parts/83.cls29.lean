/-! the class: a call is read -/
theorem bft {p : Prop} (h : false = true) : p := absurd h (by decide)
theorem btf {p : Prop} (h : true = false) : p := absurd h (by decide)
theorem bl_nb {tc : Nat → Nat} {n : Nat} : ∀ k a, n - a = k → ¬ ch tc n (bl tc n a) = 33 := by
  intro k
  induction k with
  | zero =>
    intro a h q
    have e : ¬ ch tc n a = 33 := by unfold ch; rw [if_neg (by omega)]; decide
    rw [bl_n e] at q
    exact e q
  | succ k ih =>
    intro a h
    by_cases e : ch tc n a = 33
    · rw [bl_y e]; exact ih (a + 1) (by omega)
    · rw [bl_n e]; exact e
theorem bl_bl {tc : Nat → Nat} {n a : Nat} : bl tc n (bl tc n a) = bl tc n a := bl_n (bl_nb _ a rfl)
theorem isD_nb {c : Nat} (h : isD c = true) : ¬ c = 33 := by have := isD_t h; omega
/-- a number of one digit -/
theorem num_1 {tc : Nat → Nat} {n x : Nat} : ((rgD tc n false x).1 = true → (num tc n 1 (bl tc n x)).1 = 0 ∧ (num tc n 1 (bl tc n x)).2 = (rgD tc n false x).2.1) ∧ ((rgD tc n false x).1 = false → (num tc n 1 (bl tc n x)).1 = (rgD tc n false x).2.2 + 1 ∧ bl tc n (num tc n 1 (bl tc n x)).2 = bl tc n (rgD tc n false x).2.1) := by
  unfold rgD num
  rw [if_neg (show ¬ false = true by decide)]
  by_cases q : isD (ch tc n (bl tc n x)) = true
  · have h := isD_t q
    have ed : dgs tc n 1 (bl tc n x) 0 = (10 * 0 + (ch tc n (bl tc n x) - 1) - 48, bl tc n x + 1) := by rw [dgs, if_pos q]; rfl
    rw [if_pos q, ed]
    dsimp only
    refine ⟨fun z => by first | exact bft z | exact btf z, fun _ => ⟨?_, ?_⟩⟩
    · rw [if_neg (by omega)]; omega
    · split
      · rfl
      · exact bl_bl
  · have ed : dgs tc n 1 (bl tc n x) 0 = (0, bl tc n x) := by rw [dgs, if_neg q]
    rw [if_neg q, ed]
    dsimp only
    refine ⟨fun _ => ⟨if_pos rfl, ?_⟩, fun z => by first | exact bft z | exact btf z⟩
    rw [if_neg q, bl_bl]
/-- a number of one digit or two -/
theorem num_2 {tc : Nat → Nat} {n x : Nat} : ((rgN tc n false x).1 = true → (num tc n 2 (bl tc n x)).1 = 0 ∧ (num tc n 2 (bl tc n x)).2 = (rgN tc n false x).2.1) ∧ ((rgN tc n false x).1 = false → (num tc n 2 (bl tc n x)).1 = (rgN tc n false x).2.2 + 1 ∧ bl tc n (num tc n 2 (bl tc n x)).2 = bl tc n (rgN tc n false x).2.1) := by
  by_cases q : isD (ch tc n (bl tc n x)) = true
  · have h := isD_t q
    have eD : rgD tc n false x = (false, bl tc n x + 1, ch tc n (bl tc n x) - 1 - 48) := by rw [rgD, if_neg (by decide), if_pos q]
    by_cases q2 : isD (ch tc n (bl tc n x + 1)) = true
    · have h2 := isD_t q2
      have eb : bl tc n (bl tc n x + 1) = bl tc n x + 1 := bl_n (isD_nb q2)
      have eE : rgD tc n false (bl tc n x + 1) = (false, bl tc n x + 1 + 1, ch tc n (bl tc n x + 1) - 1 - 48) := by rw [rgD, if_neg (by decide), eb, if_pos q2]
      have eN : rgN tc n false x = (false, bl tc n x + 1 + 1, 10 * (ch tc n (bl tc n x) - 1 - 48) + (ch tc n (bl tc n x + 1) - 1 - 48)) := by
        rw [rgN, eD]
        dsimp only
        rw [if_neg (by decide), if_pos q2, eE]
      have ed : dgs tc n 2 (bl tc n x) 0 = (10 * (10 * 0 + (ch tc n (bl tc n x) - 1) - 48) + (ch tc n (bl tc n x + 1) - 1) - 48, bl tc n x + 1 + 1) := by rw [dgs, if_pos q, dgs, if_pos q2]; rfl
      rw [eN]
      unfold num
      rw [ed]
      dsimp only
      refine ⟨fun z => by first | exact bft z | exact btf z, fun _ => ⟨?_, ?_⟩⟩
      · rw [if_neg (by omega)]; omega
      · split
        · rfl
        · exact bl_bl
    · have eN : rgN tc n false x = (false, bl tc n x + 1, ch tc n (bl tc n x) - 1 - 48) := by
        rw [rgN, eD]
        dsimp only
        rw [if_neg (by decide), if_neg q2]
      have ed : dgs tc n 2 (bl tc n x) 0 = (10 * 0 + (ch tc n (bl tc n x) - 1) - 48, bl tc n x + 1) := by rw [dgs, if_pos q, dgs, if_neg q2]
      rw [eN]
      unfold num
      rw [ed]
      dsimp only
      refine ⟨fun z => by first | exact bft z | exact btf z, fun _ => ⟨?_, ?_⟩⟩
      · rw [if_neg (by omega)]; omega
      · rw [if_neg q2]; exact bl_bl
  · have eD : rgD tc n false x = (true, bl tc n x, 0) := by rw [rgD, if_neg (by decide), if_neg q]
    have eN : rgN tc n false x = (true, bl tc n x, 0) := by rw [rgN, eD]; rfl
    have ed : dgs tc n 2 (bl tc n x) 0 = (0, bl tc n x) := by rw [dgs, if_neg q]
    rw [eN]
    unfold num
    rw [ed]
    dsimp only
    refine ⟨fun _ => ⟨if_pos rfl, ?_⟩, fun z => by first | exact bft z | exact btf z⟩
    rw [if_neg q, bl_bl]
/-- the class' reading of one call agrees with the reference's: stuck, the place, the two numbers -/
def agR (tc : Nat → Nat) (n a : Nat) (S : Bool × Nat) (f1 f2 : Nat) : Prop := (S.1 = true → (rdC tc n a).1 = false ∧ (rdC tc n a).2.1 = S.2) ∧ (S.1 = false → (rdC tc n a).1 = true ∧ bl tc n S.2 = (rdC tc n a).2.1 ∧ (rdC tc n a).2.2.1 = ch tc n a - 1 ∧ (rdC tc n a).2.2.2.1 = f1 ∧ (ch tc n a = 120 → (rdC tc n a).2.2.2.2 = f2))
theorem rgS_z {tc : Nat → Nat} {n e : Nat} {c v1 v2 : Nat} : ((rgS tc n false e).1 = true → (rdZ tc n (bl tc n e) c v1 v2).1 = false ∧ (rdZ tc n (bl tc n e) c v1 v2).2.1 = (rgS tc n false e).2) ∧ ((rgS tc n false e).1 = false → rdZ tc n (bl tc n e) c v1 v2 = (true, bl tc n (rgS tc n false e).2, (c, v1, v2))) := by
  unfold rgS rdZ
  rw [if_neg (show ¬ false = true by decide)]
  by_cases q : ch tc n (bl tc n e) = 60
  · rw [if_pos q, if_pos q]
    exact ⟨fun z => by first | exact bft z | exact btf z, fun _ => rfl⟩
  · rw [if_neg q, if_neg q]
    exact ⟨fun _ => ⟨rfl, rfl⟩, fun z => by first | exact bft z | exact btf z⟩
theorem rg_t {tc : Nat → Nat} {n e : Nat} : rgS tc n true e = (true, e) := by rw [rgS, if_pos rfl]
theorem rgD_t {tc : Nat → Nat} {n e : Nat} : rgD tc n true e = (true, e, 0) := by rw [rgD, if_pos rfl]
theorem ag_0 {tc : Nat → Nat} {n a f1 f2 : Nat} (h : agN (ch tc n a) = 0) : agR tc n a (true, a) f1 f2 := by
  unfold agR rdC
  rw [if_pos h]
  exact ⟨fun _ => ⟨rfl, rfl⟩, fun z => by first | exact bft z | exact btf z⟩
theorem ag_1 {tc : Nat → Nat} {n a f2 w : Nat} {R : Bool × Nat × Nat} (h : agN (ch tc n a) = 1) (hw : wdN (ch tc n a) = w) (hR : (R.1 = true → (num tc n w (bl tc n (a + 1))).1 = 0 ∧ (num tc n w (bl tc n (a + 1))).2 = R.2.1) ∧ (R.1 = false → (num tc n w (bl tc n (a + 1))).1 = R.2.2 + 1 ∧ bl tc n (num tc n w (bl tc n (a + 1))).2 = bl tc n R.2.1)) : agR tc n a (rgS tc n R.1 R.2.1) R.2.2 f2 := by
  have hc : ch tc n a ≠ 120 := fun e => by rw [e] at h; exact absurd h (by decide)
  unfold agR rdC
  rw [if_neg (show ¬ agN (ch tc n a) = 0 by omega), hw]
  cases q : R.1
  · obtain ⟨h1, h2⟩ := hR.2 q
    rw [if_neg (by omega), if_pos h, h2, h1]
    have hz := rgS_z (tc := tc) (n := n) (e := R.2.1) (c := ch tc n a - 1) (v1 := R.2.2 + 1 - 1) (v2 := 0)
    refine ⟨hz.1, fun z => ?_⟩
    rw [hz.2 z]
    exact ⟨rfl, rfl, rfl, by show R.2.2 + 1 - 1 = _; omega, fun e => absurd e hc⟩
  · obtain ⟨h1, h2⟩ := hR.1 q
    rw [if_pos h1, rg_t]
    exact ⟨fun _ => ⟨rfl, h2⟩, fun z => by first | exact bft z | exact btf z⟩
theorem ag_2 {tc : Nat → Nat} {n a : Nat} (h : ch tc n a = 120) : agR tc n a (rgS tc n (rgD tc n (rgD tc n false (a + 1)).1 (rgD tc n false (a + 1)).2.1).1 (rgD tc n (rgD tc n false (a + 1)).1 (rgD tc n false (a + 1)).2.1).2.1) (rgD tc n false (a + 1)).2.2 (rgD tc n (rgD tc n false (a + 1)).1 (rgD tc n false (a + 1)).2.1).2.2 := by
  have hA : agN (ch tc n a) = 2 := by rw [h]; rfl
  have hw : wdN (ch tc n a) = 1 := by rw [h]; rfl
  unfold agR rdC
  rw [if_neg (show ¬ agN (ch tc n a) = 0 by omega), hw]
  have n1 := num_1 (tc := tc) (n := n) (x := a + 1)
  obtain ⟨D, hD⟩ : ∃ D, D = rgD tc n false (a + 1) := ⟨_, rfl⟩
  rw [← hD] at n1 ⊢
  cases q : D.1
  · obtain ⟨h1, h2⟩ := n1.2 q
    have n2 := num_1 (tc := tc) (n := n) (x := D.2.1)
    rw [if_neg (by omega), if_neg (by omega), h2, h1]
    obtain ⟨E, hE⟩ : ∃ E, E = rgD tc n false D.2.1 := ⟨_, rfl⟩
    rw [← hE] at n2 ⊢
    cases q2 : E.1
    · obtain ⟨h3, h4⟩ := n2.2 q2
      rw [if_neg (by omega), h4, h3]
      have hz := rgS_z (tc := tc) (n := n) (e := E.2.1) (c := ch tc n a - 1) (v1 := D.2.2 + 1 - 1) (v2 := E.2.2 + 1 - 1)
      refine ⟨hz.1, fun z => ?_⟩
      rw [hz.2 z]
      exact ⟨rfl, rfl, rfl, by show D.2.2 + 1 - 1 = _; omega, fun _ => by show E.2.2 + 1 - 1 = _; omega⟩
    · obtain ⟨h3, h4⟩ := n2.1 q2
      rw [if_pos h3, rg_t]
      exact ⟨fun _ => ⟨rfl, h4⟩, fun z => by first | exact bft z | exact btf z⟩
  · obtain ⟨h1, h2⟩ := n1.1 q
    rw [if_pos h1, rgD_t, rg_t]
    exact ⟨fun _ => ⟨rfl, h2⟩, fun z => by first | exact bft z | exact btf z⟩
theorem rgS_b {tc : Nat → Nat} {n : Nat} {st : Bool} {a : Nat} (ha : a ≤ n) : (rgS tc n st a).2 ≤ n := by
  have h2 := bl_le (tc := tc) ha
  unfold rgS
  split
  · exact ha
  · split
    · next q =>
      have := ch_pos (show 0 < ch tc n (bl tc n a) by omega)
      exact this
    · exact h2
theorem rgN_b {tc : Nat → Nat} {n : Nat} {st : Bool} {a : Nat} (ha : a ≤ n) : (rgN tc n st a).2.1 ≤ n := by
  have h1 := rgD_b (tc := tc) (st := st) ha
  unfold rgN
  split
  · exact h1.1
  · split
    · exact (rgD_b (tc := tc) (st := false) h1.1).1
    · exact h1.1
/-- the reader's fields -/
def rdH (I : FI) (vb f1 f2 : Int32) (st : Bool) (a : Nat) : FI := up2 (up2 (up2 (up2 (up2 I 13 4 vb) 13 5 f1) 13 6 f2) 13 3 (bI st)) 13 2 (nI a)
/-- a call was read, or not -/
def rcP (ad : Nat → Nat) (z0 z1 : Bool) (I : FI) (J : FJ) (A : FI) (B : FJ) (tc : Nat → Nat) (n p : Nat) : PO := fun v' Y' I' J' A' B' => Y' = YC ad z0 z1 ∧ J' = J ∧ A' = A ∧ B' = B ∧
  if bl tc n p < n then
    (if (rdC tc n (bl tc n p)).1 = true then v' = some (.int (bI true)) ∧ ∃ q f2, I' = rdH I (nI (rdC tc n (bl tc n p)).2.2.1) (nI (rdC tc n (bl tc n p)).2.2.2.1) f2 false q ∧ q ≤ n ∧ bl tc n q = (rdC tc n (bl tc n p)).2.1 ∧ ((rdC tc n (bl tc n p)).2.2.1 = 119 → f2 = nI (rdC tc n (bl tc n p)).2.2.2.2)
     else v' = some (.int (bI false)) ∧ ∃ vb f1 f2, I' = rdH I vb f1 f2 true (rdC tc n (bl tc n p)).2.1)
  else v' = some (.int (bI false)) ∧ ∃ vb f1 f2, I' = rdH I vb f1 f2 false (bl tc n p)
theorem rc_of {ad : Nat → Nat} {z0 z1 : Bool} {I : FI} {J : FJ} {A : FI} {B : FJ} {tc : Nat → Nat} {n p : Nat} (h : bl tc n p < n) {S : Bool × Nat} {f1 f2 : Nat} (hA : agR tc n (bl tc n p) S f1 f2) (hS : S.2 ≤ n) {vb g1 g2 : Int32} (hv : vb = nI (ch tc n (bl tc n p) - 1)) (h1 : S.1 = false → g1 = nI f1) (h2 : S.1 = false → ch tc n (bl tc n p) = 120 → g2 = nI f2) {b : Bool} (hb : b = !S.1) : rcP ad z0 z1 I J A B tc n p (some (.int (bI b))) (YC ad z0 z1) (rdH I vb g1 g2 S.1 S.2) J A B := by
  refine ⟨rfl, rfl, rfl, rfl, ?_⟩
  rw [if_pos h]
  cases q : S.1
  · obtain ⟨a1, a2, a3, a4, a5⟩ := hA.2 q
    rw [if_pos a1, hb, q]
    refine ⟨rfl, S.2, g2, by rw [a3, a4, hv, h1 q], hS, a2, fun e => ?_⟩
    have hp := ch_pos (tc := tc) (n := n) (a := bl tc n p)
    rw [a3] at e
    have e2 : ch tc n (bl tc n p) = 120 := by omega
    rw [a5 e2]
    exact h2 q e2
  · obtain ⟨a1, a2⟩ := hA.1 q
    rw [if_neg (by rw [a1]; decide), hb, q]
    exact ⟨rfl, vb, g1, g2, by rw [a2]⟩

set_option maxRecDepth 100000 in
set_option maxHeartbeats 4000000 in
theorem tx_readCall (ad : Nat → Nat) (z0 z1 : Bool) (I : FI) (J : FJ) (A : FI) (B : FJ) (tc : Nat → Nat) (n p : Nat) (hN : I 13 1 = nI n) (hT : RTc A tc n) (hp : p ≤ n) (vb f1 f2 : Int32) : Spec M_X4_readCall [.ref (ad 13)] (YC ad z0 z1) (up2 (up2 (up2 (up2 (up2 I 13 4 vb) 13 5 f1) 13 6 f2) 13 3 (bI false)) 13 2 (nI p)) J A B (rcP ad z0 z1 I J A B tc n p) := by
  have hn8 := hT.1
  have hbn := bl_le (tc := tc) hp
  refine Spec_of (by decide) tk_X4_readCall (Nat.le_of_ble_eq_true rfl) (fun X g rt => ?_)
  show Sim X (YC ad z0 z1) 0 [(0, .ref (ad 13))] [] (up2 (up2 (up2 (up2 (up2 I 13 4 vb) 13 5 f1) 13 6 f2) 13 3 (bI false)) 13 2 (nI p)) J A B 0 0
  refine S_n g 1 (pc' := 1) (lv' := [(0, .ref (ad 13))]) (st' := [.ref (ad 13)]) rfl ?_
  refine S_cV g (i := 13) (As := []) (st := []) (tx_blanks ad z0 z1 (up2 (up2 (up2 (up2 I 13 4 vb) 13 5 f1) 13 6 f2) 13 3 (bI false)) J A B tc n (p) hN hT (by omega)) mw_X4_skipBlanks lk_X4_33 ⟨Nat.le_of_ble_eq_true rfl, Nat.le_of_ble_eq_true rfl⟩ (by decide) (by decide) rfl rfl (Nat.le_of_ble_eq_true rfl) ⟨Nat.le_of_ble_eq_true rfl, Nat.le_of_ble_eq_true rfl⟩ rfl ?_
  show Sim X (YC ad z0 z1) 4 [(0, .ref (ad 13))] [] (up2 (up2 (up2 (up2 (up2 I 13 4 vb) 13 5 f1) 13 6 f2) 13 3 (bI false)) 13 2 (nI (bl tc n p))) J A B 0 0
  obtain ⟨a, haa⟩ : ∃ a, a = bl tc n p := ⟨_, rfl⟩
  rw [← haa] at hbn ⊢
  show Sim X (YC ad z0 z1) 4 [(0, .ref (ad 13))] [] (up2 (up2 (up2 (up2 (up2 I 13 4 vb) 13 5 f1) 13 6 f2) 13 3 (bI false)) 13 2 (nI a)) J A B 0 0
  refine S_n g 1 (pc' := 5) (lv' := [(0, .ref (ad 13))]) (st' := [.ref (ad 13)]) rfl ?_
  refine S_getI g (i := 13) (c := 4) (k := 2) (by decide) (by decide) rfl rfl fl_X4_19 rfl ?_
  show Sim X (YC ad z0 z1) 8 [(0, .ref (ad 13))] [.int (nI a)] (up2 (up2 (up2 (up2 (up2 I 13 4 vb) 13 5 f1) 13 6 f2) 13 3 (bI false)) 13 2 (nI a)) J A B 0 0
  refine S_n g 1 (pc' := 9) (lv' := [(0, .ref (ad 13))]) (st' := [.ref (ad 13), .int (nI a)]) rfl ?_
  refine S_getI g (i := 13) (c := 4) (k := 1) (by decide) (by decide) rfl rfl fl_X4_15 rfl ?_
  show Sim X (YC ad z0 z1) 12 [(0, .ref (ad 13))] [.int (I 13 1), .int (nI a)] (up2 (up2 (up2 (up2 (up2 I 13 4 vb) 13 5 f1) 13 6 f2) 13 3 (bI false)) 13 2 (nI a)) J A B 0 0
  rw [hN]
  refine S_icN_lt g (tgt := 17) (by omega) (by omega) rfl (by decide) (fun qz12 => ?_) (fun qz12 => ?_)
  · skip
    obtain ⟨t, ht⟩ : ∃ t, t = tc a := ⟨_, rfl⟩
    have hch : ch tc n a = t + 1 := by rw [ch, if_pos (by omega), ht]
    have ht8 : t < 128 := by rw [ht]; exact (hT.2 a (by omega)).2
    have han : a < n := by omega
    refine S_n g 2 (pc' := 19) (lv' := [(0, .ref (ad 13))]) (st' := [.ref (ad 13), .ref (ad 13)]) rfl ?_
    refine S_cV g (i := 13) (As := []) (st := [.ref (ad 13)]) (tx_letter ad z0 z1 (up2 (up2 (up2 (up2 I 13 4 vb) 13 5 f1) 13 6 f2) 13 3 (bI false)) J A B tc n (a) hN hT (by omega)) mw_X4_letterHere lk_X4_36 ⟨Nat.le_of_ble_eq_true rfl, Nat.le_of_ble_eq_true rfl⟩ (by decide) (by decide) rfl rfl (Nat.le_of_ble_eq_true rfl) ⟨Nat.le_of_ble_eq_true rfl, Nat.le_of_ble_eq_true rfl⟩ rfl ?_
    show Sim X (YC ad z0 z1) 22 [(0, .ref (ad 13))] [.int (hI (ch tc n a)), .ref (ad 13)] (up2 (up2 (up2 (up2 (up2 I 13 4 vb) 13 5 f1) 13 6 f2) 13 3 (bI false)) 13 2 (nI a)) J A B 0 0
    refine S_steq (st' := [.int (nI t), .ref (ad 13)]) (by rw [(show hI (ch tc n a) = nI t from by rw [hch, hI_pos (by omega), Nat.add_sub_cancel]).symm]) ?_
    clear ht
    refine S_putI g (i := 13) (c := 4) (k := 4) (kd := 0) (by decide) (by decide) rfl rfl (by decide) fw_X4_40 rfl rfl rfl ?_
    rw [up2_c2 (i := 13) (k := 4) (j := 13) (l := 2) (Or.inr (by decide))]
    rw [up2_c2 (i := 13) (k := 4) (j := 13) (l := 3) (Or.inr (by decide))]
    rw [up2_c2 (i := 13) (k := 4) (j := 13) (l := 6) (Or.inr (by decide))]
    rw [up2_c2 (i := 13) (k := 4) (j := 13) (l := 5) (Or.inr (by decide))]
    rw [up2_c1 (i := 13) (k := 4)]
    refine S_n g 1 (pc' := 26) (lv' := [(0, .ref (ad 13))]) (st' := [.ref (ad 13)]) rfl ?_
    refine S_getI g (i := 13) (c := 4) (k := 4) (by decide) (by decide) rfl rfl fl_X4_40 rfl ?_
    show Sim X (YC ad z0 z1) 29 [(0, .ref (ad 13))] [.int (nI t)] (up2 (up2 (up2 (up2 (up2 I 13 4 (nI t)) 13 5 f1) 13 6 f2) 13 3 (bI false)) 13 2 (nI a)) J A B 0 0
    by_cases hrg : 105 ≤ t ∧ t ≤ 119
    · skip
      rcases (show t = 105 ∨ t = 106 ∨ t = 107 ∨ t = 108 ∨ t = 109 ∨ t = 110 ∨ t = 111 ∨ t = 112 ∨ t = 113 ∨ t = 114 ∨ t = 115 ∨ t = 116 ∨ t = 117 ∨ t = 118 ∨ t = 119 by omega) with rfl | rfl | rfl | rfl | rfl | rfl | rfl | rfl | rfl | rfl | rfl | rfl | rfl | rfl | rfl
      · skip
        refine S_swIn g (off := 125) (tgt := 154) rfl (by decide) (by decide) rfl rfl ?_
        refine S_n g 2 (pc' := 156) (lv' := [(0, .ref (ad 13))]) (st' := [.ref (ad 13), .ref (ad 13)]) rfl ?_
        refine S_getI g (i := 13) (c := 4) (k := 2) (by decide) (by decide) rfl rfl fl_X4_19 rfl ?_
        show Sim X (YC ad z0 z1) 159 [(0, .ref (ad 13))] [.int (nI a), .ref (ad 13)] (up2 (up2 (up2 (up2 (up2 I 13 4 (nI 105)) 13 5 f1) 13 6 f2) 13 3 (bI false)) 13 2 (nI a)) J A B 0 0
        refine S_n g 2 (pc' := 161) (lv' := [(0, .ref (ad 13))]) (st' := [.int ((nI a) + (nI 1)), .ref (ad 13)]) rfl ?_
        rw [nI_add a 1]
        refine S_putI g (i := 13) (c := 4) (k := 2) (kd := 0) (by decide) (by decide) rfl rfl (by decide) fw_X4_19 rfl rfl rfl ?_
        rw [up2_c1 (i := 13) (k := 2)]
        refine S_n g 2 (pc' := 166) (lv' := [(0, .ref (ad 13))]) (st' := [.ref (ad 13), .ref (ad 13)]) rfl ?_
        obtain ⟨D, hD⟩ : ∃ D, D = rgN tc n false (a + 1) := ⟨_, rfl⟩
        refine S_cV g (i := 13) (As := []) (st := [.ref (ad 13)]) (tx_readNumber ad z0 z1 (up2 (up2 (up2 I 13 4 (nI 105)) 13 5 f1) 13 6 f2) J A B tc n (a + 1) hN hT (by omega) false) mw_X4_readNumber lk_X4_52 ⟨Nat.le_of_ble_eq_true rfl, Nat.le_of_ble_eq_true rfl⟩ (by decide) (by decide) rfl rfl (Nat.le_of_ble_eq_true rfl) ⟨Nat.le_of_ble_eq_true rfl, Nat.le_of_ble_eq_true rfl⟩ rfl ?_
        rw [← hD]
        show Sim X (YC ad z0 z1) 169 [(0, .ref (ad 13))] [.int (nI D.2.2), .ref (ad 13)] (up2 (up2 (up2 (up2 (up2 I 13 4 (nI 105)) 13 5 f1) 13 6 f2) 13 3 (bI D.1)) 13 2 (nI D.2.1)) J A B 0 0
        have hDb := rgN_b (tc := tc) (n := n) (st := false) (a := a + 1) (by omega)
        rw [← hD] at hDb
        refine S_putI g (i := 13) (c := 4) (k := 5) (kd := 0) (by decide) (by decide) rfl rfl (by decide) fw_X4_46 rfl rfl rfl ?_
        rw [up2_c2 (i := 13) (k := 5) (j := 13) (l := 2) (Or.inr (by decide))]
        rw [up2_c2 (i := 13) (k := 5) (j := 13) (l := 3) (Or.inr (by decide))]
        rw [up2_c2 (i := 13) (k := 5) (j := 13) (l := 6) (Or.inr (by decide))]
        rw [up2_c1 (i := 13) (k := 5)]
        refine S_n g 2 (pc' := 181) (lv' := [(0, .ref (ad 13))]) (st' := [.ref (ad 13)]) rfl ?_
        obtain ⟨S, hS⟩ : ∃ S, S = rgS tc n D.1 (D.2.1) := ⟨_, rfl⟩
        refine S_cV g (i := 13) (As := []) (st := []) (tx_readSemi ad z0 z1 (up2 (up2 (up2 I 13 4 (nI 105)) 13 5 (nI D.2.2)) 13 6 f2) J A B tc n (D.2.1) hN hT (by omega) D.1) mw_X4_readSemicolon lk_X4_55 ⟨Nat.le_of_ble_eq_true rfl, Nat.le_of_ble_eq_true rfl⟩ (by decide) (by decide) rfl rfl (Nat.le_of_ble_eq_true rfl) ⟨Nat.le_of_ble_eq_true rfl, Nat.le_of_ble_eq_true rfl⟩ rfl ?_
        rw [← hS]
        show Sim X (YC ad z0 z1) 184 [(0, .ref (ad 13))] [] (up2 (up2 (up2 (up2 (up2 I 13 4 (nI 105)) 13 5 (nI D.2.2)) 13 6 f2) 13 3 (bI S.1)) 13 2 (nI S.2)) J A B 0 0
        refine S_n g 1 (pc' := 185) (lv' := [(0, .ref (ad 13))]) (st' := [.ref (ad 13)]) rfl ?_
        refine S_getZ g (i := 13) (c := 4) (k := 3) (by decide) (by decide) rfl rfl fl_X4_22 rfl ?_
        show Sim X (YC ad z0 z1) 188 [(0, .ref (ad 13))] [.int (bI S.1)] (up2 (up2 (up2 (up2 (up2 I 13 4 (nI 105)) 13 5 (nI D.2.2)) 13 6 f2) 13 3 (bI S.1)) 13 2 (nI S.2)) J A B 0 0
        refine S_ifB_ne g (tgt := 195) rfl (by decide) (fun qz188 => ?_) (fun qz188 => ?_)
        · skip
          refine S_n g 1 (pc' := 196) (lv' := [(0, .ref (ad 13))]) (st' := [.int (nI 0)]) rfl ?_
          show Sim X (YC ad z0 z1) 196 [(0, .ref (ad 13))] [.int (bI false)] (up2 (up2 (up2 (up2 (up2 I 13 4 (nI 105)) 13 5 (nI D.2.2)) 13 6 f2) 13 3 (bI S.1)) 13 2 (nI S.2)) J A B 0 0
          exact rtZ rt rfl rfl (rc_of (by rw [← haa]; exact han) (by rw [← haa]; exact (by rw [hS]; exact ag_1 (f2 := 0) (w := 2) (by rw [hch]; rfl) (by rw [hch]; rfl) (by rw [hD]; exact num_2))) (by rw [hS]; exact rgS_b hDb) (by rw [← haa, hch] <;> rfl) (fun _ => rfl) (fun _ e => absurd e (by rw [← haa, hch]; decide)) (by rw [qz188]; rfl))
        · skip
          refine S_n g 2 (pc' := 196) (lv' := [(0, .ref (ad 13))]) (st' := [.int (nI 1)]) rfl ?_
          show Sim X (YC ad z0 z1) 196 [(0, .ref (ad 13))] [.int (bI true)] (up2 (up2 (up2 (up2 (up2 I 13 4 (nI 105)) 13 5 (nI D.2.2)) 13 6 f2) 13 3 (bI S.1)) 13 2 (nI S.2)) J A B 0 0
          exact rtZ rt rfl rfl (rc_of (by rw [← haa]; exact han) (by rw [← haa]; exact (by rw [hS]; exact ag_1 (f2 := 0) (w := 2) (by rw [hch]; rfl) (by rw [hch]; rfl) (by rw [hD]; exact num_2))) (by rw [hS]; exact rgS_b hDb) (by rw [← haa, hch] <;> rfl) (fun _ => rfl) (fun _ e => absurd e (by rw [← haa, hch]; decide)) (by rw [qz188]; rfl))
      · skip
        refine S_swIn g (off := 104) (tgt := 133) rfl (by decide) (by decide) rfl rfl ?_
        refine S_n g 2 (pc' := 135) (lv' := [(0, .ref (ad 13))]) (st' := [.ref (ad 13), .ref (ad 13)]) rfl ?_
        refine S_getI g (i := 13) (c := 4) (k := 2) (by decide) (by decide) rfl rfl fl_X4_19 rfl ?_
        show Sim X (YC ad z0 z1) 138 [(0, .ref (ad 13))] [.int (nI a), .ref (ad 13)] (up2 (up2 (up2 (up2 (up2 I 13 4 (nI 106)) 13 5 f1) 13 6 f2) 13 3 (bI false)) 13 2 (nI a)) J A B 0 0
        refine S_n g 2 (pc' := 140) (lv' := [(0, .ref (ad 13))]) (st' := [.int ((nI a) + (nI 1)), .ref (ad 13)]) rfl ?_
        rw [nI_add a 1]
        refine S_putI g (i := 13) (c := 4) (k := 2) (kd := 0) (by decide) (by decide) rfl rfl (by decide) fw_X4_19 rfl rfl rfl ?_
        rw [up2_c1 (i := 13) (k := 2)]
        refine S_n g 2 (pc' := 145) (lv' := [(0, .ref (ad 13))]) (st' := [.ref (ad 13), .ref (ad 13)]) rfl ?_
        obtain ⟨D, hD⟩ : ∃ D, D = rgD tc n false (a + 1) := ⟨_, rfl⟩
        refine S_cV g (i := 13) (As := []) (st := [.ref (ad 13)]) (tx_readDigit ad z0 z1 (up2 (up2 (up2 I 13 4 (nI 106)) 13 5 f1) 13 6 f2) J A B tc n (a + 1) hN hT (by omega) false) mw_X4_readDigit lk_X4_43 ⟨Nat.le_of_ble_eq_true rfl, Nat.le_of_ble_eq_true rfl⟩ (by decide) (by decide) rfl rfl (Nat.le_of_ble_eq_true rfl) ⟨Nat.le_of_ble_eq_true rfl, Nat.le_of_ble_eq_true rfl⟩ rfl ?_
        rw [← hD]
        show Sim X (YC ad z0 z1) 148 [(0, .ref (ad 13))] [.int (nI D.2.2), .ref (ad 13)] (up2 (up2 (up2 (up2 (up2 I 13 4 (nI 106)) 13 5 f1) 13 6 f2) 13 3 (bI D.1)) 13 2 (nI D.2.1)) J A B 0 0
        have hDb := rgD_b (tc := tc) (n := n) (st := false) (a := a + 1) (by omega)
        rw [← hD] at hDb
        refine S_putI g (i := 13) (c := 4) (k := 5) (kd := 0) (by decide) (by decide) rfl rfl (by decide) fw_X4_46 rfl rfl rfl ?_
        rw [up2_c2 (i := 13) (k := 5) (j := 13) (l := 2) (Or.inr (by decide))]
        rw [up2_c2 (i := 13) (k := 5) (j := 13) (l := 3) (Or.inr (by decide))]
        rw [up2_c2 (i := 13) (k := 5) (j := 13) (l := 6) (Or.inr (by decide))]
        rw [up2_c1 (i := 13) (k := 5)]
        refine S_n g 2 (pc' := 181) (lv' := [(0, .ref (ad 13))]) (st' := [.ref (ad 13)]) rfl ?_
        obtain ⟨S, hS⟩ : ∃ S, S = rgS tc n D.1 (D.2.1) := ⟨_, rfl⟩
        refine S_cV g (i := 13) (As := []) (st := []) (tx_readSemi ad z0 z1 (up2 (up2 (up2 I 13 4 (nI 106)) 13 5 (nI D.2.2)) 13 6 f2) J A B tc n (D.2.1) hN hT (by omega) D.1) mw_X4_readSemicolon lk_X4_55 ⟨Nat.le_of_ble_eq_true rfl, Nat.le_of_ble_eq_true rfl⟩ (by decide) (by decide) rfl rfl (Nat.le_of_ble_eq_true rfl) ⟨Nat.le_of_ble_eq_true rfl, Nat.le_of_ble_eq_true rfl⟩ rfl ?_
        rw [← hS]
        show Sim X (YC ad z0 z1) 184 [(0, .ref (ad 13))] [] (up2 (up2 (up2 (up2 (up2 I 13 4 (nI 106)) 13 5 (nI D.2.2)) 13 6 f2) 13 3 (bI S.1)) 13 2 (nI S.2)) J A B 0 0
        refine S_n g 1 (pc' := 185) (lv' := [(0, .ref (ad 13))]) (st' := [.ref (ad 13)]) rfl ?_
        refine S_getZ g (i := 13) (c := 4) (k := 3) (by decide) (by decide) rfl rfl fl_X4_22 rfl ?_
        show Sim X (YC ad z0 z1) 188 [(0, .ref (ad 13))] [.int (bI S.1)] (up2 (up2 (up2 (up2 (up2 I 13 4 (nI 106)) 13 5 (nI D.2.2)) 13 6 f2) 13 3 (bI S.1)) 13 2 (nI S.2)) J A B 0 0
        refine S_ifB_ne g (tgt := 195) rfl (by decide) (fun qz188 => ?_) (fun qz188 => ?_)
        · skip
          refine S_n g 1 (pc' := 196) (lv' := [(0, .ref (ad 13))]) (st' := [.int (nI 0)]) rfl ?_
          show Sim X (YC ad z0 z1) 196 [(0, .ref (ad 13))] [.int (bI false)] (up2 (up2 (up2 (up2 (up2 I 13 4 (nI 106)) 13 5 (nI D.2.2)) 13 6 f2) 13 3 (bI S.1)) 13 2 (nI S.2)) J A B 0 0
          exact rtZ rt rfl rfl (rc_of (by rw [← haa]; exact han) (by rw [← haa]; exact (by rw [hS]; exact ag_1 (f2 := 0) (w := 1) (by rw [hch]; rfl) (by rw [hch]; rfl) (by rw [hD]; exact num_1))) (by rw [hS]; exact rgS_b hDb.1) (by rw [← haa, hch] <;> rfl) (fun _ => rfl) (fun _ e => absurd e (by rw [← haa, hch]; decide)) (by rw [qz188]; rfl))
        · skip
          refine S_n g 2 (pc' := 196) (lv' := [(0, .ref (ad 13))]) (st' := [.int (nI 1)]) rfl ?_
          show Sim X (YC ad z0 z1) 196 [(0, .ref (ad 13))] [.int (bI true)] (up2 (up2 (up2 (up2 (up2 I 13 4 (nI 106)) 13 5 (nI D.2.2)) 13 6 f2) 13 3 (bI S.1)) 13 2 (nI S.2)) J A B 0 0
          exact rtZ rt rfl rfl (rc_of (by rw [← haa]; exact han) (by rw [← haa]; exact (by rw [hS]; exact ag_1 (f2 := 0) (w := 1) (by rw [hch]; rfl) (by rw [hch]; rfl) (by rw [hD]; exact num_1))) (by rw [hS]; exact rgS_b hDb.1) (by rw [← haa, hch] <;> rfl) (fun _ => rfl) (fun _ e => absurd e (by rw [← haa, hch]; decide)) (by rw [qz188]; rfl))
      · skip
        refine S_swIn g (off := 146) (tgt := 175) rfl (by decide) (by decide) rfl rfl ?_
        refine S_n g 2 (pc' := 177) (lv' := [(0, .ref (ad 13))]) (st' := [.int (nI 1), .ref (ad 13)]) rfl ?_
        refine S_putI g (i := 13) (c := 4) (k := 3) (kd := 3) (by decide) (by decide) rfl rfl (by decide) fw_X4_22 rfl rfl rfl ?_
        rw [up2_c2 (i := 13) (k := 3) (j := 13) (l := 2) (Or.inr (by decide))]
        rw [up2_c1 (i := 13) (k := 3)]
        refine S_n g 1 (pc' := 181) (lv' := [(0, .ref (ad 13))]) (st' := [.ref (ad 13)]) rfl ?_
        obtain ⟨S, hS⟩ : ∃ S, S = rgS tc n true (a) := ⟨_, rfl⟩
        refine S_cV g (i := 13) (As := []) (st := []) (tx_readSemi ad z0 z1 (up2 (up2 (up2 I 13 4 (nI 107)) 13 5 f1) 13 6 f2) J A B tc n (a) hN hT (by omega) true) mw_X4_readSemicolon lk_X4_55 ⟨Nat.le_of_ble_eq_true rfl, Nat.le_of_ble_eq_true rfl⟩ (by decide) (by decide) rfl rfl (Nat.le_of_ble_eq_true rfl) ⟨Nat.le_of_ble_eq_true rfl, Nat.le_of_ble_eq_true rfl⟩ rfl ?_
        rw [← hS]
        show Sim X (YC ad z0 z1) 184 [(0, .ref (ad 13))] [] (up2 (up2 (up2 (up2 (up2 I 13 4 (nI 107)) 13 5 f1) 13 6 f2) 13 3 (bI S.1)) 13 2 (nI S.2)) J A B 0 0
        have hS0 : S = (true, a) := by rw [hS, rg_t]
        refine S_n g 1 (pc' := 185) (lv' := [(0, .ref (ad 13))]) (st' := [.ref (ad 13)]) rfl ?_
        refine S_getZ g (i := 13) (c := 4) (k := 3) (by decide) (by decide) rfl rfl fl_X4_22 rfl ?_
        show Sim X (YC ad z0 z1) 188 [(0, .ref (ad 13))] [.int (bI S.1)] (up2 (up2 (up2 (up2 (up2 I 13 4 (nI 107)) 13 5 f1) 13 6 f2) 13 3 (bI S.1)) 13 2 (nI S.2)) J A B 0 0
        refine S_ifB_ne g (tgt := 195) rfl (by decide) (fun qz188 => ?_) (fun qz188 => ?_)
        · skip
          refine S_n g 1 (pc' := 196) (lv' := [(0, .ref (ad 13))]) (st' := [.int (nI 0)]) rfl ?_
          show Sim X (YC ad z0 z1) 196 [(0, .ref (ad 13))] [.int (bI false)] (up2 (up2 (up2 (up2 (up2 I 13 4 (nI 107)) 13 5 f1) 13 6 f2) 13 3 (bI S.1)) 13 2 (nI S.2)) J A B 0 0
          exact rtZ rt rfl rfl (rc_of (by rw [← haa]; exact han) (by rw [← haa]; exact (by rw [hS0]; exact ag_0 (f1 := 0) (f2 := 0) (by rw [hch] <;> rfl))) (by rw [hS0]; exact hbn) (by rw [← haa, hch] <;> rfl) (fun z => by rw [hS0] at z; exact btf z) (fun z => by rw [hS0] at z; exact btf z) (by rw [qz188]; rfl))
        · skip
          refine S_n g 2 (pc' := 196) (lv' := [(0, .ref (ad 13))]) (st' := [.int (nI 1)]) rfl ?_
          show Sim X (YC ad z0 z1) 196 [(0, .ref (ad 13))] [.int (bI true)] (up2 (up2 (up2 (up2 (up2 I 13 4 (nI 107)) 13 5 f1) 13 6 f2) 13 3 (bI S.1)) 13 2 (nI S.2)) J A B 0 0
          exact rtZ rt rfl rfl (rc_of (by rw [← haa]; exact han) (by rw [← haa]; exact (by rw [hS0]; exact ag_0 (f1 := 0) (f2 := 0) (by rw [hch] <;> rfl))) (by rw [hS0]; exact hbn) (by rw [← haa, hch] <;> rfl) (fun z => by rw [hS0] at z; exact btf z) (fun z => by rw [hS0] at z; exact btf z) (by rw [qz188]; rfl))
      · skip
        refine S_swIn g (off := 104) (tgt := 133) rfl (by decide) (by decide) rfl rfl ?_
        refine S_n g 2 (pc' := 135) (lv' := [(0, .ref (ad 13))]) (st' := [.ref (ad 13), .ref (ad 13)]) rfl ?_
        refine S_getI g (i := 13) (c := 4) (k := 2) (by decide) (by decide) rfl rfl fl_X4_19 rfl ?_
        show Sim X (YC ad z0 z1) 138 [(0, .ref (ad 13))] [.int (nI a), .ref (ad 13)] (up2 (up2 (up2 (up2 (up2 I 13 4 (nI 108)) 13 5 f1) 13 6 f2) 13 3 (bI false)) 13 2 (nI a)) J A B 0 0
        refine S_n g 2 (pc' := 140) (lv' := [(0, .ref (ad 13))]) (st' := [.int ((nI a) + (nI 1)), .ref (ad 13)]) rfl ?_
        rw [nI_add a 1]
        refine S_putI g (i := 13) (c := 4) (k := 2) (kd := 0) (by decide) (by decide) rfl rfl (by decide) fw_X4_19 rfl rfl rfl ?_
        rw [up2_c1 (i := 13) (k := 2)]
        refine S_n g 2 (pc' := 145) (lv' := [(0, .ref (ad 13))]) (st' := [.ref (ad 13), .ref (ad 13)]) rfl ?_
        obtain ⟨D, hD⟩ : ∃ D, D = rgD tc n false (a + 1) := ⟨_, rfl⟩
        refine S_cV g (i := 13) (As := []) (st := [.ref (ad 13)]) (tx_readDigit ad z0 z1 (up2 (up2 (up2 I 13 4 (nI 108)) 13 5 f1) 13 6 f2) J A B tc n (a + 1) hN hT (by omega) false) mw_X4_readDigit lk_X4_43 ⟨Nat.le_of_ble_eq_true rfl, Nat.le_of_ble_eq_true rfl⟩ (by decide) (by decide) rfl rfl (Nat.le_of_ble_eq_true rfl) ⟨Nat.le_of_ble_eq_true rfl, Nat.le_of_ble_eq_true rfl⟩ rfl ?_
        rw [← hD]
        show Sim X (YC ad z0 z1) 148 [(0, .ref (ad 13))] [.int (nI D.2.2), .ref (ad 13)] (up2 (up2 (up2 (up2 (up2 I 13 4 (nI 108)) 13 5 f1) 13 6 f2) 13 3 (bI D.1)) 13 2 (nI D.2.1)) J A B 0 0
        have hDb := rgD_b (tc := tc) (n := n) (st := false) (a := a + 1) (by omega)
        rw [← hD] at hDb
        refine S_putI g (i := 13) (c := 4) (k := 5) (kd := 0) (by decide) (by decide) rfl rfl (by decide) fw_X4_46 rfl rfl rfl ?_
        rw [up2_c2 (i := 13) (k := 5) (j := 13) (l := 2) (Or.inr (by decide))]
        rw [up2_c2 (i := 13) (k := 5) (j := 13) (l := 3) (Or.inr (by decide))]
        rw [up2_c2 (i := 13) (k := 5) (j := 13) (l := 6) (Or.inr (by decide))]
        rw [up2_c1 (i := 13) (k := 5)]
        refine S_n g 2 (pc' := 181) (lv' := [(0, .ref (ad 13))]) (st' := [.ref (ad 13)]) rfl ?_
        obtain ⟨S, hS⟩ : ∃ S, S = rgS tc n D.1 (D.2.1) := ⟨_, rfl⟩
        refine S_cV g (i := 13) (As := []) (st := []) (tx_readSemi ad z0 z1 (up2 (up2 (up2 I 13 4 (nI 108)) 13 5 (nI D.2.2)) 13 6 f2) J A B tc n (D.2.1) hN hT (by omega) D.1) mw_X4_readSemicolon lk_X4_55 ⟨Nat.le_of_ble_eq_true rfl, Nat.le_of_ble_eq_true rfl⟩ (by decide) (by decide) rfl rfl (Nat.le_of_ble_eq_true rfl) ⟨Nat.le_of_ble_eq_true rfl, Nat.le_of_ble_eq_true rfl⟩ rfl ?_
        rw [← hS]
        show Sim X (YC ad z0 z1) 184 [(0, .ref (ad 13))] [] (up2 (up2 (up2 (up2 (up2 I 13 4 (nI 108)) 13 5 (nI D.2.2)) 13 6 f2) 13 3 (bI S.1)) 13 2 (nI S.2)) J A B 0 0
        refine S_n g 1 (pc' := 185) (lv' := [(0, .ref (ad 13))]) (st' := [.ref (ad 13)]) rfl ?_
        refine S_getZ g (i := 13) (c := 4) (k := 3) (by decide) (by decide) rfl rfl fl_X4_22 rfl ?_
        show Sim X (YC ad z0 z1) 188 [(0, .ref (ad 13))] [.int (bI S.1)] (up2 (up2 (up2 (up2 (up2 I 13 4 (nI 108)) 13 5 (nI D.2.2)) 13 6 f2) 13 3 (bI S.1)) 13 2 (nI S.2)) J A B 0 0
        refine S_ifB_ne g (tgt := 195) rfl (by decide) (fun qz188 => ?_) (fun qz188 => ?_)
        · skip
          refine S_n g 1 (pc' := 196) (lv' := [(0, .ref (ad 13))]) (st' := [.int (nI 0)]) rfl ?_
          show Sim X (YC ad z0 z1) 196 [(0, .ref (ad 13))] [.int (bI false)] (up2 (up2 (up2 (up2 (up2 I 13 4 (nI 108)) 13 5 (nI D.2.2)) 13 6 f2) 13 3 (bI S.1)) 13 2 (nI S.2)) J A B 0 0
          exact rtZ rt rfl rfl (rc_of (by rw [← haa]; exact han) (by rw [← haa]; exact (by rw [hS]; exact ag_1 (f2 := 0) (w := 1) (by rw [hch]; rfl) (by rw [hch]; rfl) (by rw [hD]; exact num_1))) (by rw [hS]; exact rgS_b hDb.1) (by rw [← haa, hch] <;> rfl) (fun _ => rfl) (fun _ e => absurd e (by rw [← haa, hch]; decide)) (by rw [qz188]; rfl))
        · skip
          refine S_n g 2 (pc' := 196) (lv' := [(0, .ref (ad 13))]) (st' := [.int (nI 1)]) rfl ?_
          show Sim X (YC ad z0 z1) 196 [(0, .ref (ad 13))] [.int (bI true)] (up2 (up2 (up2 (up2 (up2 I 13 4 (nI 108)) 13 5 (nI D.2.2)) 13 6 f2) 13 3 (bI S.1)) 13 2 (nI S.2)) J A B 0 0
          exact rtZ rt rfl rfl (rc_of (by rw [← haa]; exact han) (by rw [← haa]; exact (by rw [hS]; exact ag_1 (f2 := 0) (w := 1) (by rw [hch]; rfl) (by rw [hch]; rfl) (by rw [hD]; exact num_1))) (by rw [hS]; exact rgS_b hDb.1) (by rw [← haa, hch] <;> rfl) (fun _ => rfl) (fun _ e => absurd e (by rw [← haa, hch]; decide)) (by rw [qz188]; rfl))
      · skip
        refine S_swIn g (off := 146) (tgt := 175) rfl (by decide) (by decide) rfl rfl ?_
        refine S_n g 2 (pc' := 177) (lv' := [(0, .ref (ad 13))]) (st' := [.int (nI 1), .ref (ad 13)]) rfl ?_
        refine S_putI g (i := 13) (c := 4) (k := 3) (kd := 3) (by decide) (by decide) rfl rfl (by decide) fw_X4_22 rfl rfl rfl ?_
        rw [up2_c2 (i := 13) (k := 3) (j := 13) (l := 2) (Or.inr (by decide))]
        rw [up2_c1 (i := 13) (k := 3)]
        refine S_n g 1 (pc' := 181) (lv' := [(0, .ref (ad 13))]) (st' := [.ref (ad 13)]) rfl ?_
        obtain ⟨S, hS⟩ : ∃ S, S = rgS tc n true (a) := ⟨_, rfl⟩
        refine S_cV g (i := 13) (As := []) (st := []) (tx_readSemi ad z0 z1 (up2 (up2 (up2 I 13 4 (nI 109)) 13 5 f1) 13 6 f2) J A B tc n (a) hN hT (by omega) true) mw_X4_readSemicolon lk_X4_55 ⟨Nat.le_of_ble_eq_true rfl, Nat.le_of_ble_eq_true rfl⟩ (by decide) (by decide) rfl rfl (Nat.le_of_ble_eq_true rfl) ⟨Nat.le_of_ble_eq_true rfl, Nat.le_of_ble_eq_true rfl⟩ rfl ?_
        rw [← hS]
        show Sim X (YC ad z0 z1) 184 [(0, .ref (ad 13))] [] (up2 (up2 (up2 (up2 (up2 I 13 4 (nI 109)) 13 5 f1) 13 6 f2) 13 3 (bI S.1)) 13 2 (nI S.2)) J A B 0 0
        have hS0 : S = (true, a) := by rw [hS, rg_t]
        refine S_n g 1 (pc' := 185) (lv' := [(0, .ref (ad 13))]) (st' := [.ref (ad 13)]) rfl ?_
        refine S_getZ g (i := 13) (c := 4) (k := 3) (by decide) (by decide) rfl rfl fl_X4_22 rfl ?_
        show Sim X (YC ad z0 z1) 188 [(0, .ref (ad 13))] [.int (bI S.1)] (up2 (up2 (up2 (up2 (up2 I 13 4 (nI 109)) 13 5 f1) 13 6 f2) 13 3 (bI S.1)) 13 2 (nI S.2)) J A B 0 0
        refine S_ifB_ne g (tgt := 195) rfl (by decide) (fun qz188 => ?_) (fun qz188 => ?_)
        · skip
          refine S_n g 1 (pc' := 196) (lv' := [(0, .ref (ad 13))]) (st' := [.int (nI 0)]) rfl ?_
          show Sim X (YC ad z0 z1) 196 [(0, .ref (ad 13))] [.int (bI false)] (up2 (up2 (up2 (up2 (up2 I 13 4 (nI 109)) 13 5 f1) 13 6 f2) 13 3 (bI S.1)) 13 2 (nI S.2)) J A B 0 0
          exact rtZ rt rfl rfl (rc_of (by rw [← haa]; exact han) (by rw [← haa]; exact (by rw [hS0]; exact ag_0 (f1 := 0) (f2 := 0) (by rw [hch] <;> rfl))) (by rw [hS0]; exact hbn) (by rw [← haa, hch] <;> rfl) (fun z => by rw [hS0] at z; exact btf z) (fun z => by rw [hS0] at z; exact btf z) (by rw [qz188]; rfl))
        · skip
          refine S_n g 2 (pc' := 196) (lv' := [(0, .ref (ad 13))]) (st' := [.int (nI 1)]) rfl ?_
          show Sim X (YC ad z0 z1) 196 [(0, .ref (ad 13))] [.int (bI true)] (up2 (up2 (up2 (up2 (up2 I 13 4 (nI 109)) 13 5 f1) 13 6 f2) 13 3 (bI S.1)) 13 2 (nI S.2)) J A B 0 0
          exact rtZ rt rfl rfl (rc_of (by rw [← haa]; exact han) (by rw [← haa]; exact (by rw [hS0]; exact ag_0 (f1 := 0) (f2 := 0) (by rw [hch] <;> rfl))) (by rw [hS0]; exact hbn) (by rw [← haa, hch] <;> rfl) (fun z => by rw [hS0] at z; exact btf z) (fun z => by rw [hS0] at z; exact btf z) (by rw [qz188]; rfl))
      · skip
        refine S_swIn g (off := 104) (tgt := 133) rfl (by decide) (by decide) rfl rfl ?_
        refine S_n g 2 (pc' := 135) (lv' := [(0, .ref (ad 13))]) (st' := [.ref (ad 13), .ref (ad 13)]) rfl ?_
        refine S_getI g (i := 13) (c := 4) (k := 2) (by decide) (by decide) rfl rfl fl_X4_19 rfl ?_
        show Sim X (YC ad z0 z1) 138 [(0, .ref (ad 13))] [.int (nI a), .ref (ad 13)] (up2 (up2 (up2 (up2 (up2 I 13 4 (nI 110)) 13 5 f1) 13 6 f2) 13 3 (bI false)) 13 2 (nI a)) J A B 0 0
        refine S_n g 2 (pc' := 140) (lv' := [(0, .ref (ad 13))]) (st' := [.int ((nI a) + (nI 1)), .ref (ad 13)]) rfl ?_
        rw [nI_add a 1]
        refine S_putI g (i := 13) (c := 4) (k := 2) (kd := 0) (by decide) (by decide) rfl rfl (by decide) fw_X4_19 rfl rfl rfl ?_
        rw [up2_c1 (i := 13) (k := 2)]
        refine S_n g 2 (pc' := 145) (lv' := [(0, .ref (ad 13))]) (st' := [.ref (ad 13), .ref (ad 13)]) rfl ?_
        obtain ⟨D, hD⟩ : ∃ D, D = rgD tc n false (a + 1) := ⟨_, rfl⟩
        refine S_cV g (i := 13) (As := []) (st := [.ref (ad 13)]) (tx_readDigit ad z0 z1 (up2 (up2 (up2 I 13 4 (nI 110)) 13 5 f1) 13 6 f2) J A B tc n (a + 1) hN hT (by omega) false) mw_X4_readDigit lk_X4_43 ⟨Nat.le_of_ble_eq_true rfl, Nat.le_of_ble_eq_true rfl⟩ (by decide) (by decide) rfl rfl (Nat.le_of_ble_eq_true rfl) ⟨Nat.le_of_ble_eq_true rfl, Nat.le_of_ble_eq_true rfl⟩ rfl ?_
        rw [← hD]
        show Sim X (YC ad z0 z1) 148 [(0, .ref (ad 13))] [.int (nI D.2.2), .ref (ad 13)] (up2 (up2 (up2 (up2 (up2 I 13 4 (nI 110)) 13 5 f1) 13 6 f2) 13 3 (bI D.1)) 13 2 (nI D.2.1)) J A B 0 0
        have hDb := rgD_b (tc := tc) (n := n) (st := false) (a := a + 1) (by omega)
        rw [← hD] at hDb
        refine S_putI g (i := 13) (c := 4) (k := 5) (kd := 0) (by decide) (by decide) rfl rfl (by decide) fw_X4_46 rfl rfl rfl ?_
        rw [up2_c2 (i := 13) (k := 5) (j := 13) (l := 2) (Or.inr (by decide))]
        rw [up2_c2 (i := 13) (k := 5) (j := 13) (l := 3) (Or.inr (by decide))]
        rw [up2_c2 (i := 13) (k := 5) (j := 13) (l := 6) (Or.inr (by decide))]
        rw [up2_c1 (i := 13) (k := 5)]
        refine S_n g 2 (pc' := 181) (lv' := [(0, .ref (ad 13))]) (st' := [.ref (ad 13)]) rfl ?_
        obtain ⟨S, hS⟩ : ∃ S, S = rgS tc n D.1 (D.2.1) := ⟨_, rfl⟩
        refine S_cV g (i := 13) (As := []) (st := []) (tx_readSemi ad z0 z1 (up2 (up2 (up2 I 13 4 (nI 110)) 13 5 (nI D.2.2)) 13 6 f2) J A B tc n (D.2.1) hN hT (by omega) D.1) mw_X4_readSemicolon lk_X4_55 ⟨Nat.le_of_ble_eq_true rfl, Nat.le_of_ble_eq_true rfl⟩ (by decide) (by decide) rfl rfl (Nat.le_of_ble_eq_true rfl) ⟨Nat.le_of_ble_eq_true rfl, Nat.le_of_ble_eq_true rfl⟩ rfl ?_
        rw [← hS]
        show Sim X (YC ad z0 z1) 184 [(0, .ref (ad 13))] [] (up2 (up2 (up2 (up2 (up2 I 13 4 (nI 110)) 13 5 (nI D.2.2)) 13 6 f2) 13 3 (bI S.1)) 13 2 (nI S.2)) J A B 0 0
        refine S_n g 1 (pc' := 185) (lv' := [(0, .ref (ad 13))]) (st' := [.ref (ad 13)]) rfl ?_
        refine S_getZ g (i := 13) (c := 4) (k := 3) (by decide) (by decide) rfl rfl fl_X4_22 rfl ?_
        show Sim X (YC ad z0 z1) 188 [(0, .ref (ad 13))] [.int (bI S.1)] (up2 (up2 (up2 (up2 (up2 I 13 4 (nI 110)) 13 5 (nI D.2.2)) 13 6 f2) 13 3 (bI S.1)) 13 2 (nI S.2)) J A B 0 0
        refine S_ifB_ne g (tgt := 195) rfl (by decide) (fun qz188 => ?_) (fun qz188 => ?_)
        · skip
          refine S_n g 1 (pc' := 196) (lv' := [(0, .ref (ad 13))]) (st' := [.int (nI 0)]) rfl ?_
          show Sim X (YC ad z0 z1) 196 [(0, .ref (ad 13))] [.int (bI false)] (up2 (up2 (up2 (up2 (up2 I 13 4 (nI 110)) 13 5 (nI D.2.2)) 13 6 f2) 13 3 (bI S.1)) 13 2 (nI S.2)) J A B 0 0
          exact rtZ rt rfl rfl (rc_of (by rw [← haa]; exact han) (by rw [← haa]; exact (by rw [hS]; exact ag_1 (f2 := 0) (w := 1) (by rw [hch]; rfl) (by rw [hch]; rfl) (by rw [hD]; exact num_1))) (by rw [hS]; exact rgS_b hDb.1) (by rw [← haa, hch] <;> rfl) (fun _ => rfl) (fun _ e => absurd e (by rw [← haa, hch]; decide)) (by rw [qz188]; rfl))
        · skip
          refine S_n g 2 (pc' := 196) (lv' := [(0, .ref (ad 13))]) (st' := [.int (nI 1)]) rfl ?_
          show Sim X (YC ad z0 z1) 196 [(0, .ref (ad 13))] [.int (bI true)] (up2 (up2 (up2 (up2 (up2 I 13 4 (nI 110)) 13 5 (nI D.2.2)) 13 6 f2) 13 3 (bI S.1)) 13 2 (nI S.2)) J A B 0 0
          exact rtZ rt rfl rfl (rc_of (by rw [← haa]; exact han) (by rw [← haa]; exact (by rw [hS]; exact ag_1 (f2 := 0) (w := 1) (by rw [hch]; rfl) (by rw [hch]; rfl) (by rw [hD]; exact num_1))) (by rw [hS]; exact rgS_b hDb.1) (by rw [← haa, hch] <;> rfl) (fun _ => rfl) (fun _ e => absurd e (by rw [← haa, hch]; decide)) (by rw [qz188]; rfl))
      · skip
        refine S_swIn g (off := 146) (tgt := 175) rfl (by decide) (by decide) rfl rfl ?_
        refine S_n g 2 (pc' := 177) (lv' := [(0, .ref (ad 13))]) (st' := [.int (nI 1), .ref (ad 13)]) rfl ?_
        refine S_putI g (i := 13) (c := 4) (k := 3) (kd := 3) (by decide) (by decide) rfl rfl (by decide) fw_X4_22 rfl rfl rfl ?_
        rw [up2_c2 (i := 13) (k := 3) (j := 13) (l := 2) (Or.inr (by decide))]
        rw [up2_c1 (i := 13) (k := 3)]
        refine S_n g 1 (pc' := 181) (lv' := [(0, .ref (ad 13))]) (st' := [.ref (ad 13)]) rfl ?_
        obtain ⟨S, hS⟩ : ∃ S, S = rgS tc n true (a) := ⟨_, rfl⟩
        refine S_cV g (i := 13) (As := []) (st := []) (tx_readSemi ad z0 z1 (up2 (up2 (up2 I 13 4 (nI 111)) 13 5 f1) 13 6 f2) J A B tc n (a) hN hT (by omega) true) mw_X4_readSemicolon lk_X4_55 ⟨Nat.le_of_ble_eq_true rfl, Nat.le_of_ble_eq_true rfl⟩ (by decide) (by decide) rfl rfl (Nat.le_of_ble_eq_true rfl) ⟨Nat.le_of_ble_eq_true rfl, Nat.le_of_ble_eq_true rfl⟩ rfl ?_
        rw [← hS]
        show Sim X (YC ad z0 z1) 184 [(0, .ref (ad 13))] [] (up2 (up2 (up2 (up2 (up2 I 13 4 (nI 111)) 13 5 f1) 13 6 f2) 13 3 (bI S.1)) 13 2 (nI S.2)) J A B 0 0
        have hS0 : S = (true, a) := by rw [hS, rg_t]
        refine S_n g 1 (pc' := 185) (lv' := [(0, .ref (ad 13))]) (st' := [.ref (ad 13)]) rfl ?_
        refine S_getZ g (i := 13) (c := 4) (k := 3) (by decide) (by decide) rfl rfl fl_X4_22 rfl ?_
        show Sim X (YC ad z0 z1) 188 [(0, .ref (ad 13))] [.int (bI S.1)] (up2 (up2 (up2 (up2 (up2 I 13 4 (nI 111)) 13 5 f1) 13 6 f2) 13 3 (bI S.1)) 13 2 (nI S.2)) J A B 0 0
        refine S_ifB_ne g (tgt := 195) rfl (by decide) (fun qz188 => ?_) (fun qz188 => ?_)
        · skip
          refine S_n g 1 (pc' := 196) (lv' := [(0, .ref (ad 13))]) (st' := [.int (nI 0)]) rfl ?_
          show Sim X (YC ad z0 z1) 196 [(0, .ref (ad 13))] [.int (bI false)] (up2 (up2 (up2 (up2 (up2 I 13 4 (nI 111)) 13 5 f1) 13 6 f2) 13 3 (bI S.1)) 13 2 (nI S.2)) J A B 0 0
          exact rtZ rt rfl rfl (rc_of (by rw [← haa]; exact han) (by rw [← haa]; exact (by rw [hS0]; exact ag_0 (f1 := 0) (f2 := 0) (by rw [hch] <;> rfl))) (by rw [hS0]; exact hbn) (by rw [← haa, hch] <;> rfl) (fun z => by rw [hS0] at z; exact btf z) (fun z => by rw [hS0] at z; exact btf z) (by rw [qz188]; rfl))
        · skip
          refine S_n g 2 (pc' := 196) (lv' := [(0, .ref (ad 13))]) (st' := [.int (nI 1)]) rfl ?_
          show Sim X (YC ad z0 z1) 196 [(0, .ref (ad 13))] [.int (bI true)] (up2 (up2 (up2 (up2 (up2 I 13 4 (nI 111)) 13 5 f1) 13 6 f2) 13 3 (bI S.1)) 13 2 (nI S.2)) J A B 0 0
          exact rtZ rt rfl rfl (rc_of (by rw [← haa]; exact han) (by rw [← haa]; exact (by rw [hS0]; exact ag_0 (f1 := 0) (f2 := 0) (by rw [hch] <;> rfl))) (by rw [hS0]; exact hbn) (by rw [← haa, hch] <;> rfl) (fun z => by rw [hS0] at z; exact btf z) (fun z => by rw [hS0] at z; exact btf z) (by rw [qz188]; rfl))
      · skip
        refine S_swIn g (off := 146) (tgt := 175) rfl (by decide) (by decide) rfl rfl ?_
        refine S_n g 2 (pc' := 177) (lv' := [(0, .ref (ad 13))]) (st' := [.int (nI 1), .ref (ad 13)]) rfl ?_
        refine S_putI g (i := 13) (c := 4) (k := 3) (kd := 3) (by decide) (by decide) rfl rfl (by decide) fw_X4_22 rfl rfl rfl ?_
        rw [up2_c2 (i := 13) (k := 3) (j := 13) (l := 2) (Or.inr (by decide))]
        rw [up2_c1 (i := 13) (k := 3)]
        refine S_n g 1 (pc' := 181) (lv' := [(0, .ref (ad 13))]) (st' := [.ref (ad 13)]) rfl ?_
        obtain ⟨S, hS⟩ : ∃ S, S = rgS tc n true (a) := ⟨_, rfl⟩
        refine S_cV g (i := 13) (As := []) (st := []) (tx_readSemi ad z0 z1 (up2 (up2 (up2 I 13 4 (nI 112)) 13 5 f1) 13 6 f2) J A B tc n (a) hN hT (by omega) true) mw_X4_readSemicolon lk_X4_55 ⟨Nat.le_of_ble_eq_true rfl, Nat.le_of_ble_eq_true rfl⟩ (by decide) (by decide) rfl rfl (Nat.le_of_ble_eq_true rfl) ⟨Nat.le_of_ble_eq_true rfl, Nat.le_of_ble_eq_true rfl⟩ rfl ?_
        rw [← hS]
        show Sim X (YC ad z0 z1) 184 [(0, .ref (ad 13))] [] (up2 (up2 (up2 (up2 (up2 I 13 4 (nI 112)) 13 5 f1) 13 6 f2) 13 3 (bI S.1)) 13 2 (nI S.2)) J A B 0 0
        have hS0 : S = (true, a) := by rw [hS, rg_t]
        refine S_n g 1 (pc' := 185) (lv' := [(0, .ref (ad 13))]) (st' := [.ref (ad 13)]) rfl ?_
        refine S_getZ g (i := 13) (c := 4) (k := 3) (by decide) (by decide) rfl rfl fl_X4_22 rfl ?_
        show Sim X (YC ad z0 z1) 188 [(0, .ref (ad 13))] [.int (bI S.1)] (up2 (up2 (up2 (up2 (up2 I 13 4 (nI 112)) 13 5 f1) 13 6 f2) 13 3 (bI S.1)) 13 2 (nI S.2)) J A B 0 0
        refine S_ifB_ne g (tgt := 195) rfl (by decide) (fun qz188 => ?_) (fun qz188 => ?_)
        · skip
          refine S_n g 1 (pc' := 196) (lv' := [(0, .ref (ad 13))]) (st' := [.int (nI 0)]) rfl ?_
          show Sim X (YC ad z0 z1) 196 [(0, .ref (ad 13))] [.int (bI false)] (up2 (up2 (up2 (up2 (up2 I 13 4 (nI 112)) 13 5 f1) 13 6 f2) 13 3 (bI S.1)) 13 2 (nI S.2)) J A B 0 0
          exact rtZ rt rfl rfl (rc_of (by rw [← haa]; exact han) (by rw [← haa]; exact (by rw [hS0]; exact ag_0 (f1 := 0) (f2 := 0) (by rw [hch] <;> rfl))) (by rw [hS0]; exact hbn) (by rw [← haa, hch] <;> rfl) (fun z => by rw [hS0] at z; exact btf z) (fun z => by rw [hS0] at z; exact btf z) (by rw [qz188]; rfl))
        · skip
          refine S_n g 2 (pc' := 196) (lv' := [(0, .ref (ad 13))]) (st' := [.int (nI 1)]) rfl ?_
          show Sim X (YC ad z0 z1) 196 [(0, .ref (ad 13))] [.int (bI true)] (up2 (up2 (up2 (up2 (up2 I 13 4 (nI 112)) 13 5 f1) 13 6 f2) 13 3 (bI S.1)) 13 2 (nI S.2)) J A B 0 0
          exact rtZ rt rfl rfl (rc_of (by rw [← haa]; exact han) (by rw [← haa]; exact (by rw [hS0]; exact ag_0 (f1 := 0) (f2 := 0) (by rw [hch] <;> rfl))) (by rw [hS0]; exact hbn) (by rw [← haa, hch] <;> rfl) (fun z => by rw [hS0] at z; exact btf z) (fun z => by rw [hS0] at z; exact btf z) (by rw [qz188]; rfl))
      · skip
        refine S_swIn g (off := 125) (tgt := 154) rfl (by decide) (by decide) rfl rfl ?_
        refine S_n g 2 (pc' := 156) (lv' := [(0, .ref (ad 13))]) (st' := [.ref (ad 13), .ref (ad 13)]) rfl ?_
        refine S_getI g (i := 13) (c := 4) (k := 2) (by decide) (by decide) rfl rfl fl_X4_19 rfl ?_
        show Sim X (YC ad z0 z1) 159 [(0, .ref (ad 13))] [.int (nI a), .ref (ad 13)] (up2 (up2 (up2 (up2 (up2 I 13 4 (nI 113)) 13 5 f1) 13 6 f2) 13 3 (bI false)) 13 2 (nI a)) J A B 0 0
        refine S_n g 2 (pc' := 161) (lv' := [(0, .ref (ad 13))]) (st' := [.int ((nI a) + (nI 1)), .ref (ad 13)]) rfl ?_
        rw [nI_add a 1]
        refine S_putI g (i := 13) (c := 4) (k := 2) (kd := 0) (by decide) (by decide) rfl rfl (by decide) fw_X4_19 rfl rfl rfl ?_
        rw [up2_c1 (i := 13) (k := 2)]
        refine S_n g 2 (pc' := 166) (lv' := [(0, .ref (ad 13))]) (st' := [.ref (ad 13), .ref (ad 13)]) rfl ?_
        obtain ⟨D, hD⟩ : ∃ D, D = rgN tc n false (a + 1) := ⟨_, rfl⟩
        refine S_cV g (i := 13) (As := []) (st := [.ref (ad 13)]) (tx_readNumber ad z0 z1 (up2 (up2 (up2 I 13 4 (nI 113)) 13 5 f1) 13 6 f2) J A B tc n (a + 1) hN hT (by omega) false) mw_X4_readNumber lk_X4_52 ⟨Nat.le_of_ble_eq_true rfl, Nat.le_of_ble_eq_true rfl⟩ (by decide) (by decide) rfl rfl (Nat.le_of_ble_eq_true rfl) ⟨Nat.le_of_ble_eq_true rfl, Nat.le_of_ble_eq_true rfl⟩ rfl ?_
        rw [← hD]
        show Sim X (YC ad z0 z1) 169 [(0, .ref (ad 13))] [.int (nI D.2.2), .ref (ad 13)] (up2 (up2 (up2 (up2 (up2 I 13 4 (nI 113)) 13 5 f1) 13 6 f2) 13 3 (bI D.1)) 13 2 (nI D.2.1)) J A B 0 0
        have hDb := rgN_b (tc := tc) (n := n) (st := false) (a := a + 1) (by omega)
        rw [← hD] at hDb
        refine S_putI g (i := 13) (c := 4) (k := 5) (kd := 0) (by decide) (by decide) rfl rfl (by decide) fw_X4_46 rfl rfl rfl ?_
        rw [up2_c2 (i := 13) (k := 5) (j := 13) (l := 2) (Or.inr (by decide))]
        rw [up2_c2 (i := 13) (k := 5) (j := 13) (l := 3) (Or.inr (by decide))]
        rw [up2_c2 (i := 13) (k := 5) (j := 13) (l := 6) (Or.inr (by decide))]
        rw [up2_c1 (i := 13) (k := 5)]
        refine S_n g 2 (pc' := 181) (lv' := [(0, .ref (ad 13))]) (st' := [.ref (ad 13)]) rfl ?_
        obtain ⟨S, hS⟩ : ∃ S, S = rgS tc n D.1 (D.2.1) := ⟨_, rfl⟩
        refine S_cV g (i := 13) (As := []) (st := []) (tx_readSemi ad z0 z1 (up2 (up2 (up2 I 13 4 (nI 113)) 13 5 (nI D.2.2)) 13 6 f2) J A B tc n (D.2.1) hN hT (by omega) D.1) mw_X4_readSemicolon lk_X4_55 ⟨Nat.le_of_ble_eq_true rfl, Nat.le_of_ble_eq_true rfl⟩ (by decide) (by decide) rfl rfl (Nat.le_of_ble_eq_true rfl) ⟨Nat.le_of_ble_eq_true rfl, Nat.le_of_ble_eq_true rfl⟩ rfl ?_
        rw [← hS]
        show Sim X (YC ad z0 z1) 184 [(0, .ref (ad 13))] [] (up2 (up2 (up2 (up2 (up2 I 13 4 (nI 113)) 13 5 (nI D.2.2)) 13 6 f2) 13 3 (bI S.1)) 13 2 (nI S.2)) J A B 0 0
        refine S_n g 1 (pc' := 185) (lv' := [(0, .ref (ad 13))]) (st' := [.ref (ad 13)]) rfl ?_
        refine S_getZ g (i := 13) (c := 4) (k := 3) (by decide) (by decide) rfl rfl fl_X4_22 rfl ?_
        show Sim X (YC ad z0 z1) 188 [(0, .ref (ad 13))] [.int (bI S.1)] (up2 (up2 (up2 (up2 (up2 I 13 4 (nI 113)) 13 5 (nI D.2.2)) 13 6 f2) 13 3 (bI S.1)) 13 2 (nI S.2)) J A B 0 0
        refine S_ifB_ne g (tgt := 195) rfl (by decide) (fun qz188 => ?_) (fun qz188 => ?_)
        · skip
          refine S_n g 1 (pc' := 196) (lv' := [(0, .ref (ad 13))]) (st' := [.int (nI 0)]) rfl ?_
          show Sim X (YC ad z0 z1) 196 [(0, .ref (ad 13))] [.int (bI false)] (up2 (up2 (up2 (up2 (up2 I 13 4 (nI 113)) 13 5 (nI D.2.2)) 13 6 f2) 13 3 (bI S.1)) 13 2 (nI S.2)) J A B 0 0
          exact rtZ rt rfl rfl (rc_of (by rw [← haa]; exact han) (by rw [← haa]; exact (by rw [hS]; exact ag_1 (f2 := 0) (w := 2) (by rw [hch]; rfl) (by rw [hch]; rfl) (by rw [hD]; exact num_2))) (by rw [hS]; exact rgS_b hDb) (by rw [← haa, hch] <;> rfl) (fun _ => rfl) (fun _ e => absurd e (by rw [← haa, hch]; decide)) (by rw [qz188]; rfl))
        · skip
          refine S_n g 2 (pc' := 196) (lv' := [(0, .ref (ad 13))]) (st' := [.int (nI 1)]) rfl ?_
          show Sim X (YC ad z0 z1) 196 [(0, .ref (ad 13))] [.int (bI true)] (up2 (up2 (up2 (up2 (up2 I 13 4 (nI 113)) 13 5 (nI D.2.2)) 13 6 f2) 13 3 (bI S.1)) 13 2 (nI S.2)) J A B 0 0
          exact rtZ rt rfl rfl (rc_of (by rw [← haa]; exact han) (by rw [← haa]; exact (by rw [hS]; exact ag_1 (f2 := 0) (w := 2) (by rw [hch]; rfl) (by rw [hch]; rfl) (by rw [hD]; exact num_2))) (by rw [hS]; exact rgS_b hDb) (by rw [← haa, hch] <;> rfl) (fun _ => rfl) (fun _ e => absurd e (by rw [← haa, hch]; decide)) (by rw [qz188]; rfl))
      · skip
        refine S_swIn g (off := 146) (tgt := 175) rfl (by decide) (by decide) rfl rfl ?_
        refine S_n g 2 (pc' := 177) (lv' := [(0, .ref (ad 13))]) (st' := [.int (nI 1), .ref (ad 13)]) rfl ?_
        refine S_putI g (i := 13) (c := 4) (k := 3) (kd := 3) (by decide) (by decide) rfl rfl (by decide) fw_X4_22 rfl rfl rfl ?_
        rw [up2_c2 (i := 13) (k := 3) (j := 13) (l := 2) (Or.inr (by decide))]
        rw [up2_c1 (i := 13) (k := 3)]
        refine S_n g 1 (pc' := 181) (lv' := [(0, .ref (ad 13))]) (st' := [.ref (ad 13)]) rfl ?_
        obtain ⟨S, hS⟩ : ∃ S, S = rgS tc n true (a) := ⟨_, rfl⟩
        refine S_cV g (i := 13) (As := []) (st := []) (tx_readSemi ad z0 z1 (up2 (up2 (up2 I 13 4 (nI 114)) 13 5 f1) 13 6 f2) J A B tc n (a) hN hT (by omega) true) mw_X4_readSemicolon lk_X4_55 ⟨Nat.le_of_ble_eq_true rfl, Nat.le_of_ble_eq_true rfl⟩ (by decide) (by decide) rfl rfl (Nat.le_of_ble_eq_true rfl) ⟨Nat.le_of_ble_eq_true rfl, Nat.le_of_ble_eq_true rfl⟩ rfl ?_
        rw [← hS]
        show Sim X (YC ad z0 z1) 184 [(0, .ref (ad 13))] [] (up2 (up2 (up2 (up2 (up2 I 13 4 (nI 114)) 13 5 f1) 13 6 f2) 13 3 (bI S.1)) 13 2 (nI S.2)) J A B 0 0
        have hS0 : S = (true, a) := by rw [hS, rg_t]
        refine S_n g 1 (pc' := 185) (lv' := [(0, .ref (ad 13))]) (st' := [.ref (ad 13)]) rfl ?_
        refine S_getZ g (i := 13) (c := 4) (k := 3) (by decide) (by decide) rfl rfl fl_X4_22 rfl ?_
        show Sim X (YC ad z0 z1) 188 [(0, .ref (ad 13))] [.int (bI S.1)] (up2 (up2 (up2 (up2 (up2 I 13 4 (nI 114)) 13 5 f1) 13 6 f2) 13 3 (bI S.1)) 13 2 (nI S.2)) J A B 0 0
        refine S_ifB_ne g (tgt := 195) rfl (by decide) (fun qz188 => ?_) (fun qz188 => ?_)
        · skip
          refine S_n g 1 (pc' := 196) (lv' := [(0, .ref (ad 13))]) (st' := [.int (nI 0)]) rfl ?_
          show Sim X (YC ad z0 z1) 196 [(0, .ref (ad 13))] [.int (bI false)] (up2 (up2 (up2 (up2 (up2 I 13 4 (nI 114)) 13 5 f1) 13 6 f2) 13 3 (bI S.1)) 13 2 (nI S.2)) J A B 0 0
          exact rtZ rt rfl rfl (rc_of (by rw [← haa]; exact han) (by rw [← haa]; exact (by rw [hS0]; exact ag_0 (f1 := 0) (f2 := 0) (by rw [hch] <;> rfl))) (by rw [hS0]; exact hbn) (by rw [← haa, hch] <;> rfl) (fun z => by rw [hS0] at z; exact btf z) (fun z => by rw [hS0] at z; exact btf z) (by rw [qz188]; rfl))
        · skip
          refine S_n g 2 (pc' := 196) (lv' := [(0, .ref (ad 13))]) (st' := [.int (nI 1)]) rfl ?_
          show Sim X (YC ad z0 z1) 196 [(0, .ref (ad 13))] [.int (bI true)] (up2 (up2 (up2 (up2 (up2 I 13 4 (nI 114)) 13 5 f1) 13 6 f2) 13 3 (bI S.1)) 13 2 (nI S.2)) J A B 0 0
          exact rtZ rt rfl rfl (rc_of (by rw [← haa]; exact han) (by rw [← haa]; exact (by rw [hS0]; exact ag_0 (f1 := 0) (f2 := 0) (by rw [hch] <;> rfl))) (by rw [hS0]; exact hbn) (by rw [← haa, hch] <;> rfl) (fun z => by rw [hS0] at z; exact btf z) (fun z => by rw [hS0] at z; exact btf z) (by rw [qz188]; rfl))
      · skip
        refine S_swIn g (off := 104) (tgt := 133) rfl (by decide) (by decide) rfl rfl ?_
        refine S_n g 2 (pc' := 135) (lv' := [(0, .ref (ad 13))]) (st' := [.ref (ad 13), .ref (ad 13)]) rfl ?_
        refine S_getI g (i := 13) (c := 4) (k := 2) (by decide) (by decide) rfl rfl fl_X4_19 rfl ?_
        show Sim X (YC ad z0 z1) 138 [(0, .ref (ad 13))] [.int (nI a), .ref (ad 13)] (up2 (up2 (up2 (up2 (up2 I 13 4 (nI 115)) 13 5 f1) 13 6 f2) 13 3 (bI false)) 13 2 (nI a)) J A B 0 0
        refine S_n g 2 (pc' := 140) (lv' := [(0, .ref (ad 13))]) (st' := [.int ((nI a) + (nI 1)), .ref (ad 13)]) rfl ?_
        rw [nI_add a 1]
        refine S_putI g (i := 13) (c := 4) (k := 2) (kd := 0) (by decide) (by decide) rfl rfl (by decide) fw_X4_19 rfl rfl rfl ?_
        rw [up2_c1 (i := 13) (k := 2)]
        refine S_n g 2 (pc' := 145) (lv' := [(0, .ref (ad 13))]) (st' := [.ref (ad 13), .ref (ad 13)]) rfl ?_
        obtain ⟨D, hD⟩ : ∃ D, D = rgD tc n false (a + 1) := ⟨_, rfl⟩
        refine S_cV g (i := 13) (As := []) (st := [.ref (ad 13)]) (tx_readDigit ad z0 z1 (up2 (up2 (up2 I 13 4 (nI 115)) 13 5 f1) 13 6 f2) J A B tc n (a + 1) hN hT (by omega) false) mw_X4_readDigit lk_X4_43 ⟨Nat.le_of_ble_eq_true rfl, Nat.le_of_ble_eq_true rfl⟩ (by decide) (by decide) rfl rfl (Nat.le_of_ble_eq_true rfl) ⟨Nat.le_of_ble_eq_true rfl, Nat.le_of_ble_eq_true rfl⟩ rfl ?_
        rw [← hD]
        show Sim X (YC ad z0 z1) 148 [(0, .ref (ad 13))] [.int (nI D.2.2), .ref (ad 13)] (up2 (up2 (up2 (up2 (up2 I 13 4 (nI 115)) 13 5 f1) 13 6 f2) 13 3 (bI D.1)) 13 2 (nI D.2.1)) J A B 0 0
        have hDb := rgD_b (tc := tc) (n := n) (st := false) (a := a + 1) (by omega)
        rw [← hD] at hDb
        refine S_putI g (i := 13) (c := 4) (k := 5) (kd := 0) (by decide) (by decide) rfl rfl (by decide) fw_X4_46 rfl rfl rfl ?_
        rw [up2_c2 (i := 13) (k := 5) (j := 13) (l := 2) (Or.inr (by decide))]
        rw [up2_c2 (i := 13) (k := 5) (j := 13) (l := 3) (Or.inr (by decide))]
        rw [up2_c2 (i := 13) (k := 5) (j := 13) (l := 6) (Or.inr (by decide))]
        rw [up2_c1 (i := 13) (k := 5)]
        refine S_n g 2 (pc' := 181) (lv' := [(0, .ref (ad 13))]) (st' := [.ref (ad 13)]) rfl ?_
        obtain ⟨S, hS⟩ : ∃ S, S = rgS tc n D.1 (D.2.1) := ⟨_, rfl⟩
        refine S_cV g (i := 13) (As := []) (st := []) (tx_readSemi ad z0 z1 (up2 (up2 (up2 I 13 4 (nI 115)) 13 5 (nI D.2.2)) 13 6 f2) J A B tc n (D.2.1) hN hT (by omega) D.1) mw_X4_readSemicolon lk_X4_55 ⟨Nat.le_of_ble_eq_true rfl, Nat.le_of_ble_eq_true rfl⟩ (by decide) (by decide) rfl rfl (Nat.le_of_ble_eq_true rfl) ⟨Nat.le_of_ble_eq_true rfl, Nat.le_of_ble_eq_true rfl⟩ rfl ?_
        rw [← hS]
        show Sim X (YC ad z0 z1) 184 [(0, .ref (ad 13))] [] (up2 (up2 (up2 (up2 (up2 I 13 4 (nI 115)) 13 5 (nI D.2.2)) 13 6 f2) 13 3 (bI S.1)) 13 2 (nI S.2)) J A B 0 0
        refine S_n g 1 (pc' := 185) (lv' := [(0, .ref (ad 13))]) (st' := [.ref (ad 13)]) rfl ?_
        refine S_getZ g (i := 13) (c := 4) (k := 3) (by decide) (by decide) rfl rfl fl_X4_22 rfl ?_
        show Sim X (YC ad z0 z1) 188 [(0, .ref (ad 13))] [.int (bI S.1)] (up2 (up2 (up2 (up2 (up2 I 13 4 (nI 115)) 13 5 (nI D.2.2)) 13 6 f2) 13 3 (bI S.1)) 13 2 (nI S.2)) J A B 0 0
        refine S_ifB_ne g (tgt := 195) rfl (by decide) (fun qz188 => ?_) (fun qz188 => ?_)
        · skip
          refine S_n g 1 (pc' := 196) (lv' := [(0, .ref (ad 13))]) (st' := [.int (nI 0)]) rfl ?_
          show Sim X (YC ad z0 z1) 196 [(0, .ref (ad 13))] [.int (bI false)] (up2 (up2 (up2 (up2 (up2 I 13 4 (nI 115)) 13 5 (nI D.2.2)) 13 6 f2) 13 3 (bI S.1)) 13 2 (nI S.2)) J A B 0 0
          exact rtZ rt rfl rfl (rc_of (by rw [← haa]; exact han) (by rw [← haa]; exact (by rw [hS]; exact ag_1 (f2 := 0) (w := 1) (by rw [hch]; rfl) (by rw [hch]; rfl) (by rw [hD]; exact num_1))) (by rw [hS]; exact rgS_b hDb.1) (by rw [← haa, hch] <;> rfl) (fun _ => rfl) (fun _ e => absurd e (by rw [← haa, hch]; decide)) (by rw [qz188]; rfl))
        · skip
          refine S_n g 2 (pc' := 196) (lv' := [(0, .ref (ad 13))]) (st' := [.int (nI 1)]) rfl ?_
          show Sim X (YC ad z0 z1) 196 [(0, .ref (ad 13))] [.int (bI true)] (up2 (up2 (up2 (up2 (up2 I 13 4 (nI 115)) 13 5 (nI D.2.2)) 13 6 f2) 13 3 (bI S.1)) 13 2 (nI S.2)) J A B 0 0
          exact rtZ rt rfl rfl (rc_of (by rw [← haa]; exact han) (by rw [← haa]; exact (by rw [hS]; exact ag_1 (f2 := 0) (w := 1) (by rw [hch]; rfl) (by rw [hch]; rfl) (by rw [hD]; exact num_1))) (by rw [hS]; exact rgS_b hDb.1) (by rw [← haa, hch] <;> rfl) (fun _ => rfl) (fun _ e => absurd e (by rw [← haa, hch]; decide)) (by rw [qz188]; rfl))
      · skip
        refine S_swIn g (off := 125) (tgt := 154) rfl (by decide) (by decide) rfl rfl ?_
        refine S_n g 2 (pc' := 156) (lv' := [(0, .ref (ad 13))]) (st' := [.ref (ad 13), .ref (ad 13)]) rfl ?_
        refine S_getI g (i := 13) (c := 4) (k := 2) (by decide) (by decide) rfl rfl fl_X4_19 rfl ?_
        show Sim X (YC ad z0 z1) 159 [(0, .ref (ad 13))] [.int (nI a), .ref (ad 13)] (up2 (up2 (up2 (up2 (up2 I 13 4 (nI 116)) 13 5 f1) 13 6 f2) 13 3 (bI false)) 13 2 (nI a)) J A B 0 0
        refine S_n g 2 (pc' := 161) (lv' := [(0, .ref (ad 13))]) (st' := [.int ((nI a) + (nI 1)), .ref (ad 13)]) rfl ?_
        rw [nI_add a 1]
        refine S_putI g (i := 13) (c := 4) (k := 2) (kd := 0) (by decide) (by decide) rfl rfl (by decide) fw_X4_19 rfl rfl rfl ?_
        rw [up2_c1 (i := 13) (k := 2)]
        refine S_n g 2 (pc' := 166) (lv' := [(0, .ref (ad 13))]) (st' := [.ref (ad 13), .ref (ad 13)]) rfl ?_
        obtain ⟨D, hD⟩ : ∃ D, D = rgN tc n false (a + 1) := ⟨_, rfl⟩
        refine S_cV g (i := 13) (As := []) (st := [.ref (ad 13)]) (tx_readNumber ad z0 z1 (up2 (up2 (up2 I 13 4 (nI 116)) 13 5 f1) 13 6 f2) J A B tc n (a + 1) hN hT (by omega) false) mw_X4_readNumber lk_X4_52 ⟨Nat.le_of_ble_eq_true rfl, Nat.le_of_ble_eq_true rfl⟩ (by decide) (by decide) rfl rfl (Nat.le_of_ble_eq_true rfl) ⟨Nat.le_of_ble_eq_true rfl, Nat.le_of_ble_eq_true rfl⟩ rfl ?_
        rw [← hD]
        show Sim X (YC ad z0 z1) 169 [(0, .ref (ad 13))] [.int (nI D.2.2), .ref (ad 13)] (up2 (up2 (up2 (up2 (up2 I 13 4 (nI 116)) 13 5 f1) 13 6 f2) 13 3 (bI D.1)) 13 2 (nI D.2.1)) J A B 0 0
        have hDb := rgN_b (tc := tc) (n := n) (st := false) (a := a + 1) (by omega)
        rw [← hD] at hDb
        refine S_putI g (i := 13) (c := 4) (k := 5) (kd := 0) (by decide) (by decide) rfl rfl (by decide) fw_X4_46 rfl rfl rfl ?_
        rw [up2_c2 (i := 13) (k := 5) (j := 13) (l := 2) (Or.inr (by decide))]
        rw [up2_c2 (i := 13) (k := 5) (j := 13) (l := 3) (Or.inr (by decide))]
        rw [up2_c2 (i := 13) (k := 5) (j := 13) (l := 6) (Or.inr (by decide))]
        rw [up2_c1 (i := 13) (k := 5)]
        refine S_n g 2 (pc' := 181) (lv' := [(0, .ref (ad 13))]) (st' := [.ref (ad 13)]) rfl ?_
        obtain ⟨S, hS⟩ : ∃ S, S = rgS tc n D.1 (D.2.1) := ⟨_, rfl⟩
        refine S_cV g (i := 13) (As := []) (st := []) (tx_readSemi ad z0 z1 (up2 (up2 (up2 I 13 4 (nI 116)) 13 5 (nI D.2.2)) 13 6 f2) J A B tc n (D.2.1) hN hT (by omega) D.1) mw_X4_readSemicolon lk_X4_55 ⟨Nat.le_of_ble_eq_true rfl, Nat.le_of_ble_eq_true rfl⟩ (by decide) (by decide) rfl rfl (Nat.le_of_ble_eq_true rfl) ⟨Nat.le_of_ble_eq_true rfl, Nat.le_of_ble_eq_true rfl⟩ rfl ?_
        rw [← hS]
        show Sim X (YC ad z0 z1) 184 [(0, .ref (ad 13))] [] (up2 (up2 (up2 (up2 (up2 I 13 4 (nI 116)) 13 5 (nI D.2.2)) 13 6 f2) 13 3 (bI S.1)) 13 2 (nI S.2)) J A B 0 0
        refine S_n g 1 (pc' := 185) (lv' := [(0, .ref (ad 13))]) (st' := [.ref (ad 13)]) rfl ?_
        refine S_getZ g (i := 13) (c := 4) (k := 3) (by decide) (by decide) rfl rfl fl_X4_22 rfl ?_
        show Sim X (YC ad z0 z1) 188 [(0, .ref (ad 13))] [.int (bI S.1)] (up2 (up2 (up2 (up2 (up2 I 13 4 (nI 116)) 13 5 (nI D.2.2)) 13 6 f2) 13 3 (bI S.1)) 13 2 (nI S.2)) J A B 0 0
        refine S_ifB_ne g (tgt := 195) rfl (by decide) (fun qz188 => ?_) (fun qz188 => ?_)
        · skip
          refine S_n g 1 (pc' := 196) (lv' := [(0, .ref (ad 13))]) (st' := [.int (nI 0)]) rfl ?_
          show Sim X (YC ad z0 z1) 196 [(0, .ref (ad 13))] [.int (bI false)] (up2 (up2 (up2 (up2 (up2 I 13 4 (nI 116)) 13 5 (nI D.2.2)) 13 6 f2) 13 3 (bI S.1)) 13 2 (nI S.2)) J A B 0 0
          exact rtZ rt rfl rfl (rc_of (by rw [← haa]; exact han) (by rw [← haa]; exact (by rw [hS]; exact ag_1 (f2 := 0) (w := 2) (by rw [hch]; rfl) (by rw [hch]; rfl) (by rw [hD]; exact num_2))) (by rw [hS]; exact rgS_b hDb) (by rw [← haa, hch] <;> rfl) (fun _ => rfl) (fun _ e => absurd e (by rw [← haa, hch]; decide)) (by rw [qz188]; rfl))
        · skip
          refine S_n g 2 (pc' := 196) (lv' := [(0, .ref (ad 13))]) (st' := [.int (nI 1)]) rfl ?_
          show Sim X (YC ad z0 z1) 196 [(0, .ref (ad 13))] [.int (bI true)] (up2 (up2 (up2 (up2 (up2 I 13 4 (nI 116)) 13 5 (nI D.2.2)) 13 6 f2) 13 3 (bI S.1)) 13 2 (nI S.2)) J A B 0 0
          exact rtZ rt rfl rfl (rc_of (by rw [← haa]; exact han) (by rw [← haa]; exact (by rw [hS]; exact ag_1 (f2 := 0) (w := 2) (by rw [hch]; rfl) (by rw [hch]; rfl) (by rw [hD]; exact num_2))) (by rw [hS]; exact rgS_b hDb) (by rw [← haa, hch] <;> rfl) (fun _ => rfl) (fun _ e => absurd e (by rw [← haa, hch]; decide)) (by rw [qz188]; rfl))
      · skip
        refine S_swIn g (off := 146) (tgt := 175) rfl (by decide) (by decide) rfl rfl ?_
        refine S_n g 2 (pc' := 177) (lv' := [(0, .ref (ad 13))]) (st' := [.int (nI 1), .ref (ad 13)]) rfl ?_
        refine S_putI g (i := 13) (c := 4) (k := 3) (kd := 3) (by decide) (by decide) rfl rfl (by decide) fw_X4_22 rfl rfl rfl ?_
        rw [up2_c2 (i := 13) (k := 3) (j := 13) (l := 2) (Or.inr (by decide))]
        rw [up2_c1 (i := 13) (k := 3)]
        refine S_n g 1 (pc' := 181) (lv' := [(0, .ref (ad 13))]) (st' := [.ref (ad 13)]) rfl ?_
        obtain ⟨S, hS⟩ : ∃ S, S = rgS tc n true (a) := ⟨_, rfl⟩
        refine S_cV g (i := 13) (As := []) (st := []) (tx_readSemi ad z0 z1 (up2 (up2 (up2 I 13 4 (nI 117)) 13 5 f1) 13 6 f2) J A B tc n (a) hN hT (by omega) true) mw_X4_readSemicolon lk_X4_55 ⟨Nat.le_of_ble_eq_true rfl, Nat.le_of_ble_eq_true rfl⟩ (by decide) (by decide) rfl rfl (Nat.le_of_ble_eq_true rfl) ⟨Nat.le_of_ble_eq_true rfl, Nat.le_of_ble_eq_true rfl⟩ rfl ?_
        rw [← hS]
        show Sim X (YC ad z0 z1) 184 [(0, .ref (ad 13))] [] (up2 (up2 (up2 (up2 (up2 I 13 4 (nI 117)) 13 5 f1) 13 6 f2) 13 3 (bI S.1)) 13 2 (nI S.2)) J A B 0 0
        have hS0 : S = (true, a) := by rw [hS, rg_t]
        refine S_n g 1 (pc' := 185) (lv' := [(0, .ref (ad 13))]) (st' := [.ref (ad 13)]) rfl ?_
        refine S_getZ g (i := 13) (c := 4) (k := 3) (by decide) (by decide) rfl rfl fl_X4_22 rfl ?_
        show Sim X (YC ad z0 z1) 188 [(0, .ref (ad 13))] [.int (bI S.1)] (up2 (up2 (up2 (up2 (up2 I 13 4 (nI 117)) 13 5 f1) 13 6 f2) 13 3 (bI S.1)) 13 2 (nI S.2)) J A B 0 0
        refine S_ifB_ne g (tgt := 195) rfl (by decide) (fun qz188 => ?_) (fun qz188 => ?_)
        · skip
          refine S_n g 1 (pc' := 196) (lv' := [(0, .ref (ad 13))]) (st' := [.int (nI 0)]) rfl ?_
          show Sim X (YC ad z0 z1) 196 [(0, .ref (ad 13))] [.int (bI false)] (up2 (up2 (up2 (up2 (up2 I 13 4 (nI 117)) 13 5 f1) 13 6 f2) 13 3 (bI S.1)) 13 2 (nI S.2)) J A B 0 0
          exact rtZ rt rfl rfl (rc_of (by rw [← haa]; exact han) (by rw [← haa]; exact (by rw [hS0]; exact ag_0 (f1 := 0) (f2 := 0) (by rw [hch] <;> rfl))) (by rw [hS0]; exact hbn) (by rw [← haa, hch] <;> rfl) (fun z => by rw [hS0] at z; exact btf z) (fun z => by rw [hS0] at z; exact btf z) (by rw [qz188]; rfl))
        · skip
          refine S_n g 2 (pc' := 196) (lv' := [(0, .ref (ad 13))]) (st' := [.int (nI 1)]) rfl ?_
          show Sim X (YC ad z0 z1) 196 [(0, .ref (ad 13))] [.int (bI true)] (up2 (up2 (up2 (up2 (up2 I 13 4 (nI 117)) 13 5 f1) 13 6 f2) 13 3 (bI S.1)) 13 2 (nI S.2)) J A B 0 0
          exact rtZ rt rfl rfl (rc_of (by rw [← haa]; exact han) (by rw [← haa]; exact (by rw [hS0]; exact ag_0 (f1 := 0) (f2 := 0) (by rw [hch] <;> rfl))) (by rw [hS0]; exact hbn) (by rw [← haa, hch] <;> rfl) (fun z => by rw [hS0] at z; exact btf z) (fun z => by rw [hS0] at z; exact btf z) (by rw [qz188]; rfl))
      · skip
        refine S_swIn g (off := 146) (tgt := 175) rfl (by decide) (by decide) rfl rfl ?_
        refine S_n g 2 (pc' := 177) (lv' := [(0, .ref (ad 13))]) (st' := [.int (nI 1), .ref (ad 13)]) rfl ?_
        refine S_putI g (i := 13) (c := 4) (k := 3) (kd := 3) (by decide) (by decide) rfl rfl (by decide) fw_X4_22 rfl rfl rfl ?_
        rw [up2_c2 (i := 13) (k := 3) (j := 13) (l := 2) (Or.inr (by decide))]
        rw [up2_c1 (i := 13) (k := 3)]
        refine S_n g 1 (pc' := 181) (lv' := [(0, .ref (ad 13))]) (st' := [.ref (ad 13)]) rfl ?_
        obtain ⟨S, hS⟩ : ∃ S, S = rgS tc n true (a) := ⟨_, rfl⟩
        refine S_cV g (i := 13) (As := []) (st := []) (tx_readSemi ad z0 z1 (up2 (up2 (up2 I 13 4 (nI 118)) 13 5 f1) 13 6 f2) J A B tc n (a) hN hT (by omega) true) mw_X4_readSemicolon lk_X4_55 ⟨Nat.le_of_ble_eq_true rfl, Nat.le_of_ble_eq_true rfl⟩ (by decide) (by decide) rfl rfl (Nat.le_of_ble_eq_true rfl) ⟨Nat.le_of_ble_eq_true rfl, Nat.le_of_ble_eq_true rfl⟩ rfl ?_
        rw [← hS]
        show Sim X (YC ad z0 z1) 184 [(0, .ref (ad 13))] [] (up2 (up2 (up2 (up2 (up2 I 13 4 (nI 118)) 13 5 f1) 13 6 f2) 13 3 (bI S.1)) 13 2 (nI S.2)) J A B 0 0
        have hS0 : S = (true, a) := by rw [hS, rg_t]
        refine S_n g 1 (pc' := 185) (lv' := [(0, .ref (ad 13))]) (st' := [.ref (ad 13)]) rfl ?_
        refine S_getZ g (i := 13) (c := 4) (k := 3) (by decide) (by decide) rfl rfl fl_X4_22 rfl ?_
        show Sim X (YC ad z0 z1) 188 [(0, .ref (ad 13))] [.int (bI S.1)] (up2 (up2 (up2 (up2 (up2 I 13 4 (nI 118)) 13 5 f1) 13 6 f2) 13 3 (bI S.1)) 13 2 (nI S.2)) J A B 0 0
        refine S_ifB_ne g (tgt := 195) rfl (by decide) (fun qz188 => ?_) (fun qz188 => ?_)
        · skip
          refine S_n g 1 (pc' := 196) (lv' := [(0, .ref (ad 13))]) (st' := [.int (nI 0)]) rfl ?_
          show Sim X (YC ad z0 z1) 196 [(0, .ref (ad 13))] [.int (bI false)] (up2 (up2 (up2 (up2 (up2 I 13 4 (nI 118)) 13 5 f1) 13 6 f2) 13 3 (bI S.1)) 13 2 (nI S.2)) J A B 0 0
          exact rtZ rt rfl rfl (rc_of (by rw [← haa]; exact han) (by rw [← haa]; exact (by rw [hS0]; exact ag_0 (f1 := 0) (f2 := 0) (by rw [hch] <;> rfl))) (by rw [hS0]; exact hbn) (by rw [← haa, hch] <;> rfl) (fun z => by rw [hS0] at z; exact btf z) (fun z => by rw [hS0] at z; exact btf z) (by rw [qz188]; rfl))
        · skip
          refine S_n g 2 (pc' := 196) (lv' := [(0, .ref (ad 13))]) (st' := [.int (nI 1)]) rfl ?_
          show Sim X (YC ad z0 z1) 196 [(0, .ref (ad 13))] [.int (bI true)] (up2 (up2 (up2 (up2 (up2 I 13 4 (nI 118)) 13 5 f1) 13 6 f2) 13 3 (bI S.1)) 13 2 (nI S.2)) J A B 0 0
          exact rtZ rt rfl rfl (rc_of (by rw [← haa]; exact han) (by rw [← haa]; exact (by rw [hS0]; exact ag_0 (f1 := 0) (f2 := 0) (by rw [hch] <;> rfl))) (by rw [hS0]; exact hbn) (by rw [← haa, hch] <;> rfl) (fun z => by rw [hS0] at z; exact btf z) (fun z => by rw [hS0] at z; exact btf z) (by rw [qz188]; rfl))
      · skip
        refine S_swIn g (off := 75) (tgt := 104) rfl (by decide) (by decide) rfl rfl ?_
        refine S_n g 2 (pc' := 106) (lv' := [(0, .ref (ad 13))]) (st' := [.ref (ad 13), .ref (ad 13)]) rfl ?_
        refine S_getI g (i := 13) (c := 4) (k := 2) (by decide) (by decide) rfl rfl fl_X4_19 rfl ?_
        show Sim X (YC ad z0 z1) 109 [(0, .ref (ad 13))] [.int (nI a), .ref (ad 13)] (up2 (up2 (up2 (up2 (up2 I 13 4 (nI 119)) 13 5 f1) 13 6 f2) 13 3 (bI false)) 13 2 (nI a)) J A B 0 0
        refine S_n g 2 (pc' := 111) (lv' := [(0, .ref (ad 13))]) (st' := [.int ((nI a) + (nI 1)), .ref (ad 13)]) rfl ?_
        rw [nI_add a 1]
        refine S_putI g (i := 13) (c := 4) (k := 2) (kd := 0) (by decide) (by decide) rfl rfl (by decide) fw_X4_19 rfl rfl rfl ?_
        rw [up2_c1 (i := 13) (k := 2)]
        refine S_n g 2 (pc' := 116) (lv' := [(0, .ref (ad 13))]) (st' := [.ref (ad 13), .ref (ad 13)]) rfl ?_
        obtain ⟨D, hD⟩ : ∃ D, D = rgD tc n false (a + 1) := ⟨_, rfl⟩
        refine S_cV g (i := 13) (As := []) (st := [.ref (ad 13)]) (tx_readDigit ad z0 z1 (up2 (up2 (up2 I 13 4 (nI 119)) 13 5 f1) 13 6 f2) J A B tc n (a + 1) hN hT (by omega) false) mw_X4_readDigit lk_X4_43 ⟨Nat.le_of_ble_eq_true rfl, Nat.le_of_ble_eq_true rfl⟩ (by decide) (by decide) rfl rfl (Nat.le_of_ble_eq_true rfl) ⟨Nat.le_of_ble_eq_true rfl, Nat.le_of_ble_eq_true rfl⟩ rfl ?_
        rw [← hD]
        show Sim X (YC ad z0 z1) 119 [(0, .ref (ad 13))] [.int (nI D.2.2), .ref (ad 13)] (up2 (up2 (up2 (up2 (up2 I 13 4 (nI 119)) 13 5 f1) 13 6 f2) 13 3 (bI D.1)) 13 2 (nI D.2.1)) J A B 0 0
        have hDb := rgD_b (tc := tc) (n := n) (st := false) (a := a + 1) (by omega)
        rw [← hD] at hDb
        refine S_putI g (i := 13) (c := 4) (k := 5) (kd := 0) (by decide) (by decide) rfl rfl (by decide) fw_X4_46 rfl rfl rfl ?_
        rw [up2_c2 (i := 13) (k := 5) (j := 13) (l := 2) (Or.inr (by decide))]
        rw [up2_c2 (i := 13) (k := 5) (j := 13) (l := 3) (Or.inr (by decide))]
        rw [up2_c2 (i := 13) (k := 5) (j := 13) (l := 6) (Or.inr (by decide))]
        rw [up2_c1 (i := 13) (k := 5)]
        refine S_n g 2 (pc' := 124) (lv' := [(0, .ref (ad 13))]) (st' := [.ref (ad 13), .ref (ad 13)]) rfl ?_
        obtain ⟨E, hE⟩ : ∃ E, E = rgD tc n D.1 (D.2.1) := ⟨_, rfl⟩
        refine S_cV g (i := 13) (As := []) (st := [.ref (ad 13)]) (tx_readDigit ad z0 z1 (up2 (up2 (up2 I 13 4 (nI 119)) 13 5 (nI D.2.2)) 13 6 f2) J A B tc n (D.2.1) hN hT (by omega) D.1) mw_X4_readDigit lk_X4_43 ⟨Nat.le_of_ble_eq_true rfl, Nat.le_of_ble_eq_true rfl⟩ (by decide) (by decide) rfl rfl (Nat.le_of_ble_eq_true rfl) ⟨Nat.le_of_ble_eq_true rfl, Nat.le_of_ble_eq_true rfl⟩ rfl ?_
        rw [← hE]
        show Sim X (YC ad z0 z1) 127 [(0, .ref (ad 13))] [.int (nI E.2.2), .ref (ad 13)] (up2 (up2 (up2 (up2 (up2 I 13 4 (nI 119)) 13 5 (nI D.2.2)) 13 6 f2) 13 3 (bI E.1)) 13 2 (nI E.2.1)) J A B 0 0
        have hEb := rgD_b (tc := tc) (n := n) (st := D.1) (a := D.2.1) hDb.1
        rw [← hE] at hEb
        refine S_putI g (i := 13) (c := 4) (k := 6) (kd := 0) (by decide) (by decide) rfl rfl (by decide) fw_X4_49 rfl rfl rfl ?_
        rw [up2_c2 (i := 13) (k := 6) (j := 13) (l := 2) (Or.inr (by decide))]
        rw [up2_c2 (i := 13) (k := 6) (j := 13) (l := 3) (Or.inr (by decide))]
        rw [up2_c1 (i := 13) (k := 6)]
        refine S_n g 2 (pc' := 181) (lv' := [(0, .ref (ad 13))]) (st' := [.ref (ad 13)]) rfl ?_
        obtain ⟨S, hS⟩ : ∃ S, S = rgS tc n E.1 (E.2.1) := ⟨_, rfl⟩
        refine S_cV g (i := 13) (As := []) (st := []) (tx_readSemi ad z0 z1 (up2 (up2 (up2 I 13 4 (nI 119)) 13 5 (nI D.2.2)) 13 6 (nI E.2.2)) J A B tc n (E.2.1) hN hT (by omega) E.1) mw_X4_readSemicolon lk_X4_55 ⟨Nat.le_of_ble_eq_true rfl, Nat.le_of_ble_eq_true rfl⟩ (by decide) (by decide) rfl rfl (Nat.le_of_ble_eq_true rfl) ⟨Nat.le_of_ble_eq_true rfl, Nat.le_of_ble_eq_true rfl⟩ rfl ?_
        rw [← hS]
        show Sim X (YC ad z0 z1) 184 [(0, .ref (ad 13))] [] (up2 (up2 (up2 (up2 (up2 I 13 4 (nI 119)) 13 5 (nI D.2.2)) 13 6 (nI E.2.2)) 13 3 (bI S.1)) 13 2 (nI S.2)) J A B 0 0
        refine S_n g 1 (pc' := 185) (lv' := [(0, .ref (ad 13))]) (st' := [.ref (ad 13)]) rfl ?_
        refine S_getZ g (i := 13) (c := 4) (k := 3) (by decide) (by decide) rfl rfl fl_X4_22 rfl ?_
        show Sim X (YC ad z0 z1) 188 [(0, .ref (ad 13))] [.int (bI S.1)] (up2 (up2 (up2 (up2 (up2 I 13 4 (nI 119)) 13 5 (nI D.2.2)) 13 6 (nI E.2.2)) 13 3 (bI S.1)) 13 2 (nI S.2)) J A B 0 0
        refine S_ifB_ne g (tgt := 195) rfl (by decide) (fun qz188 => ?_) (fun qz188 => ?_)
        · skip
          refine S_n g 1 (pc' := 196) (lv' := [(0, .ref (ad 13))]) (st' := [.int (nI 0)]) rfl ?_
          show Sim X (YC ad z0 z1) 196 [(0, .ref (ad 13))] [.int (bI false)] (up2 (up2 (up2 (up2 (up2 I 13 4 (nI 119)) 13 5 (nI D.2.2)) 13 6 (nI E.2.2)) 13 3 (bI S.1)) 13 2 (nI S.2)) J A B 0 0
          exact rtZ rt rfl rfl (rc_of (by rw [← haa]; exact han) (by rw [← haa]; exact (by rw [hS, hE, hD]; exact ag_2 hch)) (by rw [hS]; exact rgS_b hEb.1) (by rw [← haa, hch] <;> rfl) (fun _ => by rw [hD]) (fun _ _ => by rw [hE, hD]) (by rw [qz188]; rfl))
        · skip
          refine S_n g 2 (pc' := 196) (lv' := [(0, .ref (ad 13))]) (st' := [.int (nI 1)]) rfl ?_
          show Sim X (YC ad z0 z1) 196 [(0, .ref (ad 13))] [.int (bI true)] (up2 (up2 (up2 (up2 (up2 I 13 4 (nI 119)) 13 5 (nI D.2.2)) 13 6 (nI E.2.2)) 13 3 (bI S.1)) 13 2 (nI S.2)) J A B 0 0
          exact rtZ rt rfl rfl (rc_of (by rw [← haa]; exact han) (by rw [← haa]; exact (by rw [hS, hE, hD]; exact ag_2 hch)) (by rw [hS]; exact rgS_b hEb.1) (by rw [← haa, hch] <;> rfl) (fun _ => by rw [hD]) (fun _ _ => by rw [hE, hD]) (by rw [qz188]; rfl))
    · skip
      have hto : (nI t).toInt < 105 ∨ 119 < (nI t).toInt := by rw [nI_toInt (by omega)]; omega
      have hag : agN (t + 1) = 0 := by unfold agN; rw [if_neg (by omega), if_neg (by omega)]
      refine S_swOut g (tgt := 175) rfl hto rfl ?_
      refine S_n g 2 (pc' := 177) (lv' := [(0, .ref (ad 13))]) (st' := [.int (nI 1), .ref (ad 13)]) rfl ?_
      refine S_putI g (i := 13) (c := 4) (k := 3) (kd := 3) (by decide) (by decide) rfl rfl (by decide) fw_X4_22 rfl rfl rfl ?_
      rw [up2_c2 (i := 13) (k := 3) (j := 13) (l := 2) (Or.inr (by decide))]
      rw [up2_c1 (i := 13) (k := 3)]
      refine S_n g 1 (pc' := 181) (lv' := [(0, .ref (ad 13))]) (st' := [.ref (ad 13)]) rfl ?_
      obtain ⟨S, hS⟩ : ∃ S, S = rgS tc n true (a) := ⟨_, rfl⟩
      refine S_cV g (i := 13) (As := []) (st := []) (tx_readSemi ad z0 z1 (up2 (up2 (up2 I 13 4 (nI t)) 13 5 f1) 13 6 f2) J A B tc n (a) hN hT (by omega) true) mw_X4_readSemicolon lk_X4_55 ⟨Nat.le_of_ble_eq_true rfl, Nat.le_of_ble_eq_true rfl⟩ (by decide) (by decide) rfl rfl (Nat.le_of_ble_eq_true rfl) ⟨Nat.le_of_ble_eq_true rfl, Nat.le_of_ble_eq_true rfl⟩ rfl ?_
      rw [← hS]
      show Sim X (YC ad z0 z1) 184 [(0, .ref (ad 13))] [] (up2 (up2 (up2 (up2 (up2 I 13 4 (nI t)) 13 5 f1) 13 6 f2) 13 3 (bI S.1)) 13 2 (nI S.2)) J A B 0 0
      have hS0 : S = (true, a) := by rw [hS, rg_t]
      refine S_n g 1 (pc' := 185) (lv' := [(0, .ref (ad 13))]) (st' := [.ref (ad 13)]) rfl ?_
      refine S_getZ g (i := 13) (c := 4) (k := 3) (by decide) (by decide) rfl rfl fl_X4_22 rfl ?_
      show Sim X (YC ad z0 z1) 188 [(0, .ref (ad 13))] [.int (bI S.1)] (up2 (up2 (up2 (up2 (up2 I 13 4 (nI t)) 13 5 f1) 13 6 f2) 13 3 (bI S.1)) 13 2 (nI S.2)) J A B 0 0
      refine S_ifB_ne g (tgt := 195) rfl (by decide) (fun qz188 => ?_) (fun qz188 => ?_)
      · skip
        refine S_n g 1 (pc' := 196) (lv' := [(0, .ref (ad 13))]) (st' := [.int (nI 0)]) rfl ?_
        show Sim X (YC ad z0 z1) 196 [(0, .ref (ad 13))] [.int (bI false)] (up2 (up2 (up2 (up2 (up2 I 13 4 (nI t)) 13 5 f1) 13 6 f2) 13 3 (bI S.1)) 13 2 (nI S.2)) J A B 0 0
        exact rtZ rt rfl rfl (rc_of (by rw [← haa]; exact han) (by rw [← haa]; exact (by rw [hS0]; exact ag_0 (f1 := 0) (f2 := 0) (by rw [hch] ; exact hag))) (by rw [hS0]; exact hbn) (by rw [← haa, hch] <;> rfl) (fun z => by rw [hS0] at z; exact btf z) (fun z => by rw [hS0] at z; exact btf z) (by rw [qz188]; rfl))
      · skip
        refine S_n g 2 (pc' := 196) (lv' := [(0, .ref (ad 13))]) (st' := [.int (nI 1)]) rfl ?_
        show Sim X (YC ad z0 z1) 196 [(0, .ref (ad 13))] [.int (bI true)] (up2 (up2 (up2 (up2 (up2 I 13 4 (nI t)) 13 5 f1) 13 6 f2) 13 3 (bI S.1)) 13 2 (nI S.2)) J A B 0 0
        exact rtZ rt rfl rfl (rc_of (by rw [← haa]; exact han) (by rw [← haa]; exact (by rw [hS0]; exact ag_0 (f1 := 0) (f2 := 0) (by rw [hch] ; exact hag))) (by rw [hS0]; exact hbn) (by rw [← haa, hch] <;> rfl) (fun z => by rw [hS0] at z; exact btf z) (fun z => by rw [hS0] at z; exact btf z) (by rw [qz188]; rfl))
  · skip
    refine S_n g 1 (pc' := 16) (lv' := [(0, .ref (ad 13))]) (st' := [.int (nI 0)]) rfl ?_
    show Sim X (YC ad z0 z1) 16 [(0, .ref (ad 13))] [.int (bI false)] (up2 (up2 (up2 (up2 (up2 I 13 4 vb) 13 5 f1) 13 6 f2) 13 3 (bI false)) 13 2 (nI a)) J A B 0 0
    exact rtZ rt rfl rfl (⟨rfl, rfl, rfl, rfl, by rw [if_neg (by omega)]; exact ⟨rfl, vb, f1, f2, by rw [← haa]; rfl⟩⟩)

theorem rdH_0 (I : FI) (st : Bool) (a : Nat) : rdH I (I 13 4) (I 13 5) (I 13 6) st a = up2 (up2 I 13 3 (bI st)) 13 2 (nI a) := by
  unfold rdH
  rw [up2_id, up2_id, up2_id]
theorem rdH_k {I : FI} {vb f1 f2 : Int32} {st : Bool} {a i k : Nat} (h : i ≠ 13 ∨ k < 2) : rdH I vb f1 f2 st a i k = I i k := by
  unfold rdH
  rw [u2j (by omega), u2j (by omega), u2j (by omega), u2j (by omega), u2j (by omega)]
theorem rdH_rd (I : FI) (vb f1 f2 g1 g2 g3 : Int32) (st s2 : Bool) (a b : Nat) : rdH (rdH I vb f1 f2 st a) g1 g2 g3 s2 b = rdH I g1 g2 g3 s2 b := by
  funext i k
  unfold rdH
  by_cases h : i = 13
  · subst h
    by_cases h2 : k = 2
    · subst h2; rw [up2_same, up2_same]
    · rw [u2j (Or.inr h2), u2j (Or.inr h2)]
      by_cases h3 : k = 3
      · subst h3; rw [up2_same, up2_same]
      · rw [u2j (Or.inr h3), u2j (Or.inr h3)]
        by_cases h6 : k = 6
        · subst h6; rw [up2_same, up2_same]
        · rw [u2j (Or.inr h6), u2j (Or.inr h6)]
          by_cases h5 : k = 5
          · subst h5; rw [up2_same, up2_same]
          · rw [u2j (Or.inr h5), u2j (Or.inr h5)]
            by_cases h4 : k = 4
            · subst h4; rw [up2_same, up2_same]
            · rw [u2j (Or.inr h4), u2j (Or.inr h4), u2j (Or.inr h2), u2j (Or.inr h3), u2j (Or.inr h6), u2j (Or.inr h5), u2j (Or.inr h4)]
  · rw [u2j (Or.inl h), u2j (Or.inl h), u2j (Or.inl h), u2j (Or.inl h), u2j (Or.inl h), u2j (Or.inl h), u2j (Or.inl h), u2j (Or.inl h), u2j (Or.inl h), u2j (Or.inl h), u2j (Or.inl h), u2j (Or.inl h), u2j (Or.inl h), u2j (Or.inl h), u2j (Or.inl h)]

set_option maxRecDepth 100000 in
set_option maxHeartbeats 4000000 in
theorem tx_fault (ad : Nat → Nat) (z0 z1 : Bool) (I : FI) (J : FJ) (A : FI) (B : FJ) (tc : Nat → Nat) (n : Nat) (hN : I 13 1 = nI n) (hT : RTc A tc n) : Spec M_X4_firstFault [.ref (ad 13)] (YC ad z0 z1) I J A B (fun v' Y' I' J' A' B' => v' = some (.int (hI (o_fault tc n).1)) ∧ Y' = YC ad z0 z1 ∧ J' = J ∧ A' = A ∧ B' = B ∧ ∃ vb f1 f2 st a, I' = rdH I vb f1 f2 st a) := by
  have hn8 := hT.1
  refine Spec_of (by decide) tk_X4_firstFault (Nat.le_of_ble_eq_true rfl) (fun X g rt => ?_)
  show Sim X (YC ad z0 z1) 0 [(0, .ref (ad 13))] [] I J A B 0 0
  refine S_n g 1 (pc' := 1) (lv' := [(0, .ref (ad 13))]) (st' := [.ref (ad 13)]) rfl ?_
  refine S_cV g (i := 13) (As := []) (st := []) (tx_rewind ad z0 z1 I J A B) mw_X4_rewind lk_X4_26 ⟨Nat.le_of_ble_eq_true rfl, Nat.le_of_ble_eq_true rfl⟩ (by decide) (by decide) rfl rfl (Nat.le_of_ble_eq_true rfl) ⟨Nat.le_of_ble_eq_true rfl, Nat.le_of_ble_eq_true rfl⟩ rfl ?_
  show Sim X (YC ad z0 z1) 4 [(0, .ref (ad 13))] [] (up2 (up2 I 13 3 (bI false)) 13 2 (nI 0)) J A B 0 0
  rw [← rdH_0]
  show Sim X (YC ad z0 z1) 4 [(0, .ref (ad 13))] [] (rdH I (I 13 4) (I 13 5) (I 13 6) false 0) J A B 0 0
  refine S_n g 2 (pc' := 6) (lv' := [(0, .ref (ad 13)), (1, .int (nI 0))]) (st' := []) rfl ?_
  have lp : ∀ (nn : Nat) (p : Nat) (kk : Nat) (L : List (Nat × Nat × Nat)) (vb : Int32) (f1 : Int32) (f2 : Int32), n - bl tc n p = nn → (p ≤ n) → (3 * L.length ≤ bl tc n p) → (n < bl tc n p + kk) → (flt tc n kk (bl tc n p) L = o_fault tc n) → Sim X (YC ad z0 z1) 6 [(0, .ref (ad 13)), (1, .int (nI L.length))] [] (rdH I vb f1 f2 false p) J A B 0 0 := by
    intro nn
    induction nn using Nat.strongRecOn with
    | ind nn ih =>
      intro p kk L vb f1 f2 hmz hp hL hk hfl
      have lp := ih
      have hbn := bl_le (tc := tc) hp
      refine S_n g 2 (pc' := 9) (lv' := [(0, .ref (ad 13)), (1, .int (nI L.length))]) (st' := [.int (nI 80), .int (nI L.length)]) rfl ?_
      refine S_icN_ge g (tgt := 25) (by omega) (by omega) rfl (by decide) (fun qz9 => ?_) (fun qz9 => ?_)
      · skip
        omega
      · skip
        refine S_n g 1 (pc' := 13) (lv' := [(0, .ref (ad 13)), (1, .int (nI L.length))]) (st' := [.ref (ad 13)]) rfl ?_
        show Sim X (YC ad z0 z1) 13 [(0, .ref (ad 13)), (1, .int (nI L.length))] [.ref (ad 13)] (up2 (up2 (up2 (up2 (up2 I 13 4 vb) 13 5 f1) 13 6 f2) 13 3 (bI false)) 13 2 (nI p)) J A B 0 0
        refine S_callV g (i := 13) (As := []) (st := []) (tx_readCall ad z0 z1 I J A B tc n p hN hT hp vb f1 f2) mw_X4_readCall lk_X4_29 ⟨Nat.le_of_ble_eq_true rfl, Nat.le_of_ble_eq_true rfl⟩ (by decide) (by decide) rfl rfl (Nat.le_of_ble_eq_true rfl) ⟨Nat.le_of_ble_eq_true rfl, Nat.le_of_ble_eq_true rfl⟩ rfl (fun v' Y' I9 J9 A9 B9 hpo => ?_)
        obtain ⟨rfl, e1, e2, e3, hif⟩ := hpo
        rw [e1, e2, e3]
        obtain ⟨w9, hw9⟩ : ∃ w9, v' = some (.int w9) := by split at hif; (· split at hif; (· exact ⟨_, hif.1⟩); (· exact ⟨_, hif.1⟩)); (· exact ⟨_, hif.1⟩)
        subst hw9
        show Sim X (YC ad z0 z1) 16 [(0, .ref (ad 13)), (1, .int (nI L.length))] [.int w9] I9 J A B 0 0
        by_cases han : bl tc n p < n
        · skip
          rw [if_pos han] at hif
          have hrb := rdC_b (tc := tc) hbn
          by_cases hok : (rdC tc n (bl tc n p)).1 = true
          · skip
            rw [if_pos hok] at hif
            obtain ⟨hv, q, g2, hI9, hq, hbq, _⟩ := hif
            injection hv with hv
            injection hv with hv
            rw [hv, hI9]
            show Sim X (YC ad z0 z1) 16 [(0, .ref (ad 13)), (1, .int (nI L.length))] [.int (bI true)] (rdH I (nI (rdC tc n (bl tc n p)).2.2.1) (nI (rdC tc n (bl tc n p)).2.2.2.1) g2 false q) J A B 0 0
            refine S_ifB_eq g (tgt := 25) rfl (by decide) (fun qz16 => ?_) (fun qz16 => ?_)
            · skip
              exact absurd qz16 (by decide)
            · skip
              refine S_n g 1 (pc' := 22) (lv' := [(0, .ref (ad 13)), (1, .int ((nI L.length) + nI 1))]) (st' := []) rfl ?_
              rw [nI_add L.length 1]
              refine S_n g 1 (pc' := 6) (lv' := [(0, .ref (ad 13)), (1, .int (nI (L.length + 1)))]) (st' := []) rfl ?_
              have hfl2 : flt tc n (kk - 1) (bl tc n q) (L ++ [(rdC tc n (bl tc n p)).2.2]) = o_fault tc n := by rw [← hfl, show kk = (kk - 1) + 1 by omega, flt, if_pos han, if_pos hok, hbq]; rfl
              have h3r := hrb.2.2 hok
              refine S_lveq (lv' := [(0, .ref (ad 13)), (1, .int (nI (L ++ [(rdC tc n (bl tc n p)).2.2]).length))]) (by rw [(show nI (L.length + 1) = nI (L ++ [(rdC tc n (bl tc n p)).2.2]).length from by rw [List.length_append]; rfl).symm]) ?_
              exact lp (n - bl tc n q) (by omega) q (kk - 1) (L ++ [(rdC tc n (bl tc n p)).2.2]) (nI (rdC tc n (bl tc n p)).2.2.1) (nI (rdC tc n (bl tc n p)).2.2.2.1) g2 rfl hq (by rw [List.length_append, List.length_singleton, hbq]; omega) (by omega) hfl2
          · skip
            rw [if_neg hok] at hif
            obtain ⟨hv, vb3, g1, g2, hI9⟩ := hif
            injection hv with hv
            injection hv with hv
            rw [hv, hI9]
            show Sim X (YC ad z0 z1) 16 [(0, .ref (ad 13)), (1, .int (nI L.length))] [.int (bI false)] (rdH I vb3 g1 g2 true (rdC tc n (bl tc n p)).2.1) J A B 0 0
            have hof : o_fault tc n = ((rdC tc n (bl tc n p)).2.1 + 1, (rdC tc n (bl tc n p)).2.1, L) := by rw [← hfl, show kk = (kk - 1) + 1 by omega, flt, if_pos han, if_neg hok]
            refine S_ifB_eq g (tgt := 25) rfl (by decide) (fun qz16 => ?_) (fun qz16 => ?_)
            · skip
              show Sim X (YC ad z0 z1) 25 [(0, .ref (ad 13)), (1, .int (nI L.length))] [] (up2 (up2 (up2 (up2 (up2 I 13 4 vb3) 13 5 g1) 13 6 g2) 13 3 (bI true)) 13 2 (nI (rdC tc n (bl tc n p)).2.1)) J A B 0 0
              refine S_n g 1 (pc' := 26) (lv' := [(0, .ref (ad 13)), (1, .int (nI L.length))]) (st' := [.ref (ad 13)]) rfl ?_
              refine S_getZ g (i := 13) (c := 4) (k := 3) (by decide) (by decide) rfl rfl fl_X4_22 rfl ?_
              show Sim X (YC ad z0 z1) 29 [(0, .ref (ad 13)), (1, .int (nI L.length))] [.int (bI true)] (up2 (up2 (up2 (up2 (up2 I 13 4 vb3) 13 5 g1) 13 6 g2) 13 3 (bI true)) 13 2 (nI (rdC tc n (bl tc n p)).2.1)) J A B 0 0
              refine S_ifB_eq g (tgt := 39) rfl (by decide) (fun qz29 => ?_) (fun qz29 => ?_)
              · skip
                exact absurd qz29 (by decide)
              · skip
                refine S_n g 1 (pc' := 33) (lv' := [(0, .ref (ad 13)), (1, .int (nI L.length))]) (st' := [.ref (ad 13)]) rfl ?_
                refine S_getI g (i := 13) (c := 4) (k := 2) (by decide) (by decide) rfl rfl fl_X4_19 rfl ?_
                show Sim X (YC ad z0 z1) 36 [(0, .ref (ad 13)), (1, .int (nI L.length))] [.int (nI (rdC tc n (bl tc n p)).2.1)] (up2 (up2 (up2 (up2 (up2 I 13 4 vb3) 13 5 g1) 13 6 g2) 13 3 (bI true)) 13 2 (nI (rdC tc n (bl tc n p)).2.1)) J A B 0 0
                refine S_n g 1 (pc' := 40) (lv' := [(0, .ref (ad 13)), (1, .int (nI L.length))]) (st' := [.int (nI (rdC tc n (bl tc n p)).2.1)]) rfl ?_
                exact rtI rt rfl rfl (⟨by rw [hof, hI_pos (by omega)]; rfl, rfl, rfl, rfl, rfl, vb3, g1, g2, true, _, rfl⟩)
            · skip
              exact absurd qz16 (by decide)
        · skip
          rw [if_neg han] at hif
          obtain ⟨hv, vb3, g1, g2, hI9⟩ := hif
          injection hv with hv
          injection hv with hv
          rw [hv, hI9]
          show Sim X (YC ad z0 z1) 16 [(0, .ref (ad 13)), (1, .int (nI L.length))] [.int (bI false)] (rdH I vb3 g1 g2 false (bl tc n p)) J A B 0 0
          have hof : o_fault tc n = (0, bl tc n p, L) := by rw [← hfl, show kk = (kk - 1) + 1 by omega, flt, if_neg han]
          refine S_ifB_eq g (tgt := 25) rfl (by decide) (fun qz16 => ?_) (fun qz16 => ?_)
          · skip
            show Sim X (YC ad z0 z1) 25 [(0, .ref (ad 13)), (1, .int (nI L.length))] [] (up2 (up2 (up2 (up2 (up2 I 13 4 vb3) 13 5 g1) 13 6 g2) 13 3 (bI false)) 13 2 (nI (bl tc n p))) J A B 0 0
            refine S_n g 1 (pc' := 26) (lv' := [(0, .ref (ad 13)), (1, .int (nI L.length))]) (st' := [.ref (ad 13)]) rfl ?_
            refine S_getZ g (i := 13) (c := 4) (k := 3) (by decide) (by decide) rfl rfl fl_X4_22 rfl ?_
            show Sim X (YC ad z0 z1) 29 [(0, .ref (ad 13)), (1, .int (nI L.length))] [.int (bI false)] (up2 (up2 (up2 (up2 (up2 I 13 4 vb3) 13 5 g1) 13 6 g2) 13 3 (bI false)) 13 2 (nI (bl tc n p))) J A B 0 0
            refine S_ifB_eq g (tgt := 39) rfl (by decide) (fun qz29 => ?_) (fun qz29 => ?_)
            · skip
              refine S_n g 1 (pc' := 40) (lv' := [(0, .ref (ad 13)), (1, .int (nI L.length))]) (st' := [.int (-nI 1)]) rfl ?_
              exact rtI rt rfl rfl (⟨by rw [hof]; rfl, rfl, rfl, rfl, rfl, vb3, g1, g2, false, _, rfl⟩)
            · skip
              exact absurd qz29 (by decide)
          · skip
            exact absurd qz16 (by decide)
  exact lp _ 0 81 ([]) (I 13 4) (I 13 5) (I 13 6) rfl (Nat.zero_le _) (Nat.zero_le _) (by omega) rfl

set_option maxRecDepth 100000 in
set_option maxHeartbeats 4000000 in
theorem c_fault (ad : Nat → Nat) (z0 z1 : Bool) (I : FI) (J : FJ) (A : FI) (B : FJ) (tc : Nat → Nat) (n : Nat) (hN : I 13 1 = nI n) (hT : RTc A tc n) : Spec M_X8_fault [.ref (ad 0)] (YC ad z0 z1) I J A B (fun v' Y' I' J' A' B' => v' = some (.int (hI (o_fault tc n).1)) ∧ Y' = YC ad z0 z1 ∧ J' = J ∧ A' = A ∧ B' = B ∧ ∃ vb f1 f2 st a, I' = rdH I vb f1 f2 st a) := by
  refine Spec_of (by decide) tk_X8_fault (Nat.le_of_ble_eq_true rfl) (fun X g rt => ?_)
  show Sim X (YC ad z0 z1) 0 [(0, .ref (ad 0))] [] I J A B 0 0
  refine S_n g 1 (pc' := 1) (lv' := [(0, .ref (ad 0))]) (st' := [.ref (ad 0)]) rfl ?_
  refine S_getR g (i := 0) (c := 8) (k := 5) (j := 13) (by decide) (by decide) rfl rfl rfl fl_X8_44 rfl ?_
  refine S_callV g (i := 13) (As := []) (st := []) (tx_fault ad z0 z1 I J A B tc n hN hT) mw_X4_firstFault lk_X8_258 ⟨Nat.le_of_ble_eq_true rfl, Nat.le_of_ble_eq_true rfl⟩ (by decide) (by decide) rfl rfl (Nat.le_of_ble_eq_true rfl) ⟨Nat.le_of_ble_eq_true rfl, Nat.le_of_ble_eq_true rfl⟩ rfl (fun v' Y' I2 J2 A2 B2 hpo => ?_)
  obtain ⟨rfl, rfl, e1, e2, e3, hI2⟩ := hpo
  show Sim X (YC ad z0 z1) 7 [(0, .ref (ad 0))] [.int (hI (o_fault tc n).1)] I2 J2 A2 B2 0 0
  exact rtI rt rfl rfl (⟨rfl, rfl, e1, e2, e3, hI2⟩)
