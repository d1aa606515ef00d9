/-! the reference, part 12: the greedy method -/
theorem Spec_mono {M : MI} {av : List Value} {Y : PS} {I : FI} {J : FJ} {A : FI} {B : FJ} {post post' : PO} (h : Spec M av Y I J A B post) (hp : ∀ v Y' I' J' A' B', post v Y' I' J' A' B' → post' v Y' I' J' A' B') : Spec M av Y I J A B post' := by
  intro l D cy sz p e ha hc hk s m args below hf hap hP hK
  obtain ⟨n, o, a1, a2, a3, ⟨⟨v, Y', I', J', A', B', e1, e2, e3⟩, e4⟩, e5⟩ := h l D cy sz p e ha hc hk s m args below hf hap hP hK
  exact ⟨n, o, a1, a2, a3, ⟨⟨v, Y', I', J', A', B', e1, hp _ _ _ _ _ _ e2, e3⟩, e4⟩, e5⟩
theorem hI_eq {k p : Nat} (hk : k < 2 ^ 31) (hp : p < 2 ^ 31) : hI k = nI p ↔ k = p + 1 := by
  cases k with
  | zero =>
    constructor
    · intro h
      have h1 : nI p < 0 := by rw [← h]; decide
      exact absurd h1 (nI_pos hp)
    · intro h; omega
  | succ j =>
    rw [hI_pos (by omega), nI_eq (by omega) hp]
    omega
/-- user u with piece p joins the group g whose sum is s -/
def jnV (m : Nat → Int64) (g : Nat → Nat) (u p : Nat) (s : Int64) : Nat → Bool
  | 0 => decide ((s &&& (b1 p ^^^ -lN 1)) &&& (m (63 + u) ^^^ -lN 1) = lN 0)
  | v + 1 => jnV m g u p s v && (decide (g v = 0) || (decide (g v = p + 1) || tb (m (63 + v)) p))
theorem jnV_cong {m m' : Nat → Int64} (h : ∀ v, v < 6 → m (63 + v) = m' (63 + v)) {g : Nat → Nat} {u p : Nat} (hu : u < 6) {s : Int64} : ∀ v, v ≤ 6 → jnV m g u p s v = jnV m' g u p s v
  | 0, _ => by unfold jnV; rw [h u hu]
  | v + 1, hv => by unfold jnV; rw [jnV_cong h hu v (by omega), h v (by omega)]
def RG (r : Nat → Int32) (g : Nat → Nat) : Prop := ∀ v, v < 6 → r v = hI (g v) ∧ g v ≤ 60

set_option maxRecDepth 100000 in
set_option maxHeartbeats 4000000 in
theorem sp_joins (ad : Nat → Nat) (I : FI) (J : FJ) (A : FI) (B : FJ) (gg : Nat → Nat) (s : Int64) (u p nu : Nat) (hU : B 501 1 = lN nu) (h2 : nu ≤ 6) (hu : u < 6) (hp : p < 60) (hG : RG (A 512) gg) : Spec M_X9_joins [.ref (ad 500), .int (nI u), .int (nI p), .long s] (YR ad) I J A B (eqP (some (.int (bI (jnV (B 501) gg u p s nu)))) (YR ad) I J A B) := by
  refine Spec_of (by decide) tk_X9_joins (Nat.le_of_ble_eq_true rfl) (fun X g rt => ?_)
  show Sim X (YR ad) 0 [(0, .ref (ad 500)), (1, .int (nI u)), (2, .int (nI p)), (3, .long s)] [] I J A B 0 0
  refine S_n g 4 (pc' := 4) (lv' := [(0, .ref (ad 500)), (1, .int (nI u)), (2, .int (nI p)), (3, .long s)]) (st' := [.long ((lN 1) <<< ((nI p).toInt64 &&& 63)), .long s]) rfl ?_
  refine S_ldc2 g kc_X9_59 rfl ?_
  refine S_n g 5 (pc' := 14) (lv' := [(0, .ref (ad 500)), (1, .int (nI u)), (2, .int (nI p)), (3, .long s), (5, .long (s &&& (((lN 1) <<< ((nI p).toInt64 &&& 63)) ^^^ (-lN 1))))]) (st' := [.ref (ad 500), .long (s &&& (((lN 1) <<< ((nI p).toInt64 &&& 63)) ^^^ (-lN 1)))]) rfl ?_
  refine S_getR g (i := 500) (c := 9) (k := 0) (j := 501) (by decide) (by decide) rfl rfl rfl fl_X9_7 rfl ?_
  refine S_n g 3 (pc' := 21) (lv' := [(0, .ref (ad 500)), (1, .int (nI u)), (2, .int (nI p)), (3, .long s), (5, .long (s &&& (((lN 1) <<< ((nI p).toInt64 &&& 63)) ^^^ (-lN 1))))]) (st' := [.int ((nI 63) + (nI u)), .ref (ad 501), .long (s &&& (((lN 1) <<< ((nI p).toInt64 &&& 63)) ^^^ (-lN 1)))]) rfl ?_
  rw [nI_add 63 u]
  refine S_laldN g (i := 501) (e := 63 + u) (by decide) rfl (show 63 + u < 621 from by omega) (show (621 : Nat) < 2 ^ 31 from by decide) rfl ?_
  refine S_ldc2 g kc_X9_59 rfl ?_
  refine S_n g 3 (pc' := 28) (lv' := [(0, .ref (ad 500)), (1, .int (nI u)), (2, .int (nI p)), (3, .long s), (5, .long (s &&& (((lN 1) <<< ((nI p).toInt64 &&& 63)) ^^^ (-lN 1))))]) (st' := [.long (lN 0), .long ((s &&& (((lN 1) <<< ((nI p).toInt64 &&& 63)) ^^^ (-lN 1))) &&& ((B 501 (63 + u)) ^^^ (-lN 1)))]) rfl ?_
  refine S_lc_ne g (tgt := 36) rfl rfl (by decide) (fun qz28 => ?_) (fun qz28 => ?_)
  · skip
    refine S_n g 4 (pc' := 42) (lv' := [(0, .ref (ad 500)), (1, .int (nI u)), (2, .int (nI p)), (3, .long s), (5, .long (s &&& (((lN 1) <<< ((nI p).toInt64 &&& 63)) ^^^ (-lN 1)))), (7, .int (nI 0)), (8, .int (nI 0))]) (st' := []) rfl ?_
    refine S_lveq (lv' := [(0, .ref (ad 500)), (1, .int (nI u)), (2, .int (nI p)), (3, .long s), (5, .long (s &&& (((lN 1) <<< ((nI p).toInt64 &&& 63)) ^^^ (-lN 1)))), (7, .int (bI (jnV (B 501) gg u p s 0))), (8, .int (nI 0))]) (by rw [(show nI 0 = bI (jnV (B 501) gg u p s 0) from by simp [jnV, bI, qz28]).symm]) ?_
    have lp2 : ∀ (nn : Nat) (v : Nat), nu - v = nn → (v ≤ nu) → Sim X (YR ad) 42 [(0, .ref (ad 500)), (1, .int (nI u)), (2, .int (nI p)), (3, .long s), (5, .long (s &&& (((lN 1) <<< ((nI p).toInt64 &&& 63)) ^^^ (-lN 1)))), (7, .int (bI (jnV (B 501) gg u p s v))), (8, .int (nI v))] [] I J A B 0 0 := by
      intro nn
      induction nn using Nat.strongRecOn with
      | ind nn ih =>
        intro v hmz hv
        have lp2 := ih
        refine S_n g 2 (pc' := 45) (lv' := [(0, .ref (ad 500)), (1, .int (nI u)), (2, .int (nI p)), (3, .long s), (5, .long (s &&& (((lN 1) <<< ((nI p).toInt64 &&& 63)) ^^^ (-lN 1)))), (7, .int (bI (jnV (B 501) gg u p s v))), (8, .int (nI v))]) (st' := [.ref (ad 500), .int (nI v)]) rfl ?_
        refine S_cV g (i := 500) (As := []) (st := [.int (nI v)]) (sp_users ad I J A B nu hU) mw_X9_users lk_X9_71 ⟨Nat.le_of_ble_eq_true rfl, Nat.le_of_ble_eq_true rfl⟩ (by decide) (by decide) rfl rfl (Nat.le_of_ble_eq_true rfl) ⟨Nat.le_of_ble_eq_true rfl, Nat.le_of_ble_eq_true rfl⟩ rfl ?_
        show Sim X (YR ad) 48 [(0, .ref (ad 500)), (1, .int (nI u)), (2, .int (nI p)), (3, .long s), (5, .long (s &&& (((lN 1) <<< ((nI p).toInt64 &&& 63)) ^^^ (-lN 1)))), (7, .int (bI (jnV (B 501) gg u p s v))), (8, .int (nI v))] [.int (nI nu), .int (nI v)] I J A B 0 0
        refine S_icN_ge g (tgt := 101) (by omega) (by omega) rfl (by decide) (fun qz48 => ?_) (fun qz48 => ?_)
        · skip
          have hv9 : v = nu := by omega
          refine S_lveq (lv' := [(0, .ref (ad 500)), (1, .int (nI u)), (2, .int (nI p)), (3, .long s), (5, .long (s &&& (((lN 1) <<< ((nI p).toInt64 &&& 63)) ^^^ (-lN 1)))), (7, .int (bI (jnV (B 501) gg u p s nu))), (8, .int (nI v))]) (by rw [(show bI (jnV (B 501) gg u p s v) = bI (jnV (B 501) gg u p s nu) from by rw [hv9]).symm]) ?_
          refine S_n g 1 (pc' := 103) (lv' := [(0, .ref (ad 500)), (1, .int (nI u)), (2, .int (nI p)), (3, .long s), (5, .long (s &&& (((lN 1) <<< ((nI p).toInt64 &&& 63)) ^^^ (-lN 1)))), (7, .int (bI (jnV (B 501) gg u p s nu))), (8, .int (nI v))]) (st' := [.int (bI (jnV (B 501) gg u p s nu))]) rfl ?_
          exact rtZ rt rfl rfl eqP_rf
        · skip
          obtain ⟨hgv, hgl⟩ := hG v (by omega)
          refine S_n g 1 (pc' := 53) (lv' := [(0, .ref (ad 500)), (1, .int (nI u)), (2, .int (nI p)), (3, .long s), (5, .long (s &&& (((lN 1) <<< ((nI p).toInt64 &&& 63)) ^^^ (-lN 1)))), (7, .int (bI (jnV (B 501) gg u p s v))), (8, .int (nI v))]) (st' := [.int (bI (jnV (B 501) gg u p s v))]) rfl ?_
          refine S_ifB_eq g (tgt := 92) rfl (by decide) (fun qz53 => ?_) (fun qz53 => ?_)
          · skip
            refine S_n g 2 (pc' := 95) (lv' := [(0, .ref (ad 500)), (1, .int (nI u)), (2, .int (nI p)), (3, .long s), (5, .long (s &&& (((lN 1) <<< ((nI p).toInt64 &&& 63)) ^^^ (-lN 1)))), (7, .int (nI 0)), (8, .int (nI v))]) (st' := []) rfl ?_
            refine S_lveq (lv' := [(0, .ref (ad 500)), (1, .int (nI u)), (2, .int (nI p)), (3, .long s), (5, .long (s &&& (((lN 1) <<< ((nI p).toInt64 &&& 63)) ^^^ (-lN 1)))), (7, .int (bI (jnV (B 501) gg u p s (v + 1)))), (8, .int (nI v))]) (by rw [(show nI 0 = bI (jnV (B 501) gg u p s (v + 1)) from by simp_all [jnV, bI, hI_m1 (show gg v < 2 ^ 31 from by omega), hI_eq (show gg v < 2 ^ 31 from by omega) (show p < 2 ^ 31 from by omega)]).symm]) ?_
            refine S_n g 1 (pc' := 98) (lv' := [(0, .ref (ad 500)), (1, .int (nI u)), (2, .int (nI p)), (3, .long s), (5, .long (s &&& (((lN 1) <<< ((nI p).toInt64 &&& 63)) ^^^ (-lN 1)))), (7, .int (bI (jnV (B 501) gg u p s (v + 1)))), (8, .int ((nI v) + nI 1))]) (st' := []) rfl ?_
            rw [nI_add v 1]
            refine S_n g 1 (pc' := 42) (lv' := [(0, .ref (ad 500)), (1, .int (nI u)), (2, .int (nI p)), (3, .long s), (5, .long (s &&& (((lN 1) <<< ((nI p).toInt64 &&& 63)) ^^^ (-lN 1)))), (7, .int (bI (jnV (B 501) gg u p s (v + 1)))), (8, .int (nI (v + 1)))]) (st' := []) rfl ?_
            exact lp2 (nu - (v + 1)) (by omega) (v + 1) rfl (by omega)
          · skip
            refine S_n g 1 (pc' := 57) (lv' := [(0, .ref (ad 500)), (1, .int (nI u)), (2, .int (nI p)), (3, .long s), (5, .long (s &&& (((lN 1) <<< ((nI p).toInt64 &&& 63)) ^^^ (-lN 1)))), (7, .int (bI (jnV (B 501) gg u p s v))), (8, .int (nI v))]) (st' := [.ref (ad 500)]) rfl ?_
            refine S_getR g (i := 500) (c := 9) (k := 17) (j := 512) (by decide) (by decide) rfl rfl rfl fl_X9_49 rfl ?_
            refine S_n g 1 (pc' := 62) (lv' := [(0, .ref (ad 500)), (1, .int (nI u)), (2, .int (nI p)), (3, .long s), (5, .long (s &&& (((lN 1) <<< ((nI p).toInt64 &&& 63)) ^^^ (-lN 1)))), (7, .int (bI (jnV (B 501) gg u p s v))), (8, .int (nI v))]) (st' := [.int (nI v), .ref (ad 512)]) rfl ?_
            refine S_ialdN g (i := 512) (e := v) (by decide) rfl (show v < 6 from by omega) (show (6 : Nat) < 2 ^ 31 from by decide) rfl ?_
            rw [hgv]
            refine S_n g 1 (pc' := 64) (lv' := [(0, .ref (ad 500)), (1, .int (nI u)), (2, .int (nI p)), (3, .long s), (5, .long (s &&& (((lN 1) <<< ((nI p).toInt64 &&& 63)) ^^^ (-lN 1)))), (7, .int (bI (jnV (B 501) gg u p s v))), (8, .int (nI v))]) (st' := [.int (-nI 1), .int (hI (gg v))]) rfl ?_
            refine S_ic_eq g (tgt := 88) rfl (by decide) (fun qz64 => ?_) (fun qz64 => ?_)
            · skip
              refine S_n g 3 (pc' := 95) (lv' := [(0, .ref (ad 500)), (1, .int (nI u)), (2, .int (nI p)), (3, .long s), (5, .long (s &&& (((lN 1) <<< ((nI p).toInt64 &&& 63)) ^^^ (-lN 1)))), (7, .int (nI 1)), (8, .int (nI v))]) (st' := []) rfl ?_
              refine S_lveq (lv' := [(0, .ref (ad 500)), (1, .int (nI u)), (2, .int (nI p)), (3, .long s), (5, .long (s &&& (((lN 1) <<< ((nI p).toInt64 &&& 63)) ^^^ (-lN 1)))), (7, .int (bI (jnV (B 501) gg u p s (v + 1)))), (8, .int (nI v))]) (by rw [(show nI 1 = bI (jnV (B 501) gg u p s (v + 1)) from by simp_all [jnV, bI, hI_m1 (show gg v < 2 ^ 31 from by omega), hI_eq (show gg v < 2 ^ 31 from by omega) (show p < 2 ^ 31 from by omega)]).symm]) ?_
              refine S_n g 1 (pc' := 98) (lv' := [(0, .ref (ad 500)), (1, .int (nI u)), (2, .int (nI p)), (3, .long s), (5, .long (s &&& (((lN 1) <<< ((nI p).toInt64 &&& 63)) ^^^ (-lN 1)))), (7, .int (bI (jnV (B 501) gg u p s (v + 1)))), (8, .int ((nI v) + nI 1))]) (st' := []) rfl ?_
              rw [nI_add v 1]
              refine S_n g 1 (pc' := 42) (lv' := [(0, .ref (ad 500)), (1, .int (nI u)), (2, .int (nI p)), (3, .long s), (5, .long (s &&& (((lN 1) <<< ((nI p).toInt64 &&& 63)) ^^^ (-lN 1)))), (7, .int (bI (jnV (B 501) gg u p s (v + 1)))), (8, .int (nI (v + 1)))]) (st' := []) rfl ?_
              exact lp2 (nu - (v + 1)) (by omega) (v + 1) rfl (by omega)
            · skip
              refine S_n g 1 (pc' := 68) (lv' := [(0, .ref (ad 500)), (1, .int (nI u)), (2, .int (nI p)), (3, .long s), (5, .long (s &&& (((lN 1) <<< ((nI p).toInt64 &&& 63)) ^^^ (-lN 1)))), (7, .int (bI (jnV (B 501) gg u p s v))), (8, .int (nI v))]) (st' := [.ref (ad 500)]) rfl ?_
              refine S_getR g (i := 500) (c := 9) (k := 17) (j := 512) (by decide) (by decide) rfl rfl rfl fl_X9_49 rfl ?_
              refine S_n g 1 (pc' := 73) (lv' := [(0, .ref (ad 500)), (1, .int (nI u)), (2, .int (nI p)), (3, .long s), (5, .long (s &&& (((lN 1) <<< ((nI p).toInt64 &&& 63)) ^^^ (-lN 1)))), (7, .int (bI (jnV (B 501) gg u p s v))), (8, .int (nI v))]) (st' := [.int (nI v), .ref (ad 512)]) rfl ?_
              refine S_ialdN g (i := 512) (e := v) (by decide) rfl (show v < 6 from by omega) (show (6 : Nat) < 2 ^ 31 from by decide) rfl ?_
              rw [hgv]
              refine S_n g 1 (pc' := 75) (lv' := [(0, .ref (ad 500)), (1, .int (nI u)), (2, .int (nI p)), (3, .long s), (5, .long (s &&& (((lN 1) <<< ((nI p).toInt64 &&& 63)) ^^^ (-lN 1)))), (7, .int (bI (jnV (B 501) gg u p s v))), (8, .int (nI v))]) (st' := [.int (nI p), .int (hI (gg v))]) rfl ?_
              refine S_ic_eq g (tgt := 88) rfl (by decide) (fun qz75 => ?_) (fun qz75 => ?_)
              · skip
                refine S_n g 3 (pc' := 95) (lv' := [(0, .ref (ad 500)), (1, .int (nI u)), (2, .int (nI p)), (3, .long s), (5, .long (s &&& (((lN 1) <<< ((nI p).toInt64 &&& 63)) ^^^ (-lN 1)))), (7, .int (nI 1)), (8, .int (nI v))]) (st' := []) rfl ?_
                refine S_lveq (lv' := [(0, .ref (ad 500)), (1, .int (nI u)), (2, .int (nI p)), (3, .long s), (5, .long (s &&& (((lN 1) <<< ((nI p).toInt64 &&& 63)) ^^^ (-lN 1)))), (7, .int (bI (jnV (B 501) gg u p s (v + 1)))), (8, .int (nI v))]) (by rw [(show nI 1 = bI (jnV (B 501) gg u p s (v + 1)) from by simp_all [jnV, bI, hI_m1 (show gg v < 2 ^ 31 from by omega), hI_eq (show gg v < 2 ^ 31 from by omega) (show p < 2 ^ 31 from by omega)]).symm]) ?_
                refine S_n g 1 (pc' := 98) (lv' := [(0, .ref (ad 500)), (1, .int (nI u)), (2, .int (nI p)), (3, .long s), (5, .long (s &&& (((lN 1) <<< ((nI p).toInt64 &&& 63)) ^^^ (-lN 1)))), (7, .int (bI (jnV (B 501) gg u p s (v + 1)))), (8, .int ((nI v) + nI 1))]) (st' := []) rfl ?_
                rw [nI_add v 1]
                refine S_n g 1 (pc' := 42) (lv' := [(0, .ref (ad 500)), (1, .int (nI u)), (2, .int (nI p)), (3, .long s), (5, .long (s &&& (((lN 1) <<< ((nI p).toInt64 &&& 63)) ^^^ (-lN 1)))), (7, .int (bI (jnV (B 501) gg u p s (v + 1)))), (8, .int (nI (v + 1)))]) (st' := []) rfl ?_
                exact lp2 (nu - (v + 1)) (by omega) (v + 1) rfl (by omega)
              · skip
                refine S_n g 3 (pc' := 82) (lv' := [(0, .ref (ad 500)), (1, .int (nI u)), (2, .int (nI p)), (3, .long s), (5, .long (s &&& (((lN 1) <<< ((nI p).toInt64 &&& 63)) ^^^ (-lN 1)))), (7, .int (bI (jnV (B 501) gg u p s v))), (8, .int (nI v))]) (st' := [.int (nI p), .int (nI v), .ref (ad 500)]) rfl ?_
                refine S_cV g (i := 500) (As := [.int (nI v), .int (nI p)]) (st := []) (sp_has ad I J A B v p (by omega) (by omega)) mw_X9_has lk_X9_87 ⟨Nat.le_of_ble_eq_true rfl, Nat.le_of_ble_eq_true rfl⟩ (by decide) (by decide) rfl rfl (Nat.le_of_ble_eq_true rfl) ⟨Nat.le_of_ble_eq_true rfl, Nat.le_of_ble_eq_true rfl⟩ rfl ?_
                show Sim X (YR ad) 85 [(0, .ref (ad 500)), (1, .int (nI u)), (2, .int (nI p)), (3, .long s), (5, .long (s &&& (((lN 1) <<< ((nI p).toInt64 &&& 63)) ^^^ (-lN 1)))), (7, .int (bI (jnV (B 501) gg u p s v))), (8, .int (nI v))] [.int (bI (tb (B 501 (63 + v)) p))] I J A B 0 0
                refine S_ifB_eq g (tgt := 92) rfl (by decide) (fun qz85 => ?_) (fun qz85 => ?_)
                · skip
                  refine S_n g 2 (pc' := 95) (lv' := [(0, .ref (ad 500)), (1, .int (nI u)), (2, .int (nI p)), (3, .long s), (5, .long (s &&& (((lN 1) <<< ((nI p).toInt64 &&& 63)) ^^^ (-lN 1)))), (7, .int (nI 0)), (8, .int (nI v))]) (st' := []) rfl ?_
                  refine S_lveq (lv' := [(0, .ref (ad 500)), (1, .int (nI u)), (2, .int (nI p)), (3, .long s), (5, .long (s &&& (((lN 1) <<< ((nI p).toInt64 &&& 63)) ^^^ (-lN 1)))), (7, .int (bI (jnV (B 501) gg u p s (v + 1)))), (8, .int (nI v))]) (by rw [(show nI 0 = bI (jnV (B 501) gg u p s (v + 1)) from by simp_all [jnV, bI, hI_m1 (show gg v < 2 ^ 31 from by omega), hI_eq (show gg v < 2 ^ 31 from by omega) (show p < 2 ^ 31 from by omega)]).symm]) ?_
                  refine S_n g 1 (pc' := 98) (lv' := [(0, .ref (ad 500)), (1, .int (nI u)), (2, .int (nI p)), (3, .long s), (5, .long (s &&& (((lN 1) <<< ((nI p).toInt64 &&& 63)) ^^^ (-lN 1)))), (7, .int (bI (jnV (B 501) gg u p s (v + 1)))), (8, .int ((nI v) + nI 1))]) (st' := []) rfl ?_
                  rw [nI_add v 1]
                  refine S_n g 1 (pc' := 42) (lv' := [(0, .ref (ad 500)), (1, .int (nI u)), (2, .int (nI p)), (3, .long s), (5, .long (s &&& (((lN 1) <<< ((nI p).toInt64 &&& 63)) ^^^ (-lN 1)))), (7, .int (bI (jnV (B 501) gg u p s (v + 1)))), (8, .int (nI (v + 1)))]) (st' := []) rfl ?_
                  exact lp2 (nu - (v + 1)) (by omega) (v + 1) rfl (by omega)
                · skip
                  refine S_n g 3 (pc' := 95) (lv' := [(0, .ref (ad 500)), (1, .int (nI u)), (2, .int (nI p)), (3, .long s), (5, .long (s &&& (((lN 1) <<< ((nI p).toInt64 &&& 63)) ^^^ (-lN 1)))), (7, .int (nI 1)), (8, .int (nI v))]) (st' := []) rfl ?_
                  refine S_lveq (lv' := [(0, .ref (ad 500)), (1, .int (nI u)), (2, .int (nI p)), (3, .long s), (5, .long (s &&& (((lN 1) <<< ((nI p).toInt64 &&& 63)) ^^^ (-lN 1)))), (7, .int (bI (jnV (B 501) gg u p s (v + 1)))), (8, .int (nI v))]) (by rw [(show nI 1 = bI (jnV (B 501) gg u p s (v + 1)) from by simp_all [jnV, bI, hI_m1 (show gg v < 2 ^ 31 from by omega), hI_eq (show gg v < 2 ^ 31 from by omega) (show p < 2 ^ 31 from by omega)]).symm]) ?_
                  refine S_n g 1 (pc' := 98) (lv' := [(0, .ref (ad 500)), (1, .int (nI u)), (2, .int (nI p)), (3, .long s), (5, .long (s &&& (((lN 1) <<< ((nI p).toInt64 &&& 63)) ^^^ (-lN 1)))), (7, .int (bI (jnV (B 501) gg u p s (v + 1)))), (8, .int ((nI v) + nI 1))]) (st' := []) rfl ?_
                  rw [nI_add v 1]
                  refine S_n g 1 (pc' := 42) (lv' := [(0, .ref (ad 500)), (1, .int (nI u)), (2, .int (nI p)), (3, .long s), (5, .long (s &&& (((lN 1) <<< ((nI p).toInt64 &&& 63)) ^^^ (-lN 1)))), (7, .int (bI (jnV (B 501) gg u p s (v + 1)))), (8, .int (nI (v + 1)))]) (st' := []) rfl ?_
                  exact lp2 (nu - (v + 1)) (by omega) (v + 1) rfl (by omega)
    exact lp2 _ 0 rfl (by omega)
  · skip
    refine S_n g 5 (pc' := 42) (lv' := [(0, .ref (ad 500)), (1, .int (nI u)), (2, .int (nI p)), (3, .long s), (5, .long (s &&& (((lN 1) <<< ((nI p).toInt64 &&& 63)) ^^^ (-lN 1)))), (7, .int (nI 1)), (8, .int (nI 0))]) (st' := []) rfl ?_
    refine S_lveq (lv' := [(0, .ref (ad 500)), (1, .int (nI u)), (2, .int (nI p)), (3, .long s), (5, .long (s &&& (((lN 1) <<< ((nI p).toInt64 &&& 63)) ^^^ (-lN 1)))), (7, .int (bI (jnV (B 501) gg u p s 0))), (8, .int (nI 0))]) (by rw [(show nI 1 = bI (jnV (B 501) gg u p s 0) from by simp [jnV, bI, qz28]).symm]) ?_
    have lp2 : ∀ (nn : Nat) (v : Nat), nu - v = nn → (v ≤ nu) → Sim X (YR ad) 42 [(0, .ref (ad 500)), (1, .int (nI u)), (2, .int (nI p)), (3, .long s), (5, .long (s &&& (((lN 1) <<< ((nI p).toInt64 &&& 63)) ^^^ (-lN 1)))), (7, .int (bI (jnV (B 501) gg u p s v))), (8, .int (nI v))] [] I J A B 0 0 := by
      intro nn
      induction nn using Nat.strongRecOn with
      | ind nn ih =>
        intro v hmz hv
        have lp2 := ih
        refine S_n g 2 (pc' := 45) (lv' := [(0, .ref (ad 500)), (1, .int (nI u)), (2, .int (nI p)), (3, .long s), (5, .long (s &&& (((lN 1) <<< ((nI p).toInt64 &&& 63)) ^^^ (-lN 1)))), (7, .int (bI (jnV (B 501) gg u p s v))), (8, .int (nI v))]) (st' := [.ref (ad 500), .int (nI v)]) rfl ?_
        refine S_cV g (i := 500) (As := []) (st := [.int (nI v)]) (sp_users ad I J A B nu hU) mw_X9_users lk_X9_71 ⟨Nat.le_of_ble_eq_true rfl, Nat.le_of_ble_eq_true rfl⟩ (by decide) (by decide) rfl rfl (Nat.le_of_ble_eq_true rfl) ⟨Nat.le_of_ble_eq_true rfl, Nat.le_of_ble_eq_true rfl⟩ rfl ?_
        show Sim X (YR ad) 48 [(0, .ref (ad 500)), (1, .int (nI u)), (2, .int (nI p)), (3, .long s), (5, .long (s &&& (((lN 1) <<< ((nI p).toInt64 &&& 63)) ^^^ (-lN 1)))), (7, .int (bI (jnV (B 501) gg u p s v))), (8, .int (nI v))] [.int (nI nu), .int (nI v)] I J A B 0 0
        refine S_icN_ge g (tgt := 101) (by omega) (by omega) rfl (by decide) (fun qz48 => ?_) (fun qz48 => ?_)
        · skip
          have hv9 : v = nu := by omega
          refine S_lveq (lv' := [(0, .ref (ad 500)), (1, .int (nI u)), (2, .int (nI p)), (3, .long s), (5, .long (s &&& (((lN 1) <<< ((nI p).toInt64 &&& 63)) ^^^ (-lN 1)))), (7, .int (bI (jnV (B 501) gg u p s nu))), (8, .int (nI v))]) (by rw [(show bI (jnV (B 501) gg u p s v) = bI (jnV (B 501) gg u p s nu) from by rw [hv9]).symm]) ?_
          refine S_n g 1 (pc' := 103) (lv' := [(0, .ref (ad 500)), (1, .int (nI u)), (2, .int (nI p)), (3, .long s), (5, .long (s &&& (((lN 1) <<< ((nI p).toInt64 &&& 63)) ^^^ (-lN 1)))), (7, .int (bI (jnV (B 501) gg u p s nu))), (8, .int (nI v))]) (st' := [.int (bI (jnV (B 501) gg u p s nu))]) rfl ?_
          exact rtZ rt rfl rfl eqP_rf
        · skip
          obtain ⟨hgv, hgl⟩ := hG v (by omega)
          refine S_n g 1 (pc' := 53) (lv' := [(0, .ref (ad 500)), (1, .int (nI u)), (2, .int (nI p)), (3, .long s), (5, .long (s &&& (((lN 1) <<< ((nI p).toInt64 &&& 63)) ^^^ (-lN 1)))), (7, .int (bI (jnV (B 501) gg u p s v))), (8, .int (nI v))]) (st' := [.int (bI (jnV (B 501) gg u p s v))]) rfl ?_
          refine S_ifB_eq g (tgt := 92) rfl (by decide) (fun qz53 => ?_) (fun qz53 => ?_)
          · skip
            refine S_n g 2 (pc' := 95) (lv' := [(0, .ref (ad 500)), (1, .int (nI u)), (2, .int (nI p)), (3, .long s), (5, .long (s &&& (((lN 1) <<< ((nI p).toInt64 &&& 63)) ^^^ (-lN 1)))), (7, .int (nI 0)), (8, .int (nI v))]) (st' := []) rfl ?_
            refine S_lveq (lv' := [(0, .ref (ad 500)), (1, .int (nI u)), (2, .int (nI p)), (3, .long s), (5, .long (s &&& (((lN 1) <<< ((nI p).toInt64 &&& 63)) ^^^ (-lN 1)))), (7, .int (bI (jnV (B 501) gg u p s (v + 1)))), (8, .int (nI v))]) (by rw [(show nI 0 = bI (jnV (B 501) gg u p s (v + 1)) from by simp_all [jnV, bI, hI_m1 (show gg v < 2 ^ 31 from by omega), hI_eq (show gg v < 2 ^ 31 from by omega) (show p < 2 ^ 31 from by omega)]).symm]) ?_
            refine S_n g 1 (pc' := 98) (lv' := [(0, .ref (ad 500)), (1, .int (nI u)), (2, .int (nI p)), (3, .long s), (5, .long (s &&& (((lN 1) <<< ((nI p).toInt64 &&& 63)) ^^^ (-lN 1)))), (7, .int (bI (jnV (B 501) gg u p s (v + 1)))), (8, .int ((nI v) + nI 1))]) (st' := []) rfl ?_
            rw [nI_add v 1]
            refine S_n g 1 (pc' := 42) (lv' := [(0, .ref (ad 500)), (1, .int (nI u)), (2, .int (nI p)), (3, .long s), (5, .long (s &&& (((lN 1) <<< ((nI p).toInt64 &&& 63)) ^^^ (-lN 1)))), (7, .int (bI (jnV (B 501) gg u p s (v + 1)))), (8, .int (nI (v + 1)))]) (st' := []) rfl ?_
            exact lp2 (nu - (v + 1)) (by omega) (v + 1) rfl (by omega)
          · skip
            refine S_n g 1 (pc' := 57) (lv' := [(0, .ref (ad 500)), (1, .int (nI u)), (2, .int (nI p)), (3, .long s), (5, .long (s &&& (((lN 1) <<< ((nI p).toInt64 &&& 63)) ^^^ (-lN 1)))), (7, .int (bI (jnV (B 501) gg u p s v))), (8, .int (nI v))]) (st' := [.ref (ad 500)]) rfl ?_
            refine S_getR g (i := 500) (c := 9) (k := 17) (j := 512) (by decide) (by decide) rfl rfl rfl fl_X9_49 rfl ?_
            refine S_n g 1 (pc' := 62) (lv' := [(0, .ref (ad 500)), (1, .int (nI u)), (2, .int (nI p)), (3, .long s), (5, .long (s &&& (((lN 1) <<< ((nI p).toInt64 &&& 63)) ^^^ (-lN 1)))), (7, .int (bI (jnV (B 501) gg u p s v))), (8, .int (nI v))]) (st' := [.int (nI v), .ref (ad 512)]) rfl ?_
            refine S_ialdN g (i := 512) (e := v) (by decide) rfl (show v < 6 from by omega) (show (6 : Nat) < 2 ^ 31 from by decide) rfl ?_
            rw [hgv]
            refine S_n g 1 (pc' := 64) (lv' := [(0, .ref (ad 500)), (1, .int (nI u)), (2, .int (nI p)), (3, .long s), (5, .long (s &&& (((lN 1) <<< ((nI p).toInt64 &&& 63)) ^^^ (-lN 1)))), (7, .int (bI (jnV (B 501) gg u p s v))), (8, .int (nI v))]) (st' := [.int (-nI 1), .int (hI (gg v))]) rfl ?_
            refine S_ic_eq g (tgt := 88) rfl (by decide) (fun qz64 => ?_) (fun qz64 => ?_)
            · skip
              refine S_n g 3 (pc' := 95) (lv' := [(0, .ref (ad 500)), (1, .int (nI u)), (2, .int (nI p)), (3, .long s), (5, .long (s &&& (((lN 1) <<< ((nI p).toInt64 &&& 63)) ^^^ (-lN 1)))), (7, .int (nI 1)), (8, .int (nI v))]) (st' := []) rfl ?_
              refine S_lveq (lv' := [(0, .ref (ad 500)), (1, .int (nI u)), (2, .int (nI p)), (3, .long s), (5, .long (s &&& (((lN 1) <<< ((nI p).toInt64 &&& 63)) ^^^ (-lN 1)))), (7, .int (bI (jnV (B 501) gg u p s (v + 1)))), (8, .int (nI v))]) (by rw [(show nI 1 = bI (jnV (B 501) gg u p s (v + 1)) from by simp_all [jnV, bI, hI_m1 (show gg v < 2 ^ 31 from by omega), hI_eq (show gg v < 2 ^ 31 from by omega) (show p < 2 ^ 31 from by omega)]).symm]) ?_
              refine S_n g 1 (pc' := 98) (lv' := [(0, .ref (ad 500)), (1, .int (nI u)), (2, .int (nI p)), (3, .long s), (5, .long (s &&& (((lN 1) <<< ((nI p).toInt64 &&& 63)) ^^^ (-lN 1)))), (7, .int (bI (jnV (B 501) gg u p s (v + 1)))), (8, .int ((nI v) + nI 1))]) (st' := []) rfl ?_
              rw [nI_add v 1]
              refine S_n g 1 (pc' := 42) (lv' := [(0, .ref (ad 500)), (1, .int (nI u)), (2, .int (nI p)), (3, .long s), (5, .long (s &&& (((lN 1) <<< ((nI p).toInt64 &&& 63)) ^^^ (-lN 1)))), (7, .int (bI (jnV (B 501) gg u p s (v + 1)))), (8, .int (nI (v + 1)))]) (st' := []) rfl ?_
              exact lp2 (nu - (v + 1)) (by omega) (v + 1) rfl (by omega)
            · skip
              refine S_n g 1 (pc' := 68) (lv' := [(0, .ref (ad 500)), (1, .int (nI u)), (2, .int (nI p)), (3, .long s), (5, .long (s &&& (((lN 1) <<< ((nI p).toInt64 &&& 63)) ^^^ (-lN 1)))), (7, .int (bI (jnV (B 501) gg u p s v))), (8, .int (nI v))]) (st' := [.ref (ad 500)]) rfl ?_
              refine S_getR g (i := 500) (c := 9) (k := 17) (j := 512) (by decide) (by decide) rfl rfl rfl fl_X9_49 rfl ?_
              refine S_n g 1 (pc' := 73) (lv' := [(0, .ref (ad 500)), (1, .int (nI u)), (2, .int (nI p)), (3, .long s), (5, .long (s &&& (((lN 1) <<< ((nI p).toInt64 &&& 63)) ^^^ (-lN 1)))), (7, .int (bI (jnV (B 501) gg u p s v))), (8, .int (nI v))]) (st' := [.int (nI v), .ref (ad 512)]) rfl ?_
              refine S_ialdN g (i := 512) (e := v) (by decide) rfl (show v < 6 from by omega) (show (6 : Nat) < 2 ^ 31 from by decide) rfl ?_
              rw [hgv]
              refine S_n g 1 (pc' := 75) (lv' := [(0, .ref (ad 500)), (1, .int (nI u)), (2, .int (nI p)), (3, .long s), (5, .long (s &&& (((lN 1) <<< ((nI p).toInt64 &&& 63)) ^^^ (-lN 1)))), (7, .int (bI (jnV (B 501) gg u p s v))), (8, .int (nI v))]) (st' := [.int (nI p), .int (hI (gg v))]) rfl ?_
              refine S_ic_eq g (tgt := 88) rfl (by decide) (fun qz75 => ?_) (fun qz75 => ?_)
              · skip
                refine S_n g 3 (pc' := 95) (lv' := [(0, .ref (ad 500)), (1, .int (nI u)), (2, .int (nI p)), (3, .long s), (5, .long (s &&& (((lN 1) <<< ((nI p).toInt64 &&& 63)) ^^^ (-lN 1)))), (7, .int (nI 1)), (8, .int (nI v))]) (st' := []) rfl ?_
                refine S_lveq (lv' := [(0, .ref (ad 500)), (1, .int (nI u)), (2, .int (nI p)), (3, .long s), (5, .long (s &&& (((lN 1) <<< ((nI p).toInt64 &&& 63)) ^^^ (-lN 1)))), (7, .int (bI (jnV (B 501) gg u p s (v + 1)))), (8, .int (nI v))]) (by rw [(show nI 1 = bI (jnV (B 501) gg u p s (v + 1)) from by simp_all [jnV, bI, hI_m1 (show gg v < 2 ^ 31 from by omega), hI_eq (show gg v < 2 ^ 31 from by omega) (show p < 2 ^ 31 from by omega)]).symm]) ?_
                refine S_n g 1 (pc' := 98) (lv' := [(0, .ref (ad 500)), (1, .int (nI u)), (2, .int (nI p)), (3, .long s), (5, .long (s &&& (((lN 1) <<< ((nI p).toInt64 &&& 63)) ^^^ (-lN 1)))), (7, .int (bI (jnV (B 501) gg u p s (v + 1)))), (8, .int ((nI v) + nI 1))]) (st' := []) rfl ?_
                rw [nI_add v 1]
                refine S_n g 1 (pc' := 42) (lv' := [(0, .ref (ad 500)), (1, .int (nI u)), (2, .int (nI p)), (3, .long s), (5, .long (s &&& (((lN 1) <<< ((nI p).toInt64 &&& 63)) ^^^ (-lN 1)))), (7, .int (bI (jnV (B 501) gg u p s (v + 1)))), (8, .int (nI (v + 1)))]) (st' := []) rfl ?_
                exact lp2 (nu - (v + 1)) (by omega) (v + 1) rfl (by omega)
              · skip
                refine S_n g 3 (pc' := 82) (lv' := [(0, .ref (ad 500)), (1, .int (nI u)), (2, .int (nI p)), (3, .long s), (5, .long (s &&& (((lN 1) <<< ((nI p).toInt64 &&& 63)) ^^^ (-lN 1)))), (7, .int (bI (jnV (B 501) gg u p s v))), (8, .int (nI v))]) (st' := [.int (nI p), .int (nI v), .ref (ad 500)]) rfl ?_
                refine S_cV g (i := 500) (As := [.int (nI v), .int (nI p)]) (st := []) (sp_has ad I J A B v p (by omega) (by omega)) mw_X9_has lk_X9_87 ⟨Nat.le_of_ble_eq_true rfl, Nat.le_of_ble_eq_true rfl⟩ (by decide) (by decide) rfl rfl (Nat.le_of_ble_eq_true rfl) ⟨Nat.le_of_ble_eq_true rfl, Nat.le_of_ble_eq_true rfl⟩ rfl ?_
                show Sim X (YR ad) 85 [(0, .ref (ad 500)), (1, .int (nI u)), (2, .int (nI p)), (3, .long s), (5, .long (s &&& (((lN 1) <<< ((nI p).toInt64 &&& 63)) ^^^ (-lN 1)))), (7, .int (bI (jnV (B 501) gg u p s v))), (8, .int (nI v))] [.int (bI (tb (B 501 (63 + v)) p))] I J A B 0 0
                refine S_ifB_eq g (tgt := 92) rfl (by decide) (fun qz85 => ?_) (fun qz85 => ?_)
                · skip
                  refine S_n g 2 (pc' := 95) (lv' := [(0, .ref (ad 500)), (1, .int (nI u)), (2, .int (nI p)), (3, .long s), (5, .long (s &&& (((lN 1) <<< ((nI p).toInt64 &&& 63)) ^^^ (-lN 1)))), (7, .int (nI 0)), (8, .int (nI v))]) (st' := []) rfl ?_
                  refine S_lveq (lv' := [(0, .ref (ad 500)), (1, .int (nI u)), (2, .int (nI p)), (3, .long s), (5, .long (s &&& (((lN 1) <<< ((nI p).toInt64 &&& 63)) ^^^ (-lN 1)))), (7, .int (bI (jnV (B 501) gg u p s (v + 1)))), (8, .int (nI v))]) (by rw [(show nI 0 = bI (jnV (B 501) gg u p s (v + 1)) from by simp_all [jnV, bI, hI_m1 (show gg v < 2 ^ 31 from by omega), hI_eq (show gg v < 2 ^ 31 from by omega) (show p < 2 ^ 31 from by omega)]).symm]) ?_
                  refine S_n g 1 (pc' := 98) (lv' := [(0, .ref (ad 500)), (1, .int (nI u)), (2, .int (nI p)), (3, .long s), (5, .long (s &&& (((lN 1) <<< ((nI p).toInt64 &&& 63)) ^^^ (-lN 1)))), (7, .int (bI (jnV (B 501) gg u p s (v + 1)))), (8, .int ((nI v) + nI 1))]) (st' := []) rfl ?_
                  rw [nI_add v 1]
                  refine S_n g 1 (pc' := 42) (lv' := [(0, .ref (ad 500)), (1, .int (nI u)), (2, .int (nI p)), (3, .long s), (5, .long (s &&& (((lN 1) <<< ((nI p).toInt64 &&& 63)) ^^^ (-lN 1)))), (7, .int (bI (jnV (B 501) gg u p s (v + 1)))), (8, .int (nI (v + 1)))]) (st' := []) rfl ?_
                  exact lp2 (nu - (v + 1)) (by omega) (v + 1) rfl (by omega)
                · skip
                  refine S_n g 3 (pc' := 95) (lv' := [(0, .ref (ad 500)), (1, .int (nI u)), (2, .int (nI p)), (3, .long s), (5, .long (s &&& (((lN 1) <<< ((nI p).toInt64 &&& 63)) ^^^ (-lN 1)))), (7, .int (nI 1)), (8, .int (nI v))]) (st' := []) rfl ?_
                  refine S_lveq (lv' := [(0, .ref (ad 500)), (1, .int (nI u)), (2, .int (nI p)), (3, .long s), (5, .long (s &&& (((lN 1) <<< ((nI p).toInt64 &&& 63)) ^^^ (-lN 1)))), (7, .int (bI (jnV (B 501) gg u p s (v + 1)))), (8, .int (nI v))]) (by rw [(show nI 1 = bI (jnV (B 501) gg u p s (v + 1)) from by simp_all [jnV, bI, hI_m1 (show gg v < 2 ^ 31 from by omega), hI_eq (show gg v < 2 ^ 31 from by omega) (show p < 2 ^ 31 from by omega)]).symm]) ?_
                  refine S_n g 1 (pc' := 98) (lv' := [(0, .ref (ad 500)), (1, .int (nI u)), (2, .int (nI p)), (3, .long s), (5, .long (s &&& (((lN 1) <<< ((nI p).toInt64 &&& 63)) ^^^ (-lN 1)))), (7, .int (bI (jnV (B 501) gg u p s (v + 1)))), (8, .int ((nI v) + nI 1))]) (st' := []) rfl ?_
                  rw [nI_add v 1]
                  refine S_n g 1 (pc' := 42) (lv' := [(0, .ref (ad 500)), (1, .int (nI u)), (2, .int (nI p)), (3, .long s), (5, .long (s &&& (((lN 1) <<< ((nI p).toInt64 &&& 63)) ^^^ (-lN 1)))), (7, .int (bI (jnV (B 501) gg u p s (v + 1)))), (8, .int (nI (v + 1)))]) (st' := []) rfl ?_
                  exact lp2 (nu - (v + 1)) (by omega) (v + 1) rfl (by omega)
    exact lp2 _ 0 rfl (by omega)

/-- pair k of the list: its user and its piece -/
def prU (L : List Nat) (k : Nat) : Nat := L.getD k 0 / 60
def prP (L : List Nat) (k : Nat) : Nat := L.getD k 0 % 60
abbrev GS : Type := Int64 × (Nat → Nat) × (Nat → Bool)
/-- the group that pair fi begins, after n pairs from it on -/
def gpS (m : Nat → Int64) (nu : Nat) (L : List Nat) (sv : Nat → Bool) (fi : Nat) : Nat → GS
  | 0 => (lN 0, fun _ => 0, sv)
  | n + 1 => if (!(gpS m nu L sv fi n).2.2 (fi + n) && (decide (n = 0) || jnV m (gpS m nu L sv fi n).2.1 (prU L (fi + n)) (prP L (fi + n)) (gpS m nu L sv fi n).1 nu)) = true then ((gpS m nu L sv fi n).1 ||| b1 (prP L (fi + n)), va_up (gpS m nu L sv fi n).2.1 (prU L (fi + n)) (prP L (fi + n) + 1), va_up (gpS m nu L sv fi n).2.2 (fi + n) true) else gpS m nu L sv fi n
theorem gpS_s (m : Nat → Int64) (nu : Nat) (L : List Nat) (sv : Nat → Bool) (fi n : Nat) : gpS m nu L sv fi (n + 1) = if (!(gpS m nu L sv fi n).2.2 (fi + n) && (decide (n = 0) || jnV m (gpS m nu L sv fi n).2.1 (prU L (fi + n)) (prP L (fi + n)) (gpS m nu L sv fi n).1 nu)) = true then ((gpS m nu L sv fi n).1 ||| b1 (prP L (fi + n)), va_up (gpS m nu L sv fi n).2.1 (prU L (fi + n)) (prP L (fi + n) + 1), va_up (gpS m nu L sv fi n).2.2 (fi + n) true) else gpS m nu L sv fi n := rfl
def RP (a : Nat → Int32) (L : List Nat) : Prop := ∀ k, k < L.length → a k = nI (L.getD k 0) ∧ L.getD k 0 < 360
def RS (a : Nat → Int32) (sv : Nat → Bool) (n : Nat) : Prop := ∀ k, k < n → a k = bI (sv k)
theorem RS_up {a : Nat → Int32} {sv : Nat → Bool} {n k : Nat} (h : RS a sv n) : RS (va_up a k (nI 1)) (va_up sv k true) n := by
  intro j hj
  by_cases e : j = k
  · subst e; rw [va_up_self, va_up_self]; rfl
  · rw [va_up_ne _ _ e, va_up_ne _ _ e]; exact h j hj
theorem RG_up {r : Nat → Int32} {g : Nat → Nat} {u p : Nat} (h : RG r g) (hp : p < 60) : RG (va_up r u (nI p)) (va_up g u (p + 1)) := by
  intro j hj
  by_cases e : j = u
  · subst e
    rw [va_up_self, va_up_self, hI_pos (by omega), Nat.add_sub_cancel]
    exact ⟨rfl, by omega⟩
  · rw [va_up_ne _ _ e, va_up_ne _ _ e]; exact h j hj

theorem zi_s {m : Nat → Int32} {k : Nat} {z : Int32} (h : ∀ j, j < k → m j = z) : ∀ j, j < k + 1 → va_up m k z j = z := by
  intro j hj
  by_cases e : j = k
  · subst e
    rw [va_up_self]
  · rw [va_up_ne _ _ e]
    exact h j (by omega)
set_option maxRecDepth 100000 in
set_option maxHeartbeats 4000000 in
theorem sp_group (ad : Nat → Nat) (I : FI) (J : FJ) (A : FI) (B : FJ) (m0 : Nat → Int64) (Q : List Int64) (L : List Nat) (sv : Nat → Bool) (fi nu : Nat) (a1 a2 a3 : Nat → Int32) (hU : m0 1 = lN nu) (h2 : nu ≤ 6) (hI6 : I 500 16 = nI L.length) (hLl : L.length ≤ 72) (hfi : fi < L.length) (hRP : RP a1 L) (hRS : RS a2 sv L.length) (hsf : sv fi = false) (hQ : Q.length < 100) : Spec M_X9_group [.ref (ad 500), .int (nI fi)] (YR ad) I J (va_up (va_up (va_up A 510 a1) 511 a2) 512 a3) (va_up B 501 (qL m0 (Q))) (fun v' Y' I' J' A' B' => v' = none ∧ Y' = YR ad ∧ I' = I ∧ J' = J ∧ B' = va_up B 501 (qL m0 (Q ++ [(gpS m0 nu L sv fi (L.length - fi)).1])) ∧ ∃ b2 b3, A' = va_up (va_up (va_up A 510 a1) 511 b2) 512 b3 ∧ RS b2 (gpS m0 nu L sv fi (L.length - fi)).2.2 L.length) := by
  refine Spec_of (by decide) tk_X9_group (Nat.le_of_ble_eq_true rfl) (fun X g rt => ?_)
  show Sim X (YR ad) 0 [(0, .ref (ad 500)), (1, .int (nI fi))] [] I J (va_up (va_up (va_up A 510 a1) 511 a2) 512 a3) (va_up B 501 (qL m0 (Q))) 0 0
  refine S_n g 4 (pc' := 5) (lv' := [(0, .ref (ad 500)), (1, .int (nI fi)), (2, .long (lN 0)), (4, .int (nI 0))]) (st' := []) rfl ?_
  have lp0 : ∀ (nn : Nat) (v : Nat) (c3 : Nat → Int32), 6 - v = nn → (v ≤ 6) → (∀ j, j < v → c3 j = -nI 1) → Sim X (YR ad) 5 [(0, .ref (ad 500)), (1, .int (nI fi)), (2, .long (lN 0)), (4, .int (nI v))] [] I J (va_up (va_up (va_up A 510 a1) 511 a2) 512 c3) (va_up B 501 (qL m0 (Q))) 0 0 := by
    intro nn
    induction nn using Nat.strongRecOn with
    | ind nn ih =>
      intro v c3 hmz hv hz
      have lp0 := ih
      refine S_n g 2 (pc' := 9) (lv' := [(0, .ref (ad 500)), (1, .int (nI fi)), (2, .long (lN 0)), (4, .int (nI v))]) (st' := [.int (nI 6), .int (nI v)]) rfl ?_
      refine S_icN_ge g (tgt := 26) (by omega) (by omega) rfl (by decide) (fun qz9 => ?_) (fun qz9 => ?_)
      · skip
        have hv9 : v = 6 := by omega
        refine S_n g 2 (pc' := 29) (lv' := [(0, .ref (ad 500)), (1, .int (nI fi)), (2, .long (lN 0)), (4, .int (nI fi))]) (st' := []) rfl ?_
        have hRG0 : RG c3 (fun _ => 0) := fun j hj => ⟨hz j (by omega), Nat.zero_le _⟩
        have lp : ∀ (nn : Nat) (n : Nat) (b2 : Nat → Int32) (b3 : Nat → Int32), L.length - (fi + n) = nn → (fi + n ≤ L.length) → (RS b2 (gpS m0 nu L sv fi n).2.2 L.length) → (RG b3 (gpS m0 nu L sv fi n).2.1) → Sim X (YR ad) 29 [(0, .ref (ad 500)), (1, .int (nI fi)), (2, .long (gpS m0 nu L sv fi n).1), (4, .int (nI (fi + n)))] [] I J (va_up (va_up (va_up A 510 a1) 511 b2) 512 b3) (va_up B 501 (qL m0 (Q))) 0 0 := by
          intro nn
          induction nn using Nat.strongRecOn with
          | ind nn ih =>
            intro n b2 b3 hmz hn hRSn hRGn
            have lp := ih
            obtain ⟨S, hS⟩ : ∃ S, S = gpS m0 nu L sv fi n := ⟨_, rfl⟩
            rw [← hS] at hRSn hRGn ⊢
            refine S_n g 2 (pc' := 32) (lv' := [(0, .ref (ad 500)), (1, .int (nI fi)), (2, .long S.1), (4, .int (nI (fi + n)))]) (st' := [.ref (ad 500), .int (nI (fi + n))]) rfl ?_
            refine S_getI g (i := 500) (c := 9) (k := 16) (by decide) (by decide) rfl rfl fl_X9_193 rfl ?_
            rw [hI6]
            refine S_icN_ge g (tgt := 120) (by omega) (by omega) rfl (by decide) (fun qz35 => ?_) (fun qz35 => ?_)
            · skip
              have hn9 : n = L.length - fi := by omega
              refine S_n g 2 (pc' := 122) (lv' := [(0, .ref (ad 500)), (1, .int (nI fi)), (2, .long S.1), (4, .int (nI (fi + n)))]) (st' := [.long S.1, .ref (ad 500)]) rfl ?_
              refine S_cV g (i := 500) (As := [.long S.1]) (st := []) (sp_queues ad I J (va_up (va_up (va_up A 510 a1) 511 b2) 512 b3) (va_up B 501 (qL m0 (Q))) S.1 Q.length (qL_327 m0 _) hQ) mw_X9_queues lk_X9_132 ⟨Nat.le_of_ble_eq_true rfl, Nat.le_of_ble_eq_true rfl⟩ (by decide) (by decide) rfl rfl (Nat.le_of_ble_eq_true rfl) ⟨Nat.le_of_ble_eq_true rfl, Nat.le_of_ble_eq_true rfl⟩ rfl ?_
              rw [va_up1, va_up_self, ← qL_snoc]
              show Sim X (YR ad) 125 [(0, .ref (ad 500)), (1, .int (nI fi)), (2, .long S.1), (4, .int (nI (fi + n)))] [.int (o_queues Q.length (qL m0 Q) S.1).1] I J (va_up (va_up (va_up A 510 a1) 511 b2) 512 b3) (va_up B 501 (qL m0 (Q ++ [S.1]))) 0 0
              refine S_n g 1 (pc' := 126) (lv' := [(0, .ref (ad 500)), (1, .int (nI fi)), (2, .long S.1), (4, .int (nI (fi + n)))]) (st' := []) rfl ?_
              exact rtV rt rfl rfl (⟨rfl, rfl, rfl, rfl, by rw [hS, hn9], b2, b3, rfl, by rw [hS, hn9] at hRSn; exact hRSn⟩)
            · skip
              obtain ⟨hpk, hpl⟩ := hRP (fi + n) (by omega)
              have hsk := hRSn (fi + n) (by omega)
              have hpu : prU L (fi + n) < 6 := by unfold prU; omega
              have hpp : prP L (fi + n) < 60 := by unfold prP; omega
              have hstep := gpS_s m0 nu L sv fi n
              rw [← hS] at hstep
              refine S_n g 1 (pc' := 39) (lv' := [(0, .ref (ad 500)), (1, .int (nI fi)), (2, .long S.1), (4, .int (nI (fi + n)))]) (st' := [.ref (ad 500)]) rfl ?_
              refine S_getR g (i := 500) (c := 9) (k := 14) (j := 510) (by decide) (by decide) rfl rfl rfl fl_X9_43 rfl ?_
              refine S_n g 1 (pc' := 44) (lv' := [(0, .ref (ad 500)), (1, .int (nI fi)), (2, .long S.1), (4, .int (nI (fi + n)))]) (st' := [.int (nI (fi + n)), .ref (ad 510)]) rfl ?_
              refine S_ialdN g (i := 510) (e := fi + n) (by decide) rfl (show fi + n < 72 from by omega) (show (72 : Nat) < 2 ^ 31 from by decide) rfl ?_
              show Sim X (YR ad) 45 [(0, .ref (ad 500)), (1, .int (nI fi)), (2, .long S.1), (4, .int (nI (fi + n)))] [.int (a1 (fi + n))] I J (va_up (va_up (va_up A 510 a1) 511 b2) 512 b3) (va_up B 501 (qL m0 (Q))) 0 0
              rw [hpk]
              refine S_n g 1 (pc' := 47) (lv' := [(0, .ref (ad 500)), (1, .int (nI fi)), (2, .long S.1), (4, .int (nI (fi + n)))]) (st' := [.int (nI 60), .int (nI (L.getD (fi + n) 0))]) rfl ?_
              refine S_idiv g (nI_z1 (by omega) (by omega)) rfl ?_
              rw [pk_div (a := L.getD (fi + n) 0) (d := 60) (by omega) (by omega) (by omega)]
              refine S_n g 2 (pc' := 51) (lv' := [(0, .ref (ad 500)), (1, .int (nI fi)), (2, .long S.1), (4, .int (nI (fi + n))), (5, .int (nI ((L.getD (fi + n) 0) / 60)))]) (st' := [.ref (ad 500)]) rfl ?_
              refine S_getR g (i := 500) (c := 9) (k := 14) (j := 510) (by decide) (by decide) rfl rfl rfl fl_X9_43 rfl ?_
              refine S_n g 1 (pc' := 56) (lv' := [(0, .ref (ad 500)), (1, .int (nI fi)), (2, .long S.1), (4, .int (nI (fi + n))), (5, .int (nI ((L.getD (fi + n) 0) / 60)))]) (st' := [.int (nI (fi + n)), .ref (ad 510)]) rfl ?_
              refine S_ialdN g (i := 510) (e := fi + n) (by decide) rfl (show fi + n < 72 from by omega) (show (72 : Nat) < 2 ^ 31 from by decide) rfl ?_
              show Sim X (YR ad) 57 [(0, .ref (ad 500)), (1, .int (nI fi)), (2, .long S.1), (4, .int (nI (fi + n))), (5, .int (nI ((L.getD (fi + n) 0) / 60)))] [.int (a1 (fi + n))] I J (va_up (va_up (va_up A 510 a1) 511 b2) 512 b3) (va_up B 501 (qL m0 (Q))) 0 0
              rw [hpk]
              refine S_n g 1 (pc' := 59) (lv' := [(0, .ref (ad 500)), (1, .int (nI fi)), (2, .long S.1), (4, .int (nI (fi + n))), (5, .int (nI ((L.getD (fi + n) 0) / 60)))]) (st' := [.int (nI 60), .int (nI (L.getD (fi + n) 0))]) rfl ?_
              refine S_irem g (nI_z1 (by omega) (by omega)) rfl ?_
              rw [pk_rem (a := L.getD (fi + n) 0) (d := 60) (by omega) (by omega) (by omega)]
              refine S_n g 1 (pc' := 62) (lv' := [(0, .ref (ad 500)), (1, .int (nI fi)), (2, .long S.1), (4, .int (nI (fi + n))), (5, .int (nI ((L.getD (fi + n) 0) / 60))), (6, .int (nI ((L.getD (fi + n) 0) % 60)))]) (st' := []) rfl ?_
              show Sim X (YR ad) 62 [(0, .ref (ad 500)), (1, .int (nI fi)), (2, .long S.1), (4, .int (nI (fi + n))), (5, .int (nI (prU L (fi + n)))), (6, .int (nI (prP L (fi + n))))] [] I J (va_up (va_up (va_up A 510 a1) 511 b2) 512 b3) (va_up B 501 (qL m0 (Q))) 0 0
              refine S_n g 1 (pc' := 63) (lv' := [(0, .ref (ad 500)), (1, .int (nI fi)), (2, .long S.1), (4, .int (nI (fi + n))), (5, .int (nI (prU L (fi + n)))), (6, .int (nI (prP L (fi + n))))]) (st' := [.ref (ad 500)]) rfl ?_
              refine S_getR g (i := 500) (c := 9) (k := 15) (j := 511) (by decide) (by decide) rfl rfl rfl fl_X9_46 rfl ?_
              refine S_n g 1 (pc' := 68) (lv' := [(0, .ref (ad 500)), (1, .int (nI fi)), (2, .long S.1), (4, .int (nI (fi + n))), (5, .int (nI (prU L (fi + n)))), (6, .int (nI (prP L (fi + n))))]) (st' := [.int (nI (fi + n)), .ref (ad 511)]) rfl ?_
              refine S_zaldN g (i := 511) (e := fi + n) (by decide) rfl (show fi + n < 72 from by omega) (show (72 : Nat) < 2 ^ 31 from by decide) rfl ?_
              show Sim X (YR ad) 69 [(0, .ref (ad 500)), (1, .int (nI fi)), (2, .long S.1), (4, .int (nI (fi + n))), (5, .int (nI (prU L (fi + n)))), (6, .int (nI (prP L (fi + n))))] [.int (b2 (fi + n))] I J (va_up (va_up (va_up A 510 a1) 511 b2) 512 b3) (va_up B 501 (qL m0 (Q))) 0 0
              rw [hsk]
              refine S_ifB_ne g (tgt := 114) rfl (by decide) (fun qz69 => ?_) (fun qz69 => ?_)
              · skip
                rw [if_neg (by rw [qz69]; simp)] at hstep
                refine S_n g 1 (pc' := 117) (lv' := [(0, .ref (ad 500)), (1, .int (nI fi)), (2, .long S.1), (4, .int ((nI (fi + n)) + nI 1)), (5, .int (nI (prU L (fi + n)))), (6, .int (nI (prP L (fi + n))))]) (st' := []) rfl ?_
                rw [nI_add (fi + n) 1]
                refine S_n g 1 (pc' := 29) (lv' := [(0, .ref (ad 500)), (1, .int (nI fi)), (2, .long S.1), (4, .int (nI (fi + n + 1))), (5, .int (nI (prU L (fi + n)))), (6, .int (nI (prP L (fi + n))))]) (st' := []) rfl ?_
                refine S_keep (lv' := [(0, .ref (ad 500)), (1, .int (nI fi)), (2, .long S.1), (4, .int (nI (fi + n + 1)))]) [0, 1, 2, 4] rfl ?_
                rw [← hstep]
                exact lp (L.length - (fi + (n + 1))) (by omega) (n + 1) b2 b3 rfl (by omega) (by rw [hstep]; exact hRSn) (by rw [hstep]; exact hRGn)
              · skip
                refine S_n g 2 (pc' := 75) (lv' := [(0, .ref (ad 500)), (1, .int (nI fi)), (2, .long S.1), (4, .int (nI (fi + n))), (5, .int (nI (prU L (fi + n)))), (6, .int (nI (prP L (fi + n))))]) (st' := [.int (nI fi), .int (nI (fi + n))]) rfl ?_
                refine S_icN_eq g (tgt := 90) (by omega) (by omega) rfl (by decide) (fun qz75 => ?_) (fun qz75 => ?_)
                · skip
                  rw [if_pos (by rw [qz69]; simp [show n = 0 from by omega])] at hstep
                  refine S_n g 7 (pc' := 98) (lv' := [(0, .ref (ad 500)), (1, .int (nI fi)), (2, .long (S.1 ||| ((lN 1) <<< ((nI (prP L (fi + n))).toInt64 &&& 63)))), (4, .int (nI (fi + n))), (5, .int (nI (prU L (fi + n)))), (6, .int (nI (prP L (fi + n))))]) (st' := [.ref (ad 500)]) rfl ?_
                  refine S_getR g (i := 500) (c := 9) (k := 17) (j := 512) (by decide) (by decide) rfl rfl rfl fl_X9_49 rfl ?_
                  refine S_n g 2 (pc' := 105) (lv' := [(0, .ref (ad 500)), (1, .int (nI fi)), (2, .long (S.1 ||| ((lN 1) <<< ((nI (prP L (fi + n))).toInt64 &&& 63)))), (4, .int (nI (fi + n))), (5, .int (nI (prU L (fi + n)))), (6, .int (nI (prP L (fi + n))))]) (st' := [.int (nI (prP L (fi + n))), .int (nI (prU L (fi + n))), .ref (ad 512)]) rfl ?_
                  refine S_iastN g (i := 512) (e := prU L (fi + n)) (by decide) rfl (show prU L (fi + n) < 6 from by omega) (show (6 : Nat) < 2 ^ 31 from by decide) rfl ?_
                  rw [up2_r1 (i := 512)]
                  refine S_n g 1 (pc' := 107) (lv' := [(0, .ref (ad 500)), (1, .int (nI fi)), (2, .long (S.1 ||| ((lN 1) <<< ((nI (prP L (fi + n))).toInt64 &&& 63)))), (4, .int (nI (fi + n))), (5, .int (nI (prU L (fi + n)))), (6, .int (nI (prP L (fi + n))))]) (st' := [.ref (ad 500)]) rfl ?_
                  refine S_getR g (i := 500) (c := 9) (k := 15) (j := 511) (by decide) (by decide) rfl rfl rfl fl_X9_46 rfl ?_
                  refine S_n g 2 (pc' := 113) (lv' := [(0, .ref (ad 500)), (1, .int (nI fi)), (2, .long (S.1 ||| ((lN 1) <<< ((nI (prP L (fi + n))).toInt64 &&& 63)))), (4, .int (nI (fi + n))), (5, .int (nI (prU L (fi + n)))), (6, .int (nI (prP L (fi + n))))]) (st' := [.int (nI 1), .int (nI (fi + n)), .ref (ad 511)]) rfl ?_
                  refine S_zastN g (i := 511) (e := fi + n) (by decide) rfl (show fi + n < 72 from by omega) (show (72 : Nat) < 2 ^ 31 from by decide) rfl rfl ?_
                  rw [up2_r2 (i := 511) (j := 512) (by decide)]
                  rw [up2_r1 (i := 511)]
                  refine S_n g 1 (pc' := 117) (lv' := [(0, .ref (ad 500)), (1, .int (nI fi)), (2, .long (S.1 ||| ((lN 1) <<< ((nI (prP L (fi + n))).toInt64 &&& 63)))), (4, .int ((nI (fi + n)) + nI 1)), (5, .int (nI (prU L (fi + n)))), (6, .int (nI (prP L (fi + n))))]) (st' := []) rfl ?_
                  rw [nI_add (fi + n) 1]
                  refine S_n g 1 (pc' := 29) (lv' := [(0, .ref (ad 500)), (1, .int (nI fi)), (2, .long (S.1 ||| ((lN 1) <<< ((nI (prP L (fi + n))).toInt64 &&& 63)))), (4, .int (nI (fi + n + 1))), (5, .int (nI (prU L (fi + n)))), (6, .int (nI (prP L (fi + n))))]) (st' := []) rfl ?_
                  refine S_keep (lv' := [(0, .ref (ad 500)), (1, .int (nI fi)), (2, .long (S.1 ||| ((lN 1) <<< ((nI (prP L (fi + n))).toInt64 &&& 63)))), (4, .int (nI (fi + n + 1)))]) [0, 1, 2, 4] rfl ?_
                  have h9 := lp (L.length - (fi + (n + 1))) (by omega) (n + 1) (va_up b2 (fi + n) (nI 1)) (va_up b3 (prU L (fi + n)) (nI (prP L (fi + n)))) rfl (by omega) (by rw [hstep]; exact RS_up hRSn) (by rw [hstep]; exact RG_up hRGn hpp)
                  rw [hstep] at h9
                  exact h9
                · skip
                  refine S_n g 4 (pc' := 84) (lv' := [(0, .ref (ad 500)), (1, .int (nI fi)), (2, .long S.1), (4, .int (nI (fi + n))), (5, .int (nI (prU L (fi + n)))), (6, .int (nI (prP L (fi + n))))]) (st' := [.long S.1, .int (nI (prP L (fi + n))), .int (nI (prU L (fi + n))), .ref (ad 500)]) rfl ?_
                  refine S_cV g (i := 500) (As := [.int (nI (prU L (fi + n))), .int (nI (prP L (fi + n))), .long S.1]) (st := []) (sp_joins ad I J (va_up (va_up (va_up A 510 a1) 511 b2) 512 b3) (va_up B 501 (qL m0 (Q))) S.2.1 S.1 (prU L (fi + n)) (prP L (fi + n)) nu ((qL_lo m0 (by omega) (by decide)).trans hU) h2 hpu hpp hRGn) mw_X9_joins lk_X9_196 ⟨Nat.le_of_ble_eq_true rfl, Nat.le_of_ble_eq_true rfl⟩ (by decide) (by decide) rfl rfl (Nat.le_of_ble_eq_true rfl) ⟨Nat.le_of_ble_eq_true rfl, Nat.le_of_ble_eq_true rfl⟩ rfl ?_
                  rw [show jnV (va_up B 501 (qL m0 (Q)) 501) S.2.1 (prU L (fi + n)) (prP L (fi + n)) S.1 nu = jnV m0 S.2.1 (prU L (fi + n)) (prP L (fi + n)) S.1 nu from jnV_cong (fun v hv => qL_lo m0 (by omega) (by omega)) hpu nu h2]
                  show Sim X (YR ad) 87 [(0, .ref (ad 500)), (1, .int (nI fi)), (2, .long S.1), (4, .int (nI (fi + n))), (5, .int (nI (prU L (fi + n)))), (6, .int (nI (prP L (fi + n))))] [.int (bI (jnV m0 S.2.1 (prU L (fi + n)) (prP L (fi + n)) S.1 nu))] I J (va_up (va_up (va_up A 510 a1) 511 b2) 512 b3) (va_up B 501 (qL m0 (Q))) 0 0
                  refine S_ifB_eq g (tgt := 114) rfl (by decide) (fun qz87 => ?_) (fun qz87 => ?_)
                  · skip
                    rw [if_neg (by rw [qz87]; simp [show ¬ n = 0 from by omega])] at hstep
                    refine S_n g 1 (pc' := 117) (lv' := [(0, .ref (ad 500)), (1, .int (nI fi)), (2, .long S.1), (4, .int ((nI (fi + n)) + nI 1)), (5, .int (nI (prU L (fi + n)))), (6, .int (nI (prP L (fi + n))))]) (st' := []) rfl ?_
                    rw [nI_add (fi + n) 1]
                    refine S_n g 1 (pc' := 29) (lv' := [(0, .ref (ad 500)), (1, .int (nI fi)), (2, .long S.1), (4, .int (nI (fi + n + 1))), (5, .int (nI (prU L (fi + n)))), (6, .int (nI (prP L (fi + n))))]) (st' := []) rfl ?_
                    refine S_keep (lv' := [(0, .ref (ad 500)), (1, .int (nI fi)), (2, .long S.1), (4, .int (nI (fi + n + 1)))]) [0, 1, 2, 4] rfl ?_
                    rw [← hstep]
                    exact lp (L.length - (fi + (n + 1))) (by omega) (n + 1) b2 b3 rfl (by omega) (by rw [hstep]; exact hRSn) (by rw [hstep]; exact hRGn)
                  · skip
                    rw [if_pos (by rw [qz69, qz87]; simp)] at hstep
                    refine S_n g 7 (pc' := 98) (lv' := [(0, .ref (ad 500)), (1, .int (nI fi)), (2, .long (S.1 ||| ((lN 1) <<< ((nI (prP L (fi + n))).toInt64 &&& 63)))), (4, .int (nI (fi + n))), (5, .int (nI (prU L (fi + n)))), (6, .int (nI (prP L (fi + n))))]) (st' := [.ref (ad 500)]) rfl ?_
                    refine S_getR g (i := 500) (c := 9) (k := 17) (j := 512) (by decide) (by decide) rfl rfl rfl fl_X9_49 rfl ?_
                    refine S_n g 2 (pc' := 105) (lv' := [(0, .ref (ad 500)), (1, .int (nI fi)), (2, .long (S.1 ||| ((lN 1) <<< ((nI (prP L (fi + n))).toInt64 &&& 63)))), (4, .int (nI (fi + n))), (5, .int (nI (prU L (fi + n)))), (6, .int (nI (prP L (fi + n))))]) (st' := [.int (nI (prP L (fi + n))), .int (nI (prU L (fi + n))), .ref (ad 512)]) rfl ?_
                    refine S_iastN g (i := 512) (e := prU L (fi + n)) (by decide) rfl (show prU L (fi + n) < 6 from by omega) (show (6 : Nat) < 2 ^ 31 from by decide) rfl ?_
                    rw [up2_r1 (i := 512)]
                    refine S_n g 1 (pc' := 107) (lv' := [(0, .ref (ad 500)), (1, .int (nI fi)), (2, .long (S.1 ||| ((lN 1) <<< ((nI (prP L (fi + n))).toInt64 &&& 63)))), (4, .int (nI (fi + n))), (5, .int (nI (prU L (fi + n)))), (6, .int (nI (prP L (fi + n))))]) (st' := [.ref (ad 500)]) rfl ?_
                    refine S_getR g (i := 500) (c := 9) (k := 15) (j := 511) (by decide) (by decide) rfl rfl rfl fl_X9_46 rfl ?_
                    refine S_n g 2 (pc' := 113) (lv' := [(0, .ref (ad 500)), (1, .int (nI fi)), (2, .long (S.1 ||| ((lN 1) <<< ((nI (prP L (fi + n))).toInt64 &&& 63)))), (4, .int (nI (fi + n))), (5, .int (nI (prU L (fi + n)))), (6, .int (nI (prP L (fi + n))))]) (st' := [.int (nI 1), .int (nI (fi + n)), .ref (ad 511)]) rfl ?_
                    refine S_zastN g (i := 511) (e := fi + n) (by decide) rfl (show fi + n < 72 from by omega) (show (72 : Nat) < 2 ^ 31 from by decide) rfl rfl ?_
                    rw [up2_r2 (i := 511) (j := 512) (by decide)]
                    rw [up2_r1 (i := 511)]
                    refine S_n g 1 (pc' := 117) (lv' := [(0, .ref (ad 500)), (1, .int (nI fi)), (2, .long (S.1 ||| ((lN 1) <<< ((nI (prP L (fi + n))).toInt64 &&& 63)))), (4, .int ((nI (fi + n)) + nI 1)), (5, .int (nI (prU L (fi + n)))), (6, .int (nI (prP L (fi + n))))]) (st' := []) rfl ?_
                    rw [nI_add (fi + n) 1]
                    refine S_n g 1 (pc' := 29) (lv' := [(0, .ref (ad 500)), (1, .int (nI fi)), (2, .long (S.1 ||| ((lN 1) <<< ((nI (prP L (fi + n))).toInt64 &&& 63)))), (4, .int (nI (fi + n + 1))), (5, .int (nI (prU L (fi + n)))), (6, .int (nI (prP L (fi + n))))]) (st' := []) rfl ?_
                    refine S_keep (lv' := [(0, .ref (ad 500)), (1, .int (nI fi)), (2, .long (S.1 ||| ((lN 1) <<< ((nI (prP L (fi + n))).toInt64 &&& 63)))), (4, .int (nI (fi + n + 1)))]) [0, 1, 2, 4] rfl ?_
                    have h9 := lp (L.length - (fi + (n + 1))) (by omega) (n + 1) (va_up b2 (fi + n) (nI 1)) (va_up b3 (prU L (fi + n)) (nI (prP L (fi + n)))) rfl (by omega) (by rw [hstep]; exact RS_up hRSn) (by rw [hstep]; exact RG_up hRGn hpp)
                    rw [hstep] at h9
                    exact h9
        exact lp _ 0 a2 c3 rfl (by omega) hRS hRG0
      · skip
        refine S_n g 1 (pc' := 13) (lv' := [(0, .ref (ad 500)), (1, .int (nI fi)), (2, .long (lN 0)), (4, .int (nI v))]) (st' := [.ref (ad 500)]) rfl ?_
        refine S_getR g (i := 500) (c := 9) (k := 17) (j := 512) (by decide) (by decide) rfl rfl rfl fl_X9_49 rfl ?_
        refine S_n g 2 (pc' := 19) (lv' := [(0, .ref (ad 500)), (1, .int (nI fi)), (2, .long (lN 0)), (4, .int (nI v))]) (st' := [.int (-nI 1), .int (nI v), .ref (ad 512)]) rfl ?_
        refine S_iastN g (i := 512) (e := v) (by decide) rfl (show v < 6 from by omega) (show (6 : Nat) < 2 ^ 31 from by decide) rfl ?_
        rw [up2_r1 (i := 512)]
        refine S_n g 1 (pc' := 23) (lv' := [(0, .ref (ad 500)), (1, .int (nI fi)), (2, .long (lN 0)), (4, .int ((nI v) + nI 1))]) (st' := []) rfl ?_
        rw [nI_add v 1]
        refine S_n g 1 (pc' := 5) (lv' := [(0, .ref (ad 500)), (1, .int (nI fi)), (2, .long (lN 0)), (4, .int (nI (v + 1)))]) (st' := []) rfl ?_
        exact lp0 (6 - (v + 1)) (by omega) (v + 1) (va_up c3 v (-nI 1)) rfl (by omega) (zi_s hz)
  exact lp0 _ 0 a3 rfl (by omega) (fun j hj => absurd hj (Nat.not_lt_zero j))
