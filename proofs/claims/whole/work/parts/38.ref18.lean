/-! the reference, part 18: reads, fault -/
theorem RC_k {r r' : Nat → Int32} {L : List (Nat × Nat × Nat)} (h : RC r L) (hr : ∀ j, j < 3 * L.length → r' j = r j) : RC r' L := by
  intro k hk
  obtain ⟨a1, a2, a3, a4, a5⟩ := h k hk
  rw [hr _ (by omega), hr _ (by omega), hr _ (by omega)]
  exact ⟨a1, a2, a3, a4, a5⟩
theorem RC_sn {r r' : Nat → Int32} {L : List (Nat × Nat × Nat)} {x y z : Nat} (h : RC r L) (hr : ∀ j, j < 3 * L.length → r' j = r j) (h1 : r' (3 * L.length) = nI x) (hx : x < 128) (h2 : r' (3 * L.length + 1) = nI y) (hy : y < 100) (h3 : x = 119 → r' (3 * L.length + 2) = nI z ∧ z < 100) : RC r' (L ++ [(x, y, z)]) := by
  intro k hk
  rw [List.length_append, List.length_singleton] at hk
  by_cases e : k < L.length
  · rw [List.getElem_append_left e]
    exact RC_k h hr k e
  · have e2 : k = L.length := by omega
    subst e2
    rw [List.getElem_append_right (Nat.le_refl _)]
    simp only [Nat.sub_self, List.getElem_cons_zero]
    exact ⟨h1, hx, h2, hy, h3⟩
theorem ne_up {r : Nat → Int32} {j k : Nat} {x : Int32} (h : j < k) : va_up r k x j = r j := va_up_ne _ _ (by omega)
theorem wd_pw (c : Nat) : 10 ^ wdN c ≤ 100 := Nat.pow_le_pow_right (by decide) (wdN_le c)

set_option maxRecDepth 100000 in
set_option maxHeartbeats 4000000 in
theorem sp_reads (ad : Nat → Nat) (I : FI) (J : FJ) (A : FI) (B : FJ) (tc : Nat → Nat) (n a : Nat) (hI4 : I 500 4 = nI n) (hT : RT_ A tc n) (ha : a ≤ n) (r : Nat → Int32) (L : List (Nat × Nat × Nat)) (hR : RC r L) (hL : 3 * L.length ≤ a) : Spec M_X9_reads [.ref (ad 500)] (YR ad) (up2 (up2 I 500 19 (nI L.length)) 500 20 (nI a)) J (va_up A 513 r) B (fun v' Y' I' J' A' B' => v' = some (.int (bI (rdC tc n a).1)) ∧ Y' = YR ad ∧ I' = up2 (up2 I 500 19 (nI (L.length + (rdC tc n a).1.toNat))) 500 20 (nI (rdC tc n a).2.1) ∧ J' = J ∧ B' = B ∧ ∃ r', A' = va_up A 513 r' ∧ RC r' (if (rdC tc n a).1 = true then L ++ [(rdC tc n a).2.2] else L)) := by
  have hn8 := hT.1
  have hcl := ch_lt hT a
  refine Spec_of (by decide) tk_X9_reads (Nat.le_of_ble_eq_true rfl) (fun X g rt => ?_)
  show Sim X (YR ad) 0 [(0, .ref (ad 500))] [] (up2 (up2 I 500 19 (nI L.length)) 500 20 (nI a)) J (va_up A 513 r) B 0 0
  refine S_n g 1 (pc' := 1) (lv' := [(0, .ref (ad 500))]) (st' := [.ref (ad 500)]) rfl ?_
  refine S_cV g (i := 500) (As := []) (st := []) (sp_next ad (up2 I 500 19 (nI L.length)) J (va_up A 513 r) B tc n (a) hI4 hT (by omega)) mw_X9_next lk_X9_238 ⟨Nat.le_of_ble_eq_true rfl, Nat.le_of_ble_eq_true rfl⟩ (by decide) (by decide) rfl rfl (Nat.le_of_ble_eq_true rfl) ⟨Nat.le_of_ble_eq_true rfl, Nat.le_of_ble_eq_true rfl⟩ rfl ?_
  show Sim X (YR ad) 4 [(0, .ref (ad 500))] [.int (hI (ch tc n a))] (up2 (up2 I 500 19 (nI L.length)) 500 20 (nI a)) J (va_up A 513 r) B 0 0
  obtain ⟨c, hc⟩ : ∃ c, c = ch tc n a := ⟨_, rfl⟩
  obtain ⟨e0, he0⟩ : ∃ e0, e0 = bl tc n (a + 1) := ⟨_, rfl⟩
  obtain ⟨N1, hN1⟩ : ∃ N1, N1 = num tc n (wdN c) e0 := ⟨_, rfl⟩
  obtain ⟨e2, he2⟩ : ∃ e2, e2 = bl tc n N1.2 := ⟨_, rfl⟩
  obtain ⟨N2, hN2⟩ : ∃ N2, N2 = num tc n (wdN c) e2 := ⟨_, rfl⟩
  obtain ⟨e3, he3⟩ : ∃ e3, e3 = bl tc n N2.2 := ⟨_, rfl⟩
  have hRD : rdC tc n a = if agN c = 0 then (false, a, (0, 0, 0)) else if N1.1 = 0 then (false, N1.2, (0, 0, 0)) else if agN c = 1 then rdZ tc n e2 (c - 1) (N1.1 - 1) 0 else if N2.1 = 0 then (false, N2.2, (0, 0, 0)) else rdZ tc n e3 (c - 1) (N1.1 - 1) (N2.1 - 1) := by unfold rdC; rw [← hc, ← he0, ← hN1, ← he2, ← hN2, ← he3]
  obtain ⟨D, hD⟩ : ∃ D, D = rdC tc n a := ⟨_, rfl⟩
  rw [← hD] at hRD
  rw [← hc] at hcl ⊢
  have hag2 := agN_le c
  refine S_n g 2 (pc' := 6) (lv' := [(0, .ref (ad 500)), (1, .int (hI c))]) (st' := [.int (hI c)]) rfl ?_
  refine S_cS g (As := [.int (hI c)]) (st := []) (sp_argumentsOf (YR ad) (up2 (up2 I 500 19 (nI L.length)) 500 20 (nI a)) J (va_up A 513 r) B c hcl) mw_X9_argumentsOf lk_X9_252 ⟨Nat.le_of_ble_eq_true rfl, Nat.le_of_ble_eq_true rfl⟩ rfl (Nat.le_of_ble_eq_true rfl) ⟨Nat.le_of_ble_eq_true rfl, Nat.le_of_ble_eq_true rfl⟩ rfl ?_
  show Sim X (YR ad) 9 [(0, .ref (ad 500)), (1, .int (hI c))] [.int (nI (agN c))] (up2 (up2 I 500 19 (nI L.length)) 500 20 (nI a)) J (va_up A 513 r) B 0 0
  refine S_n g 2 (pc' := 11) (lv' := [(0, .ref (ad 500)), (1, .int (hI c)), (2, .int (nI (agN c)))]) (st' := [.int (nI (agN c))]) rfl ?_
  refine S_ifN_ne g (tgt := 16) (by omega) rfl (by decide) (fun qz11 => ?_) (fun qz11 => ?_)
  · skip
    rw [if_neg (by omega)] at hRD
    have hc0 := agN_pos (show ¬ agN c = 0 by omega)
    have han : a < n := ch_pos (tc := tc) (by rw [← hc]; exact hc0)
    have he0n : e0 ≤ n := by rw [he0]; exact bl_le han
    have hnb1 := num_b (tc := tc) (w := wdN c) he0n
    rw [← hN1] at hnb1
    obtain ⟨b1, b2, b3, b4⟩ := hnb1
    have he2n : e2 ≤ n := by rw [he2]; exact bl_le b2
    have hnb2 := num_b (tc := tc) (w := wdN c) he2n
    rw [← hN2] at hnb2
    obtain ⟨b5, b6, b7, b8⟩ := hnb2
    have he3n : e3 ≤ n := by rw [he3]; exact bl_le b6
    have hwp := wd_pw c
    refine S_lveq (lv' := [(0, .ref (ad 500)), (1, .int (nI (c - 1))), (2, .int (nI (agN c)))]) (by rw [(show hI c = nI (c - 1) from hI_pos hc0).symm]) ?_
    refine S_n g 1 (pc' := 17) (lv' := [(0, .ref (ad 500)), (1, .int (nI (c - 1))), (2, .int (nI (agN c)))]) (st' := [.ref (ad 500)]) rfl ?_
    refine S_getR g (i := 500) (c := 9) (k := 18) (j := 513) (by decide) (by decide) rfl rfl rfl fl_X9_52 rfl ?_
    refine S_n g 2 (pc' := 22) (lv' := [(0, .ref (ad 500)), (1, .int (nI (c - 1))), (2, .int (nI (agN c)))]) (st' := [.ref (ad 500), .int (nI 3), .ref (ad 513)]) rfl ?_
    refine S_getI g (i := 500) (c := 9) (k := 19) (by decide) (by decide) rfl rfl fl_X9_255 rfl ?_
    show Sim X (YR ad) 25 [(0, .ref (ad 500)), (1, .int (nI (c - 1))), (2, .int (nI (agN c)))] [.int (nI L.length), .int (nI 3), .ref (ad 513)] (up2 (up2 I 500 19 (nI L.length)) 500 20 (nI a)) J (va_up A 513 r) B 0 0
    refine S_n g 1 (pc' := 26) (lv' := [(0, .ref (ad 500)), (1, .int (nI (c - 1))), (2, .int (nI (agN c)))]) (st' := [.int ((nI 3) * (nI L.length)), .ref (ad 513)]) rfl ?_
    rw [pk_mul 3 L.length]
    refine S_n g 1 (pc' := 27) (lv' := [(0, .ref (ad 500)), (1, .int (nI (c - 1))), (2, .int (nI (agN c)))]) (st' := [.int (nI (c - 1)), .int (nI (3 * L.length)), .ref (ad 513)]) rfl ?_
    refine S_iastN g (i := 513) (e := 3 * L.length) (by decide) rfl (show 3 * L.length < 120 from by omega) (show (120 : Nat) < 2 ^ 31 from by decide) rfl ?_
    rw [up2_r1 (i := 513)]
    refine S_n g 2 (pc' := 30) (lv' := [(0, .ref (ad 500)), (1, .int (nI (c - 1))), (2, .int (nI (agN c)))]) (st' := [.ref (ad 500), .ref (ad 500)]) rfl ?_
    refine S_getI g (i := 500) (c := 9) (k := 20) (by decide) (by decide) rfl rfl fl_X9_235 rfl ?_
    show Sim X (YR ad) 33 [(0, .ref (ad 500)), (1, .int (nI (c - 1))), (2, .int (nI (agN c)))] [.int (nI a), .ref (ad 500)] (up2 (up2 I 500 19 (nI L.length)) 500 20 (nI a)) J (va_up A 513 (va_up r (3 * L.length) (nI (c - 1)))) B 0 0
    refine S_n g 2 (pc' := 35) (lv' := [(0, .ref (ad 500)), (1, .int (nI (c - 1))), (2, .int (nI (agN c)))]) (st' := [.int ((nI a) + (nI 1)), .ref (ad 500)]) rfl ?_
    rw [nI_add a 1]
    refine S_putI g (i := 500) (c := 9) (k := 20) (kd := 0) (by decide) (by decide) rfl rfl (by decide) fw_X9_235 rfl rfl rfl ?_
    rw [up2_c1 (i := 500) (k := 20)]
    refine S_n g 1 (pc' := 39) (lv' := [(0, .ref (ad 500)), (1, .int (nI (c - 1))), (2, .int (nI (agN c)))]) (st' := [.ref (ad 500)]) rfl ?_
    refine S_cV g (i := 500) (As := []) (st := []) (sp_blanks ad (up2 I 500 19 (nI L.length)) J (va_up A 513 (va_up r (3 * L.length) (nI (c - 1)))) B tc n (a + 1) hI4 hT (by omega)) mw_X9_blanks lk_X9_249 ⟨Nat.le_of_ble_eq_true rfl, Nat.le_of_ble_eq_true rfl⟩ (by decide) (by decide) rfl rfl (Nat.le_of_ble_eq_true rfl) ⟨Nat.le_of_ble_eq_true rfl, Nat.le_of_ble_eq_true rfl⟩ rfl ?_
    show Sim X (YR ad) 42 [(0, .ref (ad 500)), (1, .int (nI (c - 1))), (2, .int (nI (agN c)))] [] (up2 (up2 I 500 19 (nI L.length)) 500 20 (nI (bl tc n (a + 1)))) J (va_up A 513 (va_up r (3 * L.length) (nI (c - 1)))) B 0 0
    rw [← he0]
    have jn : Sim X (YR ad) 66 [(0, .ref (ad 500)), (1, .int (nI (c - 1))), (2, .int (nI (agN c))), (3, .int (bI (decide (c = 114 ∨ c = 106 ∨ c = 117))))] [] (up2 (up2 I 500 19 (nI L.length)) 500 20 (nI e0)) J (va_up A 513 (va_up r (3 * L.length) (nI (c - 1)))) B 0 0 := by
      rcases (show agN c = 1 ∨ agN c = 2 by omega) with hag | hag
      · skip
        refine S_lveq (lv' := [(0, .ref (ad 500)), (1, .int (nI (c - 1))), (2, .int (nI 1)), (3, .int (bI (decide (c = 114 ∨ c = 106 ∨ c = 117))))]) (by rw [(show nI (agN c) = nI 1 from by rw [hag]).symm]) ?_
        refine S_n g 2 (pc' := 69) (lv' := [(0, .ref (ad 500)), (1, .int (nI (c - 1))), (2, .int (nI 1)), (3, .int (bI (decide (c = 114 ∨ c = 106 ∨ c = 117)))), (4, .int (nI 1))]) (st' := []) rfl ?_
        refine S_n g 2 (pc' := 72) (lv' := [(0, .ref (ad 500)), (1, .int (nI (c - 1))), (2, .int (nI 1)), (3, .int (bI (decide (c = 114 ∨ c = 106 ∨ c = 117)))), (4, .int (nI 1))]) (st' := [.int (nI 1), .int (nI 1)]) rfl ?_
        refine S_icN_gt g (tgt := 124) (by omega) (by omega) rfl (by decide) (fun qz72 => ?_) (fun qz72 => ?_)
        · skip
          exact absurd qz72 (by decide)
        · skip
          refine S_n g 2 (pc' := 77) (lv' := [(0, .ref (ad 500)), (1, .int (nI (c - 1))), (2, .int (nI 1)), (3, .int (bI (decide (c = 114 ∨ c = 106 ∨ c = 117)))), (4, .int (nI 1))]) (st' := [.int (bI (decide (c = 114 ∨ c = 106 ∨ c = 117))), .ref (ad 500)]) rfl ?_
          have jb1 : Sim X (YR ad) 85 [(0, .ref (ad 500)), (1, .int (nI (c - 1))), (2, .int (nI 1)), (3, .int (bI (decide (c = 114 ∨ c = 106 ∨ c = 117)))), (4, .int (nI 1))] [.int (nI (wdN c)), .ref (ad 500)] (up2 (up2 I 500 19 (nI L.length)) 500 20 (nI e0)) J (va_up A 513 (va_up r (3 * L.length) (nI (c - 1)))) B 0 0 := by
            skip
            refine S_cV g (i := 500) (As := [.int (nI (wdN c))]) (st := []) (sp_number ad (up2 I 500 19 (nI L.length)) J (va_up A 513 (va_up r (3 * L.length) (nI (c - 1)))) B tc n e0 hI4 hT he0n (wdN c) (wdN_le c)) mw_X9_number lk_X9_258 ⟨Nat.le_of_ble_eq_true rfl, Nat.le_of_ble_eq_true rfl⟩ (by decide) (by decide) rfl rfl (Nat.le_of_ble_eq_true rfl) ⟨Nat.le_of_ble_eq_true rfl, Nat.le_of_ble_eq_true rfl⟩ rfl ?_
            rw [← hN1]
            show Sim X (YR ad) 88 [(0, .ref (ad 500)), (1, .int (nI (c - 1))), (2, .int (nI 1)), (3, .int (bI (decide (c = 114 ∨ c = 106 ∨ c = 117)))), (4, .int (nI 1))] [.int (hI N1.1)] (up2 (up2 I 500 19 (nI L.length)) 500 20 (nI N1.2)) J (va_up A 513 (va_up r (3 * L.length) (nI (c - 1)))) B 0 0
            refine S_n g 3 (pc' := 93) (lv' := [(0, .ref (ad 500)), (1, .int (nI (c - 1))), (2, .int (nI 1)), (3, .int (bI (decide (c = 114 ∨ c = 106 ∨ c = 117)))), (4, .int (nI 1)), (5, .int (hI N1.1))]) (st' := [.int (-nI 1), .int (hI N1.1)]) rfl ?_
            refine S_ic_ne g (tgt := 98) rfl (by decide) (fun qz93 => ?_) (fun qz93 => ?_)
            · skip
              have hv1 : ¬ N1.1 = 0 := fun q => qz93 ((hI_m1 (by omega)).mpr q)
              refine S_lveq (lv' := [(0, .ref (ad 500)), (1, .int (nI (c - 1))), (2, .int (nI 1)), (3, .int (bI (decide (c = 114 ∨ c = 106 ∨ c = 117)))), (4, .int (nI 1)), (5, .int (nI (N1.1 - 1)))]) (by rw [(show hI N1.1 = nI (N1.1 - 1) from hI_pos (by omega)).symm]) ?_
              refine S_n g 1 (pc' := 99) (lv' := [(0, .ref (ad 500)), (1, .int (nI (c - 1))), (2, .int (nI 1)), (3, .int (bI (decide (c = 114 ∨ c = 106 ∨ c = 117)))), (4, .int (nI 1)), (5, .int (nI (N1.1 - 1)))]) (st' := [.ref (ad 500)]) rfl ?_
              refine S_getR g (i := 500) (c := 9) (k := 18) (j := 513) (by decide) (by decide) rfl rfl rfl fl_X9_52 rfl ?_
              refine S_n g 2 (pc' := 104) (lv' := [(0, .ref (ad 500)), (1, .int (nI (c - 1))), (2, .int (nI 1)), (3, .int (bI (decide (c = 114 ∨ c = 106 ∨ c = 117)))), (4, .int (nI 1)), (5, .int (nI (N1.1 - 1)))]) (st' := [.ref (ad 500), .int (nI 3), .ref (ad 513)]) rfl ?_
              refine S_getI g (i := 500) (c := 9) (k := 19) (by decide) (by decide) rfl rfl fl_X9_255 rfl ?_
              show Sim X (YR ad) 107 [(0, .ref (ad 500)), (1, .int (nI (c - 1))), (2, .int (nI 1)), (3, .int (bI (decide (c = 114 ∨ c = 106 ∨ c = 117)))), (4, .int (nI 1)), (5, .int (nI (N1.1 - 1)))] [.int (nI L.length), .int (nI 3), .ref (ad 513)] (up2 (up2 I 500 19 (nI L.length)) 500 20 (nI N1.2)) J (va_up A 513 (va_up r (3 * L.length) (nI (c - 1)))) B 0 0
              refine S_n g 1 (pc' := 108) (lv' := [(0, .ref (ad 500)), (1, .int (nI (c - 1))), (2, .int (nI 1)), (3, .int (bI (decide (c = 114 ∨ c = 106 ∨ c = 117)))), (4, .int (nI 1)), (5, .int (nI (N1.1 - 1)))]) (st' := [.int ((nI 3) * (nI L.length)), .ref (ad 513)]) rfl ?_
              rw [pk_mul 3 L.length]
              refine S_n g 2 (pc' := 111) (lv' := [(0, .ref (ad 500)), (1, .int (nI (c - 1))), (2, .int (nI 1)), (3, .int (bI (decide (c = 114 ∨ c = 106 ∨ c = 117)))), (4, .int (nI 1)), (5, .int (nI (N1.1 - 1)))]) (st' := [.int ((nI (3 * L.length)) + (nI 1)), .ref (ad 513)]) rfl ?_
              rw [nI_add (3 * L.length) 1]
              refine S_n g 1 (pc' := 113) (lv' := [(0, .ref (ad 500)), (1, .int (nI (c - 1))), (2, .int (nI 1)), (3, .int (bI (decide (c = 114 ∨ c = 106 ∨ c = 117)))), (4, .int (nI 1)), (5, .int (nI (N1.1 - 1)))]) (st' := [.int (nI (N1.1 - 1)), .int (nI ((3 * L.length) + 1)), .ref (ad 513)]) rfl ?_
              refine S_iastN g (i := 513) (e := (3 * L.length) + 1) (by decide) rfl (show (3 * L.length) + 1 < 120 from by omega) (show (120 : Nat) < 2 ^ 31 from by decide) rfl ?_
              rw [up2_r1 (i := 513)]
              refine S_n g 1 (pc' := 115) (lv' := [(0, .ref (ad 500)), (1, .int (nI (c - 1))), (2, .int (nI 1)), (3, .int (bI (decide (c = 114 ∨ c = 106 ∨ c = 117)))), (4, .int (nI 1)), (5, .int (nI (N1.1 - 1)))]) (st' := [.ref (ad 500)]) rfl ?_
              refine S_cV g (i := 500) (As := []) (st := []) (sp_blanks ad (up2 I 500 19 (nI L.length)) J (va_up A 513 (va_up (va_up r (3 * L.length) (nI (c - 1))) ((3 * L.length) + 1) (nI (N1.1 - 1)))) B tc n (N1.2) hI4 hT (by omega)) mw_X9_blanks lk_X9_249 ⟨Nat.le_of_ble_eq_true rfl, Nat.le_of_ble_eq_true rfl⟩ (by decide) (by decide) rfl rfl (Nat.le_of_ble_eq_true rfl) ⟨Nat.le_of_ble_eq_true rfl, Nat.le_of_ble_eq_true rfl⟩ rfl ?_
              show Sim X (YR ad) 118 [(0, .ref (ad 500)), (1, .int (nI (c - 1))), (2, .int (nI 1)), (3, .int (bI (decide (c = 114 ∨ c = 106 ∨ c = 117)))), (4, .int (nI 1)), (5, .int (nI (N1.1 - 1)))] [] (up2 (up2 I 500 19 (nI L.length)) 500 20 (nI (bl tc n N1.2))) J (va_up A 513 (va_up (va_up r (3 * L.length) (nI (c - 1))) ((3 * L.length) + 1) (nI (N1.1 - 1)))) B 0 0
              rw [← he2]
              show Sim X (YR ad) 118 [(0, .ref (ad 500)), (1, .int (nI (c - 1))), (2, .int (nI 1)), (3, .int (bI (decide (c = 114 ∨ c = 106 ∨ c = 117)))), (4, .int (nI 1)), (5, .int (nI (N1.1 - 1)))] [] (up2 (up2 I 500 19 (nI L.length)) 500 20 (nI e2)) J (va_up A 513 (va_up (va_up r (3 * L.length) (nI (c - 1))) ((3 * L.length) + 1) (nI (N1.1 - 1)))) B 0 0
              refine S_n g 1 (pc' := 121) (lv' := [(0, .ref (ad 500)), (1, .int (nI (c - 1))), (2, .int (nI 1)), (3, .int (bI (decide (c = 114 ∨ c = 106 ∨ c = 117)))), (4, .int ((nI 1) + nI 1)), (5, .int (nI (N1.1 - 1)))]) (st' := []) rfl ?_
              rw [nI_add 1 1]
              refine S_n g 1 (pc' := 69) (lv' := [(0, .ref (ad 500)), (1, .int (nI (c - 1))), (2, .int (nI 1)), (3, .int (bI (decide (c = 114 ∨ c = 106 ∨ c = 117)))), (4, .int (nI (1 + 1))), (5, .int (nI (N1.1 - 1)))]) (st' := []) rfl ?_
              refine S_lveq (lv' := [(0, .ref (ad 500)), (1, .int (nI (c - 1))), (2, .int (nI 1)), (3, .int (bI (decide (c = 114 ∨ c = 106 ∨ c = 117)))), (4, .int (nI 2)), (5, .int (nI (N1.1 - 1)))]) (by rw [(show nI (1 + 1) = nI 2 from rfl).symm]) ?_
              refine S_n g 2 (pc' := 72) (lv' := [(0, .ref (ad 500)), (1, .int (nI (c - 1))), (2, .int (nI 1)), (3, .int (bI (decide (c = 114 ∨ c = 106 ∨ c = 117)))), (4, .int (nI 2)), (5, .int (nI (N1.1 - 1)))]) (st' := [.int (nI 1), .int (nI 2)]) rfl ?_
              refine S_icN_gt g (tgt := 124) (by omega) (by omega) rfl (by decide) (fun qz72 => ?_) (fun qz72 => ?_)
              · skip
                refine S_n g 1 (pc' := 125) (lv' := [(0, .ref (ad 500)), (1, .int (nI (c - 1))), (2, .int (nI 1)), (3, .int (bI (decide (c = 114 ∨ c = 106 ∨ c = 117)))), (4, .int (nI 2)), (5, .int (nI (N1.1 - 1)))]) (st' := [.ref (ad 500)]) rfl ?_
                refine S_cV g (i := 500) (As := []) (st := []) (sp_next ad (up2 I 500 19 (nI L.length)) J (va_up A 513 (va_up (va_up r (3 * L.length) (nI (c - 1))) ((3 * L.length) + 1) (nI (N1.1 - 1)))) B tc n (e2) hI4 hT (by omega)) mw_X9_next lk_X9_238 ⟨Nat.le_of_ble_eq_true rfl, Nat.le_of_ble_eq_true rfl⟩ (by decide) (by decide) rfl rfl (Nat.le_of_ble_eq_true rfl) ⟨Nat.le_of_ble_eq_true rfl, Nat.le_of_ble_eq_true rfl⟩ rfl ?_
                show Sim X (YR ad) 128 [(0, .ref (ad 500)), (1, .int (nI (c - 1))), (2, .int (nI 1)), (3, .int (bI (decide (c = 114 ∨ c = 106 ∨ c = 117)))), (4, .int (nI 2)), (5, .int (nI (N1.1 - 1)))] [.int (hI (ch tc n e2))] (up2 (up2 I 500 19 (nI L.length)) 500 20 (nI e2)) J (va_up A 513 (va_up (va_up r (3 * L.length) (nI (c - 1))) ((3 * L.length) + 1) (nI (N1.1 - 1)))) B 0 0
                have hcz := ch_lt hT e2
                have hDZ : D = rdZ tc n e2 (c - 1) (N1.1 - 1) 0 := by rw [hRD, if_neg hv1, if_pos hag]
                refine S_n g 1 (pc' := 130) (lv' := [(0, .ref (ad 500)), (1, .int (nI (c - 1))), (2, .int (nI 1)), (3, .int (bI (decide (c = 114 ∨ c = 106 ∨ c = 117)))), (4, .int (nI 2)), (5, .int (nI (N1.1 - 1)))]) (st' := [.int (nI 59), .int (hI (ch tc n e2))]) rfl ?_
                refine S_ic_eq g (tgt := 135) rfl (by decide) (fun qz130 => ?_) (fun qz130 => ?_)
                · skip
                  have hcs : ch tc n e2 = 60 := (hI_lit (by omega) (by decide)).mp qz130
                  have hen := ch_pos (show 0 < ch tc n e2 by omega)
                  rw [rdZ, if_pos hcs] at hDZ
                  refine S_n g 2 (pc' := 137) (lv' := [(0, .ref (ad 500)), (1, .int (nI (c - 1))), (2, .int (nI 1)), (3, .int (bI (decide (c = 114 ∨ c = 106 ∨ c = 117)))), (4, .int (nI 2)), (5, .int (nI (N1.1 - 1)))]) (st' := [.ref (ad 500), .ref (ad 500)]) rfl ?_
                  refine S_getI g (i := 500) (c := 9) (k := 20) (by decide) (by decide) rfl rfl fl_X9_235 rfl ?_
                  show Sim X (YR ad) 140 [(0, .ref (ad 500)), (1, .int (nI (c - 1))), (2, .int (nI 1)), (3, .int (bI (decide (c = 114 ∨ c = 106 ∨ c = 117)))), (4, .int (nI 2)), (5, .int (nI (N1.1 - 1)))] [.int (nI e2), .ref (ad 500)] (up2 (up2 I 500 19 (nI L.length)) 500 20 (nI e2)) J (va_up A 513 (va_up (va_up r (3 * L.length) (nI (c - 1))) ((3 * L.length) + 1) (nI (N1.1 - 1)))) B 0 0
                  refine S_n g 2 (pc' := 142) (lv' := [(0, .ref (ad 500)), (1, .int (nI (c - 1))), (2, .int (nI 1)), (3, .int (bI (decide (c = 114 ∨ c = 106 ∨ c = 117)))), (4, .int (nI 2)), (5, .int (nI (N1.1 - 1)))]) (st' := [.int ((nI e2) + (nI 1)), .ref (ad 500)]) rfl ?_
                  rw [nI_add e2 1]
                  refine S_putI g (i := 500) (c := 9) (k := 20) (kd := 0) (by decide) (by decide) rfl rfl (by decide) fw_X9_235 rfl rfl rfl ?_
                  rw [up2_c1 (i := 500) (k := 20)]
                  refine S_n g 1 (pc' := 146) (lv' := [(0, .ref (ad 500)), (1, .int (nI (c - 1))), (2, .int (nI 1)), (3, .int (bI (decide (c = 114 ∨ c = 106 ∨ c = 117)))), (4, .int (nI 2)), (5, .int (nI (N1.1 - 1)))]) (st' := [.ref (ad 500)]) rfl ?_
                  refine S_cV g (i := 500) (As := []) (st := []) (sp_blanks ad (up2 I 500 19 (nI L.length)) J (va_up A 513 (va_up (va_up r (3 * L.length) (nI (c - 1))) ((3 * L.length) + 1) (nI (N1.1 - 1)))) B tc n (e2 + 1) hI4 hT (by omega)) mw_X9_blanks lk_X9_249 ⟨Nat.le_of_ble_eq_true rfl, Nat.le_of_ble_eq_true rfl⟩ (by decide) (by decide) rfl rfl (Nat.le_of_ble_eq_true rfl) ⟨Nat.le_of_ble_eq_true rfl, Nat.le_of_ble_eq_true rfl⟩ rfl ?_
                  show Sim X (YR ad) 149 [(0, .ref (ad 500)), (1, .int (nI (c - 1))), (2, .int (nI 1)), (3, .int (bI (decide (c = 114 ∨ c = 106 ∨ c = 117)))), (4, .int (nI 2)), (5, .int (nI (N1.1 - 1)))] [] (up2 (up2 I 500 19 (nI L.length)) 500 20 (nI (bl tc n (e2 + 1)))) J (va_up A 513 (va_up (va_up r (3 * L.length) (nI (c - 1))) ((3 * L.length) + 1) (nI (N1.1 - 1)))) B 0 0
                  refine S_n g 2 (pc' := 151) (lv' := [(0, .ref (ad 500)), (1, .int (nI (c - 1))), (2, .int (nI 1)), (3, .int (bI (decide (c = 114 ∨ c = 106 ∨ c = 117)))), (4, .int (nI 2)), (5, .int (nI (N1.1 - 1)))]) (st' := [.ref (ad 500), .ref (ad 500)]) rfl ?_
                  refine S_getI g (i := 500) (c := 9) (k := 19) (by decide) (by decide) rfl rfl fl_X9_255 rfl ?_
                  show Sim X (YR ad) 154 [(0, .ref (ad 500)), (1, .int (nI (c - 1))), (2, .int (nI 1)), (3, .int (bI (decide (c = 114 ∨ c = 106 ∨ c = 117)))), (4, .int (nI 2)), (5, .int (nI (N1.1 - 1)))] [.int (nI L.length), .ref (ad 500)] (up2 (up2 I 500 19 (nI L.length)) 500 20 (nI (bl tc n (e2 + 1)))) J (va_up A 513 (va_up (va_up r (3 * L.length) (nI (c - 1))) ((3 * L.length) + 1) (nI (N1.1 - 1)))) B 0 0
                  refine S_n g 2 (pc' := 156) (lv' := [(0, .ref (ad 500)), (1, .int (nI (c - 1))), (2, .int (nI 1)), (3, .int (bI (decide (c = 114 ∨ c = 106 ∨ c = 117)))), (4, .int (nI 2)), (5, .int (nI (N1.1 - 1)))]) (st' := [.int ((nI L.length) + (nI 1)), .ref (ad 500)]) rfl ?_
                  rw [nI_add L.length 1]
                  refine S_putI g (i := 500) (c := 9) (k := 19) (kd := 0) (by decide) (by decide) rfl rfl (by decide) fw_X9_255 rfl rfl rfl ?_
                  rw [up2_c2 (i := 500) (k := 19) (j := 500) (l := 20) (Or.inr (by decide))]
                  rw [up2_c1 (i := 500) (k := 19)]
                  refine S_n g 1 (pc' := 160) (lv' := [(0, .ref (ad 500)), (1, .int (nI (c - 1))), (2, .int (nI 1)), (3, .int (bI (decide (c = 114 ∨ c = 106 ∨ c = 117)))), (4, .int (nI 2)), (5, .int (nI (N1.1 - 1)))]) (st' := [.int (nI 1)]) rfl ?_
                  show Sim X (YR ad) 160 [(0, .ref (ad 500)), (1, .int (nI (c - 1))), (2, .int (nI 1)), (3, .int (bI (decide (c = 114 ∨ c = 106 ∨ c = 117)))), (4, .int (nI 2)), (5, .int (nI (N1.1 - 1)))] [.int (bI true)] (up2 (up2 I 500 19 (nI (L.length + 1))) 500 20 (nI (bl tc n (e2 + 1)))) J (va_up A 513 (va_up (va_up r (3 * L.length) (nI (c - 1))) ((3 * L.length) + 1) (nI (N1.1 - 1)))) B 0 0
                  exact rtZ rt rfl rfl (⟨by rw [← hD, hDZ], rfl, by rw [← hD, hDZ]; rfl, rfl, rfl, _, rfl, by rw [← hD, hDZ]; exact RC_sn hR (fun j hj => (ne_up (by omega)).trans (ne_up hj)) ((ne_up (by omega)).trans (va_up_self _ _ _)) (by omega) (va_up_self _ _ _) (by omega) (fun q => by have : agN 120 = 2 := rfl; rw [show c = 120 from by omega] at hag; omega)⟩)
                · skip
                  have hcs : ¬ ch tc n e2 = 60 := fun q => qz130 ((hI_lit (by omega) (by decide)).mpr q)
                  rw [rdZ, if_neg hcs] at hDZ
                  refine S_n g 1 (pc' := 134) (lv' := [(0, .ref (ad 500)), (1, .int (nI (c - 1))), (2, .int (nI 1)), (3, .int (bI (decide (c = 114 ∨ c = 106 ∨ c = 117)))), (4, .int (nI 2)), (5, .int (nI (N1.1 - 1)))]) (st' := [.int (nI 0)]) rfl ?_
                  show Sim X (YR ad) 134 [(0, .ref (ad 500)), (1, .int (nI (c - 1))), (2, .int (nI 1)), (3, .int (bI (decide (c = 114 ∨ c = 106 ∨ c = 117)))), (4, .int (nI 2)), (5, .int (nI (N1.1 - 1)))] [.int (bI false)] (up2 (up2 I 500 19 (nI L.length)) 500 20 (nI e2)) J (va_up A 513 (va_up (va_up r (3 * L.length) (nI (c - 1))) ((3 * L.length) + 1) (nI (N1.1 - 1)))) B 0 0
                  exact rtZ rt rfl rfl (⟨by rw [← hD, hDZ], rfl, by rw [← hD, hDZ]; rfl, rfl, rfl, _, rfl, by rw [← hD, hDZ]; show RC _ L; exact RC_k hR (fun j hj => (ne_up (by omega)).trans (ne_up hj))⟩)
              · skip
                exact absurd qz72 (by decide)
            · skip
              have hv1 : N1.1 = 0 := (hI_m1 (by omega)).mp qz93
              rw [if_pos hv1] at hRD
              refine S_n g 1 (pc' := 97) (lv' := [(0, .ref (ad 500)), (1, .int (nI (c - 1))), (2, .int (nI 1)), (3, .int (bI (decide (c = 114 ∨ c = 106 ∨ c = 117)))), (4, .int (nI 1)), (5, .int (hI N1.1))]) (st' := [.int (nI 0)]) rfl ?_
              show Sim X (YR ad) 97 [(0, .ref (ad 500)), (1, .int (nI (c - 1))), (2, .int (nI 1)), (3, .int (bI (decide (c = 114 ∨ c = 106 ∨ c = 117)))), (4, .int (nI 1)), (5, .int (hI N1.1))] [.int (bI false)] (up2 (up2 I 500 19 (nI L.length)) 500 20 (nI N1.2)) J (va_up A 513 (va_up r (3 * L.length) (nI (c - 1)))) B 0 0
              exact rtZ rt rfl rfl (⟨by rw [← hD, hRD], rfl, by rw [← hD, hRD]; rfl, rfl, rfl, _, rfl, by rw [← hD, hRD]; show RC _ L; exact RC_k hR (fun j hj => ne_up hj)⟩)
          refine S_ifB_eq g (tgt := 84) rfl (by decide) (fun qz77 => ?_) (fun qz77 => ?_)
          · skip
            refine S_n g 1 (pc' := 85) (lv' := [(0, .ref (ad 500)), (1, .int (nI (c - 1))), (2, .int (nI 1)), (3, .int (bI (decide (c = 114 ∨ c = 106 ∨ c = 117)))), (4, .int (nI 1))]) (st' := [.int (nI 1), .ref (ad 500)]) rfl ?_
            refine S_steq (st' := [.int (nI (wdN c)), .ref (ad 500)]) (by rw [(show nI 1 = nI (wdN c) from by rw [wdN, if_neg (of_decide_eq_false qz77)]).symm]) ?_
            exact jb1
          · skip
            refine S_n g 2 (pc' := 85) (lv' := [(0, .ref (ad 500)), (1, .int (nI (c - 1))), (2, .int (nI 1)), (3, .int (bI (decide (c = 114 ∨ c = 106 ∨ c = 117)))), (4, .int (nI 1))]) (st' := [.int (nI 2), .ref (ad 500)]) rfl ?_
            refine S_steq (st' := [.int (nI (wdN c)), .ref (ad 500)]) (by rw [(show nI 2 = nI (wdN c) from by rw [wdN, if_pos (of_decide_eq_true qz77)]).symm]) ?_
            exact jb1
      · skip
        refine S_lveq (lv' := [(0, .ref (ad 500)), (1, .int (nI (c - 1))), (2, .int (nI 2)), (3, .int (bI (decide (c = 114 ∨ c = 106 ∨ c = 117))))]) (by rw [(show nI (agN c) = nI 2 from by rw [hag]).symm]) ?_
        refine S_n g 2 (pc' := 69) (lv' := [(0, .ref (ad 500)), (1, .int (nI (c - 1))), (2, .int (nI 2)), (3, .int (bI (decide (c = 114 ∨ c = 106 ∨ c = 117)))), (4, .int (nI 1))]) (st' := []) rfl ?_
        refine S_n g 2 (pc' := 72) (lv' := [(0, .ref (ad 500)), (1, .int (nI (c - 1))), (2, .int (nI 2)), (3, .int (bI (decide (c = 114 ∨ c = 106 ∨ c = 117)))), (4, .int (nI 1))]) (st' := [.int (nI 2), .int (nI 1)]) rfl ?_
        refine S_icN_gt g (tgt := 124) (by omega) (by omega) rfl (by decide) (fun qz72 => ?_) (fun qz72 => ?_)
        · skip
          exact absurd qz72 (by decide)
        · skip
          refine S_n g 2 (pc' := 77) (lv' := [(0, .ref (ad 500)), (1, .int (nI (c - 1))), (2, .int (nI 2)), (3, .int (bI (decide (c = 114 ∨ c = 106 ∨ c = 117)))), (4, .int (nI 1))]) (st' := [.int (bI (decide (c = 114 ∨ c = 106 ∨ c = 117))), .ref (ad 500)]) rfl ?_
          have jb1 : Sim X (YR ad) 85 [(0, .ref (ad 500)), (1, .int (nI (c - 1))), (2, .int (nI 2)), (3, .int (bI (decide (c = 114 ∨ c = 106 ∨ c = 117)))), (4, .int (nI 1))] [.int (nI (wdN c)), .ref (ad 500)] (up2 (up2 I 500 19 (nI L.length)) 500 20 (nI e0)) J (va_up A 513 (va_up r (3 * L.length) (nI (c - 1)))) B 0 0 := by
            skip
            refine S_cV g (i := 500) (As := [.int (nI (wdN c))]) (st := []) (sp_number ad (up2 I 500 19 (nI L.length)) J (va_up A 513 (va_up r (3 * L.length) (nI (c - 1)))) B tc n e0 hI4 hT he0n (wdN c) (wdN_le c)) mw_X9_number lk_X9_258 ⟨Nat.le_of_ble_eq_true rfl, Nat.le_of_ble_eq_true rfl⟩ (by decide) (by decide) rfl rfl (Nat.le_of_ble_eq_true rfl) ⟨Nat.le_of_ble_eq_true rfl, Nat.le_of_ble_eq_true rfl⟩ rfl ?_
            rw [← hN1]
            show Sim X (YR ad) 88 [(0, .ref (ad 500)), (1, .int (nI (c - 1))), (2, .int (nI 2)), (3, .int (bI (decide (c = 114 ∨ c = 106 ∨ c = 117)))), (4, .int (nI 1))] [.int (hI N1.1)] (up2 (up2 I 500 19 (nI L.length)) 500 20 (nI N1.2)) J (va_up A 513 (va_up r (3 * L.length) (nI (c - 1)))) B 0 0
            refine S_n g 3 (pc' := 93) (lv' := [(0, .ref (ad 500)), (1, .int (nI (c - 1))), (2, .int (nI 2)), (3, .int (bI (decide (c = 114 ∨ c = 106 ∨ c = 117)))), (4, .int (nI 1)), (5, .int (hI N1.1))]) (st' := [.int (-nI 1), .int (hI N1.1)]) rfl ?_
            refine S_ic_ne g (tgt := 98) rfl (by decide) (fun qz93 => ?_) (fun qz93 => ?_)
            · skip
              have hv1 : ¬ N1.1 = 0 := fun q => qz93 ((hI_m1 (by omega)).mpr q)
              refine S_lveq (lv' := [(0, .ref (ad 500)), (1, .int (nI (c - 1))), (2, .int (nI 2)), (3, .int (bI (decide (c = 114 ∨ c = 106 ∨ c = 117)))), (4, .int (nI 1)), (5, .int (nI (N1.1 - 1)))]) (by rw [(show hI N1.1 = nI (N1.1 - 1) from hI_pos (by omega)).symm]) ?_
              refine S_n g 1 (pc' := 99) (lv' := [(0, .ref (ad 500)), (1, .int (nI (c - 1))), (2, .int (nI 2)), (3, .int (bI (decide (c = 114 ∨ c = 106 ∨ c = 117)))), (4, .int (nI 1)), (5, .int (nI (N1.1 - 1)))]) (st' := [.ref (ad 500)]) rfl ?_
              refine S_getR g (i := 500) (c := 9) (k := 18) (j := 513) (by decide) (by decide) rfl rfl rfl fl_X9_52 rfl ?_
              refine S_n g 2 (pc' := 104) (lv' := [(0, .ref (ad 500)), (1, .int (nI (c - 1))), (2, .int (nI 2)), (3, .int (bI (decide (c = 114 ∨ c = 106 ∨ c = 117)))), (4, .int (nI 1)), (5, .int (nI (N1.1 - 1)))]) (st' := [.ref (ad 500), .int (nI 3), .ref (ad 513)]) rfl ?_
              refine S_getI g (i := 500) (c := 9) (k := 19) (by decide) (by decide) rfl rfl fl_X9_255 rfl ?_
              show Sim X (YR ad) 107 [(0, .ref (ad 500)), (1, .int (nI (c - 1))), (2, .int (nI 2)), (3, .int (bI (decide (c = 114 ∨ c = 106 ∨ c = 117)))), (4, .int (nI 1)), (5, .int (nI (N1.1 - 1)))] [.int (nI L.length), .int (nI 3), .ref (ad 513)] (up2 (up2 I 500 19 (nI L.length)) 500 20 (nI N1.2)) J (va_up A 513 (va_up r (3 * L.length) (nI (c - 1)))) B 0 0
              refine S_n g 1 (pc' := 108) (lv' := [(0, .ref (ad 500)), (1, .int (nI (c - 1))), (2, .int (nI 2)), (3, .int (bI (decide (c = 114 ∨ c = 106 ∨ c = 117)))), (4, .int (nI 1)), (5, .int (nI (N1.1 - 1)))]) (st' := [.int ((nI 3) * (nI L.length)), .ref (ad 513)]) rfl ?_
              rw [pk_mul 3 L.length]
              refine S_n g 2 (pc' := 111) (lv' := [(0, .ref (ad 500)), (1, .int (nI (c - 1))), (2, .int (nI 2)), (3, .int (bI (decide (c = 114 ∨ c = 106 ∨ c = 117)))), (4, .int (nI 1)), (5, .int (nI (N1.1 - 1)))]) (st' := [.int ((nI (3 * L.length)) + (nI 1)), .ref (ad 513)]) rfl ?_
              rw [nI_add (3 * L.length) 1]
              refine S_n g 1 (pc' := 113) (lv' := [(0, .ref (ad 500)), (1, .int (nI (c - 1))), (2, .int (nI 2)), (3, .int (bI (decide (c = 114 ∨ c = 106 ∨ c = 117)))), (4, .int (nI 1)), (5, .int (nI (N1.1 - 1)))]) (st' := [.int (nI (N1.1 - 1)), .int (nI ((3 * L.length) + 1)), .ref (ad 513)]) rfl ?_
              refine S_iastN g (i := 513) (e := (3 * L.length) + 1) (by decide) rfl (show (3 * L.length) + 1 < 120 from by omega) (show (120 : Nat) < 2 ^ 31 from by decide) rfl ?_
              rw [up2_r1 (i := 513)]
              refine S_n g 1 (pc' := 115) (lv' := [(0, .ref (ad 500)), (1, .int (nI (c - 1))), (2, .int (nI 2)), (3, .int (bI (decide (c = 114 ∨ c = 106 ∨ c = 117)))), (4, .int (nI 1)), (5, .int (nI (N1.1 - 1)))]) (st' := [.ref (ad 500)]) rfl ?_
              refine S_cV g (i := 500) (As := []) (st := []) (sp_blanks ad (up2 I 500 19 (nI L.length)) J (va_up A 513 (va_up (va_up r (3 * L.length) (nI (c - 1))) ((3 * L.length) + 1) (nI (N1.1 - 1)))) B tc n (N1.2) hI4 hT (by omega)) mw_X9_blanks lk_X9_249 ⟨Nat.le_of_ble_eq_true rfl, Nat.le_of_ble_eq_true rfl⟩ (by decide) (by decide) rfl rfl (Nat.le_of_ble_eq_true rfl) ⟨Nat.le_of_ble_eq_true rfl, Nat.le_of_ble_eq_true rfl⟩ rfl ?_
              show Sim X (YR ad) 118 [(0, .ref (ad 500)), (1, .int (nI (c - 1))), (2, .int (nI 2)), (3, .int (bI (decide (c = 114 ∨ c = 106 ∨ c = 117)))), (4, .int (nI 1)), (5, .int (nI (N1.1 - 1)))] [] (up2 (up2 I 500 19 (nI L.length)) 500 20 (nI (bl tc n N1.2))) J (va_up A 513 (va_up (va_up r (3 * L.length) (nI (c - 1))) ((3 * L.length) + 1) (nI (N1.1 - 1)))) B 0 0
              rw [← he2]
              show Sim X (YR ad) 118 [(0, .ref (ad 500)), (1, .int (nI (c - 1))), (2, .int (nI 2)), (3, .int (bI (decide (c = 114 ∨ c = 106 ∨ c = 117)))), (4, .int (nI 1)), (5, .int (nI (N1.1 - 1)))] [] (up2 (up2 I 500 19 (nI L.length)) 500 20 (nI e2)) J (va_up A 513 (va_up (va_up r (3 * L.length) (nI (c - 1))) ((3 * L.length) + 1) (nI (N1.1 - 1)))) B 0 0
              refine S_n g 1 (pc' := 121) (lv' := [(0, .ref (ad 500)), (1, .int (nI (c - 1))), (2, .int (nI 2)), (3, .int (bI (decide (c = 114 ∨ c = 106 ∨ c = 117)))), (4, .int ((nI 1) + nI 1)), (5, .int (nI (N1.1 - 1)))]) (st' := []) rfl ?_
              rw [nI_add 1 1]
              refine S_n g 1 (pc' := 69) (lv' := [(0, .ref (ad 500)), (1, .int (nI (c - 1))), (2, .int (nI 2)), (3, .int (bI (decide (c = 114 ∨ c = 106 ∨ c = 117)))), (4, .int (nI (1 + 1))), (5, .int (nI (N1.1 - 1)))]) (st' := []) rfl ?_
              refine S_lveq (lv' := [(0, .ref (ad 500)), (1, .int (nI (c - 1))), (2, .int (nI 2)), (3, .int (bI (decide (c = 114 ∨ c = 106 ∨ c = 117)))), (4, .int (nI 2)), (5, .int (nI (N1.1 - 1)))]) (by rw [(show nI (1 + 1) = nI 2 from rfl).symm]) ?_
              refine S_n g 2 (pc' := 72) (lv' := [(0, .ref (ad 500)), (1, .int (nI (c - 1))), (2, .int (nI 2)), (3, .int (bI (decide (c = 114 ∨ c = 106 ∨ c = 117)))), (4, .int (nI 2)), (5, .int (nI (N1.1 - 1)))]) (st' := [.int (nI 2), .int (nI 2)]) rfl ?_
              refine S_icN_gt g (tgt := 124) (by omega) (by omega) rfl (by decide) (fun qz72 => ?_) (fun qz72 => ?_)
              · skip
                exact absurd qz72 (by decide)
              · skip
                refine S_n g 2 (pc' := 77) (lv' := [(0, .ref (ad 500)), (1, .int (nI (c - 1))), (2, .int (nI 2)), (3, .int (bI (decide (c = 114 ∨ c = 106 ∨ c = 117)))), (4, .int (nI 2)), (5, .int (nI (N1.1 - 1)))]) (st' := [.int (bI (decide (c = 114 ∨ c = 106 ∨ c = 117))), .ref (ad 500)]) rfl ?_
                have jb2 : Sim X (YR ad) 85 [(0, .ref (ad 500)), (1, .int (nI (c - 1))), (2, .int (nI 2)), (3, .int (bI (decide (c = 114 ∨ c = 106 ∨ c = 117)))), (4, .int (nI 2)), (5, .int (nI (N1.1 - 1)))] [.int (nI (wdN c)), .ref (ad 500)] (up2 (up2 I 500 19 (nI L.length)) 500 20 (nI e2)) J (va_up A 513 (va_up (va_up r (3 * L.length) (nI (c - 1))) ((3 * L.length) + 1) (nI (N1.1 - 1)))) B 0 0 := by
                  skip
                  refine S_cV g (i := 500) (As := [.int (nI (wdN c))]) (st := []) (sp_number ad (up2 I 500 19 (nI L.length)) J (va_up A 513 (va_up (va_up r (3 * L.length) (nI (c - 1))) ((3 * L.length) + 1) (nI (N1.1 - 1)))) B tc n e2 hI4 hT he2n (wdN c) (wdN_le c)) mw_X9_number lk_X9_258 ⟨Nat.le_of_ble_eq_true rfl, Nat.le_of_ble_eq_true rfl⟩ (by decide) (by decide) rfl rfl (Nat.le_of_ble_eq_true rfl) ⟨Nat.le_of_ble_eq_true rfl, Nat.le_of_ble_eq_true rfl⟩ rfl ?_
                  rw [← hN2]
                  show Sim X (YR ad) 88 [(0, .ref (ad 500)), (1, .int (nI (c - 1))), (2, .int (nI 2)), (3, .int (bI (decide (c = 114 ∨ c = 106 ∨ c = 117)))), (4, .int (nI 2)), (5, .int (nI (N1.1 - 1)))] [.int (hI N2.1)] (up2 (up2 I 500 19 (nI L.length)) 500 20 (nI N2.2)) J (va_up A 513 (va_up (va_up r (3 * L.length) (nI (c - 1))) ((3 * L.length) + 1) (nI (N1.1 - 1)))) B 0 0
                  refine S_n g 3 (pc' := 93) (lv' := [(0, .ref (ad 500)), (1, .int (nI (c - 1))), (2, .int (nI 2)), (3, .int (bI (decide (c = 114 ∨ c = 106 ∨ c = 117)))), (4, .int (nI 2)), (5, .int (hI N2.1))]) (st' := [.int (-nI 1), .int (hI N2.1)]) rfl ?_
                  refine S_ic_ne g (tgt := 98) rfl (by decide) (fun qz93 => ?_) (fun qz93 => ?_)
                  · skip
                    have hv2 : ¬ N2.1 = 0 := fun q => qz93 ((hI_m1 (by omega)).mpr q)
                    refine S_lveq (lv' := [(0, .ref (ad 500)), (1, .int (nI (c - 1))), (2, .int (nI 2)), (3, .int (bI (decide (c = 114 ∨ c = 106 ∨ c = 117)))), (4, .int (nI 2)), (5, .int (nI (N2.1 - 1)))]) (by rw [(show hI N2.1 = nI (N2.1 - 1) from hI_pos (by omega)).symm]) ?_
                    refine S_n g 1 (pc' := 99) (lv' := [(0, .ref (ad 500)), (1, .int (nI (c - 1))), (2, .int (nI 2)), (3, .int (bI (decide (c = 114 ∨ c = 106 ∨ c = 117)))), (4, .int (nI 2)), (5, .int (nI (N2.1 - 1)))]) (st' := [.ref (ad 500)]) rfl ?_
                    refine S_getR g (i := 500) (c := 9) (k := 18) (j := 513) (by decide) (by decide) rfl rfl rfl fl_X9_52 rfl ?_
                    refine S_n g 2 (pc' := 104) (lv' := [(0, .ref (ad 500)), (1, .int (nI (c - 1))), (2, .int (nI 2)), (3, .int (bI (decide (c = 114 ∨ c = 106 ∨ c = 117)))), (4, .int (nI 2)), (5, .int (nI (N2.1 - 1)))]) (st' := [.ref (ad 500), .int (nI 3), .ref (ad 513)]) rfl ?_
                    refine S_getI g (i := 500) (c := 9) (k := 19) (by decide) (by decide) rfl rfl fl_X9_255 rfl ?_
                    show Sim X (YR ad) 107 [(0, .ref (ad 500)), (1, .int (nI (c - 1))), (2, .int (nI 2)), (3, .int (bI (decide (c = 114 ∨ c = 106 ∨ c = 117)))), (4, .int (nI 2)), (5, .int (nI (N2.1 - 1)))] [.int (nI L.length), .int (nI 3), .ref (ad 513)] (up2 (up2 I 500 19 (nI L.length)) 500 20 (nI N2.2)) J (va_up A 513 (va_up (va_up r (3 * L.length) (nI (c - 1))) ((3 * L.length) + 1) (nI (N1.1 - 1)))) B 0 0
                    refine S_n g 1 (pc' := 108) (lv' := [(0, .ref (ad 500)), (1, .int (nI (c - 1))), (2, .int (nI 2)), (3, .int (bI (decide (c = 114 ∨ c = 106 ∨ c = 117)))), (4, .int (nI 2)), (5, .int (nI (N2.1 - 1)))]) (st' := [.int ((nI 3) * (nI L.length)), .ref (ad 513)]) rfl ?_
                    rw [pk_mul 3 L.length]
                    refine S_n g 2 (pc' := 111) (lv' := [(0, .ref (ad 500)), (1, .int (nI (c - 1))), (2, .int (nI 2)), (3, .int (bI (decide (c = 114 ∨ c = 106 ∨ c = 117)))), (4, .int (nI 2)), (5, .int (nI (N2.1 - 1)))]) (st' := [.int ((nI (3 * L.length)) + (nI 2)), .ref (ad 513)]) rfl ?_
                    rw [nI_add (3 * L.length) 2]
                    refine S_n g 1 (pc' := 113) (lv' := [(0, .ref (ad 500)), (1, .int (nI (c - 1))), (2, .int (nI 2)), (3, .int (bI (decide (c = 114 ∨ c = 106 ∨ c = 117)))), (4, .int (nI 2)), (5, .int (nI (N2.1 - 1)))]) (st' := [.int (nI (N2.1 - 1)), .int (nI ((3 * L.length) + 2)), .ref (ad 513)]) rfl ?_
                    refine S_iastN g (i := 513) (e := (3 * L.length) + 2) (by decide) rfl (show (3 * L.length) + 2 < 120 from by omega) (show (120 : Nat) < 2 ^ 31 from by decide) rfl ?_
                    rw [up2_r1 (i := 513)]
                    refine S_n g 1 (pc' := 115) (lv' := [(0, .ref (ad 500)), (1, .int (nI (c - 1))), (2, .int (nI 2)), (3, .int (bI (decide (c = 114 ∨ c = 106 ∨ c = 117)))), (4, .int (nI 2)), (5, .int (nI (N2.1 - 1)))]) (st' := [.ref (ad 500)]) rfl ?_
                    refine S_cV g (i := 500) (As := []) (st := []) (sp_blanks ad (up2 I 500 19 (nI L.length)) J (va_up A 513 (va_up (va_up (va_up r (3 * L.length) (nI (c - 1))) ((3 * L.length) + 1) (nI (N1.1 - 1))) ((3 * L.length) + 2) (nI (N2.1 - 1)))) B tc n (N2.2) hI4 hT (by omega)) mw_X9_blanks lk_X9_249 ⟨Nat.le_of_ble_eq_true rfl, Nat.le_of_ble_eq_true rfl⟩ (by decide) (by decide) rfl rfl (Nat.le_of_ble_eq_true rfl) ⟨Nat.le_of_ble_eq_true rfl, Nat.le_of_ble_eq_true rfl⟩ rfl ?_
                    show Sim X (YR ad) 118 [(0, .ref (ad 500)), (1, .int (nI (c - 1))), (2, .int (nI 2)), (3, .int (bI (decide (c = 114 ∨ c = 106 ∨ c = 117)))), (4, .int (nI 2)), (5, .int (nI (N2.1 - 1)))] [] (up2 (up2 I 500 19 (nI L.length)) 500 20 (nI (bl tc n N2.2))) J (va_up A 513 (va_up (va_up (va_up r (3 * L.length) (nI (c - 1))) ((3 * L.length) + 1) (nI (N1.1 - 1))) ((3 * L.length) + 2) (nI (N2.1 - 1)))) B 0 0
                    rw [← he3]
                    show Sim X (YR ad) 118 [(0, .ref (ad 500)), (1, .int (nI (c - 1))), (2, .int (nI 2)), (3, .int (bI (decide (c = 114 ∨ c = 106 ∨ c = 117)))), (4, .int (nI 2)), (5, .int (nI (N2.1 - 1)))] [] (up2 (up2 I 500 19 (nI L.length)) 500 20 (nI e3)) J (va_up A 513 (va_up (va_up (va_up r (3 * L.length) (nI (c - 1))) ((3 * L.length) + 1) (nI (N1.1 - 1))) ((3 * L.length) + 2) (nI (N2.1 - 1)))) B 0 0
                    refine S_n g 1 (pc' := 121) (lv' := [(0, .ref (ad 500)), (1, .int (nI (c - 1))), (2, .int (nI 2)), (3, .int (bI (decide (c = 114 ∨ c = 106 ∨ c = 117)))), (4, .int ((nI 2) + nI 1)), (5, .int (nI (N2.1 - 1)))]) (st' := []) rfl ?_
                    rw [nI_add 2 1]
                    refine S_n g 1 (pc' := 69) (lv' := [(0, .ref (ad 500)), (1, .int (nI (c - 1))), (2, .int (nI 2)), (3, .int (bI (decide (c = 114 ∨ c = 106 ∨ c = 117)))), (4, .int (nI (2 + 1))), (5, .int (nI (N2.1 - 1)))]) (st' := []) rfl ?_
                    refine S_lveq (lv' := [(0, .ref (ad 500)), (1, .int (nI (c - 1))), (2, .int (nI 2)), (3, .int (bI (decide (c = 114 ∨ c = 106 ∨ c = 117)))), (4, .int (nI 3)), (5, .int (nI (N2.1 - 1)))]) (by rw [(show nI (2 + 1) = nI 3 from rfl).symm]) ?_
                    refine S_n g 2 (pc' := 72) (lv' := [(0, .ref (ad 500)), (1, .int (nI (c - 1))), (2, .int (nI 2)), (3, .int (bI (decide (c = 114 ∨ c = 106 ∨ c = 117)))), (4, .int (nI 3)), (5, .int (nI (N2.1 - 1)))]) (st' := [.int (nI 2), .int (nI 3)]) rfl ?_
                    refine S_icN_gt g (tgt := 124) (by omega) (by omega) rfl (by decide) (fun qz72 => ?_) (fun qz72 => ?_)
                    · skip
                      refine S_n g 1 (pc' := 125) (lv' := [(0, .ref (ad 500)), (1, .int (nI (c - 1))), (2, .int (nI 2)), (3, .int (bI (decide (c = 114 ∨ c = 106 ∨ c = 117)))), (4, .int (nI 3)), (5, .int (nI (N2.1 - 1)))]) (st' := [.ref (ad 500)]) rfl ?_
                      refine S_cV g (i := 500) (As := []) (st := []) (sp_next ad (up2 I 500 19 (nI L.length)) J (va_up A 513 (va_up (va_up (va_up r (3 * L.length) (nI (c - 1))) ((3 * L.length) + 1) (nI (N1.1 - 1))) ((3 * L.length) + 2) (nI (N2.1 - 1)))) B tc n (e3) hI4 hT (by omega)) mw_X9_next lk_X9_238 ⟨Nat.le_of_ble_eq_true rfl, Nat.le_of_ble_eq_true rfl⟩ (by decide) (by decide) rfl rfl (Nat.le_of_ble_eq_true rfl) ⟨Nat.le_of_ble_eq_true rfl, Nat.le_of_ble_eq_true rfl⟩ rfl ?_
                      show Sim X (YR ad) 128 [(0, .ref (ad 500)), (1, .int (nI (c - 1))), (2, .int (nI 2)), (3, .int (bI (decide (c = 114 ∨ c = 106 ∨ c = 117)))), (4, .int (nI 3)), (5, .int (nI (N2.1 - 1)))] [.int (hI (ch tc n e3))] (up2 (up2 I 500 19 (nI L.length)) 500 20 (nI e3)) J (va_up A 513 (va_up (va_up (va_up r (3 * L.length) (nI (c - 1))) ((3 * L.length) + 1) (nI (N1.1 - 1))) ((3 * L.length) + 2) (nI (N2.1 - 1)))) B 0 0
                      have hcz := ch_lt hT e3
                      have hDZ : D = rdZ tc n e3 (c - 1) (N1.1 - 1) (N2.1 - 1) := by rw [hRD, if_neg hv1, if_neg (show ¬ agN c = 1 by omega), if_neg hv2]
                      refine S_n g 1 (pc' := 130) (lv' := [(0, .ref (ad 500)), (1, .int (nI (c - 1))), (2, .int (nI 2)), (3, .int (bI (decide (c = 114 ∨ c = 106 ∨ c = 117)))), (4, .int (nI 3)), (5, .int (nI (N2.1 - 1)))]) (st' := [.int (nI 59), .int (hI (ch tc n e3))]) rfl ?_
                      refine S_ic_eq g (tgt := 135) rfl (by decide) (fun qz130 => ?_) (fun qz130 => ?_)
                      · skip
                        have hcs : ch tc n e3 = 60 := (hI_lit (by omega) (by decide)).mp qz130
                        have hen := ch_pos (show 0 < ch tc n e3 by omega)
                        rw [rdZ, if_pos hcs] at hDZ
                        refine S_n g 2 (pc' := 137) (lv' := [(0, .ref (ad 500)), (1, .int (nI (c - 1))), (2, .int (nI 2)), (3, .int (bI (decide (c = 114 ∨ c = 106 ∨ c = 117)))), (4, .int (nI 3)), (5, .int (nI (N2.1 - 1)))]) (st' := [.ref (ad 500), .ref (ad 500)]) rfl ?_
                        refine S_getI g (i := 500) (c := 9) (k := 20) (by decide) (by decide) rfl rfl fl_X9_235 rfl ?_
                        show Sim X (YR ad) 140 [(0, .ref (ad 500)), (1, .int (nI (c - 1))), (2, .int (nI 2)), (3, .int (bI (decide (c = 114 ∨ c = 106 ∨ c = 117)))), (4, .int (nI 3)), (5, .int (nI (N2.1 - 1)))] [.int (nI e3), .ref (ad 500)] (up2 (up2 I 500 19 (nI L.length)) 500 20 (nI e3)) J (va_up A 513 (va_up (va_up (va_up r (3 * L.length) (nI (c - 1))) ((3 * L.length) + 1) (nI (N1.1 - 1))) ((3 * L.length) + 2) (nI (N2.1 - 1)))) B 0 0
                        refine S_n g 2 (pc' := 142) (lv' := [(0, .ref (ad 500)), (1, .int (nI (c - 1))), (2, .int (nI 2)), (3, .int (bI (decide (c = 114 ∨ c = 106 ∨ c = 117)))), (4, .int (nI 3)), (5, .int (nI (N2.1 - 1)))]) (st' := [.int ((nI e3) + (nI 1)), .ref (ad 500)]) rfl ?_
                        rw [nI_add e3 1]
                        refine S_putI g (i := 500) (c := 9) (k := 20) (kd := 0) (by decide) (by decide) rfl rfl (by decide) fw_X9_235 rfl rfl rfl ?_
                        rw [up2_c1 (i := 500) (k := 20)]
                        refine S_n g 1 (pc' := 146) (lv' := [(0, .ref (ad 500)), (1, .int (nI (c - 1))), (2, .int (nI 2)), (3, .int (bI (decide (c = 114 ∨ c = 106 ∨ c = 117)))), (4, .int (nI 3)), (5, .int (nI (N2.1 - 1)))]) (st' := [.ref (ad 500)]) rfl ?_
                        refine S_cV g (i := 500) (As := []) (st := []) (sp_blanks ad (up2 I 500 19 (nI L.length)) J (va_up A 513 (va_up (va_up (va_up r (3 * L.length) (nI (c - 1))) ((3 * L.length) + 1) (nI (N1.1 - 1))) ((3 * L.length) + 2) (nI (N2.1 - 1)))) B tc n (e3 + 1) hI4 hT (by omega)) mw_X9_blanks lk_X9_249 ⟨Nat.le_of_ble_eq_true rfl, Nat.le_of_ble_eq_true rfl⟩ (by decide) (by decide) rfl rfl (Nat.le_of_ble_eq_true rfl) ⟨Nat.le_of_ble_eq_true rfl, Nat.le_of_ble_eq_true rfl⟩ rfl ?_
                        show Sim X (YR ad) 149 [(0, .ref (ad 500)), (1, .int (nI (c - 1))), (2, .int (nI 2)), (3, .int (bI (decide (c = 114 ∨ c = 106 ∨ c = 117)))), (4, .int (nI 3)), (5, .int (nI (N2.1 - 1)))] [] (up2 (up2 I 500 19 (nI L.length)) 500 20 (nI (bl tc n (e3 + 1)))) J (va_up A 513 (va_up (va_up (va_up r (3 * L.length) (nI (c - 1))) ((3 * L.length) + 1) (nI (N1.1 - 1))) ((3 * L.length) + 2) (nI (N2.1 - 1)))) B 0 0
                        refine S_n g 2 (pc' := 151) (lv' := [(0, .ref (ad 500)), (1, .int (nI (c - 1))), (2, .int (nI 2)), (3, .int (bI (decide (c = 114 ∨ c = 106 ∨ c = 117)))), (4, .int (nI 3)), (5, .int (nI (N2.1 - 1)))]) (st' := [.ref (ad 500), .ref (ad 500)]) rfl ?_
                        refine S_getI g (i := 500) (c := 9) (k := 19) (by decide) (by decide) rfl rfl fl_X9_255 rfl ?_
                        show Sim X (YR ad) 154 [(0, .ref (ad 500)), (1, .int (nI (c - 1))), (2, .int (nI 2)), (3, .int (bI (decide (c = 114 ∨ c = 106 ∨ c = 117)))), (4, .int (nI 3)), (5, .int (nI (N2.1 - 1)))] [.int (nI L.length), .ref (ad 500)] (up2 (up2 I 500 19 (nI L.length)) 500 20 (nI (bl tc n (e3 + 1)))) J (va_up A 513 (va_up (va_up (va_up r (3 * L.length) (nI (c - 1))) ((3 * L.length) + 1) (nI (N1.1 - 1))) ((3 * L.length) + 2) (nI (N2.1 - 1)))) B 0 0
                        refine S_n g 2 (pc' := 156) (lv' := [(0, .ref (ad 500)), (1, .int (nI (c - 1))), (2, .int (nI 2)), (3, .int (bI (decide (c = 114 ∨ c = 106 ∨ c = 117)))), (4, .int (nI 3)), (5, .int (nI (N2.1 - 1)))]) (st' := [.int ((nI L.length) + (nI 1)), .ref (ad 500)]) rfl ?_
                        rw [nI_add L.length 1]
                        refine S_putI g (i := 500) (c := 9) (k := 19) (kd := 0) (by decide) (by decide) rfl rfl (by decide) fw_X9_255 rfl rfl rfl ?_
                        rw [up2_c2 (i := 500) (k := 19) (j := 500) (l := 20) (Or.inr (by decide))]
                        rw [up2_c1 (i := 500) (k := 19)]
                        refine S_n g 1 (pc' := 160) (lv' := [(0, .ref (ad 500)), (1, .int (nI (c - 1))), (2, .int (nI 2)), (3, .int (bI (decide (c = 114 ∨ c = 106 ∨ c = 117)))), (4, .int (nI 3)), (5, .int (nI (N2.1 - 1)))]) (st' := [.int (nI 1)]) rfl ?_
                        show Sim X (YR ad) 160 [(0, .ref (ad 500)), (1, .int (nI (c - 1))), (2, .int (nI 2)), (3, .int (bI (decide (c = 114 ∨ c = 106 ∨ c = 117)))), (4, .int (nI 3)), (5, .int (nI (N2.1 - 1)))] [.int (bI true)] (up2 (up2 I 500 19 (nI (L.length + 1))) 500 20 (nI (bl tc n (e3 + 1)))) J (va_up A 513 (va_up (va_up (va_up r (3 * L.length) (nI (c - 1))) ((3 * L.length) + 1) (nI (N1.1 - 1))) ((3 * L.length) + 2) (nI (N2.1 - 1)))) B 0 0
                        exact rtZ rt rfl rfl (⟨by rw [← hD, hDZ], rfl, by rw [← hD, hDZ]; rfl, rfl, rfl, _, rfl, by rw [← hD, hDZ]; exact RC_sn hR (fun j hj => (ne_up (by omega)).trans ((ne_up (by omega)).trans (ne_up hj))) ((ne_up (by omega)).trans ((ne_up (by omega)).trans (va_up_self _ _ _))) (by omega) ((ne_up (by omega)).trans (va_up_self _ _ _)) (by omega) (fun _ => ⟨va_up_self _ _ _, by omega⟩)⟩)
                      · skip
                        have hcs : ¬ ch tc n e3 = 60 := fun q => qz130 ((hI_lit (by omega) (by decide)).mpr q)
                        rw [rdZ, if_neg hcs] at hDZ
                        refine S_n g 1 (pc' := 134) (lv' := [(0, .ref (ad 500)), (1, .int (nI (c - 1))), (2, .int (nI 2)), (3, .int (bI (decide (c = 114 ∨ c = 106 ∨ c = 117)))), (4, .int (nI 3)), (5, .int (nI (N2.1 - 1)))]) (st' := [.int (nI 0)]) rfl ?_
                        show Sim X (YR ad) 134 [(0, .ref (ad 500)), (1, .int (nI (c - 1))), (2, .int (nI 2)), (3, .int (bI (decide (c = 114 ∨ c = 106 ∨ c = 117)))), (4, .int (nI 3)), (5, .int (nI (N2.1 - 1)))] [.int (bI false)] (up2 (up2 I 500 19 (nI L.length)) 500 20 (nI e3)) J (va_up A 513 (va_up (va_up (va_up r (3 * L.length) (nI (c - 1))) ((3 * L.length) + 1) (nI (N1.1 - 1))) ((3 * L.length) + 2) (nI (N2.1 - 1)))) B 0 0
                        exact rtZ rt rfl rfl (⟨by rw [← hD, hDZ], rfl, by rw [← hD, hDZ]; rfl, rfl, rfl, _, rfl, by rw [← hD, hDZ]; show RC _ L; exact RC_k hR (fun j hj => (ne_up (by omega)).trans ((ne_up (by omega)).trans (ne_up hj)))⟩)
                    · skip
                      exact absurd qz72 (by decide)
                  · skip
                    have hv2 : N2.1 = 0 := (hI_m1 (by omega)).mp qz93
                    rw [if_neg hv1, if_neg (show ¬ agN c = 1 by omega), if_pos hv2] at hRD
                    refine S_n g 1 (pc' := 97) (lv' := [(0, .ref (ad 500)), (1, .int (nI (c - 1))), (2, .int (nI 2)), (3, .int (bI (decide (c = 114 ∨ c = 106 ∨ c = 117)))), (4, .int (nI 2)), (5, .int (hI N2.1))]) (st' := [.int (nI 0)]) rfl ?_
                    show Sim X (YR ad) 97 [(0, .ref (ad 500)), (1, .int (nI (c - 1))), (2, .int (nI 2)), (3, .int (bI (decide (c = 114 ∨ c = 106 ∨ c = 117)))), (4, .int (nI 2)), (5, .int (hI N2.1))] [.int (bI false)] (up2 (up2 I 500 19 (nI L.length)) 500 20 (nI N2.2)) J (va_up A 513 (va_up (va_up r (3 * L.length) (nI (c - 1))) ((3 * L.length) + 1) (nI (N1.1 - 1)))) B 0 0
                    exact rtZ rt rfl rfl (⟨by rw [← hD, hRD], rfl, by rw [← hD, hRD]; rfl, rfl, rfl, _, rfl, by rw [← hD, hRD]; show RC _ L; exact RC_k hR (fun j hj => (ne_up (by omega)).trans (ne_up hj))⟩)
                refine S_ifB_eq g (tgt := 84) rfl (by decide) (fun qz77 => ?_) (fun qz77 => ?_)
                · skip
                  refine S_n g 1 (pc' := 85) (lv' := [(0, .ref (ad 500)), (1, .int (nI (c - 1))), (2, .int (nI 2)), (3, .int (bI (decide (c = 114 ∨ c = 106 ∨ c = 117)))), (4, .int (nI 2)), (5, .int (nI (N1.1 - 1)))]) (st' := [.int (nI 1), .ref (ad 500)]) rfl ?_
                  refine S_steq (st' := [.int (nI (wdN c)), .ref (ad 500)]) (by rw [(show nI 1 = nI (wdN c) from by rw [wdN, if_neg (of_decide_eq_false qz77)]).symm]) ?_
                  exact jb2
                · skip
                  refine S_n g 2 (pc' := 85) (lv' := [(0, .ref (ad 500)), (1, .int (nI (c - 1))), (2, .int (nI 2)), (3, .int (bI (decide (c = 114 ∨ c = 106 ∨ c = 117)))), (4, .int (nI 2)), (5, .int (nI (N1.1 - 1)))]) (st' := [.int (nI 2), .ref (ad 500)]) rfl ?_
                  refine S_steq (st' := [.int (nI (wdN c)), .ref (ad 500)]) (by rw [(show nI 2 = nI (wdN c) from by rw [wdN, if_pos (of_decide_eq_true qz77)]).symm]) ?_
                  exact jb2
            · skip
              have hv1 : N1.1 = 0 := (hI_m1 (by omega)).mp qz93
              rw [if_pos hv1] at hRD
              refine S_n g 1 (pc' := 97) (lv' := [(0, .ref (ad 500)), (1, .int (nI (c - 1))), (2, .int (nI 2)), (3, .int (bI (decide (c = 114 ∨ c = 106 ∨ c = 117)))), (4, .int (nI 1)), (5, .int (hI N1.1))]) (st' := [.int (nI 0)]) rfl ?_
              show Sim X (YR ad) 97 [(0, .ref (ad 500)), (1, .int (nI (c - 1))), (2, .int (nI 2)), (3, .int (bI (decide (c = 114 ∨ c = 106 ∨ c = 117)))), (4, .int (nI 1)), (5, .int (hI N1.1))] [.int (bI false)] (up2 (up2 I 500 19 (nI L.length)) 500 20 (nI N1.2)) J (va_up A 513 (va_up r (3 * L.length) (nI (c - 1)))) B 0 0
              exact rtZ rt rfl rfl (⟨by rw [← hD, hRD], rfl, by rw [← hD, hRD]; rfl, rfl, rfl, _, rfl, by rw [← hD, hRD]; show RC _ L; exact RC_k hR (fun j hj => ne_up hj)⟩)
          refine S_ifB_eq g (tgt := 84) rfl (by decide) (fun qz77 => ?_) (fun qz77 => ?_)
          · skip
            refine S_n g 1 (pc' := 85) (lv' := [(0, .ref (ad 500)), (1, .int (nI (c - 1))), (2, .int (nI 2)), (3, .int (bI (decide (c = 114 ∨ c = 106 ∨ c = 117)))), (4, .int (nI 1))]) (st' := [.int (nI 1), .ref (ad 500)]) rfl ?_
            refine S_steq (st' := [.int (nI (wdN c)), .ref (ad 500)]) (by rw [(show nI 1 = nI (wdN c) from by rw [wdN, if_neg (of_decide_eq_false qz77)]).symm]) ?_
            exact jb1
          · skip
            refine S_n g 2 (pc' := 85) (lv' := [(0, .ref (ad 500)), (1, .int (nI (c - 1))), (2, .int (nI 2)), (3, .int (bI (decide (c = 114 ∨ c = 106 ∨ c = 117)))), (4, .int (nI 1))]) (st' := [.int (nI 2), .ref (ad 500)]) rfl ?_
            refine S_steq (st' := [.int (nI (wdN c)), .ref (ad 500)]) (by rw [(show nI 2 = nI (wdN c) from by rw [wdN, if_pos (of_decide_eq_true qz77)]).symm]) ?_
            exact jb1
    refine S_n g 2 (pc' := 45) (lv' := [(0, .ref (ad 500)), (1, .int (nI (c - 1))), (2, .int (nI (agN c)))]) (st' := [.int (nI 113), .int (nI (c - 1))]) rfl ?_
    refine S_icN_eq g (tgt := 60) (by omega) (by omega) rfl (by decide) (fun qz45 => ?_) (fun qz45 => ?_)
    · skip
      refine S_n g 3 (pc' := 66) (lv' := [(0, .ref (ad 500)), (1, .int (nI (c - 1))), (2, .int (nI (agN c))), (3, .int (nI 1))]) (st' := []) rfl ?_
      refine S_lveq (lv' := [(0, .ref (ad 500)), (1, .int (nI (c - 1))), (2, .int (nI (agN c))), (3, .int (bI (decide (c = 114 ∨ c = 106 ∨ c = 117))))]) (by rw [(show nI 1 = bI (decide (c = 114 ∨ c = 106 ∨ c = 117)) from by rw [decide_eq_true (by omega)]; rfl).symm]) ?_
      exact jn
    · skip
      refine S_n g 2 (pc' := 51) (lv' := [(0, .ref (ad 500)), (1, .int (nI (c - 1))), (2, .int (nI (agN c)))]) (st' := [.int (nI 105), .int (nI (c - 1))]) rfl ?_
      refine S_icN_eq g (tgt := 60) (by omega) (by omega) rfl (by decide) (fun qz51 => ?_) (fun qz51 => ?_)
      · skip
        refine S_n g 3 (pc' := 66) (lv' := [(0, .ref (ad 500)), (1, .int (nI (c - 1))), (2, .int (nI (agN c))), (3, .int (nI 1))]) (st' := []) rfl ?_
        refine S_lveq (lv' := [(0, .ref (ad 500)), (1, .int (nI (c - 1))), (2, .int (nI (agN c))), (3, .int (bI (decide (c = 114 ∨ c = 106 ∨ c = 117))))]) (by rw [(show nI 1 = bI (decide (c = 114 ∨ c = 106 ∨ c = 117)) from by rw [decide_eq_true (by omega)]; rfl).symm]) ?_
        exact jn
      · skip
        refine S_n g 2 (pc' := 57) (lv' := [(0, .ref (ad 500)), (1, .int (nI (c - 1))), (2, .int (nI (agN c)))]) (st' := [.int (nI 116), .int (nI (c - 1))]) rfl ?_
        refine S_icN_ne g (tgt := 64) (by omega) (by omega) rfl (by decide) (fun qz57 => ?_) (fun qz57 => ?_)
        · skip
          refine S_n g 2 (pc' := 66) (lv' := [(0, .ref (ad 500)), (1, .int (nI (c - 1))), (2, .int (nI (agN c))), (3, .int (nI 0))]) (st' := []) rfl ?_
          refine S_lveq (lv' := [(0, .ref (ad 500)), (1, .int (nI (c - 1))), (2, .int (nI (agN c))), (3, .int (bI (decide (c = 114 ∨ c = 106 ∨ c = 117))))]) (by rw [(show nI 0 = bI (decide (c = 114 ∨ c = 106 ∨ c = 117)) from by rw [decide_eq_false (by omega)]; rfl).symm]) ?_
          exact jn
        · skip
          refine S_n g 3 (pc' := 66) (lv' := [(0, .ref (ad 500)), (1, .int (nI (c - 1))), (2, .int (nI (agN c))), (3, .int (nI 1))]) (st' := []) rfl ?_
          refine S_lveq (lv' := [(0, .ref (ad 500)), (1, .int (nI (c - 1))), (2, .int (nI (agN c))), (3, .int (bI (decide (c = 114 ∨ c = 106 ∨ c = 117))))]) (by rw [(show nI 1 = bI (decide (c = 114 ∨ c = 106 ∨ c = 117)) from by rw [decide_eq_true (by omega)]; rfl).symm]) ?_
          exact jn
  · skip
    rw [if_pos qz11] at hRD
    refine S_n g 1 (pc' := 15) (lv' := [(0, .ref (ad 500)), (1, .int (hI c)), (2, .int (nI (agN c)))]) (st' := [.int (nI 0)]) rfl ?_
    show Sim X (YR ad) 15 [(0, .ref (ad 500)), (1, .int (hI c)), (2, .int (nI (agN c)))] [.int (bI false)] (up2 (up2 I 500 19 (nI L.length)) 500 20 (nI a)) J (va_up A 513 r) B 0 0
    exact rtZ rt rfl rfl (⟨by rw [← hD, hRD], rfl, by rw [← hD, hRD]; rfl, rfl, rfl, r, rfl, by rw [← hD, hRD]; exact hR⟩)

set_option maxRecDepth 100000 in
set_option maxHeartbeats 4000000 in
theorem sp_fault (ad : Nat → Nat) (I : FI) (J : FJ) (A : FI) (B : FJ) (tc : Nat → Nat) (n : Nat) (hI4 : I 500 4 = nI n) (hT : RT_ A tc n) : Spec M_X9_fault [.ref (ad 500)] (YR ad) I J A B (fun v' Y' I' J' A' B' => v' = some (.int (hI (o_fault tc n).1)) ∧ Y' = YR ad ∧ J' = J ∧ B' = B ∧ I' = up2 (up2 I 500 19 (nI (o_fault tc n).2.2.length)) 500 20 (nI (o_fault tc n).2.1) ∧ 3 * (o_fault tc n).2.2.length ≤ 80 ∧ ∃ r', A' = va_up A 513 r' ∧ RC r' (o_fault tc n).2.2) := by
  have hn8 := hT.1
  refine Spec_of (by decide) tk_X9_fault (Nat.le_of_ble_eq_true rfl) (fun X g rt => ?_)
  show Sim X (YR ad) 0 [(0, .ref (ad 500))] [] I J A B 0 0
  refine S_n g 2 (pc' := 2) (lv' := [(0, .ref (ad 500))]) (st' := [.int (nI 0), .ref (ad 500)]) rfl ?_
  refine S_putI g (i := 500) (c := 9) (k := 20) (kd := 0) (by decide) (by decide) rfl rfl (by decide) fw_X9_235 rfl rfl rfl ?_
  refine S_n g 2 (pc' := 7) (lv' := [(0, .ref (ad 500))]) (st' := [.int (nI 0), .ref (ad 500)]) rfl ?_
  refine S_putI g (i := 500) (c := 9) (k := 19) (kd := 0) (by decide) (by decide) rfl rfl (by decide) fw_X9_255 rfl rfl rfl ?_
  refine S_n g 1 (pc' := 11) (lv' := [(0, .ref (ad 500))]) (st' := [.ref (ad 500)]) rfl ?_
  rw [up2_c2 (i := 500) (k := 19) (j := 500) (l := 20) (Or.inr (by decide))]
  show Sim X (YR ad) 11 [(0, .ref (ad 500))] [.ref (ad 500)] (up2 (up2 I 500 19 (nI 0)) 500 20 (nI 0)) J A B 0 0
  refine S_cV g (i := 500) (As := []) (st := []) (sp_blanks ad (up2 I 500 19 (nI 0)) J A B tc n (0) hI4 hT (by omega)) mw_X9_blanks lk_X9_249 ⟨Nat.le_of_ble_eq_true rfl, Nat.le_of_ble_eq_true rfl⟩ (by decide) (by decide) rfl rfl (Nat.le_of_ble_eq_true rfl) ⟨Nat.le_of_ble_eq_true rfl, Nat.le_of_ble_eq_true rfl⟩ rfl ?_
  show Sim X (YR ad) 14 [(0, .ref (ad 500))] [] (up2 (up2 I 500 19 (nI 0)) 500 20 (nI (bl tc n 0))) J A B 0 0
  have hb0 := bl_le (tc := tc) (Nat.zero_le n)
  have lp : ∀ (nn : Nat) (a : Nat) (k : Nat) (L : List (Nat × Nat × Nat)) (r : Nat → Int32), n - a = nn → (a ≤ n) → (RC r L) → (3 * L.length ≤ a) → (n < a + k) → (flt tc n k a L = o_fault tc n) → Sim X (YR ad) 14 [(0, .ref (ad 500))] [] (up2 (up2 I 500 19 (nI L.length)) 500 20 (nI a)) J (va_up A 513 r) B 0 0 := by
    intro nn
    induction nn using Nat.strongRecOn with
    | ind nn ih =>
      intro a k L r hmz ha hR hL hk hfl
      have lp := ih
      refine S_n g 1 (pc' := 15) (lv' := [(0, .ref (ad 500))]) (st' := [.ref (ad 500)]) rfl ?_
      refine S_getI g (i := 500) (c := 9) (k := 20) (by decide) (by decide) rfl rfl fl_X9_235 rfl ?_
      show Sim X (YR ad) 18 [(0, .ref (ad 500))] [.int (nI a)] (up2 (up2 I 500 19 (nI L.length)) 500 20 (nI a)) J (va_up A 513 r) B 0 0
      refine S_n g 1 (pc' := 19) (lv' := [(0, .ref (ad 500))]) (st' := [.ref (ad 500), .int (nI a)]) rfl ?_
      refine S_getI g (i := 500) (c := 9) (k := 4) (by decide) (by decide) rfl rfl fl_X9_232 rfl ?_
      show Sim X (YR ad) 22 [(0, .ref (ad 500))] [.int (I 500 4), .int (nI a)] (up2 (up2 I 500 19 (nI L.length)) 500 20 (nI a)) J (va_up A 513 r) B 0 0
      rw [hI4]
      refine S_icN_ge g (tgt := 37) (by omega) (by omega) rfl (by decide) (fun qz22 => ?_) (fun qz22 => ?_)
      · skip
        have hof : o_fault tc n = (0, a, L) := by rw [← hfl]; cases k with | zero => rfl | succ j => rw [flt, if_neg (by omega)]
        refine S_n g 1 (pc' := 38) (lv' := [(0, .ref (ad 500))]) (st' := [.int (-nI 1)]) rfl ?_
        exact rtI rt rfl rfl (⟨by rw [hof]; rfl, rfl, rfl, rfl, by rw [hof], by rw [hof]; show 3 * L.length ≤ 80; omega, r, rfl, by rw [hof]; exact hR⟩)
      · skip
        refine S_n g 1 (pc' := 26) (lv' := [(0, .ref (ad 500))]) (st' := [.ref (ad 500)]) rfl ?_
        refine S_callV g (i := 500) (As := []) (st := []) (sp_reads ad I J A B tc n a hI4 hT ha r L hR hL) mw_X9_reads lk_X9_261 ⟨Nat.le_of_ble_eq_true rfl, Nat.le_of_ble_eq_true rfl⟩ (by decide) (by decide) rfl rfl (Nat.le_of_ble_eq_true rfl) ⟨Nat.le_of_ble_eq_true rfl, Nat.le_of_ble_eq_true rfl⟩ rfl (fun v' Y' I' J' A' B' hpo => ?_)
        obtain ⟨rfl, rfl, hqI, hqJ, hqB, r', hqA, hR'⟩ := hpo
        rw [hqI, hqJ, hqB, hqA]
        show Sim X (YR ad) 29 [(0, .ref (ad 500))] [.int (bI (rdC tc n a).1)] (up2 (up2 I 500 19 (nI (L.length + (rdC tc n a).1.toNat))) 500 20 (nI (rdC tc n a).2.1)) J (va_up A 513 r') B 0 0
        obtain ⟨q1, q2, q3⟩ := rdC_b (tc := tc) ha
        refine S_ifB_ne g (tgt := 14) rfl (by decide) (fun qz29 => ?_) (fun qz29 => ?_)
        · skip
          have q4 := q3 qz29
          rw [if_pos qz29] at hR'
          rw [qz29, Bool.toNat_true]
          have h9 := lp (n - (rdC tc n a).2.1) (by omega) (rdC tc n a).2.1 (k - 1) (L ++ [(rdC tc n a).2.2]) r' rfl q1 hR' (by rw [List.length_append, List.length_singleton]; omega) (by omega) (by rw [← hfl, show k = k - 1 + 1 from by omega, flt, if_pos (by omega), if_pos qz29]; rfl)
          rw [List.length_append, List.length_singleton] at h9
          exact h9
        · skip
          rw [if_neg (by rw [qz29]; decide)] at hR'
          rw [qz29, Bool.toNat_false, Nat.add_zero]
          have hof : o_fault tc n = ((rdC tc n a).2.1 + 1, (rdC tc n a).2.1, L) := by rw [← hfl, show k = k - 1 + 1 from by omega, flt, if_pos (by omega), if_neg (by rw [qz29]; decide)]
          refine S_n g 1 (pc' := 33) (lv' := [(0, .ref (ad 500))]) (st' := [.ref (ad 500)]) rfl ?_
          refine S_getI g (i := 500) (c := 9) (k := 20) (by decide) (by decide) rfl rfl fl_X9_235 rfl ?_
          show Sim X (YR ad) 36 [(0, .ref (ad 500))] [.int (nI (rdC tc n a).2.1)] (up2 (up2 I 500 19 (nI L.length)) 500 20 (nI (rdC tc n a).2.1)) J (va_up A 513 r') B 0 0
          exact rtI rt rfl rfl (⟨by rw [hof]; rfl, rfl, rfl, rfl, by rw [hof], by rw [hof]; show 3 * L.length ≤ 80; omega, r', rfl, by rw [hof]; exact hR'⟩)
  have h0 := lp _ (bl tc n 0) 81 [] (A 513) rfl hb0 (fun k hk => absurd hk (Nat.not_lt_zero k)) (Nat.zero_le _) (by omega) rfl
  rw [va_id] at h0
  exact h0
