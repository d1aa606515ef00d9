/-! the class: rates -/
set_option maxRecDepth 100000 in
set_option maxHeartbeats 4000000 in
theorem c_bitsOf (ad : Nat → Nat) (z0 z1 : Bool) (I : FI) (J : FJ) (A : FI) (B : FJ) (x : UInt32) (r : Int32) (hb : btc x = some r) : Spec M_X8_bitsOf [.float x] (YC ad z0 z1) I J A B (eqP (some (.int r)) (YC ad z0 z1) I J A B) := by
  unfold btc at hb
  refine Spec_of (by decide) tk_X8_bitsOf (Nat.le_of_ble_eq_true rfl) (fun X g rt => ?_)
  show Sim X (YC ad z0 z1) 0 [(0, .float x)] [] I J A B 0 0
  refine S_n g 3 (pc' := 3) (lv' := [(0, .float x)]) (st' := [.int (Op.cmpValue (FP.fcmp x FP.fconst0) .g)]) rfl ?_
  refine S_if_gt g (tgt := 8) rfl (by decide) (fun qz3 => ?_) (fun qz3 => ?_)
  · skip
    rw [if_pos qz3] at hb
    refine S_n g 4 (pc' := 13) (lv' := [(0, .float x), (1, .float x), (2, .int (nI 127))]) (st' := []) rfl ?_
    have lp : ∀ (nn : Nat) (k : Nat) (y : UInt32) (e : Int32), k = nn → (cU k y e = cU 200 x (nI 127)) → Sim X (YC ad z0 z1) 13 [(0, .float x), (1, .float y), (2, .int e)] [] I J A B 0 0 := by
      intro nn
      induction nn using Nat.strongRecOn with
      | ind nn ih =>
        intro k y e hmz hbu
        have lp := ih
        refine S_n g 3 (pc' := 16) (lv' := [(0, .float x), (1, .float y), (2, .int e)]) (st' := [.int (Op.cmpValue (FP.fcmp y FP.fconst2) .l)]) rfl ?_
        refine S_if_lt g (tgt := 36) rfl (by decide) (fun qz16 => ?_) (fun qz16 => ?_)
        · skip
          have hby : cU 200 x (nI 127) = some (y, e) := by cases k with | zero => rw [← hbu] at hb; exact absurd hb (by intro q; cases q) | succ j => rw [← hbu, cU, if_pos qz16]
          rw [hby] at hb
          simp only [] at hb
          have lp2 : ∀ (nn : Nat) (k2 : Nat) (y2 : UInt32) (e2 : Int32), k2 = nn → (cD k2 y2 e2 = cD 200 y e) → Sim X (YC ad z0 z1) 36 [(0, .float x), (1, .float y2), (2, .int e2)] [] I J A B 0 0 := by
            intro nn
            induction nn using Nat.strongRecOn with
            | ind nn ih =>
              intro k2 y2 e2 hmz hbd
              have lp2 := ih
              refine S_n g 3 (pc' := 39) (lv' := [(0, .float x), (1, .float y2), (2, .int e2)]) (st' := [.int (Op.cmpValue (FP.fcmp y2 FP.fconst1) .g)]) rfl ?_
              refine S_if_ge g (tgt := 57) rfl (by decide) (fun qz39 => ?_) (fun qz39 => ?_)
              · skip
                have hbz : cD 200 y e = some (y2, e2) := by cases k2 with | zero => rw [← hbd] at hb; exact absurd hb (by intro q; cases q) | succ j => rw [← hbd, cD, if_pos qz39]
                rw [hbz] at hb
                simp only [] at hb
                by_cases hn1 : n3 (FP.fsub y2 FP.fconst1) = true
                · skip
                  rw [if_pos hn1] at hb
                  by_cases hnn : n3 (FP.fmul (FP.fsub y2 FP.fconst1) 1258291200) = true
                  · skip
                    rw [if_pos hnn] at hb
                    refine S_n g 5 (pc' := 63) (lv' := [(0, .float x), (1, .float y2), (2, .int e2)]) (st' := [.float FP.fconst1, .float y2, .int (e2 <<< ((nI 23) &&& 31))]) rfl ?_
                    refine S_fsub g (n3_t hn1) rfl ?_
                    refine S_ldcf g kc_X8_251 rfl ?_
                    refine S_fmul g (n3_t hnn) rfl ?_
                    refine S_n g 2 (pc' := 69) (lv' := [(0, .float x), (1, .float y2), (2, .int e2)]) (st' := [.int ((e2 <<< ((nI 23) &&& 31)) + (FP.f2i (FP.fmul (FP.fsub y2 FP.fconst1) 1258291200)))]) rfl ?_
                    exact rtI rt rfl rfl (by rw [← Option.some.inj hb]; exact eqP_rf)
                  · rw [if_neg hnn] at hb; exact absurd hb (by intro q; cases q)
                · rw [if_neg hn1] at hb; exact absurd hb (by intro q; cases q)
              · skip
                refine S_n g 2 (pc' := 44) (lv' := [(0, .float x), (1, .float y2), (2, .int e2)]) (st' := [.int (nI 1), .int e2]) rfl ?_
                refine S_ic_le g (tgt := 57) rfl (by decide) (fun qz44 => ?_) (fun qz44 => ?_)
                · skip
                  have hbz : cD 200 y e = some (y2, e2) := by cases k2 with | zero => rw [← hbd] at hb; exact absurd hb (by intro q; cases q) | succ j => rw [← hbd, cD, if_neg qz39, if_pos qz44]
                  rw [hbz] at hb
                  simp only [] at hb
                  by_cases hn1 : n3 (FP.fsub y2 FP.fconst1) = true
                  · skip
                    rw [if_pos hn1] at hb
                    by_cases hnn : n3 (FP.fmul (FP.fsub y2 FP.fconst1) 1258291200) = true
                    · skip
                      rw [if_pos hnn] at hb
                      refine S_n g 5 (pc' := 63) (lv' := [(0, .float x), (1, .float y2), (2, .int e2)]) (st' := [.float FP.fconst1, .float y2, .int (e2 <<< ((nI 23) &&& 31))]) rfl ?_
                      refine S_fsub g (n3_t hn1) rfl ?_
                      refine S_ldcf g kc_X8_251 rfl ?_
                      refine S_fmul g (n3_t hnn) rfl ?_
                      refine S_n g 2 (pc' := 69) (lv' := [(0, .float x), (1, .float y2), (2, .int e2)]) (st' := [.int ((e2 <<< ((nI 23) &&& 31)) + (FP.f2i (FP.fmul (FP.fsub y2 FP.fconst1) 1258291200)))]) rfl ?_
                      exact rtI rt rfl rfl (by rw [← Option.some.inj hb]; exact eqP_rf)
                    · rw [if_neg hnn] at hb; exact absurd hb (by intro q; cases q)
                  · rw [if_neg hn1] at hb; exact absurd hb (by intro q; cases q)
                · skip
                  cases k2 with
                  | zero => rw [← hbd] at hb; exact absurd hb (by intro q; cases q)
                  | succ k3 =>
                    rw [cD, if_neg qz39, if_neg qz44] at hbd
                    by_cases hnm : n3 (FP.fmul y2 FP.fconst2) = true
                    · skip
                      rw [if_pos hnm] at hbd
                      refine S_n g 2 (pc' := 49) (lv' := [(0, .float x), (1, .float y2), (2, .int e2)]) (st' := [.float FP.fconst2, .float y2]) rfl ?_
                      refine S_fmul g (n3_t hnm) rfl ?_
                      refine S_n g 3 (pc' := 36) (lv' := [(0, .float x), (1, .float (FP.fmul y2 FP.fconst2)), (2, .int (e2 + -nI 1))]) (st' := []) rfl ?_
                      exact lp2 k3 (by omega) k3 (FP.fmul y2 FP.fconst2) (e2 + -nI 1) rfl hbd
                    · rw [if_neg hnm] at hbd; rw [← hbd] at hb; exact absurd hb (by intro q; cases q)
          exact lp2 _ 200 y e rfl rfl
        · skip
          refine S_n g 2 (pc' := 23) (lv' := [(0, .float x), (1, .float y), (2, .int e)]) (st' := [.int (nI 254), .int e]) rfl ?_
          refine S_ic_ge g (tgt := 36) rfl (by decide) (fun qz23 => ?_) (fun qz23 => ?_)
          · skip
            have hby : cU 200 x (nI 127) = some (y, e) := by cases k with | zero => rw [← hbu] at hb; exact absurd hb (by intro q; cases q) | succ j => rw [← hbu, cU, if_neg qz16, if_pos qz23]
            rw [hby] at hb
            simp only [] at hb
            have lp2 : ∀ (nn : Nat) (k2 : Nat) (y2 : UInt32) (e2 : Int32), k2 = nn → (cD k2 y2 e2 = cD 200 y e) → Sim X (YC ad z0 z1) 36 [(0, .float x), (1, .float y2), (2, .int e2)] [] I J A B 0 0 := by
              intro nn
              induction nn using Nat.strongRecOn with
              | ind nn ih =>
                intro k2 y2 e2 hmz hbd
                have lp2 := ih
                refine S_n g 3 (pc' := 39) (lv' := [(0, .float x), (1, .float y2), (2, .int e2)]) (st' := [.int (Op.cmpValue (FP.fcmp y2 FP.fconst1) .g)]) rfl ?_
                refine S_if_ge g (tgt := 57) rfl (by decide) (fun qz39 => ?_) (fun qz39 => ?_)
                · skip
                  have hbz : cD 200 y e = some (y2, e2) := by cases k2 with | zero => rw [← hbd] at hb; exact absurd hb (by intro q; cases q) | succ j => rw [← hbd, cD, if_pos qz39]
                  rw [hbz] at hb
                  simp only [] at hb
                  by_cases hn1 : n3 (FP.fsub y2 FP.fconst1) = true
                  · skip
                    rw [if_pos hn1] at hb
                    by_cases hnn : n3 (FP.fmul (FP.fsub y2 FP.fconst1) 1258291200) = true
                    · skip
                      rw [if_pos hnn] at hb
                      refine S_n g 5 (pc' := 63) (lv' := [(0, .float x), (1, .float y2), (2, .int e2)]) (st' := [.float FP.fconst1, .float y2, .int (e2 <<< ((nI 23) &&& 31))]) rfl ?_
                      refine S_fsub g (n3_t hn1) rfl ?_
                      refine S_ldcf g kc_X8_251 rfl ?_
                      refine S_fmul g (n3_t hnn) rfl ?_
                      refine S_n g 2 (pc' := 69) (lv' := [(0, .float x), (1, .float y2), (2, .int e2)]) (st' := [.int ((e2 <<< ((nI 23) &&& 31)) + (FP.f2i (FP.fmul (FP.fsub y2 FP.fconst1) 1258291200)))]) rfl ?_
                      exact rtI rt rfl rfl (by rw [← Option.some.inj hb]; exact eqP_rf)
                    · rw [if_neg hnn] at hb; exact absurd hb (by intro q; cases q)
                  · rw [if_neg hn1] at hb; exact absurd hb (by intro q; cases q)
                · skip
                  refine S_n g 2 (pc' := 44) (lv' := [(0, .float x), (1, .float y2), (2, .int e2)]) (st' := [.int (nI 1), .int e2]) rfl ?_
                  refine S_ic_le g (tgt := 57) rfl (by decide) (fun qz44 => ?_) (fun qz44 => ?_)
                  · skip
                    have hbz : cD 200 y e = some (y2, e2) := by cases k2 with | zero => rw [← hbd] at hb; exact absurd hb (by intro q; cases q) | succ j => rw [← hbd, cD, if_neg qz39, if_pos qz44]
                    rw [hbz] at hb
                    simp only [] at hb
                    by_cases hn1 : n3 (FP.fsub y2 FP.fconst1) = true
                    · skip
                      rw [if_pos hn1] at hb
                      by_cases hnn : n3 (FP.fmul (FP.fsub y2 FP.fconst1) 1258291200) = true
                      · skip
                        rw [if_pos hnn] at hb
                        refine S_n g 5 (pc' := 63) (lv' := [(0, .float x), (1, .float y2), (2, .int e2)]) (st' := [.float FP.fconst1, .float y2, .int (e2 <<< ((nI 23) &&& 31))]) rfl ?_
                        refine S_fsub g (n3_t hn1) rfl ?_
                        refine S_ldcf g kc_X8_251 rfl ?_
                        refine S_fmul g (n3_t hnn) rfl ?_
                        refine S_n g 2 (pc' := 69) (lv' := [(0, .float x), (1, .float y2), (2, .int e2)]) (st' := [.int ((e2 <<< ((nI 23) &&& 31)) + (FP.f2i (FP.fmul (FP.fsub y2 FP.fconst1) 1258291200)))]) rfl ?_
                        exact rtI rt rfl rfl (by rw [← Option.some.inj hb]; exact eqP_rf)
                      · rw [if_neg hnn] at hb; exact absurd hb (by intro q; cases q)
                    · rw [if_neg hn1] at hb; exact absurd hb (by intro q; cases q)
                  · skip
                    cases k2 with
                    | zero => rw [← hbd] at hb; exact absurd hb (by intro q; cases q)
                    | succ k3 =>
                      rw [cD, if_neg qz39, if_neg qz44] at hbd
                      by_cases hnm : n3 (FP.fmul y2 FP.fconst2) = true
                      · skip
                        rw [if_pos hnm] at hbd
                        refine S_n g 2 (pc' := 49) (lv' := [(0, .float x), (1, .float y2), (2, .int e2)]) (st' := [.float FP.fconst2, .float y2]) rfl ?_
                        refine S_fmul g (n3_t hnm) rfl ?_
                        refine S_n g 3 (pc' := 36) (lv' := [(0, .float x), (1, .float (FP.fmul y2 FP.fconst2)), (2, .int (e2 + -nI 1))]) (st' := []) rfl ?_
                        exact lp2 k3 (by omega) k3 (FP.fmul y2 FP.fconst2) (e2 + -nI 1) rfl hbd
                      · rw [if_neg hnm] at hbd; rw [← hbd] at hb; exact absurd hb (by intro q; cases q)
            exact lp2 _ 200 y e rfl rfl
          · skip
            cases k with
            | zero => rw [← hbu] at hb; exact absurd hb (by intro q; cases q)
            | succ k3 =>
              rw [cU, if_neg qz16, if_neg qz23] at hbu
              by_cases hnm : n3 (FP.fdiv y FP.fconst2) = true
              · skip
                rw [if_pos hnm] at hbu
                refine S_n g 2 (pc' := 28) (lv' := [(0, .float x), (1, .float y), (2, .int e)]) (st' := [.float FP.fconst2, .float y]) rfl ?_
                refine S_fdiv g (n3_t hnm) rfl ?_
                refine S_n g 3 (pc' := 13) (lv' := [(0, .float x), (1, .float (FP.fdiv y FP.fconst2)), (2, .int (e + nI 1))]) (st' := []) rfl ?_
                exact lp k3 (by omega) k3 (FP.fdiv y FP.fconst2) (e + nI 1) rfl hbu
              · rw [if_neg hnm] at hbu; rw [← hbu] at hb; exact absurd hb (by intro q; cases q)
    exact lp _ 200 x (nI 127) rfl rfl
  · skip
    rw [if_neg qz3] at hb
    refine S_n g 1 (pc' := 7) (lv' := [(0, .float x)]) (st' := [.int (nI 0)]) rfl ?_
    exact rtI rt rfl rfl (by rw [← Option.some.inj hb]; exact eqP_rf)

set_option maxRecDepth 100000 in
set_option maxHeartbeats 4000000 in
theorem c_choose (ad : Nat → Nat) (z0 z1 : Bool) (I : FI) (J : FJ) (A : FI) (B : FJ) (a t : Nat) (ha : a < 7) (ht : t < 9) : Spec M_X8_choose [.int (nI a), .int (nI t)] (YC ad z0 z1) I J A B (eqP (some (.int (nI (chs a t)))) (YC ad z0 z1) I J A B) := by
  refine Spec_of (by decide) tk_X8_choose (Nat.le_of_ble_eq_true rfl) (fun X g rt => ?_)
  show Sim X (YC ad z0 z1) 0 [(0, .int (nI a)), (1, .int (nI t))] [] I J A B 0 0
  refine S_n g 4 (pc' := 4) (lv' := [(0, .int (nI a)), (1, .int (nI t)), (2, .int (nI 1)), (3, .int (nI 1))]) (st' := []) rfl ?_
  have lp : ∀ (nn : Nat) (i : Nat), t - i = nn → (i ≤ t) → Sim X (YC ad z0 z1) 4 [(0, .int (nI a)), (1, .int (nI t)), (2, .int (chI (nI a) i)), (3, .int (nI (i + 1)))] [] I J A B 0 0 := by
    intro nn
    induction nn using Nat.strongRecOn with
    | ind nn ih =>
      intro i hmz hi
      have lp := ih
      refine S_n g 2 (pc' := 6) (lv' := [(0, .int (nI a)), (1, .int (nI t)), (2, .int (chI (nI a) i)), (3, .int (nI (i + 1)))]) (st' := [.int (nI t), .int (nI (i + 1))]) rfl ?_
      refine S_icN_gt g (tgt := 25) (by omega) (by omega) rfl (by decide) (fun qz6 => ?_) (fun qz6 => ?_)
      · skip
        have hi9 : i = t := by omega
        subst hi9
        refine S_n g 1 (pc' := 26) (lv' := [(0, .int (nI a)), (1, .int (nI i)), (2, .int (chI (nI a) i)), (3, .int (nI (i + 1)))]) (st' := [.int (chI (nI a) i)]) rfl ?_
        exact rtI rt rfl rfl (by rw [chI_c a ha i ht]; exact eqP_rf)
      · skip
        refine S_n g 8 (pc' := 17) (lv' := [(0, .int (nI a)), (1, .int (nI t)), (2, .int (chI (nI a) i)), (3, .int (nI (i + 1)))]) (st' := [.int (nI (i + 1)), .int ((chI (nI a) i) * (((nI a) - (nI (i + 1))) + (nI 1)))]) rfl ?_
        refine S_idiv g (nI_z1 (by omega) (by omega)) rfl ?_
        show Sim X (YC ad z0 z1) 18 [(0, .int (nI a)), (1, .int (nI t)), (2, .int (chI (nI a) i)), (3, .int (nI (i + 1)))] [.int (((chI (nI a) i) * (((nI a) - (nI (i + 1))) + (nI 1))) / (nI (i + 1)))] I J A B 0 0
        refine S_steq (st' := [.int (chI (nI a) (i + 1))]) (by rw [(show ((chI (nI a) i) * (((nI a) - (nI (i + 1))) + (nI 1))) / (nI (i + 1)) = chI (nI a) (i + 1) from rfl).symm]) ?_
        refine S_n g 2 (pc' := 22) (lv' := [(0, .int (nI a)), (1, .int (nI t)), (2, .int (chI (nI a) (i + 1))), (3, .int ((nI (i + 1)) + nI 1))]) (st' := []) rfl ?_
        rw [nI_add (i + 1) 1]
        refine S_n g 1 (pc' := 4) (lv' := [(0, .int (nI a)), (1, .int (nI t)), (2, .int (chI (nI a) (i + 1))), (3, .int (nI (i + 1 + 1)))]) (st' := []) rfl ?_
        exact lp (t - (i + 1)) (by omega) (i + 1) rfl (by omega)
  exact lp _ 0 rfl (Nat.zero_le _)

set_option maxRecDepth 100000 in
set_option maxHeartbeats 4000000 in
theorem c_subRate (ad : Nat → Nat) (z0 z1 : Bool) (I : FI) (J : FJ) (A : FI) (B : FJ) (t : Nat) (nf nu : Nat) (hF : I 100 5 = nI nf) (hU : I 100 6 = nI nu) (h1 : 1 ≤ nf) (h2 : nf ≤ 5) (h4 : nu ≤ 6) (ht : t ≤ nu) : Spec M_X8_subsetRate [.ref (ad 0), .int (nI t)] (YC ad z0 z1) I J A B (eqP (some (.float (rvF nf nu t))) (YC ad z0 z1) I J A B) := by
  have hln : lsN nf nu ≤ nu := by unfold lsN; split <;> omega
  refine Spec_of (by decide) tk_X8_subsetRate (Nat.le_of_ble_eq_true rfl) (fun X g rt => ?_)
  show Sim X (YC ad z0 z1) 0 [(0, .ref (ad 0)), (1, .int (nI t))] [] I J A B 0 0
  refine S_n g 1 (pc' := 1) (lv' := [(0, .ref (ad 0)), (1, .int (nI t))]) (st' := [.ref (ad 0)]) rfl ?_
  refine S_getR g (i := 0) (c := 8) (k := 0) (j := 100) (by decide) (by decide) rfl rfl rfl fl_X8_10 rfl ?_
  refine S_getI g (i := 100) (c := 7) (k := 6) (by decide) (by decide) rfl rfl fl_X8_104 rfl ?_
  rw [hU]
  refine S_n g 3 (pc' := 10) (lv' := [(0, .ref (ad 0)), (1, .int (nI t)), (2, .int (nI nu))]) (st' := [.ref (ad 0), .int (nI nu)]) rfl ?_
  refine S_getR g (i := 0) (c := 8) (k := 0) (j := 100) (by decide) (by decide) rfl rfl rfl fl_X8_10 rfl ?_
  refine S_getI g (i := 100) (c := 7) (k := 5) (by decide) (by decide) rfl rfl fl_X8_125 rfl ?_
  rw [hF]
  refine S_n g 1 (pc' := 17) (lv' := [(0, .ref (ad 0)), (1, .int (nI t)), (2, .int (nI nu))]) (st' := [.int (nI nu), .int (nI nf), .int (nI nu)]) rfl ?_
  refine S_cS g (As := [.int (nI nf), .int (nI nu)]) (st := [.int (nI nu)]) (sp_min (YC ad z0 z1) I J A B nf nu (by omega) (by omega)) mw_J9_min_7cf53 lk_X8_243 ⟨Nat.le_of_ble_eq_true rfl, Nat.le_of_ble_eq_true rfl⟩ rfl (Nat.le_of_ble_eq_true rfl) ⟨Nat.le_of_ble_eq_true rfl, Nat.le_of_ble_eq_true rfl⟩ rfl ?_
  rw [show min nf nu = lsN nf nu from by unfold lsN; split <;> omega]
  show Sim X (YC ad z0 z1) 20 [(0, .ref (ad 0)), (1, .int (nI t)), (2, .int (nI nu))] [.int (nI (lsN nf nu)), .int (nI nu)] I J A B 0 0
  refine S_n g 1 (pc' := 21) (lv' := [(0, .ref (ad 0)), (1, .int (nI t)), (2, .int (nI nu))]) (st' := [.int ((nI nu) - (nI (lsN nf nu)))]) rfl ?_
  rw [pk_sub (a := nu) (b := lsN nf nu) (by omega)]
  refine S_n g 5 (pc' := 26) (lv' := [(0, .ref (ad 0)), (1, .int (nI t)), (2, .int (nI nu)), (3, .int (nI (nu - (lsN nf nu))))]) (st' := [.int ((nI t) + (nI 1)), .int (nI nu)]) rfl ?_
  rw [nI_add t 1]
  refine S_cS g (As := [.int (nI nu), .int (nI (t + 1))]) (st := []) (c_choose ad z0 z1 I J A B (nu) (t + 1) (by omega) (by omega)) mw_X8_choose lk_X8_248 ⟨Nat.le_of_ble_eq_true rfl, Nat.le_of_ble_eq_true rfl⟩ rfl (Nat.le_of_ble_eq_true rfl) ⟨Nat.le_of_ble_eq_true rfl, Nat.le_of_ble_eq_true rfl⟩ rfl ?_
  show Sim X (YC ad z0 z1) 29 [(0, .ref (ad 0)), (1, .int (nI t)), (2, .int (nI nu)), (3, .int (nI (nu - (lsN nf nu))))] [.int (nI (chs (nu) (t + 1)))] I J A B 0 0
  refine S_n g 4 (pc' := 33) (lv' := [(0, .ref (ad 0)), (1, .int (nI t)), (2, .int (nI nu)), (3, .int (nI (nu - (lsN nf nu))))]) (st' := [.int ((nI t) + (nI 1)), .int (nI (nu - (lsN nf nu))), .int (nI (chs (nu) (t + 1)))]) rfl ?_
  rw [nI_add t 1]
  refine S_cS g (As := [.int (nI (nu - (lsN nf nu))), .int (nI (t + 1))]) (st := [.int (nI (chs (nu) (t + 1)))]) (c_choose ad z0 z1 I J A B (nu - lsN nf nu) (t + 1) (by omega) (by omega)) mw_X8_choose lk_X8_248 ⟨Nat.le_of_ble_eq_true rfl, Nat.le_of_ble_eq_true rfl⟩ rfl (Nat.le_of_ble_eq_true rfl) ⟨Nat.le_of_ble_eq_true rfl, Nat.le_of_ble_eq_true rfl⟩ rfl ?_
  show Sim X (YC ad z0 z1) 36 [(0, .ref (ad 0)), (1, .int (nI t)), (2, .int (nI nu)), (3, .int (nI (nu - (lsN nf nu))))] [.int (nI (chs (nu - lsN nf nu) (t + 1))), .int (nI (chs (nu) (t + 1)))] I J A B 0 0
  refine S_n g 4 (pc' := 40) (lv' := [(0, .ref (ad 0)), (1, .int (nI t)), (2, .int (nI nu)), (3, .int (nI (nu - (lsN nf nu))))]) (st' := [.int (nI t), .int (nI nu), .float (FP.i2f ((nI (chs (nu) (t + 1))) - (nI (chs (nu - lsN nf nu) (t + 1)))))]) rfl ?_
  refine S_cS g (As := [.int (nI nu), .int (nI t)]) (st := [.float (FP.i2f ((nI (chs (nu) (t + 1))) - (nI (chs (nu - lsN nf nu) (t + 1)))))]) (c_choose ad z0 z1 I J A B (nu) (t) (by omega) (by omega)) mw_X8_choose lk_X8_248 ⟨Nat.le_of_ble_eq_true rfl, Nat.le_of_ble_eq_true rfl⟩ rfl (Nat.le_of_ble_eq_true rfl) ⟨Nat.le_of_ble_eq_true rfl, Nat.le_of_ble_eq_true rfl⟩ rfl ?_
  show Sim X (YC ad z0 z1) 43 [(0, .ref (ad 0)), (1, .int (nI t)), (2, .int (nI nu)), (3, .int (nI (nu - (lsN nf nu))))] [.int (nI (chs (nu) (t))), .float (FP.i2f ((nI (chs (nu) (t + 1))) - (nI (chs (nu - lsN nf nu) (t + 1)))))] I J A B 0 0
  refine S_n g 1 (pc' := 44) (lv' := [(0, .ref (ad 0)), (1, .int (nI t)), (2, .int (nI nu)), (3, .int (nI (nu - (lsN nf nu))))]) (st' := [.float (FP.i2f (nI (chs (nu) (t)))), .float (FP.i2f ((nI (chs (nu) (t + 1))) - (nI (chs (nu - lsN nf nu) (t + 1)))))]) rfl ?_
  refine S_fdiv g (n3_t (rvF_n nf (by omega) nu (by omega) t ht)) rfl ?_
  exact rtF rt rfl rfl eqP_rf

set_option maxRecDepth 100000 in
set_option maxHeartbeats 4000000 in
theorem c_rate (ad : Nat → Nat) (z0 z1 : Bool) (I : FI) (J : FJ) (A : FI) (B : FJ) (m : Nat → Int64) (hG : WG m) (hR : RepW 100 m I J A B) : Spec M_X8_rate [.ref (ad 0)] (YC ad z0 z1) I J A B (cP ad z0 z1 I J A B (.int (o_rate (gN (m 428)))) m) := by
  obtain ⟨hn, hhn⟩ : ∃ hn, hn = gN (m 428) := ⟨_, rfl⟩
  have hq1 := (WGn hG).2.2.2.1
  have hH : I 106 3 = nI hn := by rw [hhn]; exact hR.2.2.2.2.2.2.2.1.2.1
  rw [← hhn] at hq1 ⊢
  obtain ⟨hn3, hsm⟩ := tst1 hn (by omega)
  have hbc := tst2 hn (by omega)
  refine Spec_of (by decide) tk_X8_rate (Nat.le_of_ble_eq_true rfl) (fun X g rt => ?_)
  show Sim X (YC ad z0 z1) 0 [(0, .ref (ad 0))] [] I J A B 0 0
  refine S_n g 1 (pc' := 1) (lv' := [(0, .ref (ad 0))]) (st' := [.ref (ad 0)]) rfl ?_
  refine S_getR g (i := 0) (c := 8) (k := 0) (j := 100) (by decide) (by decide) rfl rfl rfl fl_X8_10 rfl ?_
  refine S_getR g (i := 100) (c := 7) (k := 3) (j := 106) (by decide) (by decide) rfl rfl rfl fl_X8_68 rfl ?_
  refine S_getI g (i := 106) (c := 6) (k := 3) (by decide) (by decide) rfl rfl fl_X8_72 rfl ?_
  rw [hH]
  refine S_n g 1 (pc' := 11) (lv' := [(0, .ref (ad 0))]) (st' := [.float (FP.i2f (nI hn))]) rfl ?_
  refine S_ldcf g kc_X8_234 rfl ?_
  refine S_fdiv g (n3_t hn3) rfl ?_
  refine S_cS g (As := [.float (FP.fdiv (FP.i2f (nI hn)) 1094713344)]) (st := []) (c_bitsOf ad z0 z1 I J A B (FP.fdiv (FP.i2f (nI hn)) 1094713344) (o_rate hn) (hbc.trans (isS hsm))) mw_X8_bitsOf lk_X8_235 ⟨Nat.le_of_ble_eq_true rfl, Nat.le_of_ble_eq_true rfl⟩ rfl (Nat.le_of_ble_eq_true rfl) ⟨Nat.le_of_ble_eq_true rfl, Nat.le_of_ble_eq_true rfl⟩ rfl ?_
  show Sim X (YC ad z0 z1) 17 [(0, .ref (ad 0))] [.int (o_rate hn)] I J A B 0 0
  exact rtI rt rfl rfl (⟨rfl, rfl, hR, kpC_rf I J A B⟩)

set_option maxRecDepth 100000 in
set_option maxHeartbeats 4000000 in
theorem c_formula (ad : Nat → Nat) (z0 z1 : Bool) (I : FI) (J : FJ) (A : FI) (B : FJ) (x : Int32) (m : Nat → Int64) (hG : WG m) (hR : RepW 100 m I J A B) : Spec M_X8_formula [.ref (ad 0), .int x] (YC ad z0 z1) I J A B (cP ad z0 z1 I J A B (.int (o_formula (gN (m 0)) (gN (m 1)) x)) m) := by
  obtain ⟨nf, hnf⟩ : ∃ nf, nf = gN (m 0) := ⟨_, rfl⟩
  obtain ⟨nu, hnu⟩ : ∃ nu, nu = gN (m 1) := ⟨_, rfl⟩
  obtain ⟨nc, hnc⟩ : ∃ nc, nc = gN (m 2) := ⟨_, rfl⟩
  have hD := hG.1
  unfold wc0 at hD
  rw [← hnf, ← hnu, ← hnc] at hD
  obtain ⟨hmF, hmU, hmC, h1, h2, h3, h4, h5⟩ := hD
  have hF : I 100 5 = nI nf := by rw [hR.1.1, hmF, lN_i]
  have hU : I 100 6 = nI nu := by rw [hR.1.2.1, hmU, lN_i]
  have hC : I 100 7 = nI nc := by rw [hR.1.2.2.1, hmC, lN_i]
  rw [← hnf, ← hnu]
  refine Spec_of (by decide) tk_X8_formula (Nat.le_of_ble_eq_true rfl) (fun X g rt => ?_)
  show Sim X (YC ad z0 z1) 0 [(0, .ref (ad 0)), (1, .int x)] [] I J A B 0 0
  refine S_n g 1 (pc' := 1) (lv' := [(0, .ref (ad 0)), (1, .int x)]) (st' := [.int x]) rfl ?_
  refine S_if_lt g (tgt := 15) rfl (by decide) (fun qz1 => ?_) (fun qz1 => ?_)
  · skip
    refine S_n g 1 (pc' := 17) (lv' := [(0, .ref (ad 0)), (1, .int x)]) (st' := [.int (-nI 101)]) rfl ?_
    exact rtI rt rfl rfl (⟨by rw [o_formula, ix_lo qz1, if_neg (by decide)], rfl, hR, kpC_rf I J A B⟩)
  · skip
    refine S_n g 2 (pc' := 6) (lv' := [(0, .ref (ad 0)), (1, .int x)]) (st' := [.ref (ad 0), .int x]) rfl ?_
    refine S_getR g (i := 0) (c := 8) (k := 0) (j := 100) (by decide) (by decide) rfl rfl rfl fl_X8_10 rfl ?_
    refine S_getI g (i := 100) (c := 7) (k := 6) (by decide) (by decide) rfl rfl fl_X8_104 rfl ?_
    rw [hU]
    refine S_ic_le g (tgt := 18) rfl (by decide) (fun qz12 => ?_) (fun qz12 => ?_)
    · skip
      have hx : isIx x (nu + 1) = true := ix_le qz1 qz12 (by omega)
      obtain ⟨t, ht, hxt⟩ := isIx_t hx
      subst hxt
      have hct : (nI t).toNatClampNeg = t := nI_clamp (by omega)
      refine S_n g 2 (pc' := 20) (lv' := [(0, .ref (ad 0)), (1, .int (nI t))]) (st' := [.int (nI t), .ref (ad 0)]) rfl ?_
      refine S_cV g (i := 0) (As := [.int (nI t)]) (st := []) (c_subRate ad z0 z1 I J A B t nf nu hF hU h1 h2 h4 (by omega)) mw_X8_subsetRate lk_X8_239 ⟨Nat.le_of_ble_eq_true rfl, Nat.le_of_ble_eq_true rfl⟩ (by decide) (by decide) rfl rfl (Nat.le_of_ble_eq_true rfl) ⟨Nat.le_of_ble_eq_true rfl, Nat.le_of_ble_eq_true rfl⟩ rfl ?_
      show Sim X (YC ad z0 z1) 23 [(0, .ref (ad 0)), (1, .int (nI t))] [.float (rvF nf nu t)] I J A B 0 0
      refine S_cS g (As := [.float (rvF nf nu t)]) (st := []) (c_bitsOf ad z0 z1 I J A B (rvF nf nu t) ((bts (rvF nf nu t)).getD 0) ((fml2 nf (by omega) nu (by omega) t (by omega) h1).trans (isS (fml_s nf (by omega) nu (by omega) t (by omega) h1)))) mw_X8_bitsOf lk_X8_235 ⟨Nat.le_of_ble_eq_true rfl, Nat.le_of_ble_eq_true rfl⟩ rfl (Nat.le_of_ble_eq_true rfl) ⟨Nat.le_of_ble_eq_true rfl, Nat.le_of_ble_eq_true rfl⟩ rfl ?_
      show Sim X (YC ad z0 z1) 26 [(0, .ref (ad 0)), (1, .int (nI t))] [.int ((bts (rvF nf nu t)).getD 0)] I J A B 0 0
      exact rtI rt rfl rfl (⟨by rw [o_formula, if_pos hx, show ix (nI t) = t from hct], rfl, hR, kpC_rf I J A B⟩)
    · skip
      refine S_n g 1 (pc' := 17) (lv' := [(0, .ref (ad 0)), (1, .int x)]) (st' := [.int (-nI 101)]) rfl ?_
      exact rtI rt rfl rfl (⟨by rw [o_formula, ix_gt qz12 (by omega), if_neg (by decide)], rfl, hR, kpC_rf I J A B⟩)

set_option maxRecDepth 100000 in
set_option maxHeartbeats 4000000 in
theorem c_shared (ad : Nat → Nat) (z0 z1 : Bool) (I : FI) (J : FJ) (A : FI) (B : FJ) (m : Nat → Int64) (hG : WG m) (hR : RepW 100 m I J A B) : Spec M_X8_sharedRate [.ref (ad 0)] (YC ad z0 z1) I J A B (cP ad z0 z1 I J A B (.int (o_shared (gN (m 0)) (gN (m 1)) (gN (m 2)))) m) := by
  obtain ⟨nf, hnf⟩ : ∃ nf, nf = gN (m 0) := ⟨_, rfl⟩
  obtain ⟨nu, hnu⟩ : ∃ nu, nu = gN (m 1) := ⟨_, rfl⟩
  obtain ⟨nc, hnc⟩ : ∃ nc, nc = gN (m 2) := ⟨_, rfl⟩
  have hD := hG.1
  unfold wc0 at hD
  rw [← hnf, ← hnu, ← hnc] at hD
  obtain ⟨hmF, hmU, hmC, h1, h2, h3, h4, h5⟩ := hD
  have hF : I 100 5 = nI nf := by rw [hR.1.1, hmF, lN_i]
  have hU : I 100 6 = nI nu := by rw [hR.1.2.1, hmU, lN_i]
  have hC : I 100 7 = nI nc := by rw [hR.1.2.2.1, hmC, lN_i]
  rw [← hnf, ← hnu, ← hnc]
  have hsc := shC_t nf (by omega) h1 nu (by omega) h3 nc (by omega)
  have hs2 := of_decide_eq_true (shC2 nf (by omega) h1 nu (by omega) h3 nc (by omega))
  unfold shC at hsc
  simp only [Bool.and_eq_true] at hsc
  obtain ⟨⟨⟨⟨⟨s1, s2⟩, s3⟩, s4⟩, s5⟩, s6⟩ := hsc
  have s2 := of_decide_eq_true s2
  have s3 := of_decide_eq_true s3
  refine Spec_of (by decide) tk_X8_sharedRate (Nat.le_of_ble_eq_true rfl) (fun X g rt => ?_)
  show Sim X (YC ad z0 z1) 0 [(0, .ref (ad 0))] [] I J A B 0 0
  refine S_n g 1 (pc' := 1) (lv' := [(0, .ref (ad 0))]) (st' := [.ref (ad 0)]) rfl ?_
  refine S_getR g (i := 0) (c := 8) (k := 0) (j := 100) (by decide) (by decide) rfl rfl rfl fl_X8_10 rfl ?_
  refine S_getI g (i := 100) (c := 7) (k := 6) (by decide) (by decide) rfl rfl fl_X8_104 rfl ?_
  rw [hU]
  refine S_n g 3 (pc' := 10) (lv' := [(0, .ref (ad 0)), (1, .float (FP.i2f (nI nu)))]) (st' := [.ref (ad 0)]) rfl ?_
  refine S_getR g (i := 0) (c := 8) (k := 0) (j := 100) (by decide) (by decide) rfl rfl rfl fl_X8_10 rfl ?_
  refine S_getI g (i := 100) (c := 7) (k := 6) (by decide) (by decide) rfl rfl fl_X8_104 rfl ?_
  rw [hU]
  refine S_n g 1 (pc' := 17) (lv' := [(0, .ref (ad 0)), (1, .float (FP.i2f (nI nu)))]) (st' := [.ref (ad 0), .int (nI nu)]) rfl ?_
  refine S_getR g (i := 0) (c := 8) (k := 0) (j := 100) (by decide) (by decide) rfl rfl rfl fl_X8_10 rfl ?_
  refine S_getI g (i := 100) (c := 7) (k := 7) (by decide) (by decide) rfl rfl fl_X8_95 rfl ?_
  rw [hC]
  refine S_n g 1 (pc' := 24) (lv' := [(0, .ref (ad 0)), (1, .float (FP.i2f (nI nu)))]) (st' := [.int ((nI nu) * (nI nc))]) rfl ?_
  rw [pk_mul nu nc]
  refine S_n g 3 (pc' := 28) (lv' := [(0, .ref (ad 0)), (1, .float (FP.i2f (nI nu)))]) (st' := [.ref (ad 0), .int (nI 12), .float (FP.i2f (nI (nu * nc)))]) rfl ?_
  refine S_getR g (i := 0) (c := 8) (k := 0) (j := 100) (by decide) (by decide) rfl rfl rfl fl_X8_10 rfl ?_
  refine S_getI g (i := 100) (c := 7) (k := 5) (by decide) (by decide) rfl rfl fl_X8_125 rfl ?_
  rw [hF]
  refine S_n g 1 (pc' := 35) (lv' := [(0, .ref (ad 0)), (1, .float (FP.i2f (nI nu)))]) (st' := [.int ((nI 12) * (nI nf)), .float (FP.i2f (nI (nu * nc)))]) rfl ?_
  rw [pk_mul 12 nf]
  refine S_n g 1 (pc' := 36) (lv' := [(0, .ref (ad 0)), (1, .float (FP.i2f (nI nu)))]) (st' := [.float (FP.i2f (nI (12 * nf))), .float (FP.i2f (nI (nu * nc)))]) rfl ?_
  refine S_fdiv g (n3_t s1) rfl ?_
  refine S_n g 4 (pc' := 41) (lv' := [(0, .ref (ad 0)), (1, .float (FP.i2f (nI nu))), (2, .float (FP.fdiv (FP.i2f (nI (nu * nc))) (FP.i2f (nI (12 * nf)))))]) (st' := [.int (Op.cmpValue (FP.fcmp (FP.fdiv (FP.i2f (nI (nu * nc))) (FP.i2f (nI (12 * nf)))) (FP.i2f (nI nu))) .l)]) rfl ?_
  refine S_if_le g (tgt := 46) rfl (by decide) (fun qz41 => ?_) (fun qz41 => ?_)
  · skip
    refine S_lveq (lv' := [(0, .ref (ad 0)), (1, .float (FP.i2f (nI nu))), (2, .float (shX nf nu nc))]) (by rw [shX, if_pos qz41]) ?_
    refine S_n g 2 (pc' := 48) (lv' := [(0, .ref (ad 0)), (1, .float (FP.i2f (nI nu))), (2, .float (shX nf nu nc))]) (st' := [.int (FP.f2i (shX nf nu nc))]) rfl ?_
    rw [s2]
    show Sim X (YC ad z0 z1) 48 [(0, .ref (ad 0)), (1, .float (FP.i2f (nI nu))), (2, .float (shX nf nu nc))] [.int (nI (shT nf nu nc))] I J A B 0 0
    refine S_n g 4 (pc' := 52) (lv' := [(0, .ref (ad 0)), (1, .float (FP.i2f (nI nu))), (2, .float (shX nf nu nc)), (3, .int (nI (shT nf nu nc)))]) (st' := [.float (FP.i2f (nI (shT nf nu nc))), .float (shX nf nu nc)]) rfl ?_
    refine S_fsub g (n3_t s4) rfl ?_
    show Sim X (YC ad z0 z1) 53 [(0, .ref (ad 0)), (1, .float (FP.i2f (nI nu))), (2, .float (shX nf nu nc)), (3, .int (nI (shT nf nu nc)))] [.float (shY nf nu nc)] I J A B 0 0
    refine S_n g 3 (pc' := 57) (lv' := [(0, .ref (ad 0)), (1, .float (FP.i2f (nI nu))), (2, .float (shX nf nu nc)), (3, .int (nI (shT nf nu nc))), (4, .float (shY nf nu nc))]) (st' := [.int (nI (shT nf nu nc)), .ref (ad 0)]) rfl ?_
    refine S_cV g (i := 0) (As := [.int (nI (shT nf nu nc))]) (st := []) (c_subRate ad z0 z1 I J A B (shT nf nu nc) nf nu hF hU h1 h2 h4 s3) mw_X8_subsetRate lk_X8_239 ⟨Nat.le_of_ble_eq_true rfl, Nat.le_of_ble_eq_true rfl⟩ (by decide) (by decide) rfl rfl (Nat.le_of_ble_eq_true rfl) ⟨Nat.le_of_ble_eq_true rfl, Nat.le_of_ble_eq_true rfl⟩ rfl ?_
    show Sim X (YC ad z0 z1) 60 [(0, .ref (ad 0)), (1, .float (FP.i2f (nI nu))), (2, .float (shX nf nu nc)), (3, .int (nI (shT nf nu nc))), (4, .float (shY nf nu nc))] [.float (rvF nf nu (shT nf nu nc))] I J A B 0 0
    refine S_n g 4 (pc' := 66) (lv' := [(0, .ref (ad 0)), (1, .float (FP.i2f (nI nu))), (2, .float (shX nf nu nc)), (3, .int (nI (shT nf nu nc))), (4, .float (shY nf nu nc)), (5, .float (rvF nf nu (shT nf nu nc)))]) (st' := [.int (Op.cmpValue (FP.fcmp (shY nf nu nc) FP.fconst0) .l)]) rfl ?_
    refine S_if_ne g (tgt := 75) rfl (by decide) (fun qz66 => ?_) (fun qz66 => ?_)
    · skip
      rcases (Bool.or_eq_true _ _).mp s5 with q | s7
      · exact absurd (of_decide_eq_true q) qz66
      simp only [Bool.and_eq_true] at s7
      obtain ⟨⟨⟨t1, t2⟩, t3⟩, t4⟩ := s7
      have t1 := of_decide_eq_true t1
      have hzz : shZ nf nu nc = FP.fadd (rvF nf nu (shT nf nu nc)) (FP.fmul (shY nf nu nc) (FP.fsub (rvF nf nu (shT nf nu nc + 1)) (rvF nf nu (shT nf nu nc)))) := by rw [shZ, if_neg qz66]
      refine S_n g 6 (pc' := 83) (lv' := [(0, .ref (ad 0)), (1, .float (FP.i2f (nI nu))), (2, .float (shX nf nu nc)), (3, .int (nI (shT nf nu nc))), (4, .float (shY nf nu nc)), (5, .float (rvF nf nu (shT nf nu nc)))]) (st' := [.int ((nI (shT nf nu nc)) + (nI 1)), .ref (ad 0), .float (shY nf nu nc), .float (rvF nf nu (shT nf nu nc))]) rfl ?_
      rw [nI_add (shT nf nu nc) 1]
      refine S_cV g (i := 0) (As := [.int (nI ((shT nf nu nc) + 1))]) (st := [.float (shY nf nu nc), .float (rvF nf nu (shT nf nu nc))]) (c_subRate ad z0 z1 I J A B (shT nf nu nc + 1) nf nu hF hU h1 h2 h4 t1) mw_X8_subsetRate lk_X8_239 ⟨Nat.le_of_ble_eq_true rfl, Nat.le_of_ble_eq_true rfl⟩ (by decide) (by decide) rfl rfl (Nat.le_of_ble_eq_true rfl) ⟨Nat.le_of_ble_eq_true rfl, Nat.le_of_ble_eq_true rfl⟩ rfl ?_
      show Sim X (YC ad z0 z1) 86 [(0, .ref (ad 0)), (1, .float (FP.i2f (nI nu))), (2, .float (shX nf nu nc)), (3, .int (nI (shT nf nu nc))), (4, .float (shY nf nu nc)), (5, .float (rvF nf nu (shT nf nu nc)))] [.float (rvF nf nu (shT nf nu nc + 1)), .float (shY nf nu nc), .float (rvF nf nu (shT nf nu nc))] I J A B 0 0
      refine S_n g 1 (pc' := 88) (lv' := [(0, .ref (ad 0)), (1, .float (FP.i2f (nI nu))), (2, .float (shX nf nu nc)), (3, .int (nI (shT nf nu nc))), (4, .float (shY nf nu nc)), (5, .float (rvF nf nu (shT nf nu nc)))]) (st' := [.float (rvF nf nu (shT nf nu nc)), .float (rvF nf nu (shT nf nu nc + 1)), .float (shY nf nu nc), .float (rvF nf nu (shT nf nu nc))]) rfl ?_
      refine S_fsub g (n3_t t2) rfl ?_
      refine S_fmul g (n3_t t3) rfl ?_
      refine S_fadd g (n3_t (by rw [hzz] at t4; exact t4)) rfl ?_
      refine S_steq (st' := [.float (shZ nf nu nc)]) (by rw [hzz]) ?_
      refine S_cS g (As := [.float (shZ nf nu nc)]) (st := []) (c_bitsOf ad z0 z1 I J A B (shZ nf nu nc) (o_shared nf nu nc) (hs2.trans (isS s6))) mw_X8_bitsOf lk_X8_235 ⟨Nat.le_of_ble_eq_true rfl, Nat.le_of_ble_eq_true rfl⟩ rfl (Nat.le_of_ble_eq_true rfl) ⟨Nat.le_of_ble_eq_true rfl, Nat.le_of_ble_eq_true rfl⟩ rfl ?_
      show Sim X (YC ad z0 z1) 94 [(0, .ref (ad 0)), (1, .float (FP.i2f (nI nu))), (2, .float (shX nf nu nc)), (3, .int (nI (shT nf nu nc))), (4, .float (shY nf nu nc)), (5, .float (rvF nf nu (shT nf nu nc)))] [.int (o_shared nf nu nc)] I J A B 0 0
      exact rtI rt rfl rfl (⟨rfl, rfl, hR, kpC_rf I J A B⟩)
    · skip
      have hzz : shZ nf nu nc = rvF nf nu (shT nf nu nc) := by rw [shZ, if_pos qz66]
      refine S_n g 1 (pc' := 71) (lv' := [(0, .ref (ad 0)), (1, .float (FP.i2f (nI nu))), (2, .float (shX nf nu nc)), (3, .int (nI (shT nf nu nc))), (4, .float (shY nf nu nc)), (5, .float (rvF nf nu (shT nf nu nc)))]) (st' := [.float (rvF nf nu (shT nf nu nc))]) rfl ?_
      refine S_steq (st' := [.float (shZ nf nu nc)]) (by rw [hzz]) ?_
      refine S_cS g (As := [.float (shZ nf nu nc)]) (st := []) (c_bitsOf ad z0 z1 I J A B (shZ nf nu nc) (o_shared nf nu nc) (hs2.trans (isS s6))) mw_X8_bitsOf lk_X8_235 ⟨Nat.le_of_ble_eq_true rfl, Nat.le_of_ble_eq_true rfl⟩ rfl (Nat.le_of_ble_eq_true rfl) ⟨Nat.le_of_ble_eq_true rfl, Nat.le_of_ble_eq_true rfl⟩ rfl ?_
      show Sim X (YC ad z0 z1) 74 [(0, .ref (ad 0)), (1, .float (FP.i2f (nI nu))), (2, .float (shX nf nu nc)), (3, .int (nI (shT nf nu nc))), (4, .float (shY nf nu nc)), (5, .float (rvF nf nu (shT nf nu nc)))] [.int (o_shared nf nu nc)] I J A B 0 0
      exact rtI rt rfl rfl (⟨rfl, rfl, hR, kpC_rf I J A B⟩)
  · skip
    refine S_n g 2 (pc' := 46) (lv' := [(0, .ref (ad 0)), (1, .float (FP.i2f (nI nu))), (2, .float (FP.i2f (nI nu)))]) (st' := []) rfl ?_
    refine S_lveq (lv' := [(0, .ref (ad 0)), (1, .float (FP.i2f (nI nu))), (2, .float (shX nf nu nc))]) (by rw [shX, if_neg qz41]) ?_
    refine S_n g 2 (pc' := 48) (lv' := [(0, .ref (ad 0)), (1, .float (FP.i2f (nI nu))), (2, .float (shX nf nu nc))]) (st' := [.int (FP.f2i (shX nf nu nc))]) rfl ?_
    rw [s2]
    show Sim X (YC ad z0 z1) 48 [(0, .ref (ad 0)), (1, .float (FP.i2f (nI nu))), (2, .float (shX nf nu nc))] [.int (nI (shT nf nu nc))] I J A B 0 0
    refine S_n g 4 (pc' := 52) (lv' := [(0, .ref (ad 0)), (1, .float (FP.i2f (nI nu))), (2, .float (shX nf nu nc)), (3, .int (nI (shT nf nu nc)))]) (st' := [.float (FP.i2f (nI (shT nf nu nc))), .float (shX nf nu nc)]) rfl ?_
    refine S_fsub g (n3_t s4) rfl ?_
    show Sim X (YC ad z0 z1) 53 [(0, .ref (ad 0)), (1, .float (FP.i2f (nI nu))), (2, .float (shX nf nu nc)), (3, .int (nI (shT nf nu nc)))] [.float (shY nf nu nc)] I J A B 0 0
    refine S_n g 3 (pc' := 57) (lv' := [(0, .ref (ad 0)), (1, .float (FP.i2f (nI nu))), (2, .float (shX nf nu nc)), (3, .int (nI (shT nf nu nc))), (4, .float (shY nf nu nc))]) (st' := [.int (nI (shT nf nu nc)), .ref (ad 0)]) rfl ?_
    refine S_cV g (i := 0) (As := [.int (nI (shT nf nu nc))]) (st := []) (c_subRate ad z0 z1 I J A B (shT nf nu nc) nf nu hF hU h1 h2 h4 s3) mw_X8_subsetRate lk_X8_239 ⟨Nat.le_of_ble_eq_true rfl, Nat.le_of_ble_eq_true rfl⟩ (by decide) (by decide) rfl rfl (Nat.le_of_ble_eq_true rfl) ⟨Nat.le_of_ble_eq_true rfl, Nat.le_of_ble_eq_true rfl⟩ rfl ?_
    show Sim X (YC ad z0 z1) 60 [(0, .ref (ad 0)), (1, .float (FP.i2f (nI nu))), (2, .float (shX nf nu nc)), (3, .int (nI (shT nf nu nc))), (4, .float (shY nf nu nc))] [.float (rvF nf nu (shT nf nu nc))] I J A B 0 0
    refine S_n g 4 (pc' := 66) (lv' := [(0, .ref (ad 0)), (1, .float (FP.i2f (nI nu))), (2, .float (shX nf nu nc)), (3, .int (nI (shT nf nu nc))), (4, .float (shY nf nu nc)), (5, .float (rvF nf nu (shT nf nu nc)))]) (st' := [.int (Op.cmpValue (FP.fcmp (shY nf nu nc) FP.fconst0) .l)]) rfl ?_
    refine S_if_ne g (tgt := 75) rfl (by decide) (fun qz66 => ?_) (fun qz66 => ?_)
    · skip
      rcases (Bool.or_eq_true _ _).mp s5 with q | s7
      · exact absurd (of_decide_eq_true q) qz66
      simp only [Bool.and_eq_true] at s7
      obtain ⟨⟨⟨t1, t2⟩, t3⟩, t4⟩ := s7
      have t1 := of_decide_eq_true t1
      have hzz : shZ nf nu nc = FP.fadd (rvF nf nu (shT nf nu nc)) (FP.fmul (shY nf nu nc) (FP.fsub (rvF nf nu (shT nf nu nc + 1)) (rvF nf nu (shT nf nu nc)))) := by rw [shZ, if_neg qz66]
      refine S_n g 6 (pc' := 83) (lv' := [(0, .ref (ad 0)), (1, .float (FP.i2f (nI nu))), (2, .float (shX nf nu nc)), (3, .int (nI (shT nf nu nc))), (4, .float (shY nf nu nc)), (5, .float (rvF nf nu (shT nf nu nc)))]) (st' := [.int ((nI (shT nf nu nc)) + (nI 1)), .ref (ad 0), .float (shY nf nu nc), .float (rvF nf nu (shT nf nu nc))]) rfl ?_
      rw [nI_add (shT nf nu nc) 1]
      refine S_cV g (i := 0) (As := [.int (nI ((shT nf nu nc) + 1))]) (st := [.float (shY nf nu nc), .float (rvF nf nu (shT nf nu nc))]) (c_subRate ad z0 z1 I J A B (shT nf nu nc + 1) nf nu hF hU h1 h2 h4 t1) mw_X8_subsetRate lk_X8_239 ⟨Nat.le_of_ble_eq_true rfl, Nat.le_of_ble_eq_true rfl⟩ (by decide) (by decide) rfl rfl (Nat.le_of_ble_eq_true rfl) ⟨Nat.le_of_ble_eq_true rfl, Nat.le_of_ble_eq_true rfl⟩ rfl ?_
      show Sim X (YC ad z0 z1) 86 [(0, .ref (ad 0)), (1, .float (FP.i2f (nI nu))), (2, .float (shX nf nu nc)), (3, .int (nI (shT nf nu nc))), (4, .float (shY nf nu nc)), (5, .float (rvF nf nu (shT nf nu nc)))] [.float (rvF nf nu (shT nf nu nc + 1)), .float (shY nf nu nc), .float (rvF nf nu (shT nf nu nc))] I J A B 0 0
      refine S_n g 1 (pc' := 88) (lv' := [(0, .ref (ad 0)), (1, .float (FP.i2f (nI nu))), (2, .float (shX nf nu nc)), (3, .int (nI (shT nf nu nc))), (4, .float (shY nf nu nc)), (5, .float (rvF nf nu (shT nf nu nc)))]) (st' := [.float (rvF nf nu (shT nf nu nc)), .float (rvF nf nu (shT nf nu nc + 1)), .float (shY nf nu nc), .float (rvF nf nu (shT nf nu nc))]) rfl ?_
      refine S_fsub g (n3_t t2) rfl ?_
      refine S_fmul g (n3_t t3) rfl ?_
      refine S_fadd g (n3_t (by rw [hzz] at t4; exact t4)) rfl ?_
      refine S_steq (st' := [.float (shZ nf nu nc)]) (by rw [hzz]) ?_
      refine S_cS g (As := [.float (shZ nf nu nc)]) (st := []) (c_bitsOf ad z0 z1 I J A B (shZ nf nu nc) (o_shared nf nu nc) (hs2.trans (isS s6))) mw_X8_bitsOf lk_X8_235 ⟨Nat.le_of_ble_eq_true rfl, Nat.le_of_ble_eq_true rfl⟩ rfl (Nat.le_of_ble_eq_true rfl) ⟨Nat.le_of_ble_eq_true rfl, Nat.le_of_ble_eq_true rfl⟩ rfl ?_
      show Sim X (YC ad z0 z1) 94 [(0, .ref (ad 0)), (1, .float (FP.i2f (nI nu))), (2, .float (shX nf nu nc)), (3, .int (nI (shT nf nu nc))), (4, .float (shY nf nu nc)), (5, .float (rvF nf nu (shT nf nu nc)))] [.int (o_shared nf nu nc)] I J A B 0 0
      exact rtI rt rfl rfl (⟨rfl, rfl, hR, kpC_rf I J A B⟩)
    · skip
      have hzz : shZ nf nu nc = rvF nf nu (shT nf nu nc) := by rw [shZ, if_pos qz66]
      refine S_n g 1 (pc' := 71) (lv' := [(0, .ref (ad 0)), (1, .float (FP.i2f (nI nu))), (2, .float (shX nf nu nc)), (3, .int (nI (shT nf nu nc))), (4, .float (shY nf nu nc)), (5, .float (rvF nf nu (shT nf nu nc)))]) (st' := [.float (rvF nf nu (shT nf nu nc))]) rfl ?_
      refine S_steq (st' := [.float (shZ nf nu nc)]) (by rw [hzz]) ?_
      refine S_cS g (As := [.float (shZ nf nu nc)]) (st := []) (c_bitsOf ad z0 z1 I J A B (shZ nf nu nc) (o_shared nf nu nc) (hs2.trans (isS s6))) mw_X8_bitsOf lk_X8_235 ⟨Nat.le_of_ble_eq_true rfl, Nat.le_of_ble_eq_true rfl⟩ rfl (Nat.le_of_ble_eq_true rfl) ⟨Nat.le_of_ble_eq_true rfl, Nat.le_of_ble_eq_true rfl⟩ rfl ?_
      show Sim X (YC ad z0 z1) 74 [(0, .ref (ad 0)), (1, .float (FP.i2f (nI nu))), (2, .float (shX nf nu nc)), (3, .int (nI (shT nf nu nc))), (4, .float (shY nf nu nc)), (5, .float (rvF nf nu (shT nf nu nc)))] [.int (o_shared nf nu nc)] I J A B 0 0
      exact rtI rt rfl rfl (⟨rfl, rfl, hR, kpC_rf I J A B⟩)
