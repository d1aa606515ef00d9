/-! the reference, part 23: floats -/
abbrev cmL (x y : UInt32) : Int32 := Op.cmpValue (FP.fcmp x y) .l
abbrev cmG (x y : UInt32) : Int32 := Op.cmpValue (FP.fcmp x y) .g
def n3 (r : UInt32) : Bool := decide (r &&& 0x7fffffff ≤ 0x7f800000)
theorem n3_t {r : UInt32} (h : n3 r = true) : vf_n32 r := by
  show r &&& 0x7fffffff ≤ 0x7f800000
  exact of_decide_eq_true h
def bU : Nat → UInt32 → Int32 → Option (UInt32 × Int32)
  | 0, _, _ => none
  | k + 1, y, e => if cmL y FP.fconst2 < 0 then some (y, e) else if n3 (FP.fdiv y FP.fconst2) = true then bU k (FP.fdiv y FP.fconst2) (e + nI 1) else none
def bD : Nat → UInt32 → Int32 → Option (UInt32 × Int32)
  | 0, _, _ => none
  | k + 1, y, e => if 0 ≤ cmG y FP.fconst1 then some (y, e) else if e ≤ -nI 126 then some (y, e) else if n3 (FP.fmul y FP.fconst2) = true then bD k (FP.fmul y FP.fconst2) (e + -nI 1) else none
/-- the bits of a float, as the reference finds them -/
def bts (x : UInt32) : Option Int32 :=
  if cmL x FP.fconst0 = 0 then some (nI 0) else
  match bU 200 x (nI 0) with
  | none => none
  | some (y, e) => match bD 200 y e with
    | none => none
    | some (z, f) => if n3 (FP.fmul z 1258291200) = true then some (((f + nI 126) <<< (nI 23 &&& 31)) + FP.f2i (FP.fmul z 1258291200)) else none

set_option maxRecDepth 100000 in
set_option maxHeartbeats 4000000 in
theorem sp_bitsOf (Y : PS) (I : FI) (J : FJ) (A : FI) (B : FJ) (x : UInt32) (r : Int32) (hb : bts x = some r) : Spec M_X9_bitsOf [.float x] Y I J A B (eqP (some (.int r)) Y I J A B) := by
  unfold bts at hb
  refine Spec_of (by decide) tk_X9_bitsOf (Nat.le_of_ble_eq_true rfl) (fun X g rt => ?_)
  show Sim X Y 0 [(0, .float x)] [] I J A B 0 0
  refine S_n g 3 (pc' := 3) (lv' := [(0, .float x)]) (st' := [.int (Op.cmpValue (FP.fcmp x FP.fconst0) .l)]) rfl ?_
  refine S_if_ne g (tgt := 8) rfl (by decide) (fun qz3 => ?_) (fun qz3 => ?_)
  · skip
    rw [if_neg qz3] at hb
    refine S_n g 4 (pc' := 12) (lv' := [(0, .float x), (1, .int (nI 0)), (2, .float x)]) (st' := []) rfl ?_
    have lp : ∀ (nn : Nat) (k : Nat) (y : UInt32) (e : Int32), k = nn → (bU k y e = bU 200 x (nI 0)) → Sim X Y 12 [(0, .float x), (1, .int e), (2, .float y)] [] I J A B 0 0 := by
      intro nn
      induction nn using Nat.strongRecOn with
      | ind nn ih =>
        intro k y e hmz hbu
        have lp := ih
        refine S_n g 3 (pc' := 15) (lv' := [(0, .float x), (1, .int e), (2, .float y)]) (st' := [.int (Op.cmpValue (FP.fcmp y FP.fconst2) .l)]) rfl ?_
        refine S_if_lt g (tgt := 28) rfl (by decide) (fun qz15 => ?_) (fun qz15 => ?_)
        · skip
          have hby : bU 200 x (nI 0) = some (y, e) := by cases k with | zero => rw [← hbu] at hb; exact absurd hb (by intro q; cases q) | succ j => rw [← hbu, bU, if_pos qz15]
          rw [hby] at hb
          simp only [] at hb
          have lp2 : ∀ (nn : Nat) (k2 : Nat) (y2 : UInt32) (e2 : Int32), k2 = nn → (bD k2 y2 e2 = bD 200 y e) → Sim X Y 28 [(0, .float x), (1, .int e2), (2, .float y2)] [] I J A B 0 0 := by
            intro nn
            induction nn using Nat.strongRecOn with
            | ind nn ih =>
              intro k2 y2 e2 hmz hbd
              have lp2 := ih
              refine S_n g 3 (pc' := 31) (lv' := [(0, .float x), (1, .int e2), (2, .float y2)]) (st' := [.int (Op.cmpValue (FP.fcmp y2 FP.fconst1) .g)]) rfl ?_
              refine S_if_ge g (tgt := 50) rfl (by decide) (fun qz31 => ?_) (fun qz31 => ?_)
              · skip
                have hbz : bD 200 y e = some (y2, e2) := by cases k2 with | zero => rw [← hbd] at hb; exact absurd hb (by intro q; cases q) | succ j => rw [← hbd, bD, if_pos qz31]
                rw [hbz] at hb
                simp only [] at hb
                by_cases hnn : n3 (FP.fmul y2 1258291200) = true
                · skip
                  rw [if_pos hnn] at hb
                  refine S_n g 6 (pc' := 58) (lv' := [(0, .float x), (1, .int e2), (2, .float y2)]) (st' := [.float y2, .int ((e2 + (nI 126)) <<< ((nI 23) &&& 31))]) rfl ?_
                  refine S_ldcf g kc_X9_217 rfl ?_
                  refine S_fmul g (n3_t hnn) rfl ?_
                  refine S_n g 2 (pc' := 63) (lv' := [(0, .float x), (1, .int e2), (2, .float y2)]) (st' := [.int (((e2 + (nI 126)) <<< ((nI 23) &&& 31)) + (FP.f2i (FP.fmul y2 1258291200)))]) rfl ?_
                  exact rtI rt rfl rfl (by rw [← Option.some.inj hb]; exact eqP_rf)
                · rw [if_neg hnn] at hb; exact absurd hb (by intro q; cases q)
              · skip
                refine S_n g 2 (pc' := 37) (lv' := [(0, .float x), (1, .int e2), (2, .float y2)]) (st' := [.int (-nI 126), .int e2]) rfl ?_
                refine S_ic_le g (tgt := 50) rfl (by decide) (fun qz37 => ?_) (fun qz37 => ?_)
                · skip
                  have hbz : bD 200 y e = some (y2, e2) := by cases k2 with | zero => rw [← hbd] at hb; exact absurd hb (by intro q; cases q) | succ j => rw [← hbd, bD, if_neg qz31, if_pos qz37]
                  rw [hbz] at hb
                  simp only [] at hb
                  by_cases hnn : n3 (FP.fmul y2 1258291200) = true
                  · skip
                    rw [if_pos hnn] at hb
                    refine S_n g 6 (pc' := 58) (lv' := [(0, .float x), (1, .int e2), (2, .float y2)]) (st' := [.float y2, .int ((e2 + (nI 126)) <<< ((nI 23) &&& 31))]) rfl ?_
                    refine S_ldcf g kc_X9_217 rfl ?_
                    refine S_fmul g (n3_t hnn) rfl ?_
                    refine S_n g 2 (pc' := 63) (lv' := [(0, .float x), (1, .int e2), (2, .float y2)]) (st' := [.int (((e2 + (nI 126)) <<< ((nI 23) &&& 31)) + (FP.f2i (FP.fmul y2 1258291200)))]) rfl ?_
                    exact rtI rt rfl rfl (by rw [← Option.some.inj hb]; exact eqP_rf)
                  · rw [if_neg hnn] at hb; exact absurd hb (by intro q; cases q)
                · skip
                  cases k2 with
                  | zero => rw [← hbd] at hb; exact absurd hb (by intro q; cases q)
                  | succ k3 =>
                    rw [bD, if_neg qz31, if_neg qz37] at hbd
                    by_cases hnm : n3 (FP.fmul y2 FP.fconst2) = true
                    · skip
                      rw [if_pos hnm] at hbd
                      refine S_n g 2 (pc' := 42) (lv' := [(0, .float x), (1, .int e2), (2, .float y2)]) (st' := [.float FP.fconst2, .float y2]) rfl ?_
                      refine S_fmul g (n3_t hnm) rfl ?_
                      refine S_n g 3 (pc' := 28) (lv' := [(0, .float x), (1, .int (e2 + -nI 1)), (2, .float (FP.fmul y2 FP.fconst2))]) (st' := []) rfl ?_
                      exact lp2 k3 (by omega) k3 (FP.fmul y2 FP.fconst2) (e2 + -nI 1) rfl hbd
                    · rw [if_neg hnm] at hbd; rw [← hbd] at hb; exact absurd hb (by intro q; cases q)
          exact lp2 _ 200 y e rfl rfl
        · skip
          cases k with
          | zero => rw [← hbu] at hb; exact absurd hb (by intro q; cases q)
          | succ k3 =>
            rw [bU, if_neg qz15] at hbu
            by_cases hnm : n3 (FP.fdiv y FP.fconst2) = true
            · skip
              rw [if_pos hnm] at hbu
              refine S_n g 2 (pc' := 20) (lv' := [(0, .float x), (1, .int e), (2, .float y)]) (st' := [.float FP.fconst2, .float y]) rfl ?_
              refine S_fdiv g (n3_t hnm) rfl ?_
              refine S_n g 3 (pc' := 12) (lv' := [(0, .float x), (1, .int (e + nI 1)), (2, .float (FP.fdiv y FP.fconst2))]) (st' := []) rfl ?_
              exact lp k3 (by omega) k3 (FP.fdiv y FP.fconst2) (e + nI 1) rfl hbu
            · rw [if_neg hnm] at hbu; rw [← hbu] at hb; exact absurd hb (by intro q; cases q)
    exact lp _ 200 x (nI 0) rfl rfl
  · skip
    rw [if_pos qz3] at hb
    refine S_n g 1 (pc' := 7) (lv' := [(0, .float x)]) (st' := [.int (nI 0)]) rfl ?_
    exact rtI rt rfl rfl (by rw [← Option.some.inj hb]; exact eqP_rf)

theorem tst1 : ∀ n, n < 101 → n3 (FP.fdiv (FP.i2f (nI n)) 1094713344) = true ∧ (bts (FP.fdiv (FP.i2f (nI n)) 1094713344)).isSome = true := by decide +kernel
