/-! bits of longs and ints; more rules over counts -/
def tb (s : Int64) (i : Nat) : Bool := s.toBitVec.getLsbD i
def ti (s : Int32) (i : Nat) : Bool := s.toBitVec.getLsbD i
theorem tb_ext {x y : Int64} (h : ∀ i, i < 64 → tb x i = tb y i) : x = y := Int64.toBitVec_inj.mp (BitVec.eq_of_getLsbD_eq h)
theorem ti_ext {x y : Int32} (h : ∀ i, i < 32 → ti x i = ti y i) : x = y := Int32.toBitVec_inj.mp (BitVec.eq_of_getLsbD_eq h)
theorem tb_and (x y : Int64) (i : Nat) : tb (x &&& y) i = (tb x i && tb y i) := by unfold tb; rw [Int64.toBitVec_and, BitVec.getLsbD_and]
theorem tb_or (x y : Int64) (i : Nat) : tb (x ||| y) i = (tb x i || tb y i) := by unfold tb; rw [Int64.toBitVec_or, BitVec.getLsbD_or]
theorem tb_xor (x y : Int64) (i : Nat) : tb (x ^^^ y) i = (tb x i ^^ tb y i) := by unfold tb; rw [Int64.toBitVec_xor, BitVec.getLsbD_xor]
theorem ti_and (x y : Int32) (i : Nat) : ti (x &&& y) i = (ti x i && ti y i) := by unfold ti; rw [Int32.toBitVec_and, BitVec.getLsbD_and]
theorem ti_or (x y : Int32) (i : Nat) : ti (x ||| y) i = (ti x i || ti y i) := by unfold ti; rw [Int32.toBitVec_or, BitVec.getLsbD_or]
theorem ti_xor (x y : Int32) (i : Nat) : ti (x ^^^ y) i = (ti x i ^^ ti y i) := by unfold ti; rw [Int32.toBitVec_xor, BitVec.getLsbD_xor]
theorem tb_lN (n i : Nat) : tb (lN n) i = (decide (i < 64) && n.testBit i) := by
  show (BitVec.ofNat 64 n).getLsbD i = _
  rw [BitVec.getLsbD_ofNat]
theorem ti_nI (n i : Nat) : ti (nI n) i = (decide (i < 32) && n.testBit i) := by
  show (BitVec.ofNat 32 n).getLsbD i = _
  rw [BitVec.getLsbD_ofNat]
theorem tb_m1 {i : Nat} (h : i < 64) : tb (-lN 1) i = true := by
  have e : (-lN 1).toBitVec = BitVec.allOnes 64 := by decide
  unfold tb
  rw [e, BitVec.getLsbD_allOnes]
  exact decide_eq_true h
theorem ti_m1 {i : Nat} (h : i < 32) : ti (-nI 1) i = true := by
  have e : (-nI 1).toBitVec = BitVec.allOnes 32 := by decide
  unfold ti
  rw [e, BitVec.getLsbD_allOnes]
  exact decide_eq_true h
theorem tb_0 (i : Nat) : tb (lN 0) i = false := by rw [tb_lN]; simp
theorem ti_0 (i : Nat) : ti (nI 0) i = false := by rw [ti_nI]; simp
theorem tb_big {x : Int64} {i : Nat} (h : 64 ≤ i) : tb x i = false := BitVec.getLsbD_of_ge _ _ h
theorem ti_big {x : Int32} {i : Nat} (h : 32 ≤ i) : ti x i = false := BitVec.getLsbD_of_ge _ _ h
theorem sm64 : ∀ k, k < 64 → (((nI k).toInt64 &&& 63).toBitVec.smod 64).toNat = k := by decide +kernel
theorem sm32 : ∀ k, k < 32 → ((nI k &&& 31).toBitVec.smod 32).toNat = k := by decide +kernel
theorem tb_shl (n : Nat) (hn : n < 64) (x : Int64) {i : Nat} (hi : i < 64) : tb (x <<< ((nI n).toInt64 &&& 63)) i = (decide (n ≤ i) && tb x (i - n)) := by
  unfold tb
  rw [Int64.toBitVec_shiftLeft]
  show (x.toBitVec <<< (((nI n).toInt64 &&& 63).toBitVec.smod 64).toNat).getLsbD i = _
  rw [sm64 n hn, BitVec.getLsbD_shiftLeft]
  by_cases h : i < n <;> simp [hi, h] <;> omega
theorem tb_shr (n : Nat) (hn : n < 64) (x : Int64) {i : Nat} (hi : i < 64) : tb (x >>> ((nI n).toInt64 &&& 63)) i = if n + i < 64 then tb x (n + i) else tb x 63 := by
  unfold tb
  rw [Int64.toBitVec_shiftRight]
  show (x.toBitVec.sshiftRight (((nI n).toInt64 &&& 63).toBitVec.smod 64).toNat).getLsbD i = _
  rw [sm64 n hn, BitVec.getLsbD_sshiftRight, BitVec.msb_eq_getLsbD_last]
  simp [hi]
theorem ti_shl (n : Nat) (hn : n < 32) (x : Int32) {i : Nat} (hi : i < 32) : ti (x <<< (nI n &&& 31)) i = (decide (n ≤ i) && ti x (i - n)) := by
  unfold ti
  rw [Int32.toBitVec_shiftLeft]
  show (x.toBitVec <<< ((nI n &&& 31).toBitVec.smod 32).toNat).getLsbD i = _
  rw [sm32 n hn, BitVec.getLsbD_shiftLeft]
  by_cases h : i < n <;> simp [hi, h] <;> omega
theorem ti_shr (n : Nat) (hn : n < 32) (x : Int32) {i : Nat} (hi : i < 32) : ti (x >>> (nI n &&& 31)) i = if n + i < 32 then ti x (n + i) else ti x 31 := by
  unfold ti
  rw [Int32.toBitVec_shiftRight]
  show (x.toBitVec.sshiftRight ((nI n &&& 31).toBitVec.smod 32).toNat).getLsbD i = _
  rw [sm32 n hn, BitVec.getLsbD_sshiftRight, BitVec.msb_eq_getLsbD_last]
  simp [hi]
theorem tbit1 (k : Nat) : Nat.testBit 1 (k + 1) = false := by rw [Nat.testBit_succ]; exact Nat.zero_testBit k
/-- a set of one piece, of one user -/
abbrev b1 (n : Nat) : Int64 := lN 1 <<< ((nI n).toInt64 &&& 63)
abbrev i1 (n : Nat) : Int32 := nI 1 <<< (nI n &&& 31)
theorem tb_b1 {n i : Nat} (hn : n < 64) (hi : i < 64) : tb (b1 n) i = decide (i = n) := by
  rw [tb_shl n hn _ hi, tb_lN]
  by_cases h : i = n
  · subst h; simp
  · have : Nat.testBit 1 (i - n) = decide (i - n = 0) := by
      cases hh : i - n with
      | zero => rfl
      | succ k => simp [tbit1]
    rw [this]
    by_cases h2 : n ≤ i
    · simp [h]; omega
    · simp [h2, h]
theorem ti_i1 {n i : Nat} (hn : n < 32) (hi : i < 32) : ti (i1 n) i = decide (i = n) := by
  rw [ti_shl n hn _ hi, ti_nI]
  by_cases h : i = n
  · subst h; simp
  · have : Nat.testBit 1 (i - n) = decide (i - n = 0) := by
      cases hh : i - n with
      | zero => rfl
      | succ k => simp [tbit1]
    rw [this]
    by_cases h2 : n ≤ i
    · simp [h]; omega
    · simp [h2, h]
theorem tb_1 {i : Nat} : tb (lN 1) i = decide (i = 0) := by
  rw [tb_lN]
  cases i with
  | zero => rfl
  | succ k => simp [tbit1]
theorem ti_1 {i : Nat} : ti (nI 1) i = decide (i = 0) := by
  rw [ti_nI]
  cases i with
  | zero => rfl
  | succ k => simp [tbit1]
/-- one bit, shifted down and masked -/
theorem bit64 {k : Nat} (hk : k < 64) (x : Int64) : x >>> ((nI k).toInt64 &&& 63) &&& lN 1 = lN (tb x k).toNat := by
  apply tb_ext
  intro i hi
  rw [tb_and, tb_1, tb_shr k hk _ hi]
  cases i with
  | zero =>
    rw [if_pos (by omega)]
    cases h : tb x k <;> simp [h, tb_0, tb_1]
  | succ j => cases h : tb x k <;> simp [tb_0, tb_1]
theorem bit32 {k : Nat} (hk : k < 32) (x : Int32) : x >>> (nI k &&& 31) &&& nI 1 = nI (ti x k).toNat := by
  apply ti_ext
  intro i hi
  rw [ti_and, ti_1, ti_shr k hk _ hi]
  cases i with
  | zero =>
    rw [if_pos (by omega)]
    cases h : ti x k <;> simp [h, ti_0, ti_1]
  | succ j => cases h : ti x k <;> simp [ti_0, ti_1]
theorem iinc_neg {a b : Nat} (h : b ≤ a) : nI a + -nI b = nI (a - b) := by
  rw [← pk_sub h, Int32.sub_eq_add_neg]
theorem nI_z1 {d : Nat} (h0 : 0 < d) (h : d < 2 ^ 31) : ¬ nI d = 0 := nI_ne0 h0 h
theorem lN_z1 {d : Nat} (h0 : 0 < d) (h : d < 2 ^ 63) : ¬ lN d = 0 := fun q => by
  have : d = 0 := (pk_lEQ h (by decide)).mp (q.trans (show (0 : Int64) = lN 0 from rfl))
  omega
theorem bI_fit (b : Bool) : fits .boolean (.int (bI b)) = true := by cases b <;> rfl
theorem bI_vnar (b : Bool) : vp_nar .boolean (bI b) = bI b := by cases b <;> rfl
section More2
variable {X : MX} {M : MI} {Y : PS} {pc : Nat} {lv : List (Nat × Value)} {st : List Value} {I : FI} {J : FJ} {A : FI} {B : FJ} {kc n : Nat}
theorem S_lcN_eq (g : Good X M) {a b : Nat} {off : Int} {tgt : Nat} (ha : a < 2 ^ 63) (hb : b < 2 ^ 63) (h0 : fnd M.2.2.2.2.2 pc = some (.lcmp, 1)) (hd : fnd M.2.2.2.2.2 (pc + 1) = some (.ifCond .eq off, 3)) (ht : ((pc + 1 : Nat) : Int) + off = (tgt : Int)) (kt : a = b → Sim X Y tgt lv st I J A B kc n) (kf : a ≠ b → Sim X Y (pc + 1 + 3) lv st I J A B kc n) : Sim X Y pc lv (.long (lN b) :: .long (lN a) :: st) I J A B kc n :=
  S_lc_eq g h0 hd ht (fun h => kt ((pk_lEQ ha hb).mp h)) (fun h => kf (fun q => h ((pk_lEQ ha hb).mpr q)))
theorem S_lcN_ne (g : Good X M) {a b : Nat} {off : Int} {tgt : Nat} (ha : a < 2 ^ 63) (hb : b < 2 ^ 63) (h0 : fnd M.2.2.2.2.2 pc = some (.lcmp, 1)) (hd : fnd M.2.2.2.2.2 (pc + 1) = some (.ifCond .ne off, 3)) (ht : ((pc + 1 : Nat) : Int) + off = (tgt : Int)) (kt : a ≠ b → Sim X Y tgt lv st I J A B kc n) (kf : a = b → Sim X Y (pc + 1 + 3) lv st I J A B kc n) : Sim X Y pc lv (.long (lN b) :: .long (lN a) :: st) I J A B kc n :=
  S_lc_ne g h0 hd ht (fun h => kt (fun q => h ((pk_lEQ ha hb).mpr q))) (fun h => kf ((pk_lEQ ha hb).mp h))
theorem S_lcN_lt (g : Good X M) {a b : Nat} {off : Int} {tgt : Nat} (ha : a < 2 ^ 63) (hb : b < 2 ^ 63) (h0 : fnd M.2.2.2.2.2 pc = some (.lcmp, 1)) (hd : fnd M.2.2.2.2.2 (pc + 1) = some (.ifCond .lt off, 3)) (ht : ((pc + 1 : Nat) : Int) + off = (tgt : Int)) (kt : a < b → Sim X Y tgt lv st I J A B kc n) (kf : b ≤ a → Sim X Y (pc + 1 + 3) lv st I J A B kc n) : Sim X Y pc lv (.long (lN b) :: .long (lN a) :: st) I J A B kc n :=
  S_lc_lt g h0 hd ht (fun h => kt ((pk_lLT ha hb).mp h)) (fun h => kf ((pk_lLE hb ha).mp h))
theorem S_lcN_ge (g : Good X M) {a b : Nat} {off : Int} {tgt : Nat} (ha : a < 2 ^ 63) (hb : b < 2 ^ 63) (h0 : fnd M.2.2.2.2.2 pc = some (.lcmp, 1)) (hd : fnd M.2.2.2.2.2 (pc + 1) = some (.ifCond .ge off, 3)) (ht : ((pc + 1 : Nat) : Int) + off = (tgt : Int)) (kt : b ≤ a → Sim X Y tgt lv st I J A B kc n) (kf : a < b → Sim X Y (pc + 1 + 3) lv st I J A B kc n) : Sim X Y pc lv (.long (lN b) :: .long (lN a) :: st) I J A B kc n :=
  S_lc_ge g h0 hd ht (fun h => kt ((pk_lLE hb ha).mp h)) (fun h => kf ((pk_lLT ha hb).mp h))
theorem S_lcN_gt (g : Good X M) {a b : Nat} {off : Int} {tgt : Nat} (ha : a < 2 ^ 63) (hb : b < 2 ^ 63) (h0 : fnd M.2.2.2.2.2 pc = some (.lcmp, 1)) (hd : fnd M.2.2.2.2.2 (pc + 1) = some (.ifCond .gt off, 3)) (ht : ((pc + 1 : Nat) : Int) + off = (tgt : Int)) (kt : b < a → Sim X Y tgt lv st I J A B kc n) (kf : a ≤ b → Sim X Y (pc + 1 + 3) lv st I J A B kc n) : Sim X Y pc lv (.long (lN b) :: .long (lN a) :: st) I J A B kc n :=
  S_lc_gt g h0 hd ht (fun h => kt ((pk_lLT hb ha).mp h)) (fun h => kf ((pk_lLE ha hb).mp h))
theorem S_lcN_le (g : Good X M) {a b : Nat} {off : Int} {tgt : Nat} (ha : a < 2 ^ 63) (hb : b < 2 ^ 63) (h0 : fnd M.2.2.2.2.2 pc = some (.lcmp, 1)) (hd : fnd M.2.2.2.2.2 (pc + 1) = some (.ifCond .le off, 3)) (ht : ((pc + 1 : Nat) : Int) + off = (tgt : Int)) (kt : a ≤ b → Sim X Y tgt lv st I J A B kc n) (kf : b < a → Sim X Y (pc + 1 + 3) lv st I J A B kc n) : Sim X Y pc lv (.long (lN b) :: .long (lN a) :: st) I J A B kc n :=
  S_lc_le g h0 hd ht (fun h => kt ((pk_lLE ha hb).mp h)) (fun h => kf ((pk_lLT hb ha).mp h))
end More2
