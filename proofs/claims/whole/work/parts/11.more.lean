/-! rules over numbers that are counts (nI), compares of longs, booleans, returns -/
section More
variable {X : MX} {M : MI} {Y : PS} {pc : Nat} {lv : List (Nat × Value)} {st : List Value} {I : FI} {J : FJ} {A : FI} {B : FJ} {kc n : Nat}
theorem S_icN_eq (g : Good X M) {a b : Nat} {off : Int} {tgt : Nat} (ha : a < 2 ^ 31) (hb : b < 2 ^ 31) (hd : fnd M.2.2.2.2.2 pc = some (.if_icmp .eq off, 3)) (ht : (pc : Int) + off = (tgt : Int)) (kt : a = b → Sim X Y tgt lv st I J A B kc n) (kf : a ≠ b → Sim X Y (pc + 3) lv st I J A B kc n) : Sim X Y pc lv (.int (nI b) :: .int (nI a) :: st) I J A B kc n :=
  S_ic_eq g hd ht (fun h => kt ((nI_eq ha hb).mp h)) (fun h => kf (fun q => h ((nI_eq ha hb).mpr q)))
theorem S_icN_ne (g : Good X M) {a b : Nat} {off : Int} {tgt : Nat} (ha : a < 2 ^ 31) (hb : b < 2 ^ 31) (hd : fnd M.2.2.2.2.2 pc = some (.if_icmp .ne off, 3)) (ht : (pc : Int) + off = (tgt : Int)) (kt : a ≠ b → Sim X Y tgt lv st I J A B kc n) (kf : a = b → Sim X Y (pc + 3) lv st I J A B kc n) : Sim X Y pc lv (.int (nI b) :: .int (nI a) :: st) I J A B kc n :=
  S_ic_ne g hd ht (fun h => kt (fun q => h ((nI_eq ha hb).mpr q))) (fun h => kf ((nI_eq ha hb).mp h))
theorem S_icN_lt (g : Good X M) {a b : Nat} {off : Int} {tgt : Nat} (ha : a < 2 ^ 31) (hb : b < 2 ^ 31) (hd : fnd M.2.2.2.2.2 pc = some (.if_icmp .lt off, 3)) (ht : (pc : Int) + off = (tgt : Int)) (kt : a < b → Sim X Y tgt lv st I J A B kc n) (kf : b ≤ a → Sim X Y (pc + 3) lv st I J A B kc n) : Sim X Y pc lv (.int (nI b) :: .int (nI a) :: st) I J A B kc n :=
  S_ic_lt g hd ht (fun h => kt ((nI_ltI ha hb).mp h)) (fun h => kf (Nat.not_lt.mp (fun q => h ((nI_ltI ha hb).mpr q))))
theorem S_icN_ge (g : Good X M) {a b : Nat} {off : Int} {tgt : Nat} (ha : a < 2 ^ 31) (hb : b < 2 ^ 31) (hd : fnd M.2.2.2.2.2 pc = some (.if_icmp .ge off, 3)) (ht : (pc : Int) + off = (tgt : Int)) (kt : b ≤ a → Sim X Y tgt lv st I J A B kc n) (kf : a < b → Sim X Y (pc + 3) lv st I J A B kc n) : Sim X Y pc lv (.int (nI b) :: .int (nI a) :: st) I J A B kc n :=
  S_ic_ge g hd ht (fun h => kt ((nI_leI hb ha).mp h)) (fun h => kf (Nat.not_le.mp (fun q => h ((nI_leI hb ha).mpr q))))
theorem S_icN_gt (g : Good X M) {a b : Nat} {off : Int} {tgt : Nat} (ha : a < 2 ^ 31) (hb : b < 2 ^ 31) (hd : fnd M.2.2.2.2.2 pc = some (.if_icmp .gt off, 3)) (ht : (pc : Int) + off = (tgt : Int)) (kt : b < a → Sim X Y tgt lv st I J A B kc n) (kf : a ≤ b → Sim X Y (pc + 3) lv st I J A B kc n) : Sim X Y pc lv (.int (nI b) :: .int (nI a) :: st) I J A B kc n :=
  S_ic_gt g hd ht (fun h => kt ((nI_ltI hb ha).mp h)) (fun h => kf (Nat.not_lt.mp (fun q => h ((nI_ltI hb ha).mpr q))))
theorem S_icN_le (g : Good X M) {a b : Nat} {off : Int} {tgt : Nat} (ha : a < 2 ^ 31) (hb : b < 2 ^ 31) (hd : fnd M.2.2.2.2.2 pc = some (.if_icmp .le off, 3)) (ht : (pc : Int) + off = (tgt : Int)) (kt : a ≤ b → Sim X Y tgt lv st I J A B kc n) (kf : b < a → Sim X Y (pc + 3) lv st I J A B kc n) : Sim X Y pc lv (.int (nI b) :: .int (nI a) :: st) I J A B kc n :=
  S_ic_le g hd ht (fun h => kt ((nI_leI ha hb).mp h)) (fun h => kf (Nat.not_le.mp (fun q => h ((nI_leI ha hb).mpr q))))
theorem nI_z {a : Nat} (h : a < 2 ^ 31) : nI a = 0 ↔ a = 0 := by rw [← nI_0]; exact nI_eq h (by decide)
theorem S_ifN_eq (g : Good X M) {a : Nat} {off : Int} {tgt : Nat} (ha : a < 2 ^ 31) (hd : fnd M.2.2.2.2.2 pc = some (.ifCond .eq off, 3)) (ht : (pc : Int) + off = (tgt : Int)) (kt : a = 0 → Sim X Y tgt lv st I J A B kc n) (kf : 0 < a → Sim X Y (pc + 3) lv st I J A B kc n) : Sim X Y pc lv (.int (nI a) :: st) I J A B kc n :=
  S_if_eq g hd ht (fun h => kt ((nI_z ha).mp h)) (fun h => kf (Nat.pos_of_ne_zero (fun q => h ((nI_z ha).mpr q))))
theorem S_ifN_ne (g : Good X M) {a : Nat} {off : Int} {tgt : Nat} (ha : a < 2 ^ 31) (hd : fnd M.2.2.2.2.2 pc = some (.ifCond .ne off, 3)) (ht : (pc : Int) + off = (tgt : Int)) (kt : 0 < a → Sim X Y tgt lv st I J A B kc n) (kf : a = 0 → Sim X Y (pc + 3) lv st I J A B kc n) : Sim X Y pc lv (.int (nI a) :: st) I J A B kc n :=
  S_if_ne g hd ht (fun h => kt (Nat.pos_of_ne_zero (fun q => h ((nI_z ha).mpr q)))) (fun h => kf ((nI_z ha).mp h))
theorem S_ifN_gt (g : Good X M) {a : Nat} {off : Int} {tgt : Nat} (ha : a < 2 ^ 31) (hd : fnd M.2.2.2.2.2 pc = some (.ifCond .gt off, 3)) (ht : (pc : Int) + off = (tgt : Int)) (kt : 0 < a → Sim X Y tgt lv st I J A B kc n) (kf : a = 0 → Sim X Y (pc + 3) lv st I J A B kc n) : Sim X Y pc lv (.int (nI a) :: st) I J A B kc n :=
  S_if_gt g hd ht (fun h => kt (by rw [← nI_0] at h; exact (nI_ltI (by decide) ha).mp h)) (fun h => kf (Nat.eq_zero_of_not_pos (fun q => h (by rw [← nI_0]; exact (nI_ltI (by decide) ha).mpr q))))
theorem S_ifN_le (g : Good X M) {a : Nat} {off : Int} {tgt : Nat} (ha : a < 2 ^ 31) (hd : fnd M.2.2.2.2.2 pc = some (.ifCond .le off, 3)) (ht : (pc : Int) + off = (tgt : Int)) (kt : a = 0 → Sim X Y tgt lv st I J A B kc n) (kf : 0 < a → Sim X Y (pc + 3) lv st I J A B kc n) : Sim X Y pc lv (.int (nI a) :: st) I J A B kc n :=
  S_if_le g hd ht (fun h => kt (by rw [← nI_0] at h; exact Nat.le_zero.mp ((nI_leI ha (by decide)).mp h))) (fun h => kf (Nat.pos_of_ne_zero (fun q => h (by rw [q, nI_0]; decide))))
theorem S_ifN_lt (g : Good X M) {a : Nat} {off : Int} {tgt : Nat} (ha : a < 2 ^ 31) (hd : fnd M.2.2.2.2.2 pc = some (.ifCond .lt off, 3)) (ht : (pc : Int) + off = (tgt : Int)) (kf : Sim X Y (pc + 3) lv st I J A B kc n) : Sim X Y pc lv (.int (nI a) :: st) I J A B kc n :=
  S_if_lt g hd ht (fun h => absurd h (nI_pos ha)) (fun _ => kf)
theorem S_ifN_ge (g : Good X M) {a : Nat} {off : Int} {tgt : Nat} (ha : a < 2 ^ 31) (hd : fnd M.2.2.2.2.2 pc = some (.ifCond .ge off, 3)) (ht : (pc : Int) + off = (tgt : Int)) (kt : Sim X Y tgt lv st I J A B kc n) : Sim X Y pc lv (.int (nI a) :: st) I J A B kc n :=
  S_if_ge g hd ht (fun _ => kt) (fun h => absurd (nI_pos' ha) h)
/-- a truth value as the machine has it -/
def bI (b : Bool) : Int32 := match b with
  | true => nI 1
  | false => nI 0
theorem bI_0 {b : Bool} : bI b = 0 ↔ b = false := by cases b <;> decide
theorem bI_1 {b : Bool} (h : ¬ bI b = 0) : b = true := by
  cases b with
  | false => exact absurd (bI_0.mpr rfl) h
  | true => rfl
theorem S_ifB_eq (g : Good X M) {b : Bool} {off : Int} {tgt : Nat} (hd : fnd M.2.2.2.2.2 pc = some (.ifCond .eq off, 3)) (ht : (pc : Int) + off = (tgt : Int)) (kt : b = false → Sim X Y tgt lv st I J A B kc n) (kf : b = true → Sim X Y (pc + 3) lv st I J A B kc n) : Sim X Y pc lv (.int (bI b) :: st) I J A B kc n :=
  S_if_eq g hd ht (fun h => kt (bI_0.mp h)) (fun h => kf (bI_1 h))
theorem S_ifB_ne (g : Good X M) {b : Bool} {off : Int} {tgt : Nat} (hd : fnd M.2.2.2.2.2 pc = some (.ifCond .ne off, 3)) (ht : (pc : Int) + off = (tgt : Int)) (kt : b = true → Sim X Y tgt lv st I J A B kc n) (kf : b = false → Sim X Y (pc + 3) lv st I J A B kc n) : Sim X Y pc lv (.int (bI b) :: st) I J A B kc n :=
  S_if_ne g hd ht (fun h => kt (bI_1 h)) (fun h => kf (bI_0.mp h))
theorem lc_eq (x y : Int64) : lg_cmp x y = 0 ↔ x = y := by
  unfold lg_cmp
  by_cases h1 : x > y
  · rw [if_pos h1]
    constructor
    · intro h; cases h
    · intro h; subst h; rw [gt_iff_lt, Int64.lt_iff_toInt_lt] at h1; omega
  · rw [if_neg h1]
    by_cases h2 : x = y
    · rw [if_pos h2]; exact ⟨fun _ => h2, fun _ => rfl⟩
    · rw [if_neg h2]
      constructor
      · intro h; cases h
      · intro h; exact absurd h h2
theorem S_lc_eq (g : Good X M) {x y : Int64} {off : Int} {tgt : Nat} (h0 : fnd M.2.2.2.2.2 pc = some (.lcmp, 1)) (hd : fnd M.2.2.2.2.2 (pc + 1) = some (.ifCond .eq off, 3)) (ht : ((pc + 1 : Nat) : Int) + off = (tgt : Int)) (kt : x = y → Sim X Y tgt lv st I J A B kc n) (kf : x ≠ y → Sim X Y (pc + 1 + 3) lv st I J A B kc n) : Sim X Y pc lv (.long y :: .long x :: st) I J A B kc n :=
  S_n g 1 (by unfold stpN; rw [h0]; rfl) (S_if_eq g hd ht (fun h => kt ((lc_eq x y).mp h)) (fun h => kf (fun q => h ((lc_eq x y).mpr q))))
theorem S_lc_ne (g : Good X M) {x y : Int64} {off : Int} {tgt : Nat} (h0 : fnd M.2.2.2.2.2 pc = some (.lcmp, 1)) (hd : fnd M.2.2.2.2.2 (pc + 1) = some (.ifCond .ne off, 3)) (ht : ((pc + 1 : Nat) : Int) + off = (tgt : Int)) (kt : x ≠ y → Sim X Y tgt lv st I J A B kc n) (kf : x = y → Sim X Y (pc + 1 + 3) lv st I J A B kc n) : Sim X Y pc lv (.long y :: .long x :: st) I J A B kc n :=
  S_n g 1 (by unfold stpN; rw [h0]; rfl) (S_if_ne g hd ht (fun h => kt (fun q => h ((lc_eq x y).mpr q))) (fun h => kf ((lc_eq x y).mp h)))
theorem nle64 {x y : Int64} : ¬ x ≤ y ↔ y < x := by rw [Int64.le_iff_toInt_le, Int64.lt_iff_toInt_lt]; omega
theorem nle32 {x y : Int32} : ¬ x ≤ y ↔ y < x := by rw [Int32.le_iff_toInt_le, Int32.lt_iff_toInt_lt]; omega
theorem nlt32 {x y : Int32} : ¬ x < y ↔ y ≤ x := by rw [Int32.le_iff_toInt_le, Int32.lt_iff_toInt_lt]; omega
theorem S_lc_ge (g : Good X M) {x y : Int64} {off : Int} {tgt : Nat} (h0 : fnd M.2.2.2.2.2 pc = some (.lcmp, 1)) (hd : fnd M.2.2.2.2.2 (pc + 1) = some (.ifCond .ge off, 3)) (ht : ((pc + 1 : Nat) : Int) + off = (tgt : Int)) (kt : y ≤ x → Sim X Y tgt lv st I J A B kc n) (kf : x < y → Sim X Y (pc + 1 + 3) lv st I J A B kc n) : Sim X Y pc lv (.long y :: .long x :: st) I J A B kc n :=
  S_n g 1 (by unfold stpN; rw [h0]; rfl) (S_if_ge g hd ht (fun h => kt ((lg_cmp_ge x y).mp h)) (fun h => kf (nle64.mp (fun q => h ((lg_cmp_ge x y).mpr q)))))
theorem S_lc_le (g : Good X M) {x y : Int64} {off : Int} {tgt : Nat} (h0 : fnd M.2.2.2.2.2 pc = some (.lcmp, 1)) (hd : fnd M.2.2.2.2.2 (pc + 1) = some (.ifCond .le off, 3)) (ht : ((pc + 1 : Nat) : Int) + off = (tgt : Int)) (kt : x ≤ y → Sim X Y tgt lv st I J A B kc n) (kf : y < x → Sim X Y (pc + 1 + 3) lv st I J A B kc n) : Sim X Y pc lv (.long y :: .long x :: st) I J A B kc n :=
  S_n g 1 (by unfold stpN; rw [h0]; rfl) (S_if_le g hd ht (fun h => kt ((lg_cmp_le x y).mp h)) (fun h => kf (nle64.mp (fun q => h ((lg_cmp_le x y).mpr q)))))
theorem S_lc_lt (g : Good X M) {x y : Int64} {off : Int} {tgt : Nat} (h0 : fnd M.2.2.2.2.2 pc = some (.lcmp, 1)) (hd : fnd M.2.2.2.2.2 (pc + 1) = some (.ifCond .lt off, 3)) (ht : ((pc + 1 : Nat) : Int) + off = (tgt : Int)) (kt : x < y → Sim X Y tgt lv st I J A B kc n) (kf : y ≤ x → Sim X Y (pc + 1 + 3) lv st I J A B kc n) : Sim X Y pc lv (.long y :: .long x :: st) I J A B kc n :=
  S_n g 1 (by unfold stpN; rw [h0]; rfl) (S_if_lt g hd ht (fun h => kt (nle64.mp (fun q => nle32.mpr h ((lg_cmp_ge x y).mpr q)))) (fun h => kf ((lg_cmp_ge x y).mp (nlt32.mp h))))
theorem S_lc_gt (g : Good X M) {x y : Int64} {off : Int} {tgt : Nat} (h0 : fnd M.2.2.2.2.2 pc = some (.lcmp, 1)) (hd : fnd M.2.2.2.2.2 (pc + 1) = some (.ifCond .gt off, 3)) (ht : ((pc + 1 : Nat) : Int) + off = (tgt : Int)) (kt : y < x → Sim X Y tgt lv st I J A B kc n) (kf : x ≤ y → Sim X Y (pc + 1 + 3) lv st I J A B kc n) : Sim X Y pc lv (.long y :: .long x :: st) I J A B kc n :=
  S_n g 1 (by unfold stpN; rw [h0]; rfl) (S_if_gt g hd ht (fun h => kt (nle64.mp (fun q => nle32.mpr h ((lg_cmp_le x y).mpr q)))) (fun h => kf ((lg_cmp_le x y).mp (nlt32.mp h))))
theorem S_ialdN (g : Good X M) {i e : Nat} (hi : i < 600) (hKi : Y.2.1 i = 10) (he : e < Y.2.2.1 i) (hb : Y.2.2.1 i < 2 ^ 31) (hd : fnd M.2.2.2.2.2 pc = some (.iaload, 1)) (kk : Sim X Y (pc + 1) lv (.int (A i e) :: st) I J A B kc n) : Sim X Y pc lv (.int (nI e) :: .ref (Y.1 i) :: st) I J A B kc n :=
  S_iald g hi hKi (vp_in_nI he hb) hd (by rw [nI_clamp (Nat.lt_trans he hb)]; exact kk)
theorem S_laldN (g : Good X M) {i e : Nat} (hi : i < 600) (hKi : Y.2.1 i = 11) (he : e < Y.2.2.1 i) (hb : Y.2.2.1 i < 2 ^ 31) (hd : fnd M.2.2.2.2.2 pc = some (.laload, 1)) (kk : Sim X Y (pc + 1) lv (.long (B i e) :: st) I J A B kc n) : Sim X Y pc lv (.int (nI e) :: .ref (Y.1 i) :: st) I J A B kc n :=
  S_lald g hi hKi (vp_in_nI he hb) hd (by rw [nI_clamp (Nat.lt_trans he hb)]; exact kk)
theorem S_zaldN (g : Good X M) {i e : Nat} (hi : i < 600) (hKi : Y.2.1 i = 12) (he : e < Y.2.2.1 i) (hb : Y.2.2.1 i < 2 ^ 31) (hd : fnd M.2.2.2.2.2 pc = some (.baload, 1)) (kk : Sim X Y (pc + 1) lv (.int (A i e) :: st) I J A B kc n) : Sim X Y pc lv (.int (nI e) :: .ref (Y.1 i) :: st) I J A B kc n :=
  S_zald g hi hKi (vp_in_nI he hb) hd (by rw [nI_clamp (Nat.lt_trans he hb)]; exact kk)
theorem S_aaldN (g : Good X M) {i e j : Nat} (hi : i < 600) (hKi : Y.2.1 i = 13) (he : e < Y.2.2.1 i) (hb : Y.2.2.1 i < 2 ^ 31) (hr : Y.2.2.2.2 i e = some j) (hd : fnd M.2.2.2.2.2 pc = some (.aaload, 1)) (kk : Sim X Y (pc + 1) lv (.ref (Y.1 j) :: st) I J A B kc n) : Sim X Y pc lv (.int (nI e) :: .ref (Y.1 i) :: st) I J A B kc n :=
  S_aaldR g hi hKi (vp_in_nI he hb) (by rw [nI_clamp (Nat.lt_trans he hb)]; exact hr) hd kk
theorem S_iastN (g : Good X M) {i e : Nat} {v : Int32} (hi : i < 600) (hKi : Y.2.1 i = 10) (he : e < Y.2.2.1 i) (hb : Y.2.2.1 i < 2 ^ 31) (hd : fnd M.2.2.2.2.2 pc = some (.iastore, 1)) (kk : Sim X Y (pc + 1) lv st I J (up2 A i e v) B kc n) : Sim X Y pc lv (.int v :: .int (nI e) :: .ref (Y.1 i) :: st) I J A B kc n :=
  S_iast g hi hKi (vp_in_nI he hb) hd (by rw [nI_clamp (Nat.lt_trans he hb)]; exact kk)
theorem S_lastN (g : Good X M) {i e : Nat} {v : Int64} (hi : i < 600) (hKi : Y.2.1 i = 11) (he : e < Y.2.2.1 i) (hb : Y.2.2.1 i < 2 ^ 31) (hd : fnd M.2.2.2.2.2 pc = some (.lastore, 1)) (kk : Sim X Y (pc + 1) lv st I J A (up2 B i e v) kc n) : Sim X Y pc lv (.long v :: .int (nI e) :: .ref (Y.1 i) :: st) I J A B kc n :=
  S_last g hi hKi (vp_in_nI he hb) hd (by rw [nI_clamp (Nat.lt_trans he hb)]; exact kk)
theorem S_zastN (g : Good X M) {i e : Nat} {v : Int32} (hi : i < 600) (hKi : Y.2.1 i = 12) (he : e < Y.2.2.1 i) (hb : Y.2.2.1 i < 2 ^ 31) (hv : vp_nar .boolean v = v) (hd : fnd M.2.2.2.2.2 pc = some (.bastore, 1)) (kk : Sim X Y (pc + 1) lv st I J (up2 A i e v) B kc n) : Sim X Y pc lv (.int v :: .int (nI e) :: .ref (Y.1 i) :: st) I J A B kc n :=
  S_zast g hi hKi (vp_in_nI he hb) hv hd (by rw [nI_clamp (Nat.lt_trans he hb)]; exact kk)
theorem rtI {post : PO} (rt : RT X M post) {x : Int32} (hd : fnd M.2.2.2.2.2 pc = some (.ireturn, 1)) (hr : M.2.2.2.1 = some .int) (hp : post (some (.int x)) Y I J A B) : Sim X Y pc lv [.int x] I J A B 0 0 := rt pc lv (some (.int x)) Y I J A B 0 0 ⟨hd, _, hr, rfl⟩ (Nat.zero_le _) (Nat.zero_le _) hp
theorem bI_nar (b : Bool) : narrow .boolean (.int (bI b)) = .int (bI b) := by cases b <;> rfl
theorem rtZ {post : PO} (rt : RT X M post) {b : Bool} (hd : fnd M.2.2.2.2.2 pc = some (.ireturn, 1)) (hr : M.2.2.2.1 = some .boolean) (hp : post (some (.int (bI b))) Y I J A B) : Sim X Y pc lv [.int (bI b)] I J A B 0 0 := rt pc lv (some (.int (bI b))) Y I J A B 0 0 ⟨hd, _, hr, bI_nar b⟩ (Nat.zero_le _) (Nat.zero_le _) hp
theorem rtL {post : PO} (rt : RT X M post) {x : Int64} (hd : fnd M.2.2.2.2.2 pc = some (.lreturn, 1)) (hr : M.2.2.2.1 = some .long) (hp : post (some (.long x)) Y I J A B) : Sim X Y pc lv [.long x] I J A B 0 0 := rt pc lv (some (.long x)) Y I J A B 0 0 ⟨hd, hr⟩ (Nat.zero_le _) (Nat.zero_le _) hp
theorem rtF {post : PO} (rt : RT X M post) {x : UInt32} (hd : fnd M.2.2.2.2.2 pc = some (.freturn, 1)) (hr : M.2.2.2.1 = some .float) (hp : post (some (.float x)) Y I J A B) : Sim X Y pc lv [.float x] I J A B 0 0 := rt pc lv (some (.float x)) Y I J A B 0 0 ⟨hd, hr⟩ (Nat.zero_le _) (Nat.zero_le _) hp
theorem rtV {post : PO} (rt : RT X M post) (hd : fnd M.2.2.2.2.2 pc = some (.return_, 1)) (hr : M.2.2.2.1 = none) (hp : post none Y I J A B) : Sim X Y pc lv [] I J A B 0 0 := rt pc lv none Y I J A B 0 0 ⟨hd, hr⟩ (Nat.zero_le _) (Nat.zero_le _) hp
end More
