/-! one rule an instruction: branches, divisions, constants, fields, arrays, switches -/
section Rules2
variable {X : MX} {M : MI} {Y : PS} {pc : Nat} {lv : List (Nat × Value)} {st : List Value} {I : FI} {J : FJ} {A : FI} {B : FJ} {kc n : Nat}
theorem S_ic_eq (g : Good X M) {x y : Int32} {off : Int} {tgt : Nat} (hd : fnd M.2.2.2.2.2 pc = some (.if_icmp .eq off, 3)) (ht : (pc : Int) + off = (tgt : Int)) (kt : x = y → Sim X Y tgt lv st I J A B kc n) (kf : ¬ x = y → Sim X Y (pc + 3) lv st I J A B kc n) : Sim X Y pc lv (.int y :: .int x :: st) I J A B kc n := by
  obtain ⟨p, l, e, R, s, m, args, below, meth, cod, Q, D, cy, A0, nL⟩ := X
  obtain ⟨hx, hb, hown, hts, hns, hK, hml, hnl, hA, hok, hR⟩ := g
  intro H locs ls hP hD hS hl
  exact lv_icmp_eq hx hb (fnd_dec hok hd) ht (fun h => kt h H locs ls hP hD hS hl) (fun h => kf h H locs ls hP hD hS hl)
theorem S_if_eq (g : Good X M) {x : Int32} {off : Int} {tgt : Nat} (hd : fnd M.2.2.2.2.2 pc = some (.ifCond .eq off, 3)) (ht : (pc : Int) + off = (tgt : Int)) (kt : x = 0 → Sim X Y tgt lv st I J A B kc n) (kf : ¬ x = 0 → Sim X Y (pc + 3) lv st I J A B kc n) : Sim X Y pc lv (.int x :: st) I J A B kc n := by
  obtain ⟨p, l, e, R, s, m, args, below, meth, cod, Q, D, cy, A0, nL⟩ := X
  obtain ⟨hx, hb, hown, hts, hns, hK, hml, hnl, hA, hok, hR⟩ := g
  intro H locs ls hP hD hS hl
  exact lv_if_eq hx hb (fnd_dec hok hd) ht (fun h => kt h H locs ls hP hD hS hl) (fun h => kf h H locs ls hP hD hS hl)
theorem S_ic_ne (g : Good X M) {x y : Int32} {off : Int} {tgt : Nat} (hd : fnd M.2.2.2.2.2 pc = some (.if_icmp .ne off, 3)) (ht : (pc : Int) + off = (tgt : Int)) (kt : x ≠ y → Sim X Y tgt lv st I J A B kc n) (kf : x = y → Sim X Y (pc + 3) lv st I J A B kc n) : Sim X Y pc lv (.int y :: .int x :: st) I J A B kc n := by
  obtain ⟨p, l, e, R, s, m, args, below, meth, cod, Q, D, cy, A0, nL⟩ := X
  obtain ⟨hx, hb, hown, hts, hns, hK, hml, hnl, hA, hok, hR⟩ := g
  intro H locs ls hP hD hS hl
  exact lv_icmp_ne hx hb (fnd_dec hok hd) ht (fun h => kt h H locs ls hP hD hS hl) (fun h => kf h H locs ls hP hD hS hl)
theorem S_if_ne (g : Good X M) {x : Int32} {off : Int} {tgt : Nat} (hd : fnd M.2.2.2.2.2 pc = some (.ifCond .ne off, 3)) (ht : (pc : Int) + off = (tgt : Int)) (kt : x ≠ 0 → Sim X Y tgt lv st I J A B kc n) (kf : x = 0 → Sim X Y (pc + 3) lv st I J A B kc n) : Sim X Y pc lv (.int x :: st) I J A B kc n := by
  obtain ⟨p, l, e, R, s, m, args, below, meth, cod, Q, D, cy, A0, nL⟩ := X
  obtain ⟨hx, hb, hown, hts, hns, hK, hml, hnl, hA, hok, hR⟩ := g
  intro H locs ls hP hD hS hl
  exact lv_if_ne hx hb (fnd_dec hok hd) ht (fun h => kt h H locs ls hP hD hS hl) (fun h => kf h H locs ls hP hD hS hl)
theorem S_ic_lt (g : Good X M) {x y : Int32} {off : Int} {tgt : Nat} (hd : fnd M.2.2.2.2.2 pc = some (.if_icmp .lt off, 3)) (ht : (pc : Int) + off = (tgt : Int)) (kt : x < y → Sim X Y tgt lv st I J A B kc n) (kf : ¬ x < y → Sim X Y (pc + 3) lv st I J A B kc n) : Sim X Y pc lv (.int y :: .int x :: st) I J A B kc n := by
  obtain ⟨p, l, e, R, s, m, args, below, meth, cod, Q, D, cy, A0, nL⟩ := X
  obtain ⟨hx, hb, hown, hts, hns, hK, hml, hnl, hA, hok, hR⟩ := g
  intro H locs ls hP hD hS hl
  exact lv_icmp_lt hx hb (fnd_dec hok hd) ht (fun h => kt h H locs ls hP hD hS hl) (fun h => kf h H locs ls hP hD hS hl)
theorem S_if_lt (g : Good X M) {x : Int32} {off : Int} {tgt : Nat} (hd : fnd M.2.2.2.2.2 pc = some (.ifCond .lt off, 3)) (ht : (pc : Int) + off = (tgt : Int)) (kt : x < 0 → Sim X Y tgt lv st I J A B kc n) (kf : ¬ x < 0 → Sim X Y (pc + 3) lv st I J A B kc n) : Sim X Y pc lv (.int x :: st) I J A B kc n := by
  obtain ⟨p, l, e, R, s, m, args, below, meth, cod, Q, D, cy, A0, nL⟩ := X
  obtain ⟨hx, hb, hown, hts, hns, hK, hml, hnl, hA, hok, hR⟩ := g
  intro H locs ls hP hD hS hl
  exact lv_if_lt hx hb (fnd_dec hok hd) ht (fun h => kt h H locs ls hP hD hS hl) (fun h => kf h H locs ls hP hD hS hl)
theorem S_ic_ge (g : Good X M) {x y : Int32} {off : Int} {tgt : Nat} (hd : fnd M.2.2.2.2.2 pc = some (.if_icmp .ge off, 3)) (ht : (pc : Int) + off = (tgt : Int)) (kt : y ≤ x → Sim X Y tgt lv st I J A B kc n) (kf : ¬ y ≤ x → Sim X Y (pc + 3) lv st I J A B kc n) : Sim X Y pc lv (.int y :: .int x :: st) I J A B kc n := by
  obtain ⟨p, l, e, R, s, m, args, below, meth, cod, Q, D, cy, A0, nL⟩ := X
  obtain ⟨hx, hb, hown, hts, hns, hK, hml, hnl, hA, hok, hR⟩ := g
  intro H locs ls hP hD hS hl
  exact lv_icmp_ge hx hb (fnd_dec hok hd) ht (fun h => kt h H locs ls hP hD hS hl) (fun h => kf h H locs ls hP hD hS hl)
theorem S_if_ge (g : Good X M) {x : Int32} {off : Int} {tgt : Nat} (hd : fnd M.2.2.2.2.2 pc = some (.ifCond .ge off, 3)) (ht : (pc : Int) + off = (tgt : Int)) (kt : 0 ≤ x → Sim X Y tgt lv st I J A B kc n) (kf : ¬ 0 ≤ x → Sim X Y (pc + 3) lv st I J A B kc n) : Sim X Y pc lv (.int x :: st) I J A B kc n := by
  obtain ⟨p, l, e, R, s, m, args, below, meth, cod, Q, D, cy, A0, nL⟩ := X
  obtain ⟨hx, hb, hown, hts, hns, hK, hml, hnl, hA, hok, hR⟩ := g
  intro H locs ls hP hD hS hl
  exact lv_if_ge hx hb (fnd_dec hok hd) ht (fun h => kt h H locs ls hP hD hS hl) (fun h => kf h H locs ls hP hD hS hl)
theorem S_ic_gt (g : Good X M) {x y : Int32} {off : Int} {tgt : Nat} (hd : fnd M.2.2.2.2.2 pc = some (.if_icmp .gt off, 3)) (ht : (pc : Int) + off = (tgt : Int)) (kt : y < x → Sim X Y tgt lv st I J A B kc n) (kf : ¬ y < x → Sim X Y (pc + 3) lv st I J A B kc n) : Sim X Y pc lv (.int y :: .int x :: st) I J A B kc n := by
  obtain ⟨p, l, e, R, s, m, args, below, meth, cod, Q, D, cy, A0, nL⟩ := X
  obtain ⟨hx, hb, hown, hts, hns, hK, hml, hnl, hA, hok, hR⟩ := g
  intro H locs ls hP hD hS hl
  exact lv_icmp_gt hx hb (fnd_dec hok hd) ht (fun h => kt h H locs ls hP hD hS hl) (fun h => kf h H locs ls hP hD hS hl)
theorem S_if_gt (g : Good X M) {x : Int32} {off : Int} {tgt : Nat} (hd : fnd M.2.2.2.2.2 pc = some (.ifCond .gt off, 3)) (ht : (pc : Int) + off = (tgt : Int)) (kt : 0 < x → Sim X Y tgt lv st I J A B kc n) (kf : ¬ 0 < x → Sim X Y (pc + 3) lv st I J A B kc n) : Sim X Y pc lv (.int x :: st) I J A B kc n := by
  obtain ⟨p, l, e, R, s, m, args, below, meth, cod, Q, D, cy, A0, nL⟩ := X
  obtain ⟨hx, hb, hown, hts, hns, hK, hml, hnl, hA, hok, hR⟩ := g
  intro H locs ls hP hD hS hl
  exact lv_if_gt hx hb (fnd_dec hok hd) ht (fun h => kt h H locs ls hP hD hS hl) (fun h => kf h H locs ls hP hD hS hl)
theorem S_ic_le (g : Good X M) {x y : Int32} {off : Int} {tgt : Nat} (hd : fnd M.2.2.2.2.2 pc = some (.if_icmp .le off, 3)) (ht : (pc : Int) + off = (tgt : Int)) (kt : x ≤ y → Sim X Y tgt lv st I J A B kc n) (kf : ¬ x ≤ y → Sim X Y (pc + 3) lv st I J A B kc n) : Sim X Y pc lv (.int y :: .int x :: st) I J A B kc n := by
  obtain ⟨p, l, e, R, s, m, args, below, meth, cod, Q, D, cy, A0, nL⟩ := X
  obtain ⟨hx, hb, hown, hts, hns, hK, hml, hnl, hA, hok, hR⟩ := g
  intro H locs ls hP hD hS hl
  exact lv_icmp_le hx hb (fnd_dec hok hd) ht (fun h => kt h H locs ls hP hD hS hl) (fun h => kf h H locs ls hP hD hS hl)
theorem S_if_le (g : Good X M) {x : Int32} {off : Int} {tgt : Nat} (hd : fnd M.2.2.2.2.2 pc = some (.ifCond .le off, 3)) (ht : (pc : Int) + off = (tgt : Int)) (kt : x ≤ 0 → Sim X Y tgt lv st I J A B kc n) (kf : ¬ x ≤ 0 → Sim X Y (pc + 3) lv st I J A B kc n) : Sim X Y pc lv (.int x :: st) I J A B kc n := by
  obtain ⟨p, l, e, R, s, m, args, below, meth, cod, Q, D, cy, A0, nL⟩ := X
  obtain ⟨hx, hb, hown, hts, hns, hK, hml, hnl, hA, hok, hR⟩ := g
  intro H locs ls hP hD hS hl
  exact lv_if_le hx hb (fnd_dec hok hd) ht (fun h => kt h H locs ls hP hD hS hl) (fun h => kf h H locs ls hP hD hS hl)
theorem S_idiv (g : Good X M) {x y : Int32} (hne : ¬ y = 0) (hd : fnd M.2.2.2.2.2 pc = some (.idiv, 1)) (kk : Sim X Y (pc + 1) lv (.int (x / y) :: st) I J A B kc n) : Sim X Y pc lv (.int y :: .int x :: st) I J A B kc n := by
  obtain ⟨p, l, e, R, s, m, args, below, meth, cod, Q, D, cy, A0, nL⟩ := X
  obtain ⟨hx, hb, hown, hts, hns, hK, hml, hnl, hA, hok, hR⟩ := g
  intro H locs ls hP hD hS hl
  exact lv_idiv hx hb (fnd_dec hok hd) hne (kk H locs ls hP hD hS hl)
theorem S_irem (g : Good X M) {x y : Int32} (hne : ¬ y = 0) (hd : fnd M.2.2.2.2.2 pc = some (.irem, 1)) (kk : Sim X Y (pc + 1) lv (.int (x - x / y * y) :: st) I J A B kc n) : Sim X Y pc lv (.int y :: .int x :: st) I J A B kc n := by
  obtain ⟨p, l, e, R, s, m, args, below, meth, cod, Q, D, cy, A0, nL⟩ := X
  obtain ⟨hx, hb, hown, hts, hns, hK, hml, hnl, hA, hok, hR⟩ := g
  intro H locs ls hP hD hS hl
  exact lv_irem hx hb (fnd_dec hok hd) hne (kk H locs ls hP hD hS hl)
theorem S_ldiv (g : Good X M) {x y : Int64} (hne : ¬ y = 0) (hd : fnd M.2.2.2.2.2 pc = some (.ldiv, 1)) (kk : Sim X Y (pc + 1) lv (.long (x / y) :: st) I J A B kc n) : Sim X Y pc lv (.long y :: .long x :: st) I J A B kc n := by
  obtain ⟨p, l, e, R, s, m, args, below, meth, cod, Q, D, cy, A0, nL⟩ := X
  obtain ⟨hx, hb, hown, hts, hns, hK, hml, hnl, hA, hok, hR⟩ := g
  intro H locs ls hP hD hS hl
  exact lv_ldiv hx hb (fnd_dec hok hd) hne (kk H locs ls hP hD hS hl)
theorem S_lrem (g : Good X M) {x y : Int64} (hne : ¬ y = 0) (hd : fnd M.2.2.2.2.2 pc = some (.lrem, 1)) (kk : Sim X Y (pc + 1) lv (.long (x - x / y * y) :: st) I J A B kc n) : Sim X Y pc lv (.long y :: .long x :: st) I J A B kc n := by
  obtain ⟨p, l, e, R, s, m, args, below, meth, cod, Q, D, cy, A0, nL⟩ := X
  obtain ⟨hx, hb, hown, hts, hns, hK, hml, hnl, hA, hok, hR⟩ := g
  intro H locs ls hP hD hS hl
  exact lv_lrem hx hb (fnd_dec hok hd) hne (kk H locs ls hP hD hS hl)
theorem S_fadd (g : Good X M) {x y : UInt32} (hne : vf_n32 (FP.fadd x y)) (hd : fnd M.2.2.2.2.2 pc = some (.fadd, 1)) (kk : Sim X Y (pc + 1) lv (.float (FP.fadd x y) :: st) I J A B kc n) : Sim X Y pc lv (.float y :: .float x :: st) I J A B kc n := by
  obtain ⟨p, l, e, R, s, m, args, below, meth, cod, Q, D, cy, A0, nL⟩ := X
  obtain ⟨hx, hb, hown, hts, hns, hK, hml, hnl, hA, hok, hR⟩ := g
  intro H locs ls hP hD hS hl
  exact lv_fadd hx hb (fnd_dec hok hd) hne (kk H locs ls hP hD hS hl)
theorem S_fsub (g : Good X M) {x y : UInt32} (hne : vf_n32 (FP.fsub x y)) (hd : fnd M.2.2.2.2.2 pc = some (.fsub, 1)) (kk : Sim X Y (pc + 1) lv (.float (FP.fsub x y) :: st) I J A B kc n) : Sim X Y pc lv (.float y :: .float x :: st) I J A B kc n := by
  obtain ⟨p, l, e, R, s, m, args, below, meth, cod, Q, D, cy, A0, nL⟩ := X
  obtain ⟨hx, hb, hown, hts, hns, hK, hml, hnl, hA, hok, hR⟩ := g
  intro H locs ls hP hD hS hl
  exact lv_fsub hx hb (fnd_dec hok hd) hne (kk H locs ls hP hD hS hl)
theorem S_fmul (g : Good X M) {x y : UInt32} (hne : vf_n32 (FP.fmul x y)) (hd : fnd M.2.2.2.2.2 pc = some (.fmul, 1)) (kk : Sim X Y (pc + 1) lv (.float (FP.fmul x y) :: st) I J A B kc n) : Sim X Y pc lv (.float y :: .float x :: st) I J A B kc n := by
  obtain ⟨p, l, e, R, s, m, args, below, meth, cod, Q, D, cy, A0, nL⟩ := X
  obtain ⟨hx, hb, hown, hts, hns, hK, hml, hnl, hA, hok, hR⟩ := g
  intro H locs ls hP hD hS hl
  exact lv_fmul hx hb (fnd_dec hok hd) hne (kk H locs ls hP hD hS hl)
theorem S_fdiv (g : Good X M) {x y : UInt32} (hne : vf_n32 (FP.fdiv x y)) (hd : fnd M.2.2.2.2.2 pc = some (.fdiv, 1)) (kk : Sim X Y (pc + 1) lv (.float (FP.fdiv x y) :: st) I J A B kc n) : Sim X Y pc lv (.float y :: .float x :: st) I J A B kc n := by
  obtain ⟨p, l, e, R, s, m, args, below, meth, cod, Q, D, cy, A0, nL⟩ := X
  obtain ⟨hx, hb, hown, hts, hns, hK, hml, hnl, hA, hok, hR⟩ := g
  intro H locs ls hP hD hS hl
  exact lv_fdiv hx hb (fnd_dec hok hd) hne (kk H locs ls hP hD hS hl)
theorem S_ldc (g : Good X M) {idx : Nat} {v : Int32} (hw : Cond.constant M.1.cls idx v ∈ lw_all) (hd : fnd M.2.2.2.2.2 pc = some (.ldc idx, 2)) (kk : Sim X Y (pc + 2) lv (.int v :: st) I J A B kc n) : Sim X Y pc lv st I J A B kc n := by
  obtain ⟨p, l, e, R, s, m, args, below, meth, cod, Q, D, cy, A0, nL⟩ := X
  obtain ⟨hx, hb, hown, hts, hns, hK, hml, hnl, hA, hok, hR⟩ := g
  intro H locs ls hP hD hS hl
  exact lv_ldc hx hb hown (hts _ hw) (fnd_dec hok hd) (kk H locs ls hP hD hS hl)
theorem S_ldcf (g : Good X M) {idx : Nat} {v : UInt32} (hw : Cond.constantFloat M.1.cls idx v ∈ lw_all) (hd : fnd M.2.2.2.2.2 pc = some (.ldc idx, 2)) (kk : Sim X Y (pc + 2) lv (.float v :: st) I J A B kc n) : Sim X Y pc lv st I J A B kc n := by
  obtain ⟨p, l, e, R, s, m, args, below, meth, cod, Q, D, cy, A0, nL⟩ := X
  obtain ⟨hx, hb, hown, hts, hns, hK, hml, hnl, hA, hok, hR⟩ := g
  intro H locs ls hP hD hS hl
  exact lv_ldcf hx hb hown (hts _ hw) (fnd_dec hok hd) (kk H locs ls hP hD hS hl)
theorem S_ldcw (g : Good X M) {idx : Nat} {v : Int32} (hw : Cond.constant M.1.cls idx v ∈ lw_all) (hd : fnd M.2.2.2.2.2 pc = some (.ldc_w idx, 3)) (kk : Sim X Y (pc + 3) lv (.int v :: st) I J A B kc n) : Sim X Y pc lv st I J A B kc n := by
  obtain ⟨p, l, e, R, s, m, args, below, meth, cod, Q, D, cy, A0, nL⟩ := X
  obtain ⟨hx, hb, hown, hts, hns, hK, hml, hnl, hA, hok, hR⟩ := g
  intro H locs ls hP hD hS hl
  exact lv_ldcw hx hb hown (hts _ hw) (fnd_dec hok hd) (kk H locs ls hP hD hS hl)
theorem S_ldc2 (g : Good X M) {idx : Nat} {v : Int64} (hw : Cond.constantLong M.1.cls idx v ∈ lw_all) (hd : fnd M.2.2.2.2.2 pc = some (.ldc2_w idx, 3)) (kk : Sim X Y (pc + 3) lv (.long v :: st) I J A B kc n) : Sim X Y pc lv st I J A B kc n := by
  obtain ⟨p, l, e, R, s, m, args, below, meth, cod, Q, D, cy, A0, nL⟩ := X
  obtain ⟨hx, hb, hown, hts, hns, hK, hml, hnl, hA, hok, hR⟩ := g
  intro H locs ls hP hD hS hl
  exact lv_ldc2 hx hb hown (hts _ hw) (fnd_dec hok hd) (kk H locs ls hP hD hS hl)
theorem S_swIn (g : Good X M) {dflt lo hi : Int} {offs : Array Int} {len : Nat} {x : Int32} {off : Int} {tgt : Nat} (hd : fnd M.2.2.2.2.2 pc = some (.tableswitch dflt lo hi offs, len)) (h1 : ¬ x.toInt < lo) (h2 : ¬ hi < x.toInt) (ho : offs[(x.toInt - lo).toNat]? = some off) (ht : (pc : Int) + off = (tgt : Int)) (kk : Sim X Y tgt lv st I J A B kc n) : Sim X Y pc lv (.int x :: st) I J A B kc n := by
  obtain ⟨p, l, e, R, s, m, args, below, meth, cod, Q, D, cy, A0, nL⟩ := X
  obtain ⟨hx, hb, hown, hts, hns, hK, hml, hnl, hA, hok, hR⟩ := g
  intro H locs ls hP hD hS hl
  exact lv_tableIn hx hb (fnd_dec hok hd) h1 h2 ho ht (kk H locs ls hP hD hS hl)
theorem S_swOut (g : Good X M) {dflt lo hi : Int} {offs : Array Int} {len : Nat} {x : Int32} {tgt : Nat} (hd : fnd M.2.2.2.2.2 pc = some (.tableswitch dflt lo hi offs, len)) (h : x.toInt < lo ∨ hi < x.toInt) (ht : (pc : Int) + dflt = (tgt : Int)) (kk : Sim X Y tgt lv st I J A B kc n) : Sim X Y pc lv (.int x :: st) I J A B kc n := by
  obtain ⟨p, l, e, R, s, m, args, below, meth, cod, Q, D, cy, A0, nL⟩ := X
  obtain ⟨hx, hb, hown, hts, hns, hK, hml, hnl, hA, hok, hR⟩ := g
  intro H locs ls hP hD hS hl
  exact lv_tableOut hx hb (fnd_dec hok hd) h ht (kk H locs ls hP hD hS hl)
theorem S_lsw (g : Good X M) {dflt : Int} {ps : Array (Int × Int)} {len : Nat} {x : Int32} {off : Int} {tgt : Nat} (hd : fnd M.2.2.2.2.2 pc = some (.lookupswitch dflt ps, len)) (hp : (ps.toList.zip (ps.toList.drop 1)).all (fun (a, next) => a.1 < next.1) = true) (ho : Op.lookupswitch.offset ps.toList dflt x.toInt = off) (ht : (pc : Int) + off = (tgt : Int)) (kk : Sim X Y tgt lv st I J A B kc n) : Sim X Y pc lv (.int x :: st) I J A B kc n := by
  obtain ⟨p, l, e, R, s, m, args, below, meth, cod, Q, D, cy, A0, nL⟩ := X
  obtain ⟨hx, hb, hown, hts, hns, hK, hml, hnl, hA, hok, hR⟩ := g
  intro H locs ls hP hD hS hl
  exact lv_lookup hx hb (fnd_dec hok hd) hp ho ht (kk H locs ls hP hD hS hl)
theorem S_nonnull (g : Good X M) {x : Nat} {off : Int} {tgt : Nat} (hd : fnd M.2.2.2.2.2 pc = some (.ifnonnull off, 3)) (ht : (pc : Int) + off = (tgt : Int)) (kk : Sim X Y tgt lv st I J A B kc n) : Sim X Y pc lv (.ref x :: st) I J A B kc n := by
  obtain ⟨p, l, e, R, s, m, args, below, meth, cod, Q, D, cy, A0, nL⟩ := X
  obtain ⟨hx, hb, hown, hts, hns, hK, hml, hnl, hA, hok, hR⟩ := g
  intro H locs ls hP hD hS hl
  exact lv_ifnonnull hx hb (fnd_dec hok hd) ht (kk H locs ls hP hD hS hl)
theorem S_nonnullN (g : Good X M) {off : Int} (hd : fnd M.2.2.2.2.2 pc = some (.ifnonnull off, 3)) (kk : Sim X Y (pc + 3) lv st I J A B kc n) : Sim X Y pc lv (.null :: st) I J A B kc n := by
  obtain ⟨p, l, e, R, s, m, args, below, meth, cod, Q, D, cy, A0, nL⟩ := X
  obtain ⟨hx, hb, hown, hts, hns, hK, hml, hnl, hA, hok, hR⟩ := g
  intro H locs ls hP hD hS hl
  exact lv_ifnonnullN hx hb (fnd_dec hok hd) (kk H locs ls hP hD hS hl)
theorem S_alN (g : Good X M) {k : Fin 4} (hd : fnd M.2.2.2.2.2 pc = some (.aload_n k, 1)) (hk : lkv lv k.val = some .null) (kk : Sim X Y (pc + 1) lv (.null :: st) I J A B kc n) : Sim X Y pc lv st I J A B kc n := by
  obtain ⟨p, l, e, R, s, m, args, below, meth, cod, Q, D, cy, A0, nL⟩ := X
  obtain ⟨hx, hb, hown, hts, hns, hK, hml, hnl, hA, hok, hR⟩ := g
  intro H locs ls hP hD hS hl
  exact lv_aload_nN hx hb (fnd_dec hok hd) rfl (lkv_at hl hk) (kk H locs ls hP hD hS hl)
/-- the words that a field's use at index idx of class own's pool needs: field k of class c -/
def FLp (own : String) (idx c k : Nat) : Prop := ∃ (C : String) (T : u_T) (N : Nat), vwCl[c]? = some (C, T, N) ∧ k < N ∧ (T k).1 = C ∧ (∀ w ∈ u_ws C T N, w ∈ lw_all) ∧ (Cond.fieldLink own idx C (T k).2.1 (T k).2.2.1 ∈ lw_all ∨ ∃ host, Cond.fieldLinkNest own idx C (T k).2.1 (T k).2.2.1 host ∈ lw_nst)
def FWp (own : String) (idx c k : Nat) (ty : FieldType) : Prop := ∃ (C : String) (T : u_T) (N : Nat) (ty0 : Nat → FieldType), vwCl[c]? = some (C, T, N) ∧ k < N ∧ (T k).1 = C ∧ (∀ w ∈ u_ws C T N, w ∈ lw_all) ∧ (∀ j, j < N → parseFieldDescriptor (T j).2.2.1 = some (ty0 j)) ∧ (∀ a, a < N → ∀ b, b < N → a ≠ b → (T a).2.1 ≠ (T b).2.1) ∧ (T k).2.2.2 = false ∧ parseFieldDescriptor (T k).2.2.1 = some ty ∧ (Cond.fieldLink own idx C (T k).2.1 (T k).2.2.1 ∈ lw_all ∨ ∃ host, Cond.fieldLinkNest own idx C (T k).2.1 (T k).2.2.1 host ∈ lw_nst)
theorem S_get (g : Good X M) {i c k kd idx : Nat} (hi : i < 600) (hc : c < 10) (hKi : Y.2.1 i = c) (hk : (fkd c)[k]? = some kd) (fl : FLp M.1.cls idx c k) (hd : fnd M.2.2.2.2.2 pc = some (.getfield idx, 3)) (kk : Sim X Y (pc + 3) lv (fcl Y.1 Y.2.2.2.1 I J i k kd :: st) I J A B kc n) : Sim X Y pc lv (.ref (Y.1 i) :: st) I J A B kc n := by
  obtain ⟨p, l, e, R, s, m, args, below, meth, cod, Q, D, cy, A0, nL⟩ := X
  obtain ⟨hx, hb, hown, hts, hns, hK, hml, hnl, hA, hok, hR⟩ := g
  intro H locs ls hP hD hS hl
  obtain ⟨C, T, N, hcl, hkN, hTC, hws, hlk⟩ := fl
  obtain ⟨q, hq⟩ := lst_at (K := Y.2.1) (i := i) (by omega) hi
  have hg := pool_get (cy := cy) (Y := Y) (I := I) (J := J) (A := A) (B := B) hq
  rw [cel_o hKi hc] at hg
  have hv : ((fkd c).mapIdx (fcl Y.1 Y.2.2.2.1 I J i))[k]? = some (fcl Y.1 Y.2.2.2.1 I J i k kd) := by rw [List.getElem?_mapIdx, hk]; rfl
  rcases hlk with hlk | ⟨host, hlk⟩
  · exact va_get (ref := C) (C := C) (T := T) (N := N) (ci := c) hx hb hts hws hown hK hP q hg hcl k hkN (hts _ hlk) (fun x hx => by rw [← hTC]; rw [hTC] at hx ⊢; exact hx) hv (fnd_dec hok hd) (kk H locs ls hP hD hS hl)
  · exact va_getN (ref := C) (C := C) (T := T) (N := N) (ci := c) hx hb hts hws hown hK hP q hg hcl k hkN (va_Nw.use rfl (hns _ hlk)) (fun x hx => by rw [hTC] at hx; exact hx) hv (fnd_dec hok hd) (kk H locs ls hP hD hS hl)
theorem S_getI (g : Good X M) {i c k idx : Nat} (hi : i < 600) (hc : c < 10) (hKi : Y.2.1 i = c) (hk : (fkd c)[k]? = some 0) (fl : FLp M.1.cls idx c k) (hd : fnd M.2.2.2.2.2 pc = some (.getfield idx, 3)) (kk : Sim X Y (pc + 3) lv (.int (I i k) :: st) I J A B kc n) : Sim X Y pc lv (.ref (Y.1 i) :: st) I J A B kc n := S_get g hi hc hKi hk fl hd kk
theorem S_getZ (g : Good X M) {i c k idx : Nat} (hi : i < 600) (hc : c < 10) (hKi : Y.2.1 i = c) (hk : (fkd c)[k]? = some 3) (fl : FLp M.1.cls idx c k) (hd : fnd M.2.2.2.2.2 pc = some (.getfield idx, 3)) (kk : Sim X Y (pc + 3) lv (.int (I i k) :: st) I J A B kc n) : Sim X Y pc lv (.ref (Y.1 i) :: st) I J A B kc n := S_get g hi hc hKi hk fl hd kk
theorem S_getJ (g : Good X M) {i c k idx : Nat} (hi : i < 600) (hc : c < 10) (hKi : Y.2.1 i = c) (hk : (fkd c)[k]? = some 1) (fl : FLp M.1.cls idx c k) (hd : fnd M.2.2.2.2.2 pc = some (.getfield idx, 3)) (kk : Sim X Y (pc + 3) lv (.long (J i k) :: st) I J A B kc n) : Sim X Y pc lv (.ref (Y.1 i) :: st) I J A B kc n := S_get g hi hc hKi hk fl hd kk
theorem S_getR (g : Good X M) {i c k idx j : Nat} (hi : i < 600) (hc : c < 10) (hKi : Y.2.1 i = c) (hk : (fkd c)[k]? = some 2) (hp : Y.2.2.2.1 i k = some j) (fl : FLp M.1.cls idx c k) (hd : fnd M.2.2.2.2.2 pc = some (.getfield idx, 3)) (kk : Sim X Y (pc + 3) lv (.ref (Y.1 j) :: st) I J A B kc n) : Sim X Y pc lv (.ref (Y.1 i) :: st) I J A B kc n := by
  refine S_get g hi hc hKi hk fl hd ?_
  have hv : fcl Y.1 Y.2.2.2.1 I J i k 2 = .ref (Y.1 j) := by simp [fcl, hp, va_rf]
  rw [hv]
  exact kk
theorem S_putI (g : Good X M) {i c k idx kd : Nat} {ty : FieldType} {x : Int32} (hi : i < 600) (hc : c < 10) (hKi : Y.2.1 i = c) (hk : (fkd c)[k]? = some kd) (hkd : kd ≠ 1 ∧ kd ≠ 2) (fw : FWp M.1.cls idx c k ty) (hn : narrow ty (.int x) = .int x) (hfit : fits ty (.int x) = true) (hd : fnd M.2.2.2.2.2 pc = some (.putfield idx, 3)) (kk : Sim X Y (pc + 3) lv st (up2 I i k x) J A B kc n) : Sim X Y pc lv (.int x :: .ref (Y.1 i) :: st) I J A B kc n := by
  obtain ⟨p, l, e, R, s, m, args, below, meth, cod, Q, D, cy, A0, nL⟩ := X
  obtain ⟨hx, hb, hown, hts, hns, hK, hml, hnl, hA, hok, hR⟩ := g
  intro H locs ls hP hD hS hl
  obtain ⟨C, T, N, ty0, hcl, hkN, hTC, hws, hty, hnm, hfin, hpd, hlk⟩ := fw
  obtain ⟨q, hq⟩ := lst_at (K := Y.2.1) (i := i) (by omega) hi
  have hg := pool_get (cy := cy) (Y := Y) (I := I) (J := J) (A := A) (B := B) hq
  rw [cel_o hKi hc] at hg
  have hlen : k < ((fkd c).mapIdx (fcl Y.1 Y.2.2.2.1 I J i)).length := by rw [List.length_mapIdx]; exact (List.getElem?_eq_some_iff.mp hk).1
  have he : (pool cy Y I J A B).set q (Y.1 i, .inr (c, ((fkd c).mapIdx (fcl Y.1 Y.2.2.2.1 I J i)).set k (.int x))) = pool cy Y (up2 I i k x) J A B := by
    refine pool_set hD hq rfl rfl (fun j hj => cel_I j hj) ?_
    rw [cel_o hKi hc]
    refine congrArg (fun z => Sum.inr (c, z)) (fcl_set hk ?_ ?_)
    · unfold fcl; rw [if_neg hkd.1, if_neg hkd.2, up2_same]
    · intro j z hj; unfold fcl; rw [up2_ix _ _ _ hj]
  rcases hlk with hlk | ⟨host, hlk⟩
  · refine va_put (ref := C) (C := C) (T := T) (N := N) (ci := c) (ty := ty) hx hb hts hws ty0 hty hnm hown hK hP hD hS q hg hcl k hkN (hts _ hlk) (fun x hx => by rw [hTC] at hx; exact hx) hfin hpd hn hfit hlen (fnd_dec hok hd) (fun H1 locs1 hP1 hD1 hS1 => ?_)
    rw [he] at hP1 hD1
    exact kk H1 locs1 ls hP1 hD1 hS1 hl
  · refine va_putN (ref := C) (C := C) (T := T) (N := N) (ci := c) (ty := ty) hx hb hts hws ty0 hty hnm hown hK hP hD hS q hg hcl k hkN (va_Nw.use rfl (hns _ hlk)) (fun x hx => by rw [hTC] at hx; exact hx) hfin hpd hn hfit hlen (fnd_dec hok hd) (fun H1 locs1 hP1 hD1 hS1 => ?_)
    rw [he] at hP1 hD1
    exact kk H1 locs1 ls hP1 hD1 hS1 hl
theorem S_putJ (g : Good X M) {i c k idx : Nat} {x : Int64} (hi : i < 600) (hc : c < 10) (hKi : Y.2.1 i = c) (hk : (fkd c)[k]? = some 1) (fw : FWp M.1.cls idx c k .long) (hd : fnd M.2.2.2.2.2 pc = some (.putfield idx, 3)) (kk : Sim X Y (pc + 3) lv st I (up2 J i k x) A B kc n) : Sim X Y pc lv (.long x :: .ref (Y.1 i) :: st) I J A B kc n := by
  obtain ⟨p, l, e, R, s, m, args, below, meth, cod, Q, D, cy, A0, nL⟩ := X
  obtain ⟨hx, hb, hown, hts, hns, hK, hml, hnl, hA, hok, hR⟩ := g
  intro H locs ls hP hD hS hl
  obtain ⟨C, T, N, ty0, hcl, hkN, hTC, hws, hty, hnm, hfin, hpd, hlk⟩ := fw
  obtain ⟨q, hq⟩ := lst_at (K := Y.2.1) (i := i) (by omega) hi
  have hg := pool_get (cy := cy) (Y := Y) (I := I) (J := J) (A := A) (B := B) hq
  rw [cel_o hKi hc] at hg
  have hlen : k < ((fkd c).mapIdx (fcl Y.1 Y.2.2.2.1 I J i)).length := by rw [List.length_mapIdx]; exact (List.getElem?_eq_some_iff.mp hk).1
  have he : (pool cy Y I J A B).set q (Y.1 i, .inr (c, ((fkd c).mapIdx (fcl Y.1 Y.2.2.2.1 I J i)).set k (.long x))) = pool cy Y I (up2 J i k x) A B := by
    refine pool_set hD hq rfl rfl (fun j hj => cel_J j hj) ?_
    rw [cel_o hKi hc]
    refine congrArg (fun z => Sum.inr (c, z)) (fcl_set hk ?_ ?_)
    · unfold fcl; rw [if_pos rfl, up2_same]
    · intro j z hj; unfold fcl; rw [up2_ix _ _ _ hj]
  rcases hlk with hlk | ⟨host, hlk⟩
  · refine va_put (ref := C) (C := C) (T := T) (N := N) (ci := c) (ty := .long) hx hb hts hws ty0 hty hnm hown hK hP hD hS q hg hcl k hkN (hts _ hlk) (fun x hx => by rw [hTC] at hx; exact hx) hfin hpd rfl rfl hlen (fnd_dec hok hd) (fun H1 locs1 hP1 hD1 hS1 => ?_)
    rw [he] at hP1 hD1
    exact kk H1 locs1 ls hP1 hD1 hS1 hl
  · refine va_putN (ref := C) (C := C) (T := T) (N := N) (ci := c) (ty := .long) hx hb hts hws ty0 hty hnm hown hK hP hD hS q hg hcl k hkN (va_Nw.use rfl (hns _ hlk)) (fun x hx => by rw [hTC] at hx; exact hx) hfin hpd rfl rfl hlen (fnd_dec hok hd) (fun H1 locs1 hP1 hD1 hS1 => ?_)
    rw [he] at hP1 hD1
    exact kk H1 locs1 ls hP1 hD1 hS1 hl
theorem S_iald (g : Good X M) {i : Nat} {x : Int32} (hi : i < 600) (hKi : Y.2.1 i = 10) (hin : vp_in x (Y.2.2.1 i)) (hd : fnd M.2.2.2.2.2 pc = some (.iaload, 1)) (kk : Sim X Y (pc + 1) lv (.int (A i x.toNatClampNeg) :: st) I J A B kc n) : Sim X Y pc lv (.int x :: .ref (Y.1 i) :: st) I J A B kc n := by
  obtain ⟨p, l, e, R, s, m, args, below, meth, cod, Q, D, cy, A0, nL⟩ := X
  obtain ⟨hx, hb, hown, hts, hns, hK, hml, hnl, hA, hok, hR⟩ := g
  intro H locs ls hP hD hS hl
  obtain ⟨q, hq⟩ := lst_at (K := Y.2.1) (i := i) (by omega) hi
  have hg := pool_get (cy := cy) (Y := Y) (I := I) (J := J) (A := A) (B := B) hq
  rw [cel_10 hKi] at hg
  exact va_iald hx hb hK hP q 0 hg rfl hin (fnd_dec hok hd) (kk H locs ls hP hD hS hl)
theorem S_lald (g : Good X M) {i : Nat} {x : Int32} (hi : i < 600) (hKi : Y.2.1 i = 11) (hin : vp_in x (Y.2.2.1 i)) (hd : fnd M.2.2.2.2.2 pc = some (.laload, 1)) (kk : Sim X Y (pc + 1) lv (.long (B i x.toNatClampNeg) :: st) I J A B kc n) : Sim X Y pc lv (.int x :: .ref (Y.1 i) :: st) I J A B kc n := by
  obtain ⟨p, l, e, R, s, m, args, below, meth, cod, Q, D, cy, A0, nL⟩ := X
  obtain ⟨hx, hb, hown, hts, hns, hK, hml, hnl, hA, hok, hR⟩ := g
  intro H locs ls hP hD hS hl
  obtain ⟨q, hq⟩ := lst_at (K := Y.2.1) (i := i) (by omega) hi
  have hg := pool_get (cy := cy) (Y := Y) (I := I) (J := J) (A := A) (B := B) hq
  rw [cel_11 hKi] at hg
  exact va_lald hx hb hK hP q 1 hg rfl hin (fnd_dec hok hd) (kk H locs ls hP hD hS hl)
theorem S_zald (g : Good X M) {i : Nat} {x : Int32} (hi : i < 600) (hKi : Y.2.1 i = 12) (hin : vp_in x (Y.2.2.1 i)) (hd : fnd M.2.2.2.2.2 pc = some (.baload, 1)) (kk : Sim X Y (pc + 1) lv (.int (A i x.toNatClampNeg) :: st) I J A B kc n) : Sim X Y pc lv (.int x :: .ref (Y.1 i) :: st) I J A B kc n := by
  obtain ⟨p, l, e, R, s, m, args, below, meth, cod, Q, D, cy, A0, nL⟩ := X
  obtain ⟨hx, hb, hown, hts, hns, hK, hml, hnl, hA, hok, hR⟩ := g
  intro H locs ls hP hD hS hl
  obtain ⟨q, hq⟩ := lst_at (K := Y.2.1) (i := i) (by omega) hi
  have hg := pool_get (cy := cy) (Y := Y) (I := I) (J := J) (A := A) (B := B) hq
  rw [cel_12 hKi] at hg
  exact va_zald hx hb hK hP q 2 hg rfl hin (fnd_dec hok hd) (kk H locs ls hP hD hS hl)
theorem S_aald13 (g : Good X M) {i : Nat} {x : Int32} (hi : i < 600) (hKi : Y.2.1 i = 13) (hin : vp_in x (Y.2.2.1 i)) (hd : fnd M.2.2.2.2.2 pc = some (.aaload, 1)) (kk : Sim X Y (pc + 1) lv (va_rf ((Y.2.2.2.2 i x.toNatClampNeg).map Y.1) :: st) I J A B kc n) : Sim X Y pc lv (.int x :: .ref (Y.1 i) :: st) I J A B kc n := by
  obtain ⟨p, l, e, R, s, m, args, below, meth, cod, Q, D, cy, A0, nL⟩ := X
  obtain ⟨hx, hb, hown, hts, hns, hK, hml, hnl, hA, hok, hR⟩ := g
  intro H locs ls hP hD hS hl
  obtain ⟨q, hq⟩ := lst_at (K := Y.2.1) (i := i) (by omega) hi
  have hg := pool_get (cy := cy) (Y := Y) (I := I) (J := J) (A := A) (B := B) hq
  rw [cel_13 hKi] at hg
  exact va_aldq hx hb hK hP q 3 hg rfl hin (fnd_dec hok hd) (kk H locs ls hP hD hS hl)
theorem S_aald14 (g : Good X M) {i : Nat} {x : Int32} (hi : i < 600) (hKi : Y.2.1 i = 14) (hin : vp_in x (Y.2.2.1 i)) (hd : fnd M.2.2.2.2.2 pc = some (.aaload, 1)) (kk : Sim X Y (pc + 1) lv (va_rf ((Y.2.2.2.2 i x.toNatClampNeg).map Y.1) :: st) I J A B kc n) : Sim X Y pc lv (.int x :: .ref (Y.1 i) :: st) I J A B kc n := by
  obtain ⟨p, l, e, R, s, m, args, below, meth, cod, Q, D, cy, A0, nL⟩ := X
  obtain ⟨hx, hb, hown, hts, hns, hK, hml, hnl, hA, hok, hR⟩ := g
  intro H locs ls hP hD hS hl
  obtain ⟨q, hq⟩ := lst_at (K := Y.2.1) (i := i) (by omega) hi
  have hg := pool_get (cy := cy) (Y := Y) (I := I) (J := J) (A := A) (B := B) hq
  rw [cel_14 hKi] at hg
  exact va_aldq hx hb hK hP q 4 hg rfl hin (fnd_dec hok hd) (kk H locs ls hP hD hS hl)
theorem S_aaldR (g : Good X M) {i j : Nat} {x : Int32} (hi : i < 600) (hKi : Y.2.1 i = 13) (hin : vp_in x (Y.2.2.1 i)) (hr : Y.2.2.2.2 i x.toNatClampNeg = some j) (hd : fnd M.2.2.2.2.2 pc = some (.aaload, 1)) (kk : Sim X Y (pc + 1) lv (.ref (Y.1 j) :: st) I J A B kc n) : Sim X Y pc lv (.int x :: .ref (Y.1 i) :: st) I J A B kc n := by
  refine S_aald13 g hi hKi hin hd ?_
  rw [hr]
  exact kk
theorem S_iast (g : Good X M) {i : Nat} {x : Int32} {v : Int32} (hi : i < 600) (hKi : Y.2.1 i = 10) (hin : vp_in x (Y.2.2.1 i)) (hd : fnd M.2.2.2.2.2 pc = some (.iastore, 1)) (kk : Sim X Y (pc + 1) lv st I J (up2 A i x.toNatClampNeg v) B kc n) : Sim X Y pc lv (.int v :: .int x :: .ref (Y.1 i) :: st) I J A B kc n := by
  obtain ⟨p, l, e, R, s, m, args, below, meth, cod, Q, D, cy, A0, nL⟩ := X
  obtain ⟨hx, hb, hown, hts, hns, hK, hml, hnl, hA, hok, hR⟩ := g
  intro H locs ls hP hD hS hl
  obtain ⟨q, hq⟩ := lst_at (K := Y.2.1) (i := i) (by omega) hi
  have hg := pool_get (cy := cy) (Y := Y) (I := I) (J := J) (A := A) (B := B) hq
  rw [cel_10 hKi] at hg
  have he : (pool cy Y I J A B).set q (Y.1 i, .inl (cy.1, Y.2.2.1 i, .inl (upd (A i) x.toNatClampNeg v))) = pool cy Y I J (up2 A i x.toNatClampNeg v) B := by
    refine pool_set hD hq rfl rfl (fun j hj => cel_A j hj) ?_
    rw [cel_10 hKi]
    rw [va_up_self]
    rfl
  refine va_iast hx hb hK hP hD hS q 0 hg rfl hin (fnd_dec hok hd) (fun H1 locs1 hP1 hD1 hS1 => ?_)
  rw [he] at hP1 hD1
  exact kk H1 locs1 ls hP1 hD1 hS1 hl
theorem S_zast (g : Good X M) {i : Nat} {x : Int32} {v : Int32} (hi : i < 600) (hKi : Y.2.1 i = 12) (hin : vp_in x (Y.2.2.1 i)) (hv : vp_nar .boolean v = v) (hd : fnd M.2.2.2.2.2 pc = some (.bastore, 1)) (kk : Sim X Y (pc + 1) lv st I J (up2 A i x.toNatClampNeg v) B kc n) : Sim X Y pc lv (.int v :: .int x :: .ref (Y.1 i) :: st) I J A B kc n := by
  obtain ⟨p, l, e, R, s, m, args, below, meth, cod, Q, D, cy, A0, nL⟩ := X
  obtain ⟨hx, hb, hown, hts, hns, hK, hml, hnl, hA, hok, hR⟩ := g
  intro H locs ls hP hD hS hl
  obtain ⟨q, hq⟩ := lst_at (K := Y.2.1) (i := i) (by omega) hi
  have hg := pool_get (cy := cy) (Y := Y) (I := I) (J := J) (A := A) (B := B) hq
  rw [cel_12 hKi] at hg
  have he : (pool cy Y I J A B).set q (Y.1 i, .inl (cy.2.2.1, Y.2.2.1 i, .inl (upd (A i) x.toNatClampNeg v))) = pool cy Y I J (up2 A i x.toNatClampNeg v) B := by
    refine pool_set hD hq rfl rfl (fun j hj => cel_A j hj) ?_
    rw [cel_12 hKi]
    rw [va_up_self]
    rfl
  refine va_zast hx hb hK hP hD hS q 2 hg rfl hin (fnd_dec hok hd) (fun H1 locs1 hP1 hD1 hS1 => ?_)
  rw [hv] at hP1 hD1
  rw [he] at hP1 hD1
  exact kk H1 locs1 ls hP1 hD1 hS1 hl
theorem S_last (g : Good X M) {i : Nat} {x : Int32} {v : Int64} (hi : i < 600) (hKi : Y.2.1 i = 11) (hin : vp_in x (Y.2.2.1 i)) (hd : fnd M.2.2.2.2.2 pc = some (.lastore, 1)) (kk : Sim X Y (pc + 1) lv st I J A (up2 B i x.toNatClampNeg v) kc n) : Sim X Y pc lv (.long v :: .int x :: .ref (Y.1 i) :: st) I J A B kc n := by
  obtain ⟨p, l, e, R, s, m, args, below, meth, cod, Q, D, cy, A0, nL⟩ := X
  obtain ⟨hx, hb, hown, hts, hns, hK, hml, hnl, hA, hok, hR⟩ := g
  intro H locs ls hP hD hS hl
  obtain ⟨q, hq⟩ := lst_at (K := Y.2.1) (i := i) (by omega) hi
  have hg := pool_get (cy := cy) (Y := Y) (I := I) (J := J) (A := A) (B := B) hq
  rw [cel_11 hKi] at hg
  have he : (pool cy Y I J A B).set q (Y.1 i, .inl (cy.2.1, Y.2.2.1 i, .inr (.inl (vp_updL (B i) x.toNatClampNeg v)))) = pool cy Y I J A (up2 B i x.toNatClampNeg v) := by
    refine pool_set hD hq rfl rfl (fun j hj => cel_B j hj) ?_
    rw [cel_11 hKi]
    rw [va_up_self]
    rfl
  refine va_last hx hb hK hP hD hS q 1 hg rfl hin (fnd_dec hok hd) (fun H1 locs1 hP1 hD1 hS1 => ?_)
  rw [he] at hP1 hD1
  exact kk H1 locs1 ls hP1 hD1 hS1 hl
end Rules2
