/-! plain instructions as a function of pc, locals and stack, and that the machine does them -/
def lkv : List (Nat × Value) → Nat → Option Value
  | [], _ => none
  | (j, v) :: t, k => if j == k then some v else lkv t k
theorem lkv_mem : ∀ {lv : List (Nat × Value)} {k : Nat} {v : Value}, lkv lv k = some v → (k, v) ∈ lv
  | [], _, _, h => by cases h
  | (j, w) :: t, k, v, h => by
    unfold lkv at h
    by_cases e : j == k
    · rw [if_pos e] at h
      cases h
      rw [beq_iff_eq] at e
      subst e
      exact List.mem_cons_self
    · rw [if_neg e] at h
      exact List.mem_cons_of_mem _ (lkv_mem h)
def insv (i : Nat) (v : Value) : List (Nat × Value) → List (Nat × Value)
  | [] => [(i, v)]
  | (j, w) :: t => if Nat.blt i j then (i, v) :: (j, w) :: t else (j, w) :: insv i v t
theorem insv_mem {i : Nat} {v : Value} {q : Nat × Value} : ∀ {l : List (Nat × Value)}, q ∈ insv i v l → q ∈ (i, v) :: l
  | [], h => h
  | (j, w) :: t, h => by
    unfold insv at h
    by_cases e : Nat.blt i j = true
    · rw [if_pos e] at h
      exact h
    · rw [if_neg e] at h
      rcases List.mem_cons.mp h with h | h
      · subst h
        exact List.mem_cons_of_mem _ List.mem_cons_self
      · rcases List.mem_cons.mp (insv_mem h) with h | h
        · subst h
          exact List.mem_cons_self
        · exact List.mem_cons_of_mem _ (List.mem_cons_of_mem _ h)
def sv1 (i : Nat) (v : Value) (lv : List (Nat × Value)) : List (Nat × Value) := insv i v (lv.filter (fun q => !(q.1 == i) && !(q.1 + 1 == i && q.2.category == 2)))
def sv2 (i : Nat) (v : Value) (lv : List (Nat × Value)) : List (Nat × Value) := insv i v (lv.filter (fun q => !(q.1 == i) && (!(q.1 == i + 1) && !(q.1 + 1 == i && q.2.category == 2))))
theorem lv_less {ls : Array Slot} {nL : Nat} {l l' : List (Nat × Value)} (h : lv_has ls nL l) (hs : ∀ q ∈ l', q ∈ l) : lv_has ls nL l' := ⟨h.1, h.2.1, fun q hq => h.2.2 q (hs q hq)⟩
theorem lkv_at {ls : Array Slot} {nL : Nat} {lv : List (Nat × Value)} {k : Nat} {v : Value} (h : lv_has ls nL lv) (hk : lkv lv k = some v) : ls[k]? = some (.val v) := h.2.2 (k, v) (lkv_mem hk)
/-- a constant, by its sign -/
def ci : Int → Int32
  | .ofNat k => nI k
  | .negSucc k => -nI (k + 1)
theorem ci_eq (n : Int) : Int32.ofInt n = ci n := by
  cases n with
  | ofNat k => exact Int32.ofInt_eq_ofNat
  | negSucc k =>
    show Int32.ofInt (Int.negSucc k) = -nI (k + 1)
    rw [Int.negSucc_eq, Int32.ofInt_neg]
    exact congrArg (fun z => -z) Int32.ofInt_eq_ofNat
theorem ci_8 {n : Int} (h1 : -128 ≤ n) (h2 : n < 128) : (Int8.ofInt n).toInt32 = ci n := by
  rw [← ci_eq]
  apply Int32.toInt_inj.mp
  rw [Int8.toInt_toInt32, Int8.toInt_ofInt_of_le (by simpa using h1) (by simpa using h2), Int32.toInt_ofInt_of_le (by simp; omega) (by simp; omega)]
theorem ci_16 {n : Int} (h1 : -32768 ≤ n) (h2 : n < 32768) : (Int16.ofInt n).toInt32 = ci n := by
  rw [← ci_eq]
  apply Int32.toInt_inj.mp
  rw [Int16.toInt_toInt32, Int16.toInt_ofInt_of_le (by simpa using h1) (by simpa using h2), Int32.toInt_ofInt_of_le (by simp; omega) (by simp; omega)]
abbrev SR : Type := Option (Nat × List (Nat × Value) × List Value)
def st1 (nL : Nat) (i : Instr) (len pc : Nat) (lv : List (Nat × Value)) (st : List Value) : SR :=
  match i, len with
  | .iload_n k, 1 => match lkv lv k.val with
    | some (.int x) => some (pc + 1, lv, .int x :: st)
    | _ => none
  | .iload k, 2 => match lkv lv k with
    | some (.int x) => some (pc + 2, lv, .int x :: st)
    | _ => none
  | .lload_n k, 1 => match lkv lv k.val with
    | some (.long x) => some (pc + 1, lv, .long x :: st)
    | _ => none
  | .lload k, 2 => match lkv lv k with
    | some (.long x) => some (pc + 2, lv, .long x :: st)
    | _ => none
  | .aload_n k, 1 => match lkv lv k.val with
    | some (.ref x) => some (pc + 1, lv, .ref x :: st)
    | _ => none
  | .aload k, 2 => match lkv lv k with
    | some (.ref x) => some (pc + 2, lv, .ref x :: st)
    | _ => none
  | .fload_n k, 1 => match lkv lv k.val with
    | some (.float x) => some (pc + 1, lv, .float x :: st)
    | _ => none
  | .fload k, 2 => match lkv lv k with
    | some (.float x) => some (pc + 2, lv, .float x :: st)
    | _ => none
  | .iconst n, 1 => some (pc + 1, lv, .int (ci n) :: st)
  | .bipush n, 2 => if -128 ≤ n ∧ n < 128 then some (pc + 2, lv, .int (ci n) :: st) else none
  | .sipush n, 3 => if -32768 ≤ n ∧ n < 32768 then some (pc + 3, lv, .int (ci n) :: st) else none
  | .lconst n, 1 => some (pc + 1, lv, .long (lN (n : Nat)) :: st)
  | .goto off, 3 => match (pc : Int) + off with
    | .ofNat t => some (t, lv, st)
    | _ => none
  | .iinc k n, 3 => match lkv lv k with
    | some (.int x) => if k < nL then some (pc + 3, sv1 k (.int (x + ci n)) lv, st) else none
    | _ => none
  | _, _ => none
def st2 (nL : Nat) (i : Instr) (len pc : Nat) (lv : List (Nat × Value)) (st : List Value) : SR :=
  match i, len, st with
  | .istore_n k, 1, .int x :: r => if k.val < nL then some (pc + 1, sv1 k.val (.int x) lv, r) else none
  | .istore k, 2, .int x :: r => if k < nL then some (pc + 2, sv1 k (.int x) lv, r) else none
  | .lstore_n k, 1, .long x :: r => if k.val + 1 < nL then some (pc + 1, sv2 k.val (.long x) lv, r) else none
  | .lstore k, 2, .long x :: r => if k + 1 < nL then some (pc + 2, sv2 k (.long x) lv, r) else none
  | .fstore_n k, 1, .float x :: r => if k.val < nL then some (pc + 1, sv1 k.val (.float x) lv, r) else none
  | .fstore k, 2, .float x :: r => if k < nL then some (pc + 2, sv1 k (.float x) lv, r) else none
  | .astore_n k, 1, .ref x :: r => if k.val < nL then some (pc + 1, sv1 k.val (.ref x) lv, r) else none
  | .astore k, 2, .ref x :: r => if k < nL then some (pc + 2, sv1 k (.ref x) lv, r) else none
  | .iadd, 1, .int y :: .int x :: r => some (pc + 1, lv, .int (x + y) :: r)
  | .isub, 1, .int y :: .int x :: r => some (pc + 1, lv, .int (x - y) :: r)
  | .imul, 1, .int y :: .int x :: r => some (pc + 1, lv, .int (x * y) :: r)
  | .iand, 1, .int y :: .int x :: r => some (pc + 1, lv, .int (x &&& y) :: r)
  | .ior, 1, .int y :: .int x :: r => some (pc + 1, lv, .int (x ||| y) :: r)
  | .ixor, 1, .int y :: .int x :: r => some (pc + 1, lv, .int (x ^^^ y) :: r)
  | .ishl, 1, .int y :: .int x :: r => some (pc + 1, lv, .int (x <<< (y &&& 31)) :: r)
  | .ishr, 1, .int y :: .int x :: r => some (pc + 1, lv, .int (x >>> (y &&& 31)) :: r)
  | .iushr, 1, .int y :: .int x :: r => some (pc + 1, lv, .int (x.toUInt32 >>> (y.toUInt32 &&& Int32.toUInt32 31)).toInt32 :: r)
  | _, _, _ => none
def st3 (i : Instr) (len pc : Nat) (lv : List (Nat × Value)) (st : List Value) : SR :=
  match i, len, st with
  | .ladd, 1, .long y :: .long x :: r => some (pc + 1, lv, .long (x + y) :: r)
  | .lsub, 1, .long y :: .long x :: r => some (pc + 1, lv, .long (x - y) :: r)
  | .lmul, 1, .long y :: .long x :: r => some (pc + 1, lv, .long (x * y) :: r)
  | .land, 1, .long y :: .long x :: r => some (pc + 1, lv, .long (x &&& y) :: r)
  | .lor, 1, .long y :: .long x :: r => some (pc + 1, lv, .long (x ||| y) :: r)
  | .lxor, 1, .long y :: .long x :: r => some (pc + 1, lv, .long (x ^^^ y) :: r)
  | .lshl, 1, .int y :: .long x :: r => some (pc + 1, lv, .long (x <<< (y.toInt64 &&& 63)) :: r)
  | .lshr, 1, .int y :: .long x :: r => some (pc + 1, lv, .long (x >>> (y.toInt64 &&& 63)) :: r)
  | .lushr, 1, .int y :: .long x :: r => some (pc + 1, lv, .long (x.toUInt64 >>> (y.toInt64.toUInt64 &&& Int64.toUInt64 63)).toInt64 :: r)
  | .lneg, 1, .long x :: r => some (pc + 1, lv, .long (-x) :: r)
  | .i2l, 1, .int x :: r => some (pc + 1, lv, .long x.toInt64 :: r)
  | .l2i, 1, .long x :: r => some (pc + 1, lv, .int x.toInt32 :: r)
  | .lcmp, 1, .long y :: .long x :: r => some (pc + 1, lv, .int (lg_cmp x y) :: r)
  | .i2f, 1, .int x :: r => some (pc + 1, lv, .float (FP.i2f x) :: r)
  | .f2i, 1, .float x :: r => some (pc + 1, lv, .int (FP.f2i x) :: r)
  | .fcmp op, 1, .float y :: .float x :: r => some (pc + 1, lv, .int (Op.cmpValue (FP.fcmp x y) op) :: r)
  | .dup, 1, v :: r => if v.category = 1 then some (pc + 1, lv, v :: v :: r) else none
  | .pop, 1, v :: r => if v.category = 1 then some (pc + 1, lv, r) else none
  | _, _, _ => none
def st4 (i : Instr) (len pc : Nat) (lv : List (Nat × Value)) (st : List Value) : SR :=
  match i, len, st with
  | .dup2, 1, v :: r => if v.category = 2 then some (pc + 1, lv, v :: v :: r) else match r with
    | w :: r => if v.category = 1 then (if w.category = 1 then some (pc + 1, lv, v :: w :: v :: w :: r) else none) else none
    | _ => none
  | .fconst k, 1, r => match k with
    | 0 => some (pc + 1, lv, .float FP.fconst0 :: r)
    | 1 => some (pc + 1, lv, .float FP.fconst1 :: r)
    | 2 => some (pc + 1, lv, .float FP.fconst2 :: r)
  | _, _, _ => none
def stp (nL : Nat) (i : Instr) (len pc : Nat) (lv : List (Nat × Value)) (st : List Value) : SR :=
  match st1 nL i len pc lv st with
  | some r => some r
  | none => match st2 nL i len pc lv st with
    | some r => some r
    | none => match st3 i len pc lv st with
      | some r => some r
      | none => st4 i len pc lv st
section StepOk
variable {p : Program} {l : Launch} {e : Env} {R : Room} {s : State} {m : MethodId} {args : Array Value} {below : List Frame} {meth : Method} {c : Code} {H : Heap} {locs : List Loc} {cells slots : Nat} {Q : State → Prop} {cc : ByteArray} {ls : Array Slot} {nL : Nat} {i : Instr} {len pc : Nat} {lv : List (Nat × Value)} {st : List Value} {pc' : Nat} {lv' : List (Nat × Value)} {st' : List Value}
theorem st1_ok (hx : p.tables.exec = Jvm.exec) (hb : c.code = cc) (d : decode cc pc = .ok (i, len)) (h : st1 nL i len pc lv st = some (pc', lv', st')) (hl : lv_has ls nL lv) (k : ∀ ls', lv_has ls' nL lv' → W p l e R s m args below meth c H locs cells slots Q (F0 m pc' ls' st')) : W p l e R s m args below meth c H locs cells slots Q (F0 m pc ls st) := by
  unfold st1 at h
  split at h
  case h_1 => split at h <;> first | (cases h; exact lv_iload_n hx hb d rfl (lkv_at hl (by assumption)) (k _ hl)) | cases h
  case h_2 => split at h <;> first | (cases h; exact lv_iload hx hb d (lkv_at hl (by assumption)) (k _ hl)) | cases h
  case h_3 => split at h <;> first | (cases h; exact lv_lload_n hx hb d rfl (lkv_at hl (by assumption)) (k _ hl)) | cases h
  case h_4 => split at h <;> first | (cases h; exact lv_lload hx hb d (lkv_at hl (by assumption)) (k _ hl)) | cases h
  case h_5 => split at h <;> first | (cases h; exact lv_aload_n hx hb d rfl (lkv_at hl (by assumption)) (k _ hl)) | cases h
  case h_6 => split at h <;> first | (cases h; exact lv_aload hx hb d (lkv_at hl (by assumption)) (k _ hl)) | cases h
  case h_7 => split at h <;> first | (cases h; exact lv_fload_n hx hb d rfl (lkv_at hl (by assumption)) (k _ hl)) | cases h
  case h_8 => split at h <;> first | (cases h; exact lv_fload hx hb d (lkv_at hl (by assumption)) (k _ hl)) | cases h
  case h_9 => cases h; exact lv_iconst hx hb d (ci_eq _) (k _ hl)
  case h_10 =>
    split at h
    · rename_i hr; cases h; exact lv_bipush hx hb d (ci_8 hr.1 hr.2) (k _ hl)
    · cases h
  case h_11 =>
    split at h
    · rename_i hr; cases h; exact lv_sipush hx hb d (ci_16 hr.1 hr.2) (k _ hl)
    · cases h
  case h_12 => cases h; exact lv_lconst hx hb d rfl (k _ hl)
  case h_13 => split at h <;> first | (cases h; exact lv_goto hx hb d (by assumption) (k _ hl)) | cases h
  case h_14 =>
    split at h
    · rename_i x hk
      split at h
      · cases h
        obtain ⟨q, hq⟩ := List.getElem?_of_mem (lkv_mem hk)
        exact lv_iinc hx hb d hl hq (by rw [ci_eq]) (by assumption) rfl (fun ls' h' => k ls' (lv_less h' (fun q hq => insv_mem hq)))
      · cases h
    · cases h
  case h_15 => cases h
theorem st2_ok (hx : p.tables.exec = Jvm.exec) (hb : c.code = cc) (d : decode cc pc = .ok (i, len)) (h : st2 nL i len pc lv st = some (pc', lv', st')) (hl : lv_has ls nL lv) (k : ∀ ls', lv_has ls' nL lv' → W p l e R s m args below meth c H locs cells slots Q (F0 m pc' ls' st')) : W p l e R s m args below meth c H locs cells slots Q (F0 m pc ls st) := by
  unfold st2 at h
  split at h
  case h_1 => split at h <;> first | (cases h; exact lv_istore_n hx hb d rfl hl (by assumption) rfl (fun ls' h' => k ls' (lv_less h' (fun q hq => insv_mem hq)))) | cases h
  case h_2 => split at h <;> first | (cases h; exact lv_istore hx hb d hl (by assumption) rfl (fun ls' h' => k ls' (lv_less h' (fun q hq => insv_mem hq)))) | cases h
  case h_3 => split at h <;> first | (cases h; exact lv_lstore_n hx hb d rfl hl (by assumption) rfl (fun ls' h' => k ls' (lv_less h' (fun q hq => insv_mem hq)))) | cases h
  case h_4 => split at h <;> first | (cases h; exact lv_lstore hx hb d hl (by assumption) rfl (fun ls' h' => k ls' (lv_less h' (fun q hq => insv_mem hq)))) | cases h
  case h_5 => split at h <;> first | (cases h; exact lv_fstore_n hx hb d rfl hl (by assumption) rfl (fun ls' h' => k ls' (lv_less h' (fun q hq => insv_mem hq)))) | cases h
  case h_6 => split at h <;> first | (cases h; exact lv_fstore hx hb d hl (by assumption) rfl (fun ls' h' => k ls' (lv_less h' (fun q hq => insv_mem hq)))) | cases h
  case h_7 => split at h <;> first | (cases h; exact lv_astore_n hx hb d rfl hl (by assumption) rfl (fun ls' h' => k ls' (lv_less h' (fun q hq => insv_mem hq)))) | cases h
  case h_8 => split at h <;> first | (cases h; exact lv_astore hx hb d hl (by assumption) rfl (fun ls' h' => k ls' (lv_less h' (fun q hq => insv_mem hq)))) | cases h
  case h_9 => cases h; exact lv_iadd hx hb d (k _ hl)
  case h_10 => cases h; exact lv_isub hx hb d (k _ hl)
  case h_11 => cases h; exact lv_imul hx hb d (k _ hl)
  case h_12 => cases h; exact lv_iand hx hb d (k _ hl)
  case h_13 => cases h; exact lv_ior hx hb d (k _ hl)
  case h_14 => cases h; exact lv_ixor hx hb d (k _ hl)
  case h_15 => cases h; exact lv_ishl hx hb d (k _ hl)
  case h_16 => cases h; exact lv_ishr hx hb d (k _ hl)
  case h_17 => cases h; exact lv_iushr hx hb d rfl (k _ hl)
  case h_18 => cases h
theorem st3_ok (hx : p.tables.exec = Jvm.exec) (hb : c.code = cc) (d : decode cc pc = .ok (i, len)) (h : st3 i len pc lv st = some (pc', lv', st')) (hl : lv_has ls nL lv) (k : ∀ ls', lv_has ls' nL lv' → W p l e R s m args below meth c H locs cells slots Q (F0 m pc' ls' st')) : W p l e R s m args below meth c H locs cells slots Q (F0 m pc ls st) := by
  unfold st3 at h
  split at h
  case h_1 => cases h; exact lv_ladd hx hb d (k _ hl)
  case h_2 => cases h; exact lv_lsub hx hb d (k _ hl)
  case h_3 => cases h; exact lv_lmul hx hb d (k _ hl)
  case h_4 => cases h; exact lv_land hx hb d (k _ hl)
  case h_5 => cases h; exact lv_lor hx hb d (k _ hl)
  case h_6 => cases h; exact lv_lxor hx hb d (k _ hl)
  case h_7 => cases h; exact lv_lshl hx hb d rfl (k _ hl)
  case h_8 => cases h; exact lv_lshr hx hb d rfl (k _ hl)
  case h_9 => cases h; exact lv_lushr hx hb d rfl (k _ hl)
  case h_10 => cases h; exact lv_lneg hx hb d (k _ hl)
  case h_11 => cases h; exact lv_i2l hx hb d rfl (k _ hl)
  case h_12 => cases h; exact lv_l2i hx hb d rfl (k _ hl)
  case h_13 => cases h; exact W.lcmp hx hb d (k _ hl)
  case h_14 => cases h; exact lv_i2f hx hb d (k _ hl)
  case h_15 => cases h; exact lv_f2i hx hb d (k _ hl)
  case h_16 => cases h; exact lv_fcmp hx hb d (k _ hl)
  case h_17 => split at h <;> first | (cases h; exact lv_dup hx hb d (by assumption) (k _ hl)) | cases h
  case h_18 => split at h <;> first | (cases h; exact lv_pop hx hb d (by assumption) (k _ hl)) | cases h
  case h_19 => cases h
theorem st4_ok (hx : p.tables.exec = Jvm.exec) (hb : c.code = cc) (d : decode cc pc = .ok (i, len)) (h : st4 i len pc lv st = some (pc', lv', st')) (hl : lv_has ls nL lv) (k : ∀ ls', lv_has ls' nL lv' → W p l e R s m args below meth c H locs cells slots Q (F0 m pc' ls' st')) : W p l e R s m args below meth c H locs cells slots Q (F0 m pc ls st) := by
  unfold st4 at h
  split at h
  case h_1 =>
    split at h
    · cases h; exact lv_dup2_2 hx hb d (by assumption) (k _ hl)
    · split at h
      · split at h
        · split at h
          · cases h; exact lv_dup2_11 hx hb d (by assumption) (by assumption) (k _ hl)
          · cases h
        · cases h
      · cases h
  case h_2 =>
    split at h
    · cases h; exact lv_fconst0 hx hb d (k _ hl)
    · cases h; exact lv_fconst1 hx hb d (k _ hl)
    · cases h; exact lv_fconst2 hx hb d (k _ hl)
  case h_3 => cases h
theorem stp_ok (hx : p.tables.exec = Jvm.exec) (hb : c.code = cc) (d : decode cc pc = .ok (i, len)) (h : stp nL i len pc lv st = some (pc', lv', st')) (hl : lv_has ls nL lv) (k : ∀ ls', lv_has ls' nL lv' → W p l e R s m args below meth c H locs cells slots Q (F0 m pc' ls' st')) : W p l e R s m args below meth c H locs cells slots Q (F0 m pc ls st) := by
  unfold stp at h
  split at h
  · rename_i r h1
    cases h
    exact st1_ok hx hb d h1 hl k
  · split at h
    · rename_i r h1
      cases h
      exact st2_ok hx hb d h1 hl k
    · split at h
      · rename_i r h1
        cases h
        exact st3_ok hx hb d h1 hl k
      · exact st4_ok hx hb d h hl k
end StepOk
