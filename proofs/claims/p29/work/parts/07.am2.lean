/-! THE ABSTRACT MACHINE, part 2: the method's context, the judgement SW, a row an instruction (own work, written by wip/tools/mk_am2.py) -/
section AMB
theorem am_ofInt (z : Nat) : Int32.ofInt (z : Int) = nI z := by
  first
    | rfl
    | exact Int32.ofInt_eq_ofNat
    | (unfold nI; simp)
def am_W : List Cond := lw_tbl.filter goodWord
theorem am_in {w : Cond} {i : Nat} (h : lw_tbl[i]? = some w) (g : goodWord w = true) : w ∈ am_W := List.mem_filter.mpr ⟨List.mem_of_getElem? h, g⟩
theorem am_good {w : Cond} (h : w ∈ am_W) : (w.onTables && w.keeps) = true ∨ ∃ ty, w = .arrayClass ty := good_of_word (List.mem_filter.mp h).2
def am_Xs : List String := ["java/lang/IllegalArgumentException", "java/lang/IndexOutOfBoundsException", "java/lang/IllegalStateException"]
def am_Ds : List MethodName := [⟨"java/lang/RuntimeException", "<init>", "()V"⟩, ⟨"java/lang/RuntimeException", "<init>", "(Ljava/lang/String;)V"⟩, ⟨"java/lang/Exception", "<init>", "()V"⟩, ⟨"java/lang/Exception", "<init>", "(Ljava/lang/String;)V"⟩, ⟨"java/lang/Throwable", "<init>", "()V"⟩, ⟨"java/lang/Throwable", "<init>", "(Ljava/lang/String;)V"⟩]
def am_nm : List String := ["ORDER", "CROSSED", "CROSSED_TOO", "FROM", "TO", "EQUALS", "SUM", "SUM_OR_SLASH", "SLASH", "DAYS", "NUMBER", "END", "WRONG"]
def am_F1 : List (String × String × String × List Int32) := [("java/lang/Enum", "ordinal", "I", [0, 1, 2, 3, 4, 5, 6, 7, 8, 9, 10, 11, 12])]
def am_map : List Int32 := [1, 2, 3, 5, 6, 7, 8, 9, 10, 11, 4, 12, 0]
def am_Str : List (Nat × String) := [(55, "the last day has come"), (158, "there is no snapshot in the slot"), (181, "what is not 0 to 4"), (205, "what is not 0 to 9"), (324, "there is no such islander"), (330, "there is no such colour"), (332, "there is no such promise"), (334, "both islanders are the same"), (336, "a number is out of range")]
def am_Nc : List (String × String) := [("java/lang/IllegalArgumentException", "java/lang/IndexOutOfBoundsException"), ("java/lang/IllegalStateException", "java/lang/IllegalArgumentException")]
/-- what a state bears from the start on: a throw's statics, the texts (the enum Step isn't reached) -/
def am_Env (al : am_A) (A : Nat → Prop) (U : State) (H : Heap) : Prop :=
  (vx_Zq Bundle.tN "UNASSIGNED_STACK" Bundle.steD A U H ∧ vx_Zq Bundle.tN "SUPPRESSED_SENTINEL" Bundle.listD A U H) ∧
  ((∀ X ∈ am_Xs, va_Nw (.castable X X) U) ∧ ∀ x ∈ am_Ds, va_Nw (.declares x) U) ∧ (∀ q ∈ am_Str, ∃ a, vk_R RX6 q.1 q.2 a U) ∧
  (am_le al al) ∧ True ∧ va_AO RX2 U ∧ va_Nw (.methodLinkNest RX6 25 yX5_init RX6) U ∧ va_Nw (.methodLinkNest RX6 32 yX4_init RX6) U
theorem am_Env.mono {al al' : am_A} (_h : am_le al al') {A : Nat → Prop} {U : State} {H : Heap} (g : am_Env al A U H) : am_Env al' A U H := by
  obtain ⟨h1, h2, h3, h4, h5⟩ := g
  exact ⟨h1, h2, h3, am_le.rf _, h5⟩
theorem am_Env.kept {al : am_A} {A : Nat → Prop} {U : State} {H H1 : Heap} (g : am_Env al A U H) (hq : ∀ a : Nat, a < H.size → ¬ A a → H1[a]? = H[a]?) : am_Env al A U H1 := by
  obtain ⟨⟨h1, h1b⟩, h2⟩ := g
  exact ⟨⟨h1.kept hq, h1b.kept hq⟩, h2⟩
theorem am_Env.narrow {al : am_A} {A B : Nat → Prop} {U : State} {H : Heap} (g : am_Env al A U H) (hAB : ∀ q, B q → A q) : am_Env al B U H := by
  obtain ⟨⟨h1, h1b⟩, h2⟩ := g
  exact ⟨⟨h1.narrow hAB, h1b.narrow hAB⟩, h2⟩
theorem am_Env.warm {al : am_A} {A : Nat → Prop} {s U : State} {H : Heap} (hW : s.WarmedH U.vm) (g : am_Env al A s H) : am_Env al A U H := by
  obtain ⟨⟨h1, h1b⟩, h2, h3, h4, h5, h9, h10, h11⟩ := g
  refine ⟨⟨vx_Zq.moved hW.alike h1, vx_Zq.moved hW.alike h1b⟩, ⟨fun X hX => va_Nw.warmC hW (h2.1 X hX), fun x hx => va_Nw.warmD hW (h2.2 x hx)⟩, fun q hq => ?_, h4, h5, h9.moved hW.alike, va_Nw.warmM hW h10, va_Nw.warmM hW h11⟩
  obtain ⟨a, ha⟩ := h3 q hq
  exact ⟨a, vk_R.warm hW ha⟩
/-- the law's own script -/
def am_Sc (sc : Option (Nat × (Nat → Int32))) (al : am_A) (A : Nat → Prop) (U : State) (H : Heap) : Prop := match sc with
  | none => True
  | some (L, xs) => ∃ b, al 1100 = some b ∧ va_X b L xs U H ∧ b < H.size ∧ ¬ A b
def am_Fix (y : MethodName) (cc : ByteArray) (nL : Nat) (ret : Option FieldType) (xt : List (Nat × Nat × Nat × Nat)) (lv : Nat) (sc : Option (Nat × (Nat → Int32))) (p : Program) (l : Launch) (R : Room) (s : State) (m : MethodId) (args : Array Value) (meth : Method) (c : Code) (D : va_G) (A : Nat → Prop) (al0 : am_A) : Prop :=
  p.tables.exec = Jvm.exec ∧ c.code = cc ∧ meth.sig.returnType = ret ∧ c.maxLocals = nL ∧ s.vm.findClass y.cls = some m.cls ∧ (∀ w ∈ am_W, w.before args s = true) ∧ meth.locks = false ∧ (y.name = "<init>" → meth.name = "<init>") ∧ l.stackTraces = false ∧ (∀ q, s.heap.size ≤ q → A q) ∧ va_K D vwCl [] s ∧ am_Env al0 A s s.heap ∧ am_Sc sc al0 A s s.heap ∧ lv ≤ R.frames ∧ 30 * lv + 62 ≤ R.locals ∧ c.exceptionTable.toList = tableOf xt
def am_ov (al : am_A) (v v' : Option Value) : Prop := match v with
  | none => v' = none
  | some x => ∃ x', v' = some x' ∧ am_v al x x'
def am_Q (D : va_G) (al : am_A) (A : Nat → Prop) (o : Option Value ⊕ String) (N' : Nat) (aw' : Nat → am_E) : Array Value → State → Outcome → State → Prop := fun _ st oc t =>
  (∃ (v v' : Option Value) (al' : am_A) (ws' : va_W), o = .inl v ∧ oc = .returned v' ∧ am_ov al' v v' ∧ am_le al al' ∧ va_P D vwCl ws' t.heap ∧ va_K D vwCl [] t ∧ va_D A ws' ∧ am_w t al' N' aw' ws') ∧ va_F A st t
def am_X (D : va_G) (al : am_A) (A : Nat → Prop) (o : Option Value ⊕ String) (N' : Nat) (aw' : Nat → am_E) : String → State → State → Prop := fun E st t =>
  (o = .inr E ∧ ∃ (al' : am_A) (ws' : va_W), am_le al al' ∧ va_P D vwCl ws' t.heap ∧ va_K D vwCl [] t ∧ va_D A ws' ∧ am_w t al' N' aw' ws') ∧ va_F A st t
/-- from here the method comes to its end with the outcome o, the world aw' of N' cells, at most k new cells of n slots -/
def SW (y : MethodName) (cc : ByteArray) (nL : Nat) (ret : Option FieldType) (xt : List (Nat × Nat × Nat × Nat)) (lv : Nat) (sc : Option (Nat × (Nat → Int32))) (pc : Nat) (lo : List (Option Value)) (st : List Value) (N : Nat) (aw : Nat → am_E) (k n : Nat) (o : Option Value ⊕ String) (N' : Nat) (aw' : Nat → am_E) : Prop :=
  ∀ (p : Program) (l : Launch) (e : Env) (R : Room) (s : State) (m : MethodId) (args : Array Value) (below : List Frame) (meth : Method) (c : Code) (H : Heap) (locs : List Loc) (cells slots kf nf : Nat) (D : va_G) (A : Nat → Prop) (al0 al : am_A) (ws : va_W) (ls : Array Slot) (st' : List Value),
    am_Fix y cc nL ret xt lv sc p l R s m args meth c D A al0 → cells + k ≤ kf → slots + n ≤ nf → kf ≤ R.cells → nf ≤ R.slots → am_le al0 al → va_P D vwCl ws H → va_D A ws → va_S A s.heap H locs → am_w s al N aw ws → am_L al ls nL lo → am_vs al st st' →
    W p l e R s m args below meth c H locs cells slots (vx_MQ below (am_Q D al0 A o N' aw') (am_X D al0 A o N' aw') args s kf nf A) (F0 m pc ls st')
variable {y : MethodName} {cc : ByteArray} {nL : Nat} {ret : Option FieldType} {xt : List (Nat × Nat × Nat × Nat)} {lv : Nat} {sc : Option (Nat × (Nat → Int32))} {pc : Nat} {lo : List (Option Value)} {st : List Value} {N : Nat} {aw : Nat → am_E} {k n : Nat} {o : Option Value ⊕ String} {N' : Nat} {aw' : Nat → am_E}

theorem sw_ic (z : Nat) (d : decode cc pc = .ok (.iconst (z : Int), 1))
    (k9 : SW y cc nL ret xt lv sc (pc + 1) (lo) (.int (nI z) :: st) (N) (aw) (k) (n) o N' aw') : SW y cc nL ret xt lv sc (pc) (lo) (st) (N) (aw) (k) (n) o N' aw' := by
  intro p l e R s m args below meth c H locs cells slots kf nf D A al0 al ws ls st' F hk hn hkR hnR hle hP hD hS hw hl hst
  obtain ⟨hx, hb, hr, hml, hown, hts, hlocks, hin, hfl, hA, hK, hE, hSc, hlv, hloc, hxt⟩ := id F
  exact lv_iconst (v := nI z) hx hb d (am_ofInt z) (k9 p l e R s m args below meth c H locs cells slots kf nf D A al0 al ws ls _ F hk hn hkR hnR hle hP hD hS hw hl ⟨_, _, rfl, rfl, hst⟩)
theorem sw_im1 (d : decode cc pc = .ok (.iconst (-1), 1))
    (k9 : SW y cc nL ret xt lv sc (pc + 1) (lo) (.int (-1) :: st) (N) (aw) (k) (n) o N' aw') : SW y cc nL ret xt lv sc (pc) (lo) (st) (N) (aw) (k) (n) o N' aw' := by
  intro p l e R s m args below meth c H locs cells slots kf nf D A al0 al ws ls st' F hk hn hkR hnR hle hP hD hS hw hl hst
  obtain ⟨hx, hb, hr, hml, hown, hts, hlocks, hin, hfl, hA, hK, hE, hSc, hlv, hloc, hxt⟩ := id F
  exact lv_iconst (v := -1) hx hb d (by decide) (k9 p l e R s m args below meth c H locs cells slots kf nf D A al0 al ws ls _ F hk hn hkR hnR hle hP hD hS hw hl ⟨_, _, rfl, rfl, hst⟩)
theorem sw_bi (z : Nat) (d : decode cc pc = .ok (.bipush (z : Int), 2)) (hz : (Int8.ofInt (z : Int)).toInt32 = nI z)
    (k9 : SW y cc nL ret xt lv sc (pc + 2) (lo) (.int (nI z) :: st) (N) (aw) (k) (n) o N' aw') : SW y cc nL ret xt lv sc (pc) (lo) (st) (N) (aw) (k) (n) o N' aw' := by
  intro p l e R s m args below meth c H locs cells slots kf nf D A al0 al ws ls st' F hk hn hkR hnR hle hP hD hS hw hl hst
  obtain ⟨hx, hb, hr, hml, hown, hts, hlocks, hin, hfl, hA, hK, hE, hSc, hlv, hloc, hxt⟩ := id F
  exact lv_bipush (v := nI z) hx hb d hz (k9 p l e R s m args below meth c H locs cells slots kf nf D A al0 al ws ls _ F hk hn hkR hnR hle hP hD hS hw hl ⟨_, _, rfl, rfl, hst⟩)
theorem sw_bineg {zi : Int} {v : Int32} (d : decode cc pc = .ok (.bipush zi, 2)) (hz : (Int8.ofInt zi).toInt32 = v)
    (k9 : SW y cc nL ret xt lv sc (pc + 2) (lo) (.int v :: st) (N) (aw) (k) (n) o N' aw') : SW y cc nL ret xt lv sc (pc) (lo) (st) (N) (aw) (k) (n) o N' aw' := by
  intro p l e R s m args below meth c H locs cells slots kf nf D A al0 al ws ls st' F hk hn hkR hnR hle hP hD hS hw hl hst
  obtain ⟨hx, hb, hr, hml, hown, hts, hlocks, hin, hfl, hA, hK, hE, hSc, hlv, hloc, hxt⟩ := id F
  exact lv_bipush hx hb d hz (k9 p l e R s m args below meth c H locs cells slots kf nf D A al0 al ws ls _ F hk hn hkR hnR hle hP hD hS hw hl ⟨_, _, rfl, rfl, hst⟩)
theorem sw_si (z : Nat) (d : decode cc pc = .ok (.sipush (z : Int), 3)) (hz : (Int16.ofInt (z : Int)).toInt32 = nI z)
    (k9 : SW y cc nL ret xt lv sc (pc + 3) (lo) (.int (nI z) :: st) (N) (aw) (k) (n) o N' aw') : SW y cc nL ret xt lv sc (pc) (lo) (st) (N) (aw) (k) (n) o N' aw' := by
  intro p l e R s m args below meth c H locs cells slots kf nf D A al0 al ws ls st' F hk hn hkR hnR hle hP hD hS hw hl hst
  obtain ⟨hx, hb, hr, hml, hown, hts, hlocks, hin, hfl, hA, hK, hE, hSc, hlv, hloc, hxt⟩ := id F
  exact lv_sipush (v := nI z) hx hb d hz (k9 p l e R s m args below meth c H locs cells slots kf nf D A al0 al ws ls _ F hk hn hkR hnR hle hP hD hS hw hl ⟨_, _, rfl, rfl, hst⟩)
theorem sw_lc {z : Fin 2} {v : Int64} (d : decode cc pc = .ok (.lconst z, 1)) (hv : Int64.ofNat (z : Nat) = v)
    (k9 : SW y cc nL ret xt lv sc (pc + 1) (lo) (.long v :: st) (N) (aw) (k) (n) o N' aw') : SW y cc nL ret xt lv sc (pc) (lo) (st) (N) (aw) (k) (n) o N' aw' := by
  intro p l e R s m args below meth c H locs cells slots kf nf D A al0 al ws ls st' F hk hn hkR hnR hle hP hD hS hw hl hst
  obtain ⟨hx, hb, hr, hml, hown, hts, hlocks, hin, hfl, hA, hK, hE, hSc, hlv, hloc, hxt⟩ := id F
  exact lv_lconst hx hb d hv (k9 p l e R s m args below meth c H locs cells slots kf nf D A al0 al ws ls _ F hk hn hkR hnR hle hP hD hS hw hl ⟨_, _, rfl, rfl, hst⟩)
theorem sw_dc0 (d : decode cc pc = .ok (.dconst 0, 1))
    (k9 : SW y cc nL ret xt lv sc (pc + 1) (lo) (.double 0 :: st) (N) (aw) (k) (n) o N' aw') : SW y cc nL ret xt lv sc (pc) (lo) (st) (N) (aw) (k) (n) o N' aw' := by
  intro p l e R s m args below meth c H locs cells slots kf nf D A al0 al ws ls st' F hk hn hkR hnR hle hP hD hS hw hl hst
  obtain ⟨hx, hb, hr, hml, hown, hts, hlocks, hin, hfl, hA, hK, hE, hSc, hlv, hloc, hxt⟩ := id F
  exact lv_dconst0 hx hb d (k9 p l e R s m args below meth c H locs cells slots kf nf D A al0 al ws ls _ F hk hn hkR hnR hle hP hD hS hw hl ⟨_, _, rfl, rfl, hst⟩)
theorem sw_dc1 (d : decode cc pc = .ok (.dconst 1, 1))
    (k9 : SW y cc nL ret xt lv sc (pc + 1) (lo) (.double FP.dconst1 :: st) (N) (aw) (k) (n) o N' aw') : SW y cc nL ret xt lv sc (pc) (lo) (st) (N) (aw) (k) (n) o N' aw' := by
  intro p l e R s m args below meth c H locs cells slots kf nf D A al0 al ws ls st' F hk hn hkR hnR hle hP hD hS hw hl hst
  obtain ⟨hx, hb, hr, hml, hown, hts, hlocks, hin, hfl, hA, hK, hE, hSc, hlv, hloc, hxt⟩ := id F
  exact lv_dconst1 hx hb d (k9 p l e R s m args below meth c H locs cells slots kf nf D A al0 al ws ls _ F hk hn hkR hnR hle hP hD hS hw hl ⟨_, _, rfl, rfl, hst⟩)
theorem sw_ldc {idx : Nat} {v : Int32} (hc : Cond.constant y.cls idx v ∈ am_W) (d : decode cc pc = .ok (.ldc idx, 2))
    (k9 : SW y cc nL ret xt lv sc (pc + 2) (lo) (.int v :: st) (N) (aw) (k) (n) o N' aw') : SW y cc nL ret xt lv sc (pc) (lo) (st) (N) (aw) (k) (n) o N' aw' := by
  intro p l e R s m args below meth c H locs cells slots kf nf D A al0 al ws ls st' F hk hn hkR hnR hle hP hD hS hw hl hst
  obtain ⟨hx, hb, hr, hml, hown, hts, hlocks, hin, hfl, hA, hK, hE, hSc, hlv, hloc, hxt⟩ := id F
  exact lv_ldc hx hb hown (hts _ hc) d (k9 p l e R s m args below meth c H locs cells slots kf nf D A al0 al ws ls _ F hk hn hkR hnR hle hP hD hS hw hl ⟨_, _, rfl, rfl, hst⟩)
theorem sw_ldc2 {idx : Nat} {v : Int64} (hc : Cond.constantLong y.cls idx v ∈ am_W) (d : decode cc pc = .ok (.ldc2_w idx, 3))
    (k9 : SW y cc nL ret xt lv sc (pc + 3) (lo) (.long v :: st) (N) (aw) (k) (n) o N' aw') : SW y cc nL ret xt lv sc (pc) (lo) (st) (N) (aw) (k) (n) o N' aw' := by
  intro p l e R s m args below meth c H locs cells slots kf nf D A al0 al ws ls st' F hk hn hkR hnR hle hP hD hS hw hl hst
  obtain ⟨hx, hb, hr, hml, hown, hts, hlocks, hin, hfl, hA, hK, hE, hSc, hlv, hloc, hxt⟩ := id F
  exact lv_ldc2 hx hb hown (hts _ hc) d (k9 p l e R s m args below meth c H locs cells slots kf nf D A al0 al ws ls _ F hk hn hkR hnR hle hP hD hS hw hl ⟨_, _, rfl, rfl, hst⟩)
theorem sw_ldc2d {idx : Nat} {v : UInt64} (hc : Cond.constantDouble y.cls idx v ∈ am_W) (d : decode cc pc = .ok (.ldc2_w idx, 3))
    (k9 : SW y cc nL ret xt lv sc (pc + 3) (lo) (.double v :: st) (N) (aw) (k) (n) o N' aw') : SW y cc nL ret xt lv sc (pc) (lo) (st) (N) (aw) (k) (n) o N' aw' := by
  intro p l e R s m args below meth c H locs cells slots kf nf D A al0 al ws ls st' F hk hn hkR hnR hle hP hD hS hw hl hst
  obtain ⟨hx, hb, hr, hml, hown, hts, hlocks, hin, hfl, hA, hK, hE, hSc, hlv, hloc, hxt⟩ := id F
  exact lv_ldc2d hx hb hown (hts _ hc) d (k9 p l e R s m args below meth c H locs cells slots kf nf D A al0 al ws ls _ F hk hn hkR hnR hle hP hD hS hw hl ⟨_, _, rfl, rfl, hst⟩)
theorem sw_iload_n {kk : Fin 4} {i : Nat} {x : Int32} (d : decode cc pc = .ok (.iload_n kk, 1)) (hi : (kk : Nat) = i) (h : am_nth lo i = some (.int x))
    (k9 : SW y cc nL ret xt lv sc (pc + 1) (lo) (.int x :: st) (N) (aw) (k) (n) o N' aw') : SW y cc nL ret xt lv sc (pc) (lo) (st) (N) (aw) (k) (n) o N' aw' := by
  intro p l e R s m args below meth c H locs cells slots kf nf D A al0 al ws ls st' F hk hn hkR hnR hle hP hD hS hw hl hst
  obtain ⟨hx, hb, hr, hml, hown, hts, hlocks, hin, hfl, hA, hK, hE, hSc, hlv, hloc, hxt⟩ := id F
  obtain ⟨v', g1, g2⟩ := hl.get h
  cases g1
  exact lv_iload_n hx hb d hi g2 (k9 p l e R s m args below meth c H locs cells slots kf nf D A al0 al ws ls _ F hk hn hkR hnR hle hP hD hS hw hl ⟨_, _, rfl, rfl, hst⟩)
theorem sw_iload {i : Nat} {x : Int32} (d : decode cc pc = .ok (.iload i, 2)) (h : am_nth lo i = some (.int x))
    (k9 : SW y cc nL ret xt lv sc (pc + 2) (lo) (.int x :: st) (N) (aw) (k) (n) o N' aw') : SW y cc nL ret xt lv sc (pc) (lo) (st) (N) (aw) (k) (n) o N' aw' := by
  intro p l e R s m args below meth c H locs cells slots kf nf D A al0 al ws ls st' F hk hn hkR hnR hle hP hD hS hw hl hst
  obtain ⟨hx, hb, hr, hml, hown, hts, hlocks, hin, hfl, hA, hK, hE, hSc, hlv, hloc, hxt⟩ := id F
  obtain ⟨v', g1, g2⟩ := hl.get h
  cases g1
  exact lv_iload hx hb d g2 (k9 p l e R s m args below meth c H locs cells slots kf nf D A al0 al ws ls _ F hk hn hkR hnR hle hP hD hS hw hl ⟨_, _, rfl, rfl, hst⟩)
theorem sw_lload_n {kk : Fin 4} {i : Nat} {x : Int64} (d : decode cc pc = .ok (.lload_n kk, 1)) (hi : (kk : Nat) = i) (h : am_nth lo i = some (.long x))
    (k9 : SW y cc nL ret xt lv sc (pc + 1) (lo) (.long x :: st) (N) (aw) (k) (n) o N' aw') : SW y cc nL ret xt lv sc (pc) (lo) (st) (N) (aw) (k) (n) o N' aw' := by
  intro p l e R s m args below meth c H locs cells slots kf nf D A al0 al ws ls st' F hk hn hkR hnR hle hP hD hS hw hl hst
  obtain ⟨hx, hb, hr, hml, hown, hts, hlocks, hin, hfl, hA, hK, hE, hSc, hlv, hloc, hxt⟩ := id F
  obtain ⟨v', g1, g2⟩ := hl.get h
  cases g1
  exact lv_lload_n hx hb d hi g2 (k9 p l e R s m args below meth c H locs cells slots kf nf D A al0 al ws ls _ F hk hn hkR hnR hle hP hD hS hw hl ⟨_, _, rfl, rfl, hst⟩)
theorem sw_lload {i : Nat} {x : Int64} (d : decode cc pc = .ok (.lload i, 2)) (h : am_nth lo i = some (.long x))
    (k9 : SW y cc nL ret xt lv sc (pc + 2) (lo) (.long x :: st) (N) (aw) (k) (n) o N' aw') : SW y cc nL ret xt lv sc (pc) (lo) (st) (N) (aw) (k) (n) o N' aw' := by
  intro p l e R s m args below meth c H locs cells slots kf nf D A al0 al ws ls st' F hk hn hkR hnR hle hP hD hS hw hl hst
  obtain ⟨hx, hb, hr, hml, hown, hts, hlocks, hin, hfl, hA, hK, hE, hSc, hlv, hloc, hxt⟩ := id F
  obtain ⟨v', g1, g2⟩ := hl.get h
  cases g1
  exact lv_lload hx hb d g2 (k9 p l e R s m args below meth c H locs cells slots kf nf D A al0 al ws ls _ F hk hn hkR hnR hle hP hD hS hw hl ⟨_, _, rfl, rfl, hst⟩)
theorem sw_dload_n {kk : Fin 4} {i : Nat} {x : UInt64} (d : decode cc pc = .ok (.dload_n kk, 1)) (hi : (kk : Nat) = i) (h : am_nth lo i = some (.double x))
    (k9 : SW y cc nL ret xt lv sc (pc + 1) (lo) (.double x :: st) (N) (aw) (k) (n) o N' aw') : SW y cc nL ret xt lv sc (pc) (lo) (st) (N) (aw) (k) (n) o N' aw' := by
  intro p l e R s m args below meth c H locs cells slots kf nf D A al0 al ws ls st' F hk hn hkR hnR hle hP hD hS hw hl hst
  obtain ⟨hx, hb, hr, hml, hown, hts, hlocks, hin, hfl, hA, hK, hE, hSc, hlv, hloc, hxt⟩ := id F
  obtain ⟨v', g1, g2⟩ := hl.get h
  cases g1
  exact lv_dload_n hx hb d hi g2 (k9 p l e R s m args below meth c H locs cells slots kf nf D A al0 al ws ls _ F hk hn hkR hnR hle hP hD hS hw hl ⟨_, _, rfl, rfl, hst⟩)
theorem sw_dload {i : Nat} {x : UInt64} (d : decode cc pc = .ok (.dload i, 2)) (h : am_nth lo i = some (.double x))
    (k9 : SW y cc nL ret xt lv sc (pc + 2) (lo) (.double x :: st) (N) (aw) (k) (n) o N' aw') : SW y cc nL ret xt lv sc (pc) (lo) (st) (N) (aw) (k) (n) o N' aw' := by
  intro p l e R s m args below meth c H locs cells slots kf nf D A al0 al ws ls st' F hk hn hkR hnR hle hP hD hS hw hl hst
  obtain ⟨hx, hb, hr, hml, hown, hts, hlocks, hin, hfl, hA, hK, hE, hSc, hlv, hloc, hxt⟩ := id F
  obtain ⟨v', g1, g2⟩ := hl.get h
  cases g1
  exact lv_dload hx hb d g2 (k9 p l e R s m args below meth c H locs cells slots kf nf D A al0 al ws ls _ F hk hn hkR hnR hle hP hD hS hw hl ⟨_, _, rfl, rfl, hst⟩)
theorem sw_aload_n {kk : Fin 4} {i : Nat} {x : Nat} (d : decode cc pc = .ok (.aload_n kk, 1)) (hi : (kk : Nat) = i) (h : am_nth lo i = some (.ref x))
    (k9 : SW y cc nL ret xt lv sc (pc + 1) (lo) (.ref x :: st) (N) (aw) (k) (n) o N' aw') : SW y cc nL ret xt lv sc (pc) (lo) (st) (N) (aw) (k) (n) o N' aw' := by
  intro p l e R s m args below meth c H locs cells slots kf nf D A al0 al ws ls st' F hk hn hkR hnR hle hP hD hS hw hl hst
  obtain ⟨hx, hb, hr, hml, hown, hts, hlocks, hin, hfl, hA, hK, hE, hSc, hlv, hloc, hxt⟩ := id F
  obtain ⟨v', ⟨a, g1, rfl⟩, g2⟩ := hl.get h
  exact lv_aload_n hx hb d hi g2 (k9 p l e R s m args below meth c H locs cells slots kf nf D A al0 al ws ls _ F hk hn hkR hnR hle hP hD hS hw hl ⟨_, _, rfl, ⟨a, g1, rfl⟩, hst⟩)
theorem sw_aload {i : Nat} {x : Nat} (d : decode cc pc = .ok (.aload i, 2)) (h : am_nth lo i = some (.ref x))
    (k9 : SW y cc nL ret xt lv sc (pc + 2) (lo) (.ref x :: st) (N) (aw) (k) (n) o N' aw') : SW y cc nL ret xt lv sc (pc) (lo) (st) (N) (aw) (k) (n) o N' aw' := by
  intro p l e R s m args below meth c H locs cells slots kf nf D A al0 al ws ls st' F hk hn hkR hnR hle hP hD hS hw hl hst
  obtain ⟨hx, hb, hr, hml, hown, hts, hlocks, hin, hfl, hA, hK, hE, hSc, hlv, hloc, hxt⟩ := id F
  obtain ⟨v', ⟨a, g1, rfl⟩, g2⟩ := hl.get h
  exact lv_aload hx hb d g2 (k9 p l e R s m args below meth c H locs cells slots kf nf D A al0 al ws ls _ F hk hn hkR hnR hle hP hD hS hw hl ⟨_, _, rfl, ⟨a, g1, rfl⟩, hst⟩)
theorem sw_istore_n {kk : Fin 4} {i : Nat} {x : Int32} (d : decode cc pc = .ok (.istore_n kk, 1)) (hi : (kk : Nat) = i) (hi2 : i < nL) (hc : am_c1 lo i = true)
    (k9 : SW y cc nL ret xt lv sc (pc + 1) (am_st lo i (some (.int x))) (st) (N) (aw) (k) (n) o N' aw') : SW y cc nL ret xt lv sc (pc) (lo) (.int x :: st) (N) (aw) (k) (n) o N' aw' := by
  intro p l e R s m args below meth c H locs cells slots kf nf D A al0 al ws ls st' F hk hn hkR hnR hle hP hD hS hw hl hst
  obtain ⟨hx, hb, hr, hml, hown, hts, hlocks, hin, hfl, hA, hK, hE, hSc, hlv, hloc, hxt⟩ := id F
  obtain ⟨w0, r0, rfl, h0, hst⟩ := hst
  cases h0
  obtain ⟨lv9, h1, h2⟩ := hl
  exact lv_istore_n hx hb d hi h1 hi2 rfl (fun ls2 hlv2 => k9 p l e R s m args below meth c H locs cells slots kf nf D A al0 al ws ls2 _ F hk hn hkR hnR hle hP hD hS hw (am_L.st1 h2 (v := .int x) rfl hc hlv2) hst)
theorem sw_istore {i : Nat} {x : Int32} (d : decode cc pc = .ok (.istore i, 2)) (hi2 : i < nL) (hc : am_c1 lo i = true)
    (k9 : SW y cc nL ret xt lv sc (pc + 2) (am_st lo i (some (.int x))) (st) (N) (aw) (k) (n) o N' aw') : SW y cc nL ret xt lv sc (pc) (lo) (.int x :: st) (N) (aw) (k) (n) o N' aw' := by
  intro p l e R s m args below meth c H locs cells slots kf nf D A al0 al ws ls st' F hk hn hkR hnR hle hP hD hS hw hl hst
  obtain ⟨hx, hb, hr, hml, hown, hts, hlocks, hin, hfl, hA, hK, hE, hSc, hlv, hloc, hxt⟩ := id F
  obtain ⟨w0, r0, rfl, h0, hst⟩ := hst
  cases h0
  obtain ⟨lv9, h1, h2⟩ := hl
  exact lv_istore hx hb d h1 hi2 rfl (fun ls2 hlv2 => k9 p l e R s m args below meth c H locs cells slots kf nf D A al0 al ws ls2 _ F hk hn hkR hnR hle hP hD hS hw (am_L.st1 h2 (v := .int x) rfl hc hlv2) hst)
theorem sw_lstore_n {kk : Fin 4} {i : Nat} {x : Int64} (d : decode cc pc = .ok (.lstore_n kk, 1)) (hi : (kk : Nat) = i) (hi2 : i + 1 < nL) (hc : am_c1 lo i = true)
    (k9 : SW y cc nL ret xt lv sc (pc + 1) (am_st (am_st lo i (some (.long x))) (i + 1) none) (st) (N) (aw) (k) (n) o N' aw') : SW y cc nL ret xt lv sc (pc) (lo) (.long x :: st) (N) (aw) (k) (n) o N' aw' := by
  intro p l e R s m args below meth c H locs cells slots kf nf D A al0 al ws ls st' F hk hn hkR hnR hle hP hD hS hw hl hst
  obtain ⟨hx, hb, hr, hml, hown, hts, hlocks, hin, hfl, hA, hK, hE, hSc, hlv, hloc, hxt⟩ := id F
  obtain ⟨w0, r0, rfl, h0, hst⟩ := hst
  cases h0
  obtain ⟨lv9, h1, h2⟩ := hl
  exact lv_lstore_n hx hb d hi h1 hi2 rfl (fun ls2 hlv2 => k9 p l e R s m args below meth c H locs cells slots kf nf D A al0 al ws ls2 _ F hk hn hkR hnR hle hP hD hS hw (am_L.st2 h2 (v := .long x) rfl hc hlv2) hst)
theorem sw_lstore {i : Nat} {x : Int64} (d : decode cc pc = .ok (.lstore i, 2)) (hi2 : i + 1 < nL) (hc : am_c1 lo i = true)
    (k9 : SW y cc nL ret xt lv sc (pc + 2) (am_st (am_st lo i (some (.long x))) (i + 1) none) (st) (N) (aw) (k) (n) o N' aw') : SW y cc nL ret xt lv sc (pc) (lo) (.long x :: st) (N) (aw) (k) (n) o N' aw' := by
  intro p l e R s m args below meth c H locs cells slots kf nf D A al0 al ws ls st' F hk hn hkR hnR hle hP hD hS hw hl hst
  obtain ⟨hx, hb, hr, hml, hown, hts, hlocks, hin, hfl, hA, hK, hE, hSc, hlv, hloc, hxt⟩ := id F
  obtain ⟨w0, r0, rfl, h0, hst⟩ := hst
  cases h0
  obtain ⟨lv9, h1, h2⟩ := hl
  exact lv_lstore hx hb d h1 hi2 rfl (fun ls2 hlv2 => k9 p l e R s m args below meth c H locs cells slots kf nf D A al0 al ws ls2 _ F hk hn hkR hnR hle hP hD hS hw (am_L.st2 h2 (v := .long x) rfl hc hlv2) hst)
theorem sw_dstore_n {kk : Fin 4} {i : Nat} {x : UInt64} (d : decode cc pc = .ok (.dstore_n kk, 1)) (hi : (kk : Nat) = i) (hi2 : i + 1 < nL) (hc : am_c1 lo i = true)
    (k9 : SW y cc nL ret xt lv sc (pc + 1) (am_st (am_st lo i (some (.double x))) (i + 1) none) (st) (N) (aw) (k) (n) o N' aw') : SW y cc nL ret xt lv sc (pc) (lo) (.double x :: st) (N) (aw) (k) (n) o N' aw' := by
  intro p l e R s m args below meth c H locs cells slots kf nf D A al0 al ws ls st' F hk hn hkR hnR hle hP hD hS hw hl hst
  obtain ⟨hx, hb, hr, hml, hown, hts, hlocks, hin, hfl, hA, hK, hE, hSc, hlv, hloc, hxt⟩ := id F
  obtain ⟨w0, r0, rfl, h0, hst⟩ := hst
  cases h0
  obtain ⟨lv9, h1, h2⟩ := hl
  exact lv_dstore_n hx hb d hi h1 hi2 rfl (fun ls2 hlv2 => k9 p l e R s m args below meth c H locs cells slots kf nf D A al0 al ws ls2 _ F hk hn hkR hnR hle hP hD hS hw (am_L.st2 h2 (v := .double x) rfl hc hlv2) hst)
theorem sw_dstore {i : Nat} {x : UInt64} (d : decode cc pc = .ok (.dstore i, 2)) (hi2 : i + 1 < nL) (hc : am_c1 lo i = true)
    (k9 : SW y cc nL ret xt lv sc (pc + 2) (am_st (am_st lo i (some (.double x))) (i + 1) none) (st) (N) (aw) (k) (n) o N' aw') : SW y cc nL ret xt lv sc (pc) (lo) (.double x :: st) (N) (aw) (k) (n) o N' aw' := by
  intro p l e R s m args below meth c H locs cells slots kf nf D A al0 al ws ls st' F hk hn hkR hnR hle hP hD hS hw hl hst
  obtain ⟨hx, hb, hr, hml, hown, hts, hlocks, hin, hfl, hA, hK, hE, hSc, hlv, hloc, hxt⟩ := id F
  obtain ⟨w0, r0, rfl, h0, hst⟩ := hst
  cases h0
  obtain ⟨lv9, h1, h2⟩ := hl
  exact lv_dstore hx hb d h1 hi2 rfl (fun ls2 hlv2 => k9 p l e R s m args below meth c H locs cells slots kf nf D A al0 al ws ls2 _ F hk hn hkR hnR hle hP hD hS hw (am_L.st2 h2 (v := .double x) rfl hc hlv2) hst)
theorem sw_astore_n {kk : Fin 4} {i : Nat} {x : Nat} (d : decode cc pc = .ok (.astore_n kk, 1)) (hi : (kk : Nat) = i) (hi2 : i < nL) (hc : am_c1 lo i = true)
    (k9 : SW y cc nL ret xt lv sc (pc + 1) (am_st lo i (some (.ref x))) (st) (N) (aw) (k) (n) o N' aw') : SW y cc nL ret xt lv sc (pc) (lo) (.ref x :: st) (N) (aw) (k) (n) o N' aw' := by
  intro p l e R s m args below meth c H locs cells slots kf nf D A al0 al ws ls st' F hk hn hkR hnR hle hP hD hS hw hl hst
  obtain ⟨hx, hb, hr, hml, hown, hts, hlocks, hin, hfl, hA, hK, hE, hSc, hlv, hloc, hxt⟩ := id F
  obtain ⟨w0, r0, rfl, h0, hst⟩ := hst
  obtain ⟨a, g1, rfl⟩ := h0
  obtain ⟨lv9, h1, h2⟩ := hl
  exact lv_astore_n hx hb d hi h1 hi2 rfl (fun ls2 hlv2 => k9 p l e R s m args below meth c H locs cells slots kf nf D A al0 al ws ls2 _ F hk hn hkR hnR hle hP hD hS hw (am_L.st1 h2 (v := .ref x) ⟨a, g1, rfl⟩ hc hlv2) hst)
theorem sw_astore {i : Nat} {x : Nat} (d : decode cc pc = .ok (.astore i, 2)) (hi2 : i < nL) (hc : am_c1 lo i = true)
    (k9 : SW y cc nL ret xt lv sc (pc + 2) (am_st lo i (some (.ref x))) (st) (N) (aw) (k) (n) o N' aw') : SW y cc nL ret xt lv sc (pc) (lo) (.ref x :: st) (N) (aw) (k) (n) o N' aw' := by
  intro p l e R s m args below meth c H locs cells slots kf nf D A al0 al ws ls st' F hk hn hkR hnR hle hP hD hS hw hl hst
  obtain ⟨hx, hb, hr, hml, hown, hts, hlocks, hin, hfl, hA, hK, hE, hSc, hlv, hloc, hxt⟩ := id F
  obtain ⟨w0, r0, rfl, h0, hst⟩ := hst
  obtain ⟨a, g1, rfl⟩ := h0
  obtain ⟨lv9, h1, h2⟩ := hl
  exact lv_astore hx hb d h1 hi2 rfl (fun ls2 hlv2 => k9 p l e R s m args below meth c H locs cells slots kf nf D A al0 al ws ls2 _ F hk hn hkR hnR hle hP hD hS hw (am_L.st1 h2 (v := .ref x) ⟨a, g1, rfl⟩ hc hlv2) hst)
theorem sw_iinc {i : Nat} {z : Int} {x v : Int32} (d : decode cc pc = .ok (.iinc i z, 3)) (h : am_nth lo i = some (.int x)) (hv : x + Int32.ofInt z = v) (hi2 : i < nL) (hc : am_c1 lo i = true)
    (k9 : SW y cc nL ret xt lv sc (pc + 3) (am_st lo i (some (.int v))) (st) (N) (aw) (k) (n) o N' aw') : SW y cc nL ret xt lv sc (pc) (lo) (st) (N) (aw) (k) (n) o N' aw' := by
  intro p l e R s m args below meth c H locs cells slots kf nf D A al0 al ws ls st' F hk hn hkR hnR hle hP hD hS hw hl hst
  obtain ⟨hx, hb, hr, hml, hown, hts, hlocks, hin, hfl, hA, hK, hE, hSc, hlv, hloc, hxt⟩ := id F
  obtain ⟨lv9, h1, h2⟩ := hl
  obtain ⟨v', g1, g2⟩ := h2 i _ h
  cases g1
  obtain ⟨j, hj⟩ := List.getElem?_of_mem g2
  exact lv_iinc hx hb d h1 hj hv hi2 rfl (fun ls2 hlv2 => k9 p l e R s m args below meth c H locs cells slots kf nf D A al0 al ws ls2 _ F hk hn hkR hnR hle hP hD hS hw (am_L.st1 h2 (v := .int v) rfl hc hlv2) hst)
theorem sw_iadd {x y9 : Int32} (d : decode cc pc = .ok (.iadd, 1))
    (k9 : SW y cc nL ret xt lv sc (pc + 1) (lo) (.int (x + y9) :: st) (N) (aw) (k) (n) o N' aw') : SW y cc nL ret xt lv sc (pc) (lo) (.int y9 :: .int x :: st) (N) (aw) (k) (n) o N' aw' := by
  intro p l e R s m args below meth c H locs cells slots kf nf D A al0 al ws ls st' F hk hn hkR hnR hle hP hD hS hw hl hst
  obtain ⟨hx, hb, hr, hml, hown, hts, hlocks, hin, hfl, hA, hK, hE, hSc, hlv, hloc, hxt⟩ := id F
  obtain ⟨w0, r0, rfl, h0, hst⟩ := hst
  obtain ⟨w1, r1, rfl, h1, hst⟩ := hst
  cases h0; cases h1
  exact lv_iadd hx hb d (k9 p l e R s m args below meth c H locs cells slots kf nf D A al0 al ws ls _ F hk hn hkR hnR hle hP hD hS hw hl ⟨_, _, rfl, rfl, hst⟩)
theorem sw_isub {x y9 : Int32} (d : decode cc pc = .ok (.isub, 1))
    (k9 : SW y cc nL ret xt lv sc (pc + 1) (lo) (.int (x - y9) :: st) (N) (aw) (k) (n) o N' aw') : SW y cc nL ret xt lv sc (pc) (lo) (.int y9 :: .int x :: st) (N) (aw) (k) (n) o N' aw' := by
  intro p l e R s m args below meth c H locs cells slots kf nf D A al0 al ws ls st' F hk hn hkR hnR hle hP hD hS hw hl hst
  obtain ⟨hx, hb, hr, hml, hown, hts, hlocks, hin, hfl, hA, hK, hE, hSc, hlv, hloc, hxt⟩ := id F
  obtain ⟨w0, r0, rfl, h0, hst⟩ := hst
  obtain ⟨w1, r1, rfl, h1, hst⟩ := hst
  cases h0; cases h1
  exact lv_isub hx hb d (k9 p l e R s m args below meth c H locs cells slots kf nf D A al0 al ws ls _ F hk hn hkR hnR hle hP hD hS hw hl ⟨_, _, rfl, rfl, hst⟩)
theorem sw_imul {x y9 : Int32} (d : decode cc pc = .ok (.imul, 1))
    (k9 : SW y cc nL ret xt lv sc (pc + 1) (lo) (.int (x * y9) :: st) (N) (aw) (k) (n) o N' aw') : SW y cc nL ret xt lv sc (pc) (lo) (.int y9 :: .int x :: st) (N) (aw) (k) (n) o N' aw' := by
  intro p l e R s m args below meth c H locs cells slots kf nf D A al0 al ws ls st' F hk hn hkR hnR hle hP hD hS hw hl hst
  obtain ⟨hx, hb, hr, hml, hown, hts, hlocks, hin, hfl, hA, hK, hE, hSc, hlv, hloc, hxt⟩ := id F
  obtain ⟨w0, r0, rfl, h0, hst⟩ := hst
  obtain ⟨w1, r1, rfl, h1, hst⟩ := hst
  cases h0; cases h1
  exact lv_imul hx hb d (k9 p l e R s m args below meth c H locs cells slots kf nf D A al0 al ws ls _ F hk hn hkR hnR hle hP hD hS hw hl ⟨_, _, rfl, rfl, hst⟩)
theorem sw_iand {x y9 : Int32} (d : decode cc pc = .ok (.iand, 1))
    (k9 : SW y cc nL ret xt lv sc (pc + 1) (lo) (.int (x &&& y9) :: st) (N) (aw) (k) (n) o N' aw') : SW y cc nL ret xt lv sc (pc) (lo) (.int y9 :: .int x :: st) (N) (aw) (k) (n) o N' aw' := by
  intro p l e R s m args below meth c H locs cells slots kf nf D A al0 al ws ls st' F hk hn hkR hnR hle hP hD hS hw hl hst
  obtain ⟨hx, hb, hr, hml, hown, hts, hlocks, hin, hfl, hA, hK, hE, hSc, hlv, hloc, hxt⟩ := id F
  obtain ⟨w0, r0, rfl, h0, hst⟩ := hst
  obtain ⟨w1, r1, rfl, h1, hst⟩ := hst
  cases h0; cases h1
  exact lv_iand hx hb d (k9 p l e R s m args below meth c H locs cells slots kf nf D A al0 al ws ls _ F hk hn hkR hnR hle hP hD hS hw hl ⟨_, _, rfl, rfl, hst⟩)
theorem sw_ladd {x y9 : Int64} (d : decode cc pc = .ok (.ladd, 1))
    (k9 : SW y cc nL ret xt lv sc (pc + 1) (lo) (.long (x + y9) :: st) (N) (aw) (k) (n) o N' aw') : SW y cc nL ret xt lv sc (pc) (lo) (.long y9 :: .long x :: st) (N) (aw) (k) (n) o N' aw' := by
  intro p l e R s m args below meth c H locs cells slots kf nf D A al0 al ws ls st' F hk hn hkR hnR hle hP hD hS hw hl hst
  obtain ⟨hx, hb, hr, hml, hown, hts, hlocks, hin, hfl, hA, hK, hE, hSc, hlv, hloc, hxt⟩ := id F
  obtain ⟨w0, r0, rfl, h0, hst⟩ := hst
  obtain ⟨w1, r1, rfl, h1, hst⟩ := hst
  cases h0; cases h1
  exact lv_ladd hx hb d (k9 p l e R s m args below meth c H locs cells slots kf nf D A al0 al ws ls _ F hk hn hkR hnR hle hP hD hS hw hl ⟨_, _, rfl, rfl, hst⟩)
theorem sw_lsub {x y9 : Int64} (d : decode cc pc = .ok (.lsub, 1))
    (k9 : SW y cc nL ret xt lv sc (pc + 1) (lo) (.long (x - y9) :: st) (N) (aw) (k) (n) o N' aw') : SW y cc nL ret xt lv sc (pc) (lo) (.long y9 :: .long x :: st) (N) (aw) (k) (n) o N' aw' := by
  intro p l e R s m args below meth c H locs cells slots kf nf D A al0 al ws ls st' F hk hn hkR hnR hle hP hD hS hw hl hst
  obtain ⟨hx, hb, hr, hml, hown, hts, hlocks, hin, hfl, hA, hK, hE, hSc, hlv, hloc, hxt⟩ := id F
  obtain ⟨w0, r0, rfl, h0, hst⟩ := hst
  obtain ⟨w1, r1, rfl, h1, hst⟩ := hst
  cases h0; cases h1
  exact lv_lsub hx hb d (k9 p l e R s m args below meth c H locs cells slots kf nf D A al0 al ws ls _ F hk hn hkR hnR hle hP hD hS hw hl ⟨_, _, rfl, rfl, hst⟩)
theorem sw_lmul {x y9 : Int64} (d : decode cc pc = .ok (.lmul, 1))
    (k9 : SW y cc nL ret xt lv sc (pc + 1) (lo) (.long (x * y9) :: st) (N) (aw) (k) (n) o N' aw') : SW y cc nL ret xt lv sc (pc) (lo) (.long y9 :: .long x :: st) (N) (aw) (k) (n) o N' aw' := by
  intro p l e R s m args below meth c H locs cells slots kf nf D A al0 al ws ls st' F hk hn hkR hnR hle hP hD hS hw hl hst
  obtain ⟨hx, hb, hr, hml, hown, hts, hlocks, hin, hfl, hA, hK, hE, hSc, hlv, hloc, hxt⟩ := id F
  obtain ⟨w0, r0, rfl, h0, hst⟩ := hst
  obtain ⟨w1, r1, rfl, h1, hst⟩ := hst
  cases h0; cases h1
  exact lv_lmul hx hb d (k9 p l e R s m args below meth c H locs cells slots kf nf D A al0 al ws ls _ F hk hn hkR hnR hle hP hD hS hw hl ⟨_, _, rfl, rfl, hst⟩)
theorem sw_ior {x y9 v : Int32} (hv : x ||| y9 = v) (d : decode cc pc = .ok (.ior, 1))
    (k9 : SW y cc nL ret xt lv sc (pc + 1) (lo) (.int v :: st) (N) (aw) (k) (n) o N' aw') : SW y cc nL ret xt lv sc (pc) (lo) (.int y9 :: .int x :: st) (N) (aw) (k) (n) o N' aw' := by
  intro p l e R s m args below meth c H locs cells slots kf nf D A al0 al ws ls st' F hk hn hkR hnR hle hP hD hS hw hl hst
  obtain ⟨hx, hb, hr, hml, hown, hts, hlocks, hin, hfl, hA, hK, hE, hSc, hlv, hloc, hxt⟩ := id F
  obtain ⟨w0, r0, rfl, h0, hst⟩ := hst
  obtain ⟨w1, r1, rfl, h1, hst⟩ := hst
  cases h0; cases h1
  subst hv
  exact lv_ior hx hb d (k9 p l e R s m args below meth c H locs cells slots kf nf D A al0 al ws ls _ F hk hn hkR hnR hle hP hD hS hw hl ⟨_, _, rfl, rfl, hst⟩)
theorem sw_ishl {x y9 v : Int32} (hv : x <<< (y9 &&& 31) = v) (d : decode cc pc = .ok (.ishl, 1))
    (k9 : SW y cc nL ret xt lv sc (pc + 1) (lo) (.int v :: st) (N) (aw) (k) (n) o N' aw') : SW y cc nL ret xt lv sc (pc) (lo) (.int y9 :: .int x :: st) (N) (aw) (k) (n) o N' aw' := by
  intro p l e R s m args below meth c H locs cells slots kf nf D A al0 al ws ls st' F hk hn hkR hnR hle hP hD hS hw hl hst
  obtain ⟨hx, hb, hr, hml, hown, hts, hlocks, hin, hfl, hA, hK, hE, hSc, hlv, hloc, hxt⟩ := id F
  obtain ⟨w0, r0, rfl, h0, hst⟩ := hst
  obtain ⟨w1, r1, rfl, h1, hst⟩ := hst
  cases h0; cases h1
  subst hv
  exact lv_ishl hx hb d (k9 p l e R s m args below meth c H locs cells slots kf nf D A al0 al ws ls _ F hk hn hkR hnR hle hP hD hS hw hl ⟨_, _, rfl, rfl, hst⟩)
theorem sw_ishr {x y9 v : Int32} (hv : x >>> (y9 &&& 31) = v) (d : decode cc pc = .ok (.ishr, 1))
    (k9 : SW y cc nL ret xt lv sc (pc + 1) (lo) (.int v :: st) (N) (aw) (k) (n) o N' aw') : SW y cc nL ret xt lv sc (pc) (lo) (.int y9 :: .int x :: st) (N) (aw) (k) (n) o N' aw' := by
  intro p l e R s m args below meth c H locs cells slots kf nf D A al0 al ws ls st' F hk hn hkR hnR hle hP hD hS hw hl hst
  obtain ⟨hx, hb, hr, hml, hown, hts, hlocks, hin, hfl, hA, hK, hE, hSc, hlv, hloc, hxt⟩ := id F
  obtain ⟨w0, r0, rfl, h0, hst⟩ := hst
  obtain ⟨w1, r1, rfl, h1, hst⟩ := hst
  cases h0; cases h1
  subst hv
  exact lv_ishr hx hb d (k9 p l e R s m args below meth c H locs cells slots kf nf D A al0 al ws ls _ F hk hn hkR hnR hle hP hD hS hw hl ⟨_, _, rfl, rfl, hst⟩)
theorem sw_idiv {x y9 : Int32} (hne : ¬ y9 = 0) (d : decode cc pc = .ok (.idiv, 1))
    (k9 : SW y cc nL ret xt lv sc (pc + 1) (lo) (.int (x / y9) :: st) (N) (aw) (k) (n) o N' aw') : SW y cc nL ret xt lv sc (pc) (lo) (.int y9 :: .int x :: st) (N) (aw) (k) (n) o N' aw' := by
  intro p l e R s m args below meth c H locs cells slots kf nf D A al0 al ws ls st' F hk hn hkR hnR hle hP hD hS hw hl hst
  obtain ⟨hx, hb, hr, hml, hown, hts, hlocks, hin, hfl, hA, hK, hE, hSc, hlv, hloc, hxt⟩ := id F
  obtain ⟨w0, r0, rfl, h0, hst⟩ := hst
  obtain ⟨w1, r1, rfl, h1, hst⟩ := hst
  cases h0; cases h1
  exact lv_idiv hx hb d hne (k9 p l e R s m args below meth c H locs cells slots kf nf D A al0 al ws ls _ F hk hn hkR hnR hle hP hD hS hw hl ⟨_, _, rfl, rfl, hst⟩)
theorem sw_irem {x y9 : Int32} (hne : ¬ y9 = 0) (d : decode cc pc = .ok (.irem, 1))
    (k9 : SW y cc nL ret xt lv sc (pc + 1) (lo) (.int (x - x / y9 * y9) :: st) (N) (aw) (k) (n) o N' aw') : SW y cc nL ret xt lv sc (pc) (lo) (.int y9 :: .int x :: st) (N) (aw) (k) (n) o N' aw' := by
  intro p l e R s m args below meth c H locs cells slots kf nf D A al0 al ws ls st' F hk hn hkR hnR hle hP hD hS hw hl hst
  obtain ⟨hx, hb, hr, hml, hown, hts, hlocks, hin, hfl, hA, hK, hE, hSc, hlv, hloc, hxt⟩ := id F
  obtain ⟨w0, r0, rfl, h0, hst⟩ := hst
  obtain ⟨w1, r1, rfl, h1, hst⟩ := hst
  cases h0; cases h1
  exact lv_irem hx hb d hne (k9 p l e R s m args below meth c H locs cells slots kf nf D A al0 al ws ls _ F hk hn hkR hnR hle hP hD hS hw hl ⟨_, _, rfl, rfl, hst⟩)
theorem sw_ineg {x : Int32} (d : decode cc pc = .ok (.ineg, 1))
    (k9 : SW y cc nL ret xt lv sc (pc + 1) (lo) (.int (-x) :: st) (N) (aw) (k) (n) o N' aw') : SW y cc nL ret xt lv sc (pc) (lo) (.int x :: st) (N) (aw) (k) (n) o N' aw' := by
  intro p l e R s m args below meth c H locs cells slots kf nf D A al0 al ws ls st' F hk hn hkR hnR hle hP hD hS hw hl hst
  obtain ⟨hx, hb, hr, hml, hown, hts, hlocks, hin, hfl, hA, hK, hE, hSc, hlv, hloc, hxt⟩ := id F
  obtain ⟨w0, r0, rfl, h0, hst⟩ := hst
  cases h0
  exact lv_ineg hx hb d (k9 p l e R s m args below meth c H locs cells slots kf nf D A al0 al ws ls _ F hk hn hkR hnR hle hP hD hS hw hl ⟨_, _, rfl, rfl, hst⟩)
theorem sw_i2l {x : Int32} (d : decode cc pc = .ok (.i2l, 1))
    (k9 : SW y cc nL ret xt lv sc (pc + 1) (lo) (.long x.toInt64 :: st) (N) (aw) (k) (n) o N' aw') : SW y cc nL ret xt lv sc (pc) (lo) (.int x :: st) (N) (aw) (k) (n) o N' aw' := by
  intro p l e R s m args below meth c H locs cells slots kf nf D A al0 al ws ls st' F hk hn hkR hnR hle hP hD hS hw hl hst
  obtain ⟨hx, hb, hr, hml, hown, hts, hlocks, hin, hfl, hA, hK, hE, hSc, hlv, hloc, hxt⟩ := id F
  obtain ⟨w0, r0, rfl, h0, hst⟩ := hst
  cases h0
  exact lv_i2l hx hb d rfl (k9 p l e R s m args below meth c H locs cells slots kf nf D A al0 al ws ls _ F hk hn hkR hnR hle hP hD hS hw hl ⟨_, _, rfl, rfl, hst⟩)
theorem sw_i2c {x v : Int32} (d : decode cc pc = .ok (.i2c, 1)) (hv : (x.toUInt32 % 65536).toInt32 = v)
    (k9 : SW y cc nL ret xt lv sc (pc + 1) (lo) (.int v :: st) (N) (aw) (k) (n) o N' aw') : SW y cc nL ret xt lv sc (pc) (lo) (.int x :: st) (N) (aw) (k) (n) o N' aw' := by
  intro p l e R s m args below meth c H locs cells slots kf nf D A al0 al ws ls st' F hk hn hkR hnR hle hP hD hS hw hl hst
  obtain ⟨hx, hb, hr, hml, hown, hts, hlocks, hin, hfl, hA, hK, hE, hSc, hlv, hloc, hxt⟩ := id F
  obtain ⟨w0, r0, rfl, h0, hst⟩ := hst
  cases h0
  exact lv_i2c hx hb d hv (k9 p l e R s m args below meth c H locs cells slots kf nf D A al0 al ws ls _ F hk hn hkR hnR hle hP hD hS hw hl ⟨_, _, rfl, rfl, hst⟩)
theorem sw_lshl {x v : Int64} {y9 : Int32} (d : decode cc pc = .ok (.lshl, 1)) (hv : x <<< (y9.toInt64 &&& 63) = v)
    (k9 : SW y cc nL ret xt lv sc (pc + 1) (lo) (.long v :: st) (N) (aw) (k) (n) o N' aw') : SW y cc nL ret xt lv sc (pc) (lo) (.int y9 :: .long x :: st) (N) (aw) (k) (n) o N' aw' := by
  intro p l e R s m args below meth c H locs cells slots kf nf D A al0 al ws ls st' F hk hn hkR hnR hle hP hD hS hw hl hst
  obtain ⟨hx, hb, hr, hml, hown, hts, hlocks, hin, hfl, hA, hK, hE, hSc, hlv, hloc, hxt⟩ := id F
  obtain ⟨w0, r0, rfl, h0, hst⟩ := hst
  obtain ⟨w1, r1, rfl, h1, hst⟩ := hst
  cases h0; cases h1
  exact lv_lshl hx hb d hv (k9 p l e R s m args below meth c H locs cells slots kf nf D A al0 al ws ls _ F hk hn hkR hnR hle hP hD hS hw hl ⟨_, _, rfl, rfl, hst⟩)
theorem sw_lcmp {x y9 : Int64} (d : decode cc pc = .ok (.lcmp, 1))
    (k9 : SW y cc nL ret xt lv sc (pc + 1) (lo) (.int (lg_cmp x y9) :: st) (N) (aw) (k) (n) o N' aw') : SW y cc nL ret xt lv sc (pc) (lo) (.long y9 :: .long x :: st) (N) (aw) (k) (n) o N' aw' := by
  intro p l e R s m args below meth c H locs cells slots kf nf D A al0 al ws ls st' F hk hn hkR hnR hle hP hD hS hw hl hst
  obtain ⟨hx, hb, hr, hml, hown, hts, hlocks, hin, hfl, hA, hK, hE, hSc, hlv, hloc, hxt⟩ := id F
  obtain ⟨w0, r0, rfl, h0, hst⟩ := hst
  obtain ⟨w1, r1, rfl, h1, hst⟩ := hst
  cases h0; cases h1
  exact W.lcmp hx hb d (k9 p l e R s m args below meth c H locs cells slots kf nf D A al0 al ws ls _ F hk hn hkR hnR hle hP hD hS hw hl ⟨_, _, rfl, rfl, hst⟩)
theorem sw_dmul {x y9 : UInt64} (hne : vf_n64 (FP.dmul x y9)) (d : decode cc pc = .ok (.dmul, 1))
    (k9 : SW y cc nL ret xt lv sc (pc + 1) (lo) (.double (FP.dmul x y9) :: st) (N) (aw) (k) (n) o N' aw') : SW y cc nL ret xt lv sc (pc) (lo) (.double y9 :: .double x :: st) (N) (aw) (k) (n) o N' aw' := by
  intro p l e R s m args below meth c H locs cells slots kf nf D A al0 al ws ls st' F hk hn hkR hnR hle hP hD hS hw hl hst
  obtain ⟨hx, hb, hr, hml, hown, hts, hlocks, hin, hfl, hA, hK, hE, hSc, hlv, hloc, hxt⟩ := id F
  obtain ⟨w0, r0, rfl, h0, hst⟩ := hst
  obtain ⟨w1, r1, rfl, h1, hst⟩ := hst
  cases h0; cases h1
  exact lv_dmul hx hb d hne (k9 p l e R s m args below meth c H locs cells slots kf nf D A al0 al ws ls _ F hk hn hkR hnR hle hP hD hS hw hl ⟨_, _, rfl, rfl, hst⟩)
theorem sw_dsub {x y9 : UInt64} (hne : vf_n64 (FP.dsub x y9)) (d : decode cc pc = .ok (.dsub, 1))
    (k9 : SW y cc nL ret xt lv sc (pc + 1) (lo) (.double (FP.dsub x y9) :: st) (N) (aw) (k) (n) o N' aw') : SW y cc nL ret xt lv sc (pc) (lo) (.double y9 :: .double x :: st) (N) (aw) (k) (n) o N' aw' := by
  intro p l e R s m args below meth c H locs cells slots kf nf D A al0 al ws ls st' F hk hn hkR hnR hle hP hD hS hw hl hst
  obtain ⟨hx, hb, hr, hml, hown, hts, hlocks, hin, hfl, hA, hK, hE, hSc, hlv, hloc, hxt⟩ := id F
  obtain ⟨w0, r0, rfl, h0, hst⟩ := hst
  obtain ⟨w1, r1, rfl, h1, hst⟩ := hst
  cases h0; cases h1
  exact lv_dsub hx hb d hne (k9 p l e R s m args below meth c H locs cells slots kf nf D A al0 al ws ls _ F hk hn hkR hnR hle hP hD hS hw hl ⟨_, _, rfl, rfl, hst⟩)
theorem sw_ddiv {x y9 : UInt64} (hne : vf_n64 (FP.ddiv x y9)) (d : decode cc pc = .ok (.ddiv, 1))
    (k9 : SW y cc nL ret xt lv sc (pc + 1) (lo) (.double (FP.ddiv x y9) :: st) (N) (aw) (k) (n) o N' aw') : SW y cc nL ret xt lv sc (pc) (lo) (.double y9 :: .double x :: st) (N) (aw) (k) (n) o N' aw' := by
  intro p l e R s m args below meth c H locs cells slots kf nf D A al0 al ws ls st' F hk hn hkR hnR hle hP hD hS hw hl hst
  obtain ⟨hx, hb, hr, hml, hown, hts, hlocks, hin, hfl, hA, hK, hE, hSc, hlv, hloc, hxt⟩ := id F
  obtain ⟨w0, r0, rfl, h0, hst⟩ := hst
  obtain ⟨w1, r1, rfl, h1, hst⟩ := hst
  cases h0; cases h1
  exact lv_ddiv hx hb d hne (k9 p l e R s m args below meth c H locs cells slots kf nf D A al0 al ws ls _ F hk hn hkR hnR hle hP hD hS hw hl ⟨_, _, rfl, rfl, hst⟩)
theorem sw_dcmp {x y9 : UInt64} {op : CmpOp} (d : decode cc pc = .ok (.dcmp op, 1))
    (k9 : SW y cc nL ret xt lv sc (pc + 1) (lo) (.int (Op.cmpValue (FP.dcmp x y9) op) :: st) (N) (aw) (k) (n) o N' aw') : SW y cc nL ret xt lv sc (pc) (lo) (.double y9 :: .double x :: st) (N) (aw) (k) (n) o N' aw' := by
  intro p l e R s m args below meth c H locs cells slots kf nf D A al0 al ws ls st' F hk hn hkR hnR hle hP hD hS hw hl hst
  obtain ⟨hx, hb, hr, hml, hown, hts, hlocks, hin, hfl, hA, hK, hE, hSc, hlv, hloc, hxt⟩ := id F
  obtain ⟨w0, r0, rfl, h0, hst⟩ := hst
  obtain ⟨w1, r1, rfl, h1, hst⟩ := hst
  cases h0; cases h1
  exact lv_dcmp hx hb d (k9 p l e R s m args below meth c H locs cells slots kf nf D A al0 al ws ls _ F hk hn hkR hnR hle hP hD hS hw hl ⟨_, _, rfl, rfl, hst⟩)
theorem sw_i2d {x : Int32} (d : decode cc pc = .ok (.i2d, 1))
    (k9 : SW y cc nL ret xt lv sc (pc + 1) (lo) (.double (FP.i2d x) :: st) (N) (aw) (k) (n) o N' aw') : SW y cc nL ret xt lv sc (pc) (lo) (.int x :: st) (N) (aw) (k) (n) o N' aw' := by
  intro p l e R s m args below meth c H locs cells slots kf nf D A al0 al ws ls st' F hk hn hkR hnR hle hP hD hS hw hl hst
  obtain ⟨hx, hb, hr, hml, hown, hts, hlocks, hin, hfl, hA, hK, hE, hSc, hlv, hloc, hxt⟩ := id F
  obtain ⟨w0, r0, rfl, h0, hst⟩ := hst
  cases h0
  exact lv_i2d hx hb d (k9 p l e R s m args below meth c H locs cells slots kf nf D A al0 al ws ls _ F hk hn hkR hnR hle hP hD hS hw hl ⟨_, _, rfl, rfl, hst⟩)
theorem sw_l2d {x : Int64} (d : decode cc pc = .ok (.l2d, 1))
    (k9 : SW y cc nL ret xt lv sc (pc + 1) (lo) (.double (FP.l2d x) :: st) (N) (aw) (k) (n) o N' aw') : SW y cc nL ret xt lv sc (pc) (lo) (.long x :: st) (N) (aw) (k) (n) o N' aw' := by
  intro p l e R s m args below meth c H locs cells slots kf nf D A al0 al ws ls st' F hk hn hkR hnR hle hP hD hS hw hl hst
  obtain ⟨hx, hb, hr, hml, hown, hts, hlocks, hin, hfl, hA, hK, hE, hSc, hlv, hloc, hxt⟩ := id F
  obtain ⟨w0, r0, rfl, h0, hst⟩ := hst
  cases h0
  exact lv_l2d hx hb d (k9 p l e R s m args below meth c H locs cells slots kf nf D A al0 al ws ls _ F hk hn hkR hnR hle hP hD hS hw hl ⟨_, _, rfl, rfl, hst⟩)
theorem sw_d2l {x : UInt64} (d : decode cc pc = .ok (.d2l, 1))
    (k9 : SW y cc nL ret xt lv sc (pc + 1) (lo) (.long (FP.d2l x) :: st) (N) (aw) (k) (n) o N' aw') : SW y cc nL ret xt lv sc (pc) (lo) (.double x :: st) (N) (aw) (k) (n) o N' aw' := by
  intro p l e R s m args below meth c H locs cells slots kf nf D A al0 al ws ls st' F hk hn hkR hnR hle hP hD hS hw hl hst
  obtain ⟨hx, hb, hr, hml, hown, hts, hlocks, hin, hfl, hA, hK, hE, hSc, hlv, hloc, hxt⟩ := id F
  obtain ⟨w0, r0, rfl, h0, hst⟩ := hst
  cases h0
  exact lv_d2l hx hb d (k9 p l e R s m args below meth c H locs cells slots kf nf D A al0 al ws ls _ F hk hn hkR hnR hle hP hD hS hw hl ⟨_, _, rfl, rfl, hst⟩)
theorem sw_dup {v : Value} (d : decode cc pc = .ok (.dup, 1)) (hv : v.category = 1)
    (k9 : SW y cc nL ret xt lv sc (pc + 1) (lo) (v :: v :: st) (N) (aw) (k) (n) o N' aw') : SW y cc nL ret xt lv sc (pc) (lo) (v :: st) (N) (aw) (k) (n) o N' aw' := by
  intro p l e R s m args below meth c H locs cells slots kf nf D A al0 al ws ls st' F hk hn hkR hnR hle hP hD hS hw hl hst
  obtain ⟨hx, hb, hr, hml, hown, hts, hlocks, hin, hfl, hA, hK, hE, hSc, hlv, hloc, hxt⟩ := id F
  obtain ⟨w0, r0, rfl, h0, hst⟩ := hst
  exact lv_dup hx hb d (h0.cat.trans hv) (k9 p l e R s m args below meth c H locs cells slots kf nf D A al0 al ws ls _ F hk hn hkR hnR hle hP hD hS hw hl ⟨_, _, rfl, h0, ⟨_, _, rfl, h0, hst⟩⟩)
theorem sw_pop {v : Value} (d : decode cc pc = .ok (.pop, 1)) (hv : v.category = 1)
    (k9 : SW y cc nL ret xt lv sc (pc + 1) (lo) (st) (N) (aw) (k) (n) o N' aw') : SW y cc nL ret xt lv sc (pc) (lo) (v :: st) (N) (aw) (k) (n) o N' aw' := by
  intro p l e R s m args below meth c H locs cells slots kf nf D A al0 al ws ls st' F hk hn hkR hnR hle hP hD hS hw hl hst
  obtain ⟨hx, hb, hr, hml, hown, hts, hlocks, hin, hfl, hA, hK, hE, hSc, hlv, hloc, hxt⟩ := id F
  obtain ⟨w0, r0, rfl, h0, hst⟩ := hst
  exact lv_pop hx hb d (h0.cat.trans hv) (k9 p l e R s m args below meth c H locs cells slots kf nf D A al0 al ws ls _ F hk hn hkR hnR hle hP hD hS hw hl hst)
theorem sw_dup2 {v v2 : Value} (d : decode cc pc = .ok (.dup2, 1)) (hv : v.category = 1) (hv2 : v2.category = 1)
    (k9 : SW y cc nL ret xt lv sc (pc + 1) (lo) (v :: v2 :: v :: v2 :: st) (N) (aw) (k) (n) o N' aw') : SW y cc nL ret xt lv sc (pc) (lo) (v :: v2 :: st) (N) (aw) (k) (n) o N' aw' := by
  intro p l e R s m args below meth c H locs cells slots kf nf D A al0 al ws ls st' F hk hn hkR hnR hle hP hD hS hw hl hst
  obtain ⟨hx, hb, hr, hml, hown, hts, hlocks, hin, hfl, hA, hK, hE, hSc, hlv, hloc, hxt⟩ := id F
  obtain ⟨w0, r0, rfl, h0, hst⟩ := hst
  obtain ⟨w1, r1, rfl, h1, hst⟩ := hst
  exact lv_dup2_11 hx hb d (h0.cat.trans hv) (h1.cat.trans hv2) (k9 p l e R s m args below meth c H locs cells slots kf nf D A al0 al ws ls _ F hk hn hkR hnR hle hP hD hS hw hl ⟨_, _, rfl, h0, ⟨_, _, rfl, h1, ⟨_, _, rfl, h0, ⟨_, _, rfl, h1, hst⟩⟩⟩⟩)
theorem sw_if_eq {x : Int32} {off : Int} {tgt : Nat} (d : decode cc pc = .ok (.ifCond .eq off, 3)) (ht : (pc : Int) + off = (tgt : Int))
    (kt : x = 0 → SW y cc nL ret xt lv sc (tgt) (lo) (st) (N) (aw) (k) (n) o N' aw') (kf9 : ¬ x = 0 → SW y cc nL ret xt lv sc (pc + 3) (lo) (st) (N) (aw) (k) (n) o N' aw') : SW y cc nL ret xt lv sc (pc) (lo) (.int x :: st) (N) (aw) (k) (n) o N' aw' := by
  intro p l e R s m args below meth c H locs cells slots kf nf D A al0 al ws ls st' F hk hn hkR hnR hle hP hD hS hw hl hst
  obtain ⟨hx, hb, hr, hml, hown, hts, hlocks, hin, hfl, hA, hK, hE, hSc, hlv, hloc, hxt⟩ := id F
  obtain ⟨w0, r0, rfl, h0, hst⟩ := hst
  cases h0
  exact lv_if_eq hx hb d ht (fun h9 => kt h9 p l e R s m args below meth c H locs cells slots kf nf D A al0 al ws ls _ F hk hn hkR hnR hle hP hD hS hw hl hst) (fun h9 => kf9 h9 p l e R s m args below meth c H locs cells slots kf nf D A al0 al ws ls _ F hk hn hkR hnR hle hP hD hS hw hl hst)
theorem sw_ic_eq {x y9 : Int32} {off : Int} {tgt : Nat} (d : decode cc pc = .ok (.if_icmp .eq off, 3)) (ht : (pc : Int) + off = (tgt : Int))
    (kt : x = y9 → SW y cc nL ret xt lv sc (tgt) (lo) (st) (N) (aw) (k) (n) o N' aw') (kf9 : ¬ x = y9 → SW y cc nL ret xt lv sc (pc + 3) (lo) (st) (N) (aw) (k) (n) o N' aw') : SW y cc nL ret xt lv sc (pc) (lo) (.int y9 :: .int x :: st) (N) (aw) (k) (n) o N' aw' := by
  intro p l e R s m args below meth c H locs cells slots kf nf D A al0 al ws ls st' F hk hn hkR hnR hle hP hD hS hw hl hst
  obtain ⟨hx, hb, hr, hml, hown, hts, hlocks, hin, hfl, hA, hK, hE, hSc, hlv, hloc, hxt⟩ := id F
  obtain ⟨w0, r0, rfl, h0, hst⟩ := hst
  obtain ⟨w1, r1, rfl, h1, hst⟩ := hst
  cases h0; cases h1
  exact lv_icmp_eq hx hb d ht (fun h9 => kt h9 p l e R s m args below meth c H locs cells slots kf nf D A al0 al ws ls _ F hk hn hkR hnR hle hP hD hS hw hl hst) (fun h9 => kf9 h9 p l e R s m args below meth c H locs cells slots kf nf D A al0 al ws ls _ F hk hn hkR hnR hle hP hD hS hw hl hst)
theorem sw_if_ne {x : Int32} {off : Int} {tgt : Nat} (d : decode cc pc = .ok (.ifCond .ne off, 3)) (ht : (pc : Int) + off = (tgt : Int))
    (kt : ¬ x = 0 → SW y cc nL ret xt lv sc (tgt) (lo) (st) (N) (aw) (k) (n) o N' aw') (kf9 : x = 0 → SW y cc nL ret xt lv sc (pc + 3) (lo) (st) (N) (aw) (k) (n) o N' aw') : SW y cc nL ret xt lv sc (pc) (lo) (.int x :: st) (N) (aw) (k) (n) o N' aw' := by
  intro p l e R s m args below meth c H locs cells slots kf nf D A al0 al ws ls st' F hk hn hkR hnR hle hP hD hS hw hl hst
  obtain ⟨hx, hb, hr, hml, hown, hts, hlocks, hin, hfl, hA, hK, hE, hSc, hlv, hloc, hxt⟩ := id F
  obtain ⟨w0, r0, rfl, h0, hst⟩ := hst
  cases h0
  exact lv_if_ne hx hb d ht (fun h9 => kt h9 p l e R s m args below meth c H locs cells slots kf nf D A al0 al ws ls _ F hk hn hkR hnR hle hP hD hS hw hl hst) (fun h9 => kf9 h9 p l e R s m args below meth c H locs cells slots kf nf D A al0 al ws ls _ F hk hn hkR hnR hle hP hD hS hw hl hst)
theorem sw_ic_ne {x y9 : Int32} {off : Int} {tgt : Nat} (d : decode cc pc = .ok (.if_icmp .ne off, 3)) (ht : (pc : Int) + off = (tgt : Int))
    (kt : ¬ x = y9 → SW y cc nL ret xt lv sc (tgt) (lo) (st) (N) (aw) (k) (n) o N' aw') (kf9 : x = y9 → SW y cc nL ret xt lv sc (pc + 3) (lo) (st) (N) (aw) (k) (n) o N' aw') : SW y cc nL ret xt lv sc (pc) (lo) (.int y9 :: .int x :: st) (N) (aw) (k) (n) o N' aw' := by
  intro p l e R s m args below meth c H locs cells slots kf nf D A al0 al ws ls st' F hk hn hkR hnR hle hP hD hS hw hl hst
  obtain ⟨hx, hb, hr, hml, hown, hts, hlocks, hin, hfl, hA, hK, hE, hSc, hlv, hloc, hxt⟩ := id F
  obtain ⟨w0, r0, rfl, h0, hst⟩ := hst
  obtain ⟨w1, r1, rfl, h1, hst⟩ := hst
  cases h0; cases h1
  exact lv_icmp_ne hx hb d ht (fun h9 => kt h9 p l e R s m args below meth c H locs cells slots kf nf D A al0 al ws ls _ F hk hn hkR hnR hle hP hD hS hw hl hst) (fun h9 => kf9 h9 p l e R s m args below meth c H locs cells slots kf nf D A al0 al ws ls _ F hk hn hkR hnR hle hP hD hS hw hl hst)
theorem sw_if_lt {x : Int32} {off : Int} {tgt : Nat} (d : decode cc pc = .ok (.ifCond .lt off, 3)) (ht : (pc : Int) + off = (tgt : Int))
    (kt : x < 0 → SW y cc nL ret xt lv sc (tgt) (lo) (st) (N) (aw) (k) (n) o N' aw') (kf9 : ¬ x < 0 → SW y cc nL ret xt lv sc (pc + 3) (lo) (st) (N) (aw) (k) (n) o N' aw') : SW y cc nL ret xt lv sc (pc) (lo) (.int x :: st) (N) (aw) (k) (n) o N' aw' := by
  intro p l e R s m args below meth c H locs cells slots kf nf D A al0 al ws ls st' F hk hn hkR hnR hle hP hD hS hw hl hst
  obtain ⟨hx, hb, hr, hml, hown, hts, hlocks, hin, hfl, hA, hK, hE, hSc, hlv, hloc, hxt⟩ := id F
  obtain ⟨w0, r0, rfl, h0, hst⟩ := hst
  cases h0
  exact lv_if_lt hx hb d ht (fun h9 => kt h9 p l e R s m args below meth c H locs cells slots kf nf D A al0 al ws ls _ F hk hn hkR hnR hle hP hD hS hw hl hst) (fun h9 => kf9 h9 p l e R s m args below meth c H locs cells slots kf nf D A al0 al ws ls _ F hk hn hkR hnR hle hP hD hS hw hl hst)
theorem sw_ic_lt {x y9 : Int32} {off : Int} {tgt : Nat} (d : decode cc pc = .ok (.if_icmp .lt off, 3)) (ht : (pc : Int) + off = (tgt : Int))
    (kt : x < y9 → SW y cc nL ret xt lv sc (tgt) (lo) (st) (N) (aw) (k) (n) o N' aw') (kf9 : ¬ x < y9 → SW y cc nL ret xt lv sc (pc + 3) (lo) (st) (N) (aw) (k) (n) o N' aw') : SW y cc nL ret xt lv sc (pc) (lo) (.int y9 :: .int x :: st) (N) (aw) (k) (n) o N' aw' := by
  intro p l e R s m args below meth c H locs cells slots kf nf D A al0 al ws ls st' F hk hn hkR hnR hle hP hD hS hw hl hst
  obtain ⟨hx, hb, hr, hml, hown, hts, hlocks, hin, hfl, hA, hK, hE, hSc, hlv, hloc, hxt⟩ := id F
  obtain ⟨w0, r0, rfl, h0, hst⟩ := hst
  obtain ⟨w1, r1, rfl, h1, hst⟩ := hst
  cases h0; cases h1
  exact lv_icmp_lt hx hb d ht (fun h9 => kt h9 p l e R s m args below meth c H locs cells slots kf nf D A al0 al ws ls _ F hk hn hkR hnR hle hP hD hS hw hl hst) (fun h9 => kf9 h9 p l e R s m args below meth c H locs cells slots kf nf D A al0 al ws ls _ F hk hn hkR hnR hle hP hD hS hw hl hst)
theorem sw_if_ge {x : Int32} {off : Int} {tgt : Nat} (d : decode cc pc = .ok (.ifCond .ge off, 3)) (ht : (pc : Int) + off = (tgt : Int))
    (kt : 0 ≤ x → SW y cc nL ret xt lv sc (tgt) (lo) (st) (N) (aw) (k) (n) o N' aw') (kf9 : ¬ 0 ≤ x → SW y cc nL ret xt lv sc (pc + 3) (lo) (st) (N) (aw) (k) (n) o N' aw') : SW y cc nL ret xt lv sc (pc) (lo) (.int x :: st) (N) (aw) (k) (n) o N' aw' := by
  intro p l e R s m args below meth c H locs cells slots kf nf D A al0 al ws ls st' F hk hn hkR hnR hle hP hD hS hw hl hst
  obtain ⟨hx, hb, hr, hml, hown, hts, hlocks, hin, hfl, hA, hK, hE, hSc, hlv, hloc, hxt⟩ := id F
  obtain ⟨w0, r0, rfl, h0, hst⟩ := hst
  cases h0
  exact lv_if_ge hx hb d ht (fun h9 => kt h9 p l e R s m args below meth c H locs cells slots kf nf D A al0 al ws ls _ F hk hn hkR hnR hle hP hD hS hw hl hst) (fun h9 => kf9 h9 p l e R s m args below meth c H locs cells slots kf nf D A al0 al ws ls _ F hk hn hkR hnR hle hP hD hS hw hl hst)
theorem sw_ic_ge {x y9 : Int32} {off : Int} {tgt : Nat} (d : decode cc pc = .ok (.if_icmp .ge off, 3)) (ht : (pc : Int) + off = (tgt : Int))
    (kt : y9 ≤ x → SW y cc nL ret xt lv sc (tgt) (lo) (st) (N) (aw) (k) (n) o N' aw') (kf9 : ¬ y9 ≤ x → SW y cc nL ret xt lv sc (pc + 3) (lo) (st) (N) (aw) (k) (n) o N' aw') : SW y cc nL ret xt lv sc (pc) (lo) (.int y9 :: .int x :: st) (N) (aw) (k) (n) o N' aw' := by
  intro p l e R s m args below meth c H locs cells slots kf nf D A al0 al ws ls st' F hk hn hkR hnR hle hP hD hS hw hl hst
  obtain ⟨hx, hb, hr, hml, hown, hts, hlocks, hin, hfl, hA, hK, hE, hSc, hlv, hloc, hxt⟩ := id F
  obtain ⟨w0, r0, rfl, h0, hst⟩ := hst
  obtain ⟨w1, r1, rfl, h1, hst⟩ := hst
  cases h0; cases h1
  exact lv_icmp_ge hx hb d ht (fun h9 => kt h9 p l e R s m args below meth c H locs cells slots kf nf D A al0 al ws ls _ F hk hn hkR hnR hle hP hD hS hw hl hst) (fun h9 => kf9 h9 p l e R s m args below meth c H locs cells slots kf nf D A al0 al ws ls _ F hk hn hkR hnR hle hP hD hS hw hl hst)
theorem sw_if_gt {x : Int32} {off : Int} {tgt : Nat} (d : decode cc pc = .ok (.ifCond .gt off, 3)) (ht : (pc : Int) + off = (tgt : Int))
    (kt : 0 < x → SW y cc nL ret xt lv sc (tgt) (lo) (st) (N) (aw) (k) (n) o N' aw') (kf9 : ¬ 0 < x → SW y cc nL ret xt lv sc (pc + 3) (lo) (st) (N) (aw) (k) (n) o N' aw') : SW y cc nL ret xt lv sc (pc) (lo) (.int x :: st) (N) (aw) (k) (n) o N' aw' := by
  intro p l e R s m args below meth c H locs cells slots kf nf D A al0 al ws ls st' F hk hn hkR hnR hle hP hD hS hw hl hst
  obtain ⟨hx, hb, hr, hml, hown, hts, hlocks, hin, hfl, hA, hK, hE, hSc, hlv, hloc, hxt⟩ := id F
  obtain ⟨w0, r0, rfl, h0, hst⟩ := hst
  cases h0
  exact lv_if_gt hx hb d ht (fun h9 => kt h9 p l e R s m args below meth c H locs cells slots kf nf D A al0 al ws ls _ F hk hn hkR hnR hle hP hD hS hw hl hst) (fun h9 => kf9 h9 p l e R s m args below meth c H locs cells slots kf nf D A al0 al ws ls _ F hk hn hkR hnR hle hP hD hS hw hl hst)
theorem sw_ic_gt {x y9 : Int32} {off : Int} {tgt : Nat} (d : decode cc pc = .ok (.if_icmp .gt off, 3)) (ht : (pc : Int) + off = (tgt : Int))
    (kt : y9 < x → SW y cc nL ret xt lv sc (tgt) (lo) (st) (N) (aw) (k) (n) o N' aw') (kf9 : ¬ y9 < x → SW y cc nL ret xt lv sc (pc + 3) (lo) (st) (N) (aw) (k) (n) o N' aw') : SW y cc nL ret xt lv sc (pc) (lo) (.int y9 :: .int x :: st) (N) (aw) (k) (n) o N' aw' := by
  intro p l e R s m args below meth c H locs cells slots kf nf D A al0 al ws ls st' F hk hn hkR hnR hle hP hD hS hw hl hst
  obtain ⟨hx, hb, hr, hml, hown, hts, hlocks, hin, hfl, hA, hK, hE, hSc, hlv, hloc, hxt⟩ := id F
  obtain ⟨w0, r0, rfl, h0, hst⟩ := hst
  obtain ⟨w1, r1, rfl, h1, hst⟩ := hst
  cases h0; cases h1
  exact lv_icmp_gt hx hb d ht (fun h9 => kt h9 p l e R s m args below meth c H locs cells slots kf nf D A al0 al ws ls _ F hk hn hkR hnR hle hP hD hS hw hl hst) (fun h9 => kf9 h9 p l e R s m args below meth c H locs cells slots kf nf D A al0 al ws ls _ F hk hn hkR hnR hle hP hD hS hw hl hst)
theorem sw_if_le {x : Int32} {off : Int} {tgt : Nat} (d : decode cc pc = .ok (.ifCond .le off, 3)) (ht : (pc : Int) + off = (tgt : Int))
    (kt : x ≤ 0 → SW y cc nL ret xt lv sc (tgt) (lo) (st) (N) (aw) (k) (n) o N' aw') (kf9 : ¬ x ≤ 0 → SW y cc nL ret xt lv sc (pc + 3) (lo) (st) (N) (aw) (k) (n) o N' aw') : SW y cc nL ret xt lv sc (pc) (lo) (.int x :: st) (N) (aw) (k) (n) o N' aw' := by
  intro p l e R s m args below meth c H locs cells slots kf nf D A al0 al ws ls st' F hk hn hkR hnR hle hP hD hS hw hl hst
  obtain ⟨hx, hb, hr, hml, hown, hts, hlocks, hin, hfl, hA, hK, hE, hSc, hlv, hloc, hxt⟩ := id F
  obtain ⟨w0, r0, rfl, h0, hst⟩ := hst
  cases h0
  exact lv_if_le hx hb d ht (fun h9 => kt h9 p l e R s m args below meth c H locs cells slots kf nf D A al0 al ws ls _ F hk hn hkR hnR hle hP hD hS hw hl hst) (fun h9 => kf9 h9 p l e R s m args below meth c H locs cells slots kf nf D A al0 al ws ls _ F hk hn hkR hnR hle hP hD hS hw hl hst)
theorem sw_ic_le {x y9 : Int32} {off : Int} {tgt : Nat} (d : decode cc pc = .ok (.if_icmp .le off, 3)) (ht : (pc : Int) + off = (tgt : Int))
    (kt : x ≤ y9 → SW y cc nL ret xt lv sc (tgt) (lo) (st) (N) (aw) (k) (n) o N' aw') (kf9 : ¬ x ≤ y9 → SW y cc nL ret xt lv sc (pc + 3) (lo) (st) (N) (aw) (k) (n) o N' aw') : SW y cc nL ret xt lv sc (pc) (lo) (.int y9 :: .int x :: st) (N) (aw) (k) (n) o N' aw' := by
  intro p l e R s m args below meth c H locs cells slots kf nf D A al0 al ws ls st' F hk hn hkR hnR hle hP hD hS hw hl hst
  obtain ⟨hx, hb, hr, hml, hown, hts, hlocks, hin, hfl, hA, hK, hE, hSc, hlv, hloc, hxt⟩ := id F
  obtain ⟨w0, r0, rfl, h0, hst⟩ := hst
  obtain ⟨w1, r1, rfl, h1, hst⟩ := hst
  cases h0; cases h1
  exact lv_icmp_le hx hb d ht (fun h9 => kt h9 p l e R s m args below meth c H locs cells slots kf nf D A al0 al ws ls _ F hk hn hkR hnR hle hP hD hS hw hl hst) (fun h9 => kf9 h9 p l e R s m args below meth c H locs cells slots kf nf D A al0 al ws ls _ F hk hn hkR hnR hle hP hD hS hw hl hst)
theorem sw_ifnull {x : Nat} {off : Int} (d : decode cc pc = .ok (.ifnull off, 3))
    (k9 : SW y cc nL ret xt lv sc (pc + 3) (lo) (st) (N) (aw) (k) (n) o N' aw') : SW y cc nL ret xt lv sc (pc) (lo) (.ref x :: st) (N) (aw) (k) (n) o N' aw' := by
  intro p l e R s m args below meth c H locs cells slots kf nf D A al0 al ws ls st' F hk hn hkR hnR hle hP hD hS hw hl hst
  obtain ⟨hx, hb, hr, hml, hown, hts, hlocks, hin, hfl, hA, hK, hE, hSc, hlv, hloc, hxt⟩ := id F
  obtain ⟨w0, r0, rfl, h0, hst⟩ := hst
  obtain ⟨a, g1, rfl⟩ := h0
  exact lv_ifnull hx hb d (k9 p l e R s m args below meth c H locs cells slots kf nf D A al0 al ws ls _ F hk hn hkR hnR hle hP hD hS hw hl hst)
theorem sw_goto {off : Int} {tgt : Nat} (d : decode cc pc = .ok (.goto off, 3)) (ht : (pc : Int) + off = (tgt : Int))
    (k9 : SW y cc nL ret xt lv sc (tgt) (lo) (st) (N) (aw) (k) (n) o N' aw') : SW y cc nL ret xt lv sc (pc) (lo) (st) (N) (aw) (k) (n) o N' aw' := by
  intro p l e R s m args below meth c H locs cells slots kf nf D A al0 al ws ls st' F hk hn hkR hnR hle hP hD hS hw hl hst
  obtain ⟨hx, hb, hr, hml, hown, hts, hlocks, hin, hfl, hA, hK, hE, hSc, hlv, hloc, hxt⟩ := id F
  exact lv_goto hx hb d ht (k9 p l e R s m args below meth c H locs cells slots kf nf D A al0 al ws ls _ F hk hn hkR hnR hle hP hD hS hw hl hst)
theorem sw_lookup {dflt : Int} {ps : Array (Int × Int)} {len : Nat} {x : Int32} {off : Int} {tgt : Nat} (d : decode cc pc = .ok (.lookupswitch dflt ps, len)) (hp : (ps.toList.zip (ps.toList.drop 1)).all (fun (a, next) => a.1 < next.1) = true) (ho : Op.lookupswitch.offset ps.toList dflt x.toInt = off) (ht : (pc : Int) + off = (tgt : Int))
    (k9 : SW y cc nL ret xt lv sc (tgt) (lo) (st) (N) (aw) (k) (n) o N' aw') : SW y cc nL ret xt lv sc (pc) (lo) (.int x :: st) (N) (aw) (k) (n) o N' aw' := by
  intro p l e R s m args below meth c H locs cells slots kf nf D A al0 al ws ls st' F hk hn hkR hnR hle hP hD hS hw hl hst
  obtain ⟨hx, hb, hr, hml, hown, hts, hlocks, hin, hfl, hA, hK, hE, hSc, hlv, hloc, hxt⟩ := id F
  obtain ⟨w0, r0, rfl, h0, hst⟩ := hst
  cases h0
  exact lv_lookup hx hb d hp ho ht (k9 p l e R s m args below meth c H locs cells slots kf nf D A al0 al ws ls _ F hk hn hkR hnR hle hP hD hS hw hl hst)
theorem sw_tabOut {dflt l9 h9 : Int} {offs : Array Int} {len : Nat} {x : Int32} {tgt : Nat} (d : decode cc pc = .ok (.tableswitch dflt l9 h9 offs, len)) (h : x.toInt < l9 ∨ h9 < x.toInt) (ht : (pc : Int) + dflt = (tgt : Int))
    (k9 : SW y cc nL ret xt lv sc (tgt) (lo) (st) (N) (aw) (k) (n) o N' aw') : SW y cc nL ret xt lv sc (pc) (lo) (.int x :: st) (N) (aw) (k) (n) o N' aw' := by
  intro p l e R s m args below meth c H locs cells slots kf nf D A al0 al ws ls st' F hk hn hkR hnR hle hP hD hS hw hl hst
  obtain ⟨hx, hb, hr, hml, hown, hts, hlocks, hin, hfl, hA, hK, hE, hSc, hlv, hloc, hxt⟩ := id F
  obtain ⟨w0, r0, rfl, h0, hst⟩ := hst
  cases h0
  exact lv_tableOut hx hb d h ht (k9 p l e R s m args below meth c H locs cells slots kf nf D A al0 al ws ls _ F hk hn hkR hnR hle hP hD hS hw hl hst)
theorem sw_tabIn {dflt l9 h9 : Int} {offs : Array Int} {len : Nat} {x : Int32} {off : Int} {tgt : Nat} (d : decode cc pc = .ok (.tableswitch dflt l9 h9 offs, len)) (h1 : ¬ x.toInt < l9) (h2 : ¬ h9 < x.toInt) (ho : offs[(x.toInt - l9).toNat]? = some off) (ht : (pc : Int) + off = (tgt : Int))
    (k9 : SW y cc nL ret xt lv sc (tgt) (lo) (st) (N) (aw) (k) (n) o N' aw') : SW y cc nL ret xt lv sc (pc) (lo) (.int x :: st) (N) (aw) (k) (n) o N' aw' := by
  intro p l e R s m args below meth c H locs cells slots kf nf D A al0 al ws ls st' F hk hn hkR hnR hle hP hD hS hw hl hst
  obtain ⟨hx, hb, hr, hml, hown, hts, hlocks, hin, hfl, hA, hK, hE, hSc, hlv, hloc, hxt⟩ := id F
  obtain ⟨w0, r0, rfl, h0, hst⟩ := hst
  cases h0
  exact lv_tableIn hx hb d h1 h2 ho ht (k9 p l e R s m args below meth c H locs cells slots kf nf D A al0 al ws ls _ F hk hn hkR hnR hle hP hD hS hw hl hst)
theorem sw_sub {lo2 : List (Option Value)} (g : am_sub lo2 lo) (k9 : SW y cc nL ret xt lv sc (pc) (lo2) (st) (N) (aw) (k) (n) o N' aw') : SW y cc nL ret xt lv sc (pc) (lo) (st) (N) (aw) (k) (n) o N' aw' := by
  intro p l e R s m args below meth c H locs cells slots kf nf D A al0 al ws ls st' F hk hn hkR hnR hle hP hD hS hw hl hst
  obtain ⟨hx, hb, hr, hml, hown, hts, hlocks, hin, hfl, hA, hK, hE, hSc, hlv, hloc, hxt⟩ := id F
  exact k9 p l e R s m args below meth c H locs cells slots kf nf D A al0 al ws ls _ F hk hn hkR hnR hle hP hD hS hw (hl.sub g) hst
theorem sw_bud {k2 n2 : Nat} (g1 : k2 ≤ k) (g2 : n2 ≤ n) (k9 : SW y cc nL ret xt lv sc (pc) (lo) (st) (N) (aw) (k2) (n2) o N' aw') : SW y cc nL ret xt lv sc (pc) (lo) (st) (N) (aw) (k) (n) o N' aw' := by
  intro p l e R s m args below meth c H locs cells slots kf nf D A al0 al ws ls st' F hk hn hkR hnR hle hP hD hS hw hl hst
  obtain ⟨hx, hb, hr, hml, hown, hts, hlocks, hin, hfl, hA, hK, hE, hSc, hlv, hloc, hxt⟩ := id F
  exact k9 p l e R s m args below meth c H locs cells slots kf nf D A al0 al ws ls _ F (by omega) (by omega) hkR hnR hle hP hD hS hw hl hst
theorem sw_ireturn {x : Int32} (hret : ret = some .int) (d : decode cc pc = .ok (.ireturn, 1)) : SW y cc nL ret xt lv sc pc lo ([.int x]) N aw k n (.inl (some (.int x))) N aw := by
  intro p l e R s m args below meth c H locs cells slots kf nf D A al0 al ws ls st' F hk hn hkR hnR hle hP hD hS hw hl hst
  obtain ⟨hx, hb, hr, hml, hown, hts, hlocks, hin, hfl, hA, hK, hE, hSc, hlv, hloc, hxt⟩ := id F
  obtain ⟨w0, r0, rfl, h0, hst⟩ := hst
  cases h0; cases hst
  subst hret
  exact W.widen (k := kf) (n := nf) (by omega) (by omega) (vx_ret (W.iret hx hb hr (fun t ht hW => ⟨⟨some (.int x), some (.int x), al, ws, rfl, rfl, ⟨_, rfl, rfl⟩, hle, by rw [ht]; exact hP, va_K.moved hW.alike hK, hD, am_w.moved hW.alike hw⟩, hS.F ht⟩) hS.2.2 d hlocks))
theorem sw_lreturn {x : Int64} (hret : ret = some .long) (d : decode cc pc = .ok (.lreturn, 1)) : SW y cc nL ret xt lv sc pc lo ([.long x]) N aw k n (.inl (some (.long x))) N aw := by
  intro p l e R s m args below meth c H locs cells slots kf nf D A al0 al ws ls st' F hk hn hkR hnR hle hP hD hS hw hl hst
  obtain ⟨hx, hb, hr, hml, hown, hts, hlocks, hin, hfl, hA, hK, hE, hSc, hlv, hloc, hxt⟩ := id F
  obtain ⟨w0, r0, rfl, h0, hst⟩ := hst
  cases h0; cases hst
  subst hret
  exact W.widen (k := kf) (n := nf) (by omega) (by omega) (vx_ret (W.lret hx hb hr (fun t ht hW => ⟨⟨some (.long x), some (.long x), al, ws, rfl, rfl, ⟨_, rfl, rfl⟩, hle, by rw [ht]; exact hP, va_K.moved hW.alike hK, hD, am_w.moved hW.alike hw⟩, hS.F ht⟩) hS.2.2 d hlocks))
theorem sw_dreturn {x : UInt64} (hret : ret = some .double) (d : decode cc pc = .ok (.dreturn, 1)) : SW y cc nL ret xt lv sc pc lo ([.double x]) N aw k n (.inl (some (.double x))) N aw := by
  intro p l e R s m args below meth c H locs cells slots kf nf D A al0 al ws ls st' F hk hn hkR hnR hle hP hD hS hw hl hst
  obtain ⟨hx, hb, hr, hml, hown, hts, hlocks, hin, hfl, hA, hK, hE, hSc, hlv, hloc, hxt⟩ := id F
  obtain ⟨w0, r0, rfl, h0, hst⟩ := hst
  cases h0; cases hst
  subst hret
  exact W.widen (k := kf) (n := nf) (by omega) (by omega) (vx_ret (W.dret hx hb hr (fun t ht hW => ⟨⟨some (.double x), some (.double x), al, ws, rfl, rfl, ⟨_, rfl, rfl⟩, hle, by rw [ht]; exact hP, va_K.moved hW.alike hK, hD, am_w.moved hW.alike hw⟩, hS.F ht⟩) hS.2.2 d hlocks))
theorem sw_zreturn {x : Int32} {rt : FieldType} (hret : ret = some rt) (hnar : narrow rt (.int x) = .int x) (d : decode cc pc = .ok (.ireturn, 1)) : SW y cc nL ret xt lv sc pc lo ([.int x]) N aw k n (.inl (some (.int x))) N aw := by
  intro p l e R s m args below meth c H locs cells slots kf nf D A al0 al ws ls st' F hk hn hkR hnR hle hP hD hS hw hl hst
  obtain ⟨hx, hb, hr, hml, hown, hts, hlocks, hin, hfl, hA, hK, hE, hSc, hlv, hloc, hxt⟩ := id F
  obtain ⟨w0, r0, rfl, h0, hst⟩ := hst
  cases h0; cases hst
  subst hret
  exact W.widen (k := kf) (n := nf) (by omega) (by omega) (vx_ret (W.zret hx hb hr hnar (fun t ht hW => ⟨⟨some (.int x), some (.int x), al, ws, rfl, rfl, ⟨_, rfl, rfl⟩, hle, by rw [ht]; exact hP, va_K.moved hW.alike hK, hD, am_w.moved hW.alike hw⟩, hS.F ht⟩) hS.2.2 d hlocks))
theorem sw_return (hret : ret = none) (d : decode cc pc = .ok (.return_, 1)) : SW y cc nL ret xt lv sc pc lo ([]) N aw k n (.inl none) N aw := by
  intro p l e R s m args below meth c H locs cells slots kf nf D A al0 al ws ls st' F hk hn hkR hnR hle hP hD hS hw hl hst
  obtain ⟨hx, hb, hr, hml, hown, hts, hlocks, hin, hfl, hA, hK, hE, hSc, hlv, hloc, hxt⟩ := id F
  cases hst
  subst hret
  exact W.widen (k := kf) (n := nf) (by omega) (by omega) (vx_ret (W.vret hx hb hr (fun t ht hW => ⟨⟨none, none, al, ws, rfl, rfl, rfl, hle, by rw [ht]; exact hP, va_K.moved hW.alike hK, hD, am_w.moved hW.alike hw⟩, hS.F ht⟩) hS.2.2 d hlocks))
theorem sw_areturn {x : Nat} {rt : FieldType} (hret : ret = some rt) (hrt : (∃ n, rt = .object n) ∨ ∃ t, rt = .array t) (d : decode cc pc = .ok (.areturn, 1)) : SW y cc nL ret xt lv sc pc lo ([.ref x]) N aw k n (.inl (some (.ref x))) N aw := by
  intro p l e R s m args below meth c H locs cells slots kf nf D A al0 al ws ls st' F hk hn hkR hnR hle hP hD hS hw hl hst
  obtain ⟨hx, hb, hr, hml, hown, hts, hlocks, hin, hfl, hA, hK, hE, hSc, hlv, hloc, hxt⟩ := id F
  obtain ⟨w0, r0, rfl, h0, hst⟩ := hst
  obtain ⟨a, g1, rfl⟩ := h0
  cases hst
  subst hret
  exact W.widen (k := kf) (n := nf) (by omega) (by omega) (vx_ret (W.aret hx hb hr hrt (Or.inr ⟨a, rfl⟩) (fun t ht hW => ⟨⟨some (.ref x), some (.ref a), al, ws, rfl, rfl, ⟨_, rfl, a, g1, rfl⟩, hle, by rw [ht]; exact hP, va_K.moved hW.alike hK, hD, am_w.moved hW.alike hw⟩, hS.F ht⟩) hS.2.2 d hlocks))
end AMB
