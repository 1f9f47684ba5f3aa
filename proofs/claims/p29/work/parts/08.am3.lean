/-! THE ABSTRACT MACHINE, part 3: fields, arrays, new cells, statics (own work, written by wip/tools/mk_am3.py) -/
section AMC
variable {y : MethodName} {cc : ByteArray} {nL : Nat} {ret : Option FieldType} {xt : List (Nat × Nat × Nat × Nat)} {lv : Nat} {sc : Option (Nat × (Nat → Int32))} {pc : Nat} {lo : List (Option Value)} {st : List Value} {N : Nat} {aw : Nat → am_E} {k n : Nat} {o : Option Value ⊕ String} {N' : Nat} {aw' : Nat → am_E}
theorem am_cell {s : State} {al : am_A} {N : Nat} {aw : Nat → am_E} {ws : va_W} (hw : am_w s al N aw ws) {q a : Nat} (hq : q < N) (ha : al q = some a) : ∃ y, ws[q]? = some (a, y) ∧ am_e s al (aw q) y := by
  obtain ⟨a2, y, h1, h2, h3⟩ := hw.2.2 q hq
  cases Option.some.inj (ha.symm.trans h2)
  exact ⟨y, h1, h3⟩
theorem am_K1 {D : va_G} {s : State} (hK : va_K D vwCl [] s) {cA : ClassId} {ty : FieldType} (h : am_KA s cA ty) : va_K D vwCl [(cA, ty)] s := by
  refine ⟨hK.1, fun k q hk => ?_⟩
  cases k with
  | zero => cases hk; exact h
  | succ k => simp at hk
theorem am_K2 {D : va_G} {s : State} (hK : va_K D vwCl [] s) {cA cB : ClassId} {ty ty2 : FieldType} (h : am_KA s cA ty) (h2 : am_KA s cB ty2) : va_K D vwCl [(cA, ty), (cB, ty2)] s := by
  refine ⟨hK.1, fun k q hk => ?_⟩
  match k, hk with
  | 0, hk => cases hk; exact h
  | 1, hk => cases hk; exact h2
  | k + 2, hk => simp at hk
/-- a class's rows: what the kit asks of it -/
def am_Cl (ci : Nat) (C : String) (T : u_T) (NF : Nat) (ty0 : Nat → FieldType) : Prop := vwCl[ci]? = some (C, T, NF) ∧ (∀ w ∈ u_ws C T NF, w ∈ am_W) ∧ (∀ k, k < NF → parseFieldDescriptor (T k).2.2.1 = some (ty0 k)) ∧ (∀ a, a < NF → ∀ b, b < NF → a ≠ b → (T a).2.1 ≠ (T b).2.1)
/-- a field's place in a constant pool -/
def am_F (own : String) (idx ci j : Nat) : Prop := ∃ (C : String) (T : u_T) (NF : Nat) (ty0 : Nat → FieldType), am_Cl ci C T NF ty0 ∧ j < NF ∧ Cond.fieldLink own idx (T j).1 (T j).2.1 (T j).2.2.1 ∈ am_W
def am_FP (own : String) (idx ci j : Nat) (ty : FieldType) (fin : Bool) : Prop := ∃ (C : String) (T : u_T) (NF : Nat) (ty0 : Nat → FieldType), am_Cl ci C T NF ty0 ∧ j < NF ∧ Cond.fieldLink own idx (T j).1 (T j).2.1 (T j).2.2.1 ∈ am_W ∧ (T j).2.2.2 = fin ∧ parseFieldDescriptor (T j).2.2.1 = some ty ∧ (fin = true → (T j).1 = own)
theorem am_FP.F {own : String} {idx ci j : Nat} {ty : FieldType} {fin : Bool} (h : am_FP own idx ci j ty fin) : am_F own idx ci j := by
  obtain ⟨C, T, NF, ty0, h1, h2, h3, -⟩ := h
  exact ⟨C, T, NF, ty0, h1, h2, h3⟩
def am_Nw (own : String) (idx ci : Nat) (fs : List Value) (NF : Nat) : Prop := ∃ (C : String) (T : u_T) (ty0 : Nat → FieldType), am_Cl ci C T NF ty0 ∧ Cond.classLink own idx C ∈ am_W ∧ Cond.instantiable C NF ∈ am_W ∧ Cond.initialized C ∈ am_W ∧ ∀ j, j < NF → defaultValue (ty0 j) = vp_V fs j

theorem sw_get {idx ci j q : Nat} {fs : List Value} {v : Value} (G : am_F y.cls idx ci j) (hq : q < N) (he : aw q = am_O ci fs) (hv : fs[j]? = some v) (d : decode cc pc = .ok (.getfield idx, 3))
    (k9 : SW y cc nL ret xt lv sc (pc + 3) (lo) (v :: st) (N) (aw) (k) (n) o N' aw') : SW y cc nL ret xt lv sc (pc) (lo) (.ref q :: st) (N) (aw) (k) (n) o N' aw' := by
  intro p l e R s m args below meth c H locs cells slots kf nf D A al0 al ws ls st' F hk hn hkR hnR hle hP hD hS hw hl hst
  obtain ⟨hx, hb, hr, hml, hown, hts, hlocks, hin, hfl, hA, hK, hE, hSc, hlv, hloc, hxt⟩ := id F
  obtain ⟨w0, r0, rfl, ⟨a, g1, rfl⟩, hst⟩ := hst
  obtain ⟨z, h1, h2⟩ := am_cell hw hq g1
  rw [he] at h2
  obtain ⟨fs', rfl, h3⟩ := h2
  obtain ⟨v', h4, h5⟩ := h3.get hv
  obtain ⟨C, T, NF, ty0, ⟨c1, c2, c3, c4⟩, c5, c6⟩ := G
  exact va_get hx hb hts c2 hown hK hP q h1 c1 j c5 (hts _ c6) (fun _ h9 => h9) h4 d (k9 p l e R s m args below meth c H locs cells slots kf nf D A al0 al ws ls _ F hk hn hkR hnR hle hP hD hS hw hl ⟨_, _, rfl, h5, hst⟩)
theorem sw_putI {idx ci j q : Nat} {fs : List Value} {x : Int32} (G : am_FP y.cls idx ci j .int false) (hq : q < N) (he : aw q = am_O ci fs) (hl9 : j < fs.length) (d : decode cc pc = .ok (.putfield idx, 3))
    (k9 : SW y cc nL ret xt lv sc (pc + 3) (lo) (st) (N) (am_up aw q (am_O ci (fs.set j (.int x)))) (k) (n) o N' aw') : SW y cc nL ret xt lv sc (pc) (lo) (.int x :: .ref q :: st) (N) (aw) (k) (n) o N' aw' := by
  intro p l e R s m args below meth c H locs cells slots kf nf D A al0 al ws ls st' F hk hn hkR hnR hle hP hD hS hw hl hst
  obtain ⟨hx, hb, hr, hml, hown, hts, hlocks, hin, hfl, hA, hK, hE, hSc, hlv, hloc, hxt⟩ := id F
  obtain ⟨w1, r1, rfl, g9, hst⟩ := hst
  cases g9
  obtain ⟨w0, r0, rfl, ⟨a, g1, rfl⟩, hst⟩ := hst
  obtain ⟨z, h1, h2⟩ := am_cell hw hq g1
  rw [he] at h2
  obtain ⟨fs', rfl, h3⟩ := h2
  obtain ⟨C, T, NF, ty0, ⟨c1, c2, c3, c4⟩, c5, c6, c7, c8, -⟩ := G
  exact va_put hx hb hts c2 ty0 c3 c4 hown hK hP hD hS q h1 c1 j c5 (hts _ c6) (fun _ h9 => h9) c7 c8 rfl rfl (by rw [h3.len]; exact hl9) d (fun H1 locs1 hP1 hD1 hS1 => k9 p l e R s m args below meth c H1 locs1 cells slots kf nf D A al0 al _ ls _ F hk hn hkR hnR hle hP1 hD1 hS1 (hw.set hq g1 (x := am_O ci (fs.set j (.int x))) ⟨_, rfl, h3.set (v := .int x) rfl⟩) hl hst)
theorem sw_putJ {idx ci j q : Nat} {fs : List Value} {x : Int64} (G : am_FP y.cls idx ci j .long false) (hq : q < N) (he : aw q = am_O ci fs) (hl9 : j < fs.length) (d : decode cc pc = .ok (.putfield idx, 3))
    (k9 : SW y cc nL ret xt lv sc (pc + 3) (lo) (st) (N) (am_up aw q (am_O ci (fs.set j (.long x)))) (k) (n) o N' aw') : SW y cc nL ret xt lv sc (pc) (lo) (.long x :: .ref q :: st) (N) (aw) (k) (n) o N' aw' := by
  intro p l e R s m args below meth c H locs cells slots kf nf D A al0 al ws ls st' F hk hn hkR hnR hle hP hD hS hw hl hst
  obtain ⟨hx, hb, hr, hml, hown, hts, hlocks, hin, hfl, hA, hK, hE, hSc, hlv, hloc, hxt⟩ := id F
  obtain ⟨w1, r1, rfl, g9, hst⟩ := hst
  cases g9
  obtain ⟨w0, r0, rfl, ⟨a, g1, rfl⟩, hst⟩ := hst
  obtain ⟨z, h1, h2⟩ := am_cell hw hq g1
  rw [he] at h2
  obtain ⟨fs', rfl, h3⟩ := h2
  obtain ⟨C, T, NF, ty0, ⟨c1, c2, c3, c4⟩, c5, c6, c7, c8, -⟩ := G
  exact va_put hx hb hts c2 ty0 c3 c4 hown hK hP hD hS q h1 c1 j c5 (hts _ c6) (fun _ h9 => h9) c7 c8 rfl rfl (by rw [h3.len]; exact hl9) d (fun H1 locs1 hP1 hD1 hS1 => k9 p l e R s m args below meth c H1 locs1 cells slots kf nf D A al0 al _ ls _ F hk hn hkR hnR hle hP1 hD1 hS1 (hw.set hq g1 (x := am_O ci (fs.set j (.long x))) ⟨_, rfl, h3.set (v := .long x) rfl⟩) hl hst)
theorem sw_putR {idx ci j q r : Nat} {fs : List Value} {ty : FieldType} (hi : y.name = "<init>") (G : am_FP y.cls idx ci j ty true) (hnr : ∀ a, narrow ty (.ref a) = .ref a ∧ fits ty (.ref a) = true) (hq : q < N) (he : aw q = am_O ci fs) (hl9 : j < fs.length) (d : decode cc pc = .ok (.putfield idx, 3))
    (k9 : SW y cc nL ret xt lv sc (pc + 3) (lo) (st) (N) (am_up aw q (am_O ci (fs.set j (.ref r)))) (k) (n) o N' aw') : SW y cc nL ret xt lv sc (pc) (lo) (.ref r :: .ref q :: st) (N) (aw) (k) (n) o N' aw' := by
  intro p l e R s m args below meth c H locs cells slots kf nf D A al0 al ws ls st' F hk hn hkR hnR hle hP hD hS hw hl hst
  obtain ⟨hx, hb, hr, hml, hown, hts, hlocks, hin, hfl, hA, hK, hE, hSc, hlv, hloc, hxt⟩ := id F
  obtain ⟨w1, r1, rfl, ⟨a9, g9, rfl⟩, hst⟩ := hst
  obtain ⟨w0, r0, rfl, ⟨a, g1, rfl⟩, hst⟩ := hst
  obtain ⟨z, h1, h2⟩ := am_cell hw hq g1
  rw [he] at h2
  obtain ⟨fs', rfl, h3⟩ := h2
  obtain ⟨C, T, NF, ty0, ⟨c1, c2, c3, c4⟩, c5, c6, c7, c8, c9⟩ := G
  exact va_putF hx hb hts c2 ty0 c3 c4 hown hK hP hD hS q h1 c1 j c5 (hts _ c6) (fun _ h9 => h9) c7 (hin hi) (c9 rfl) c8 (hnr _).1 (hnr _).2 (by rw [h3.len]; exact hl9) d (fun H1 locs1 hP1 hD1 hS1 => k9 p l e R s m args below meth c H1 locs1 cells slots kf nf D A al0 al _ ls _ F hk hn hkR hnR hle hP1 hD1 hS1 (hw.set hq g1 (x := am_O ci (fs.set j (.ref r))) ⟨_, rfl, h3.set (v := .ref r) ⟨_, g9, rfl⟩⟩) hl hst)
theorem sw_iald {q nn : Nat} {f : Nat → Int32} {i : Int32} (j : Nat) (hq : q < N) (he : aw q = am_I .int nn f) (hi : i = nI j) (hj : j < nn) (hn9 : nn < 2 ^ 31) (d : decode cc pc = .ok (.iaload, 1))
    (k9 : SW y cc nL ret xt lv sc (pc + 1) (lo) (.int (f j) :: st) (N) (aw) (k) (n) o N' aw') : SW y cc nL ret xt lv sc (pc) (lo) (.int i :: .ref q :: st) (N) (aw) (k) (n) o N' aw' := by
  intro p l e R s m args below meth c H locs cells slots kf nf D A al0 al ws ls st' F hk hn hkR hnR hle hP hD hS hw hl hst
  obtain ⟨hx, hb, hr, hml, hown, hts, hlocks, hin, hfl, hA, hK, hE, hSc, hlv, hloc, hxt⟩ := id F
  obtain ⟨w1, r1, rfl, g9, hst⟩ := hst
  cases g9
  obtain ⟨w0, r0, rfl, ⟨a, g1, rfl⟩, hst⟩ := hst
  obtain ⟨z, h1, h2⟩ := am_cell hw hq g1
  rw [he] at h2
  obtain ⟨cA, rfl, h3⟩ := h2
  subst hi
  refine va_iald hx hb (am_K1 hK h3) hP q 0 h1 rfl (vp_in_nI hj hn9) d ?_
  rw [nI_clamp (Nat.lt_trans hj hn9)]
  exact k9 p l e R s m args below meth c H locs cells slots kf nf D A al0 al ws ls _ F hk hn hkR hnR hle hP hD hS hw hl ⟨_, _, rfl, rfl, hst⟩
theorem sw_iast {q nn : Nat} {f : Nat → Int32} {i x : Int32} (j : Nat) (hq : q < N) (he : aw q = am_I .int nn f) (hi : i = nI j) (hj : j < nn) (hn9 : nn < 2 ^ 31) (d : decode cc pc = .ok (.iastore, 1))
    (k9 : SW y cc nL ret xt lv sc (pc + 1) (lo) (st) (N) (am_up aw q (am_I .int nn (upd f j x))) (k) (n) o N' aw') : SW y cc nL ret xt lv sc (pc) (lo) (.int x :: .int i :: .ref q :: st) (N) (aw) (k) (n) o N' aw' := by
  intro p l e R s m args below meth c H locs cells slots kf nf D A al0 al ws ls st' F hk hn hkR hnR hle hP hD hS hw hl hst
  obtain ⟨hx, hb, hr, hml, hown, hts, hlocks, hin, hfl, hA, hK, hE, hSc, hlv, hloc, hxt⟩ := id F
  obtain ⟨w2, r2, rfl, g8, hst⟩ := hst
  cases g8
  obtain ⟨w1, r1, rfl, g9, hst⟩ := hst
  cases g9
  obtain ⟨w0, r0, rfl, ⟨a, g1, rfl⟩, hst⟩ := hst
  obtain ⟨z, h1, h2⟩ := am_cell hw hq g1
  rw [he] at h2
  obtain ⟨cA, rfl, h3⟩ := h2
  subst hi
  refine va_iast hx hb (am_K1 hK h3) hP hD hS q 0 h1 rfl (vp_in_nI hj hn9) d (fun H1 locs1 hP1 hD1 hS1 => ?_)
  rw [nI_clamp (Nat.lt_trans hj hn9)] at hP1 hD1
  exact k9 p l e R s m args below meth c H1 locs1 cells slots kf nf D A al0 al _ ls _ F hk hn hkR hnR hle hP1 hD1 hS1 (hw.set hq g1 (x := am_I .int nn (upd f j x)) ⟨cA, rfl, h3⟩) hl hst
theorem sw_zald {q nn : Nat} {f : Nat → Int32} {i : Int32} (j : Nat) (hq : q < N) (he : aw q = am_I .boolean nn f) (hi : i = nI j) (hj : j < nn) (hn9 : nn < 2 ^ 31) (d : decode cc pc = .ok (.baload, 1))
    (k9 : SW y cc nL ret xt lv sc (pc + 1) (lo) (.int (f j) :: st) (N) (aw) (k) (n) o N' aw') : SW y cc nL ret xt lv sc (pc) (lo) (.int i :: .ref q :: st) (N) (aw) (k) (n) o N' aw' := by
  intro p l e R s m args below meth c H locs cells slots kf nf D A al0 al ws ls st' F hk hn hkR hnR hle hP hD hS hw hl hst
  obtain ⟨hx, hb, hr, hml, hown, hts, hlocks, hin, hfl, hA, hK, hE, hSc, hlv, hloc, hxt⟩ := id F
  obtain ⟨w1, r1, rfl, g9, hst⟩ := hst
  cases g9
  obtain ⟨w0, r0, rfl, ⟨a, g1, rfl⟩, hst⟩ := hst
  obtain ⟨z, h1, h2⟩ := am_cell hw hq g1
  rw [he] at h2
  obtain ⟨cA, rfl, h3⟩ := h2
  subst hi
  refine va_zald hx hb (am_K1 hK h3) hP q 0 h1 rfl (vp_in_nI hj hn9) d ?_
  rw [nI_clamp (Nat.lt_trans hj hn9)]
  exact k9 p l e R s m args below meth c H locs cells slots kf nf D A al0 al ws ls _ F hk hn hkR hnR hle hP hD hS hw hl ⟨_, _, rfl, rfl, hst⟩
theorem sw_zast {q nn : Nat} {f : Nat → Int32} {i x : Int32} (j : Nat) (hq : q < N) (he : aw q = am_I .boolean nn f) (hi : i = nI j) (hj : j < nn) (hn9 : nn < 2 ^ 31) (hnar : vp_nar .boolean x = x) (d : decode cc pc = .ok (.bastore, 1))
    (k9 : SW y cc nL ret xt lv sc (pc + 1) (lo) (st) (N) (am_up aw q (am_I .boolean nn (upd f j x))) (k) (n) o N' aw') : SW y cc nL ret xt lv sc (pc) (lo) (.int x :: .int i :: .ref q :: st) (N) (aw) (k) (n) o N' aw' := by
  intro p l e R s m args below meth c H locs cells slots kf nf D A al0 al ws ls st' F hk hn hkR hnR hle hP hD hS hw hl hst
  obtain ⟨hx, hb, hr, hml, hown, hts, hlocks, hin, hfl, hA, hK, hE, hSc, hlv, hloc, hxt⟩ := id F
  obtain ⟨w2, r2, rfl, g8, hst⟩ := hst
  cases g8
  obtain ⟨w1, r1, rfl, g9, hst⟩ := hst
  cases g9
  obtain ⟨w0, r0, rfl, ⟨a, g1, rfl⟩, hst⟩ := hst
  obtain ⟨z, h1, h2⟩ := am_cell hw hq g1
  rw [he] at h2
  obtain ⟨cA, rfl, h3⟩ := h2
  subst hi
  refine va_zast hx hb (am_K1 hK h3) hP hD hS q 0 h1 rfl (vp_in_nI hj hn9) d (fun H1 locs1 hP1 hD1 hS1 => ?_)
  rw [nI_clamp (Nat.lt_trans hj hn9), hnar] at hP1 hD1
  exact k9 p l e R s m args below meth c H1 locs1 cells slots kf nf D A al0 al _ ls _ F hk hn hkR hnR hle hP1 hD1 hS1 (hw.set hq g1 (x := am_I .boolean nn (upd f j x)) ⟨cA, rfl, h3⟩) hl hst
theorem sw_cald {q nn : Nat} {f : Nat → Int32} {i : Int32} (j : Nat) (hq : q < N) (he : aw q = am_I .char nn f) (hi : i = nI j) (hj : j < nn) (hn9 : nn < 2 ^ 31) (d : decode cc pc = .ok (.caload, 1))
    (k9 : SW y cc nL ret xt lv sc (pc + 1) (lo) (.int (f j) :: st) (N) (aw) (k) (n) o N' aw') : SW y cc nL ret xt lv sc (pc) (lo) (.int i :: .ref q :: st) (N) (aw) (k) (n) o N' aw' := by
  intro p l e R s m args below meth c H locs cells slots kf nf D A al0 al ws ls st' F hk hn hkR hnR hle hP hD hS hw hl hst
  obtain ⟨hx, hb, hr, hml, hown, hts, hlocks, hin, hfl, hA, hK, hE, hSc, hlv, hloc, hxt⟩ := id F
  obtain ⟨w1, r1, rfl, g9, hst⟩ := hst
  cases g9
  obtain ⟨w0, r0, rfl, ⟨a, g1, rfl⟩, hst⟩ := hst
  obtain ⟨z, h1, h2⟩ := am_cell hw hq g1
  rw [he] at h2
  obtain ⟨cA, rfl, h3⟩ := h2
  subst hi
  refine va_cald hx hb (am_K1 hK h3) hP q 0 h1 rfl (vp_in_nI hj hn9) d ?_
  rw [nI_clamp (Nat.lt_trans hj hn9)]
  exact k9 p l e R s m args below meth c H locs cells slots kf nf D A al0 al ws ls _ F hk hn hkR hnR hle hP hD hS hw hl ⟨_, _, rfl, rfl, hst⟩
theorem sw_cast {q nn : Nat} {f : Nat → Int32} {i x : Int32} (j : Nat) (hq : q < N) (he : aw q = am_I .char nn f) (hi : i = nI j) (hj : j < nn) (hn9 : nn < 2 ^ 31) (hnar : vp_nar .char x = x) (d : decode cc pc = .ok (.castore, 1))
    (k9 : SW y cc nL ret xt lv sc (pc + 1) (lo) (st) (N) (am_up aw q (am_I .char nn (upd f j x))) (k) (n) o N' aw') : SW y cc nL ret xt lv sc (pc) (lo) (.int x :: .int i :: .ref q :: st) (N) (aw) (k) (n) o N' aw' := by
  intro p l e R s m args below meth c H locs cells slots kf nf D A al0 al ws ls st' F hk hn hkR hnR hle hP hD hS hw hl hst
  obtain ⟨hx, hb, hr, hml, hown, hts, hlocks, hin, hfl, hA, hK, hE, hSc, hlv, hloc, hxt⟩ := id F
  obtain ⟨w2, r2, rfl, g8, hst⟩ := hst
  cases g8
  obtain ⟨w1, r1, rfl, g9, hst⟩ := hst
  cases g9
  obtain ⟨w0, r0, rfl, ⟨a, g1, rfl⟩, hst⟩ := hst
  obtain ⟨z, h1, h2⟩ := am_cell hw hq g1
  rw [he] at h2
  obtain ⟨cA, rfl, h3⟩ := h2
  subst hi
  refine va_cast hx hb (am_K1 hK h3) hP hD hS q 0 h1 rfl (vp_in_nI hj hn9) d (fun H1 locs1 hP1 hD1 hS1 => ?_)
  rw [nI_clamp (Nat.lt_trans hj hn9), hnar] at hP1 hD1
  exact k9 p l e R s m args below meth c H1 locs1 cells slots kf nf D A al0 al _ ls _ F hk hn hkR hnR hle hP1 hD1 hS1 (hw.set hq g1 (x := am_I .char nn (upd f j x)) ⟨cA, rfl, h3⟩) hl hst
theorem sw_lald {q nn : Nat} {f : Nat → Int64} {i : Int32} (j : Nat) (hq : q < N) (he : aw q = am_J nn f) (hi : i = nI j) (hj : j < nn) (hn9 : nn < 2 ^ 31) (d : decode cc pc = .ok (.laload, 1))
    (k9 : SW y cc nL ret xt lv sc (pc + 1) (lo) (.long (f j) :: st) (N) (aw) (k) (n) o N' aw') : SW y cc nL ret xt lv sc (pc) (lo) (.int i :: .ref q :: st) (N) (aw) (k) (n) o N' aw' := by
  intro p l e R s m args below meth c H locs cells slots kf nf D A al0 al ws ls st' F hk hn hkR hnR hle hP hD hS hw hl hst
  obtain ⟨hx, hb, hr, hml, hown, hts, hlocks, hin, hfl, hA, hK, hE, hSc, hlv, hloc, hxt⟩ := id F
  obtain ⟨w1, r1, rfl, g9, hst⟩ := hst
  cases g9
  obtain ⟨w0, r0, rfl, ⟨a, g1, rfl⟩, hst⟩ := hst
  obtain ⟨z, h1, h2⟩ := am_cell hw hq g1
  rw [he] at h2
  obtain ⟨cA, rfl, h3⟩ := h2
  subst hi
  refine va_lald hx hb (am_K1 hK h3) hP q 0 h1 rfl (vp_in_nI hj hn9) d ?_
  rw [nI_clamp (Nat.lt_trans hj hn9)]
  exact k9 p l e R s m args below meth c H locs cells slots kf nf D A al0 al ws ls _ F hk hn hkR hnR hle hP hD hS hw hl ⟨_, _, rfl, rfl, hst⟩
theorem sw_last {q nn : Nat} {f : Nat → Int64} {i : Int32} {x : Int64} (j : Nat) (hq : q < N) (he : aw q = am_J nn f) (hi : i = nI j) (hj : j < nn) (hn9 : nn < 2 ^ 31) (d : decode cc pc = .ok (.lastore, 1))
    (k9 : SW y cc nL ret xt lv sc (pc + 1) (lo) (st) (N) (am_up aw q (am_J nn (vp_updL f j x))) (k) (n) o N' aw') : SW y cc nL ret xt lv sc (pc) (lo) (.long x :: .int i :: .ref q :: st) (N) (aw) (k) (n) o N' aw' := by
  intro p l e R s m args below meth c H locs cells slots kf nf D A al0 al ws ls st' F hk hn hkR hnR hle hP hD hS hw hl hst
  obtain ⟨hx, hb, hr, hml, hown, hts, hlocks, hin, hfl, hA, hK, hE, hSc, hlv, hloc, hxt⟩ := id F
  obtain ⟨w2, r2, rfl, g8, hst⟩ := hst
  cases g8
  obtain ⟨w1, r1, rfl, g9, hst⟩ := hst
  cases g9
  obtain ⟨w0, r0, rfl, ⟨a, g1, rfl⟩, hst⟩ := hst
  obtain ⟨z, h1, h2⟩ := am_cell hw hq g1
  rw [he] at h2
  obtain ⟨cA, rfl, h3⟩ := h2
  subst hi
  refine va_last hx hb (am_K1 hK h3) hP hD hS q 0 h1 rfl (vp_in_nI hj hn9) d (fun H1 locs1 hP1 hD1 hS1 => ?_)
  rw [nI_clamp (Nat.lt_trans hj hn9)] at hP1 hD1
  exact k9 p l e R s m args below meth c H1 locs1 cells slots kf nf D A al0 al _ ls _ F hk hn hkR hnR hle hP1 hD1 hS1 (hw.set hq g1 (x := am_J nn (vp_updL f j x)) ⟨cA, rfl, h3⟩) hl hst
theorem sw_aald {q nn r : Nat} {C : String} {f : Nat → Option Nat} {i : Int32} (j : Nat) (hq : q < N) (he : aw q = am_R C nn f) (hi : i = nI j) (hj : j < nn) (hn9 : nn < 2 ^ 31) (hf : f j = some r) (d : decode cc pc = .ok (.aaload, 1))
    (k9 : SW y cc nL ret xt lv sc (pc + 1) (lo) (.ref r :: st) (N) (aw) (k) (n) o N' aw') : SW y cc nL ret xt lv sc (pc) (lo) (.int i :: .ref q :: st) (N) (aw) (k) (n) o N' aw' := by
  intro p l e R s m args below meth c H locs cells slots kf nf D A al0 al ws ls st' F hk hn hkR hnR hle hP hD hS hw hl hst
  obtain ⟨hx, hb, hr, hml, hown, hts, hlocks, hin, hfl, hA, hK, hE, hSc, hlv, hloc, hxt⟩ := id F
  obtain ⟨w1, r1, rfl, g9, hst⟩ := hst
  cases g9
  obtain ⟨w0, r0, rfl, ⟨a, g1, rfl⟩, hst⟩ := hst
  obtain ⟨z, h1, h2⟩ := am_cell hw hq g1
  rw [he] at h2
  obtain ⟨cA, f', rfl, h3, h4⟩ := h2
  subst hi
  obtain ⟨a9, g8, g7⟩ := (h4 j hj).2 r hf
  refine va_aldq hx hb (am_K1 hK h3) hP q 0 h1 rfl (vp_in_nI hj hn9) d ?_
  rw [nI_clamp (Nat.lt_trans hj hn9), g7]
  exact k9 p l e R s m args below meth c H locs cells slots kf nf D A al0 al ws ls _ F hk hn hkR hnR hle hP hD hS hw hl ⟨_, _, rfl, ⟨a9, g8, rfl⟩, hst⟩
theorem sw_aast {q nn r ci NF : Nat} {C : String} {T : u_T} {fs : List Value} {f : Nat → Option Nat} {i : Int32} (j : Nat) (hq : q < N) (he : aw q = am_R C nn f) (hr9 : r < N) (her : aw r = am_O ci fs) (hc : vwCl[ci]? = some (C, T, NF)) (hi : i = nI j) (hj : j < nn) (hn9 : nn < 2 ^ 31) (d : decode cc pc = .ok (.aastore, 1))
    (k9 : SW y cc nL ret xt lv sc (pc + 1) (lo) (st) (N) (am_up aw q (am_R C nn (va_up f j (some r)))) (k) (n) o N' aw') : SW y cc nL ret xt lv sc (pc) (lo) (.ref r :: .int i :: .ref q :: st) (N) (aw) (k) (n) o N' aw' := by
  intro p l e R s m args below meth c H locs cells slots kf nf D A al0 al ws ls st' F hk hn hkR hnR hle hP hD hS hw hl hst
  obtain ⟨hx, hb, hr, hml, hown, hts, hlocks, hin, hfl, hA, hK, hE, hSc, hlv, hloc, hxt⟩ := id F
  obtain ⟨w2, r2, rfl, ⟨a8, g8, rfl⟩, hst⟩ := hst
  obtain ⟨w1, r1, rfl, g9, hst⟩ := hst
  cases g9
  obtain ⟨w0, r0, rfl, ⟨a, g1, rfl⟩, hst⟩ := hst
  obtain ⟨z, h1, h2⟩ := am_cell hw hq g1
  rw [he] at h2
  obtain ⟨cA, f', rfl, h3, h4⟩ := h2
  obtain ⟨z2, h5, h6⟩ := am_cell hw hr9 g8
  rw [her] at h6
  obtain ⟨fs', rfl, h7⟩ := h6
  subst hi
  refine va_astq (r := (C, T, NF)) hx hb (am_K1 hK h3) hP hD hS q 0 r ci h1 rfl h5 hc (vp_in_nI hj hn9) d (fun H1 locs1 hP1 hD1 hS1 => ?_)
  rw [nI_clamp (Nat.lt_trans hj hn9)] at hP1 hD1
  refine k9 p l e R s m args below meth c H1 locs1 cells slots kf nf D A al0 al _ ls _ F hk hn hkR hnR hle hP1 hD1 hS1 (hw.set hq g1 (x := am_R C nn (va_up f j (some r))) ⟨cA, _, rfl, h3, fun i9 hi9 => ?_⟩) hl hst
  by_cases e9 : i9 = j
  · subst e9
    refine ⟨fun q9 => ?_, fun k9 hk9 => ⟨a8, ?_, ?_⟩⟩
    · simp [va_up] at q9
    · simp [va_up] at hk9
      rw [← hk9]
      exact g8
    · simp [va_up]
  · simp only [va_up, if_neg e9]
    exact h4 i9 hi9
theorem sw_alen {q nn : Nat} {f : Nat → Int32} {ty : FieldType} (hq : q < N) (he : aw q = am_I ty nn f) (d : decode cc pc = .ok (.arraylength, 1))
    (k9 : SW y cc nL ret xt lv sc (pc + 1) (lo) (.int (nI nn) :: st) (N) (aw) (k) (n) o N' aw') : SW y cc nL ret xt lv sc (pc) (lo) (.ref q :: st) (N) (aw) (k) (n) o N' aw' := by
  intro p l e R s m args below meth c H locs cells slots kf nf D A al0 al ws ls st' F hk hn hkR hnR hle hP hD hS hw hl hst
  obtain ⟨hx, hb, hr, hml, hown, hts, hlocks, hin, hfl, hA, hK, hE, hSc, hlv, hloc, hxt⟩ := id F
  obtain ⟨w0, r0, rfl, ⟨a, g1, rfl⟩, hst⟩ := hst
  obtain ⟨z, h1, h2⟩ := am_cell hw hq g1
  rw [he] at h2
  obtain ⟨cA, rfl, h3⟩ := h2
  exact va_alen (v := nI nn) hx hb (am_K1 hK h3) hP q 0 h1 rfl rfl d (k9 p l e R s m args below meth c H locs cells slots kf nf D A al0 al ws ls _ F hk hn hkR hnR hle hP hD hS hw hl ⟨_, _, rfl, rfl, hst⟩)
def am_cpW (own : String) (idx : Nat) : Prop := Cond.methodLink own idx arraycopyName ∈ am_W ∧ Cond.native arraycopyName ∈ am_W ∧ Cond.static arraycopyName ∈ am_W ∧ Cond.initialized "java/lang/System" ∈ am_W
theorem sw_copy {idx q0 q1 n0 n1 : Nat} {f g : Nat → Int32} {sp dp c9 : Int32} (G : am_cpW y.cls idx) (a0 b0 c0 : Nat) (hq0 : q0 < N) (he0 : aw q0 = am_I .int n0 f) (hq1 : q1 < N) (he1 : aw q1 = am_I .int n1 g) (h1 : sp = nI a0) (h2 : dp = nI b0) (h3 : c9 = nI c0) (h4 : a0 + c0 ≤ n0) (h5 : b0 + c0 ≤ n1) (hn0 : n0 < 2 ^ 31) (hn1 : n1 < 2 ^ 31) (hlv9 : 1 ≤ lv) (hst9 : st = []) (d : decode cc pc = .ok (.invokestatic idx, 3))
    (k9 : SW y cc nL ret xt lv sc (pc + 3) (lo) (st) (N) (am_up aw q1 (am_I .int n1 (va_cpy f g a0 b0 c0))) (k) (n) o N' aw') : SW y cc nL ret xt lv sc (pc) (lo) (.int c9 :: .int dp :: .ref q1 :: .int sp :: .ref q0 :: st) (N) (aw) (k) (n) o N' aw' := by
  intro p l e R s m args below meth c H locs cells slots kf nf D A al0 al ws ls st' F hk hn hkR hnR hle hP hD hS hw hl hst
  obtain ⟨hx, hb, hr, hml, hown, hts, hlocks, hin, hfl, hA, hK, hE, hSc, hlv, hloc, hxt⟩ := id F
  subst h1; subst h2; subst h3; subst hst9
  obtain ⟨w4, r4, rfl, g4, hst⟩ := hst
  cases g4
  obtain ⟨w3, r3, rfl, g3, hst⟩ := hst
  cases g3
  obtain ⟨w2, r2, rfl, ⟨a1, e1, rfl⟩, hst⟩ := hst
  obtain ⟨w1, r1, rfl, g1, hst⟩ := hst
  cases g1
  obtain ⟨w0, r0, rfl, ⟨a2, e2, rfl⟩, hst⟩ := hst
  cases hst
  obtain ⟨z0, i1, i2⟩ := am_cell hw hq0 e2
  rw [he0] at i2
  obtain ⟨cA, rfl, i3⟩ := i2
  obtain ⟨z1, j1, j2⟩ := am_cell hw hq1 e1
  rw [he1] at j2
  obtain ⟨cB, rfl, j3⟩ := j2
  have s1 : a0 < 2 ^ 31 := by omega
  have s2 : b0 < 2 ^ 31 := by omega
  have s3 : c0 < 2 ^ 31 := by omega
  refine va_copyi hx hb (hml.trans hl.choose_spec.1.1.symm) hown (hts _ G.1) (hts _ G.2.1) (hts _ G.2.2.1) (hts _ G.2.2.2) (am_K2 hK i3 j3) hP hD hS q0 q1 0 1 i1 j1 rfl rfl rfl (nI_pos s1) (nI_pos s2) (nI_pos s3) (by rw [nI_clamp s1, nI_clamp s3]; exact h4) (by rw [nI_clamp s2, nI_clamp s3]; exact h5) (fun _ _ => rfl) (by omega) ?_ d (fun H1 locs1 hP1 hD1 hS1 => ?_)
  · have z9 : nativeFrameWords "java/lang/System" "arraycopy" 5 + 11 ≤ 92 := by decide +kernel
    simp only [List.map_nil, List.sum_nil]
    omega
  · rw [nI_clamp s1, nI_clamp s2, nI_clamp s3] at hP1 hD1
    exact k9 p l e R s m args below meth c H1 locs1 cells slots kf nf D A al0 al _ ls _ F hk hn hkR hnR hle hP1 hD1 hS1 (hw.set hq1 e1 (x := am_I .int n1 (va_cpy f g a0 b0 c0)) ⟨cB, rfl, j3⟩) hl rfl
def am_minW (own : String) (idx : Nat) : Prop := Cond.methodLink own idx Lib.Math.min.name ∈ am_W ∧ Cond.static Lib.Math.min.name ∈ am_W ∧ Cond.initialized "java/lang/Math" ∈ am_W ∧ Cond.code Lib.Math.min.name Lib.Math.min.code 2 (some .int) ∈ am_W
theorem sw_min {idx : Nat} {x y9 : Int32} (G : am_minW y.cls idx) (hlv9 : 1 ≤ lv) (hst9 : (st.map fun v => v.category).sum ≤ 8) (d : decode cc pc = .ok (.invokestatic idx, 3))
    (k9 : SW y cc nL ret xt lv sc (pc + 3) (lo) (.int (if y9 < x then y9 else x) :: st) (N) (aw) (k) (n) o N' aw') : SW y cc nL ret xt lv sc (pc) (lo) (.int y9 :: .int x :: st) (N) (aw) (k) (n) o N' aw' := by
  intro p l e R s m args below meth c H locs cells slots kf nf D A al0 al ws ls st' F hk hn hkR hnR hle hP hD hS hw hl hst
  obtain ⟨hx, hb, hr, hml, hown, hts, hlocks, hin, hfl, hA, hK, hE, hSc, hlv, hloc, hxt⟩ := id F
  obtain ⟨w0, r0, rfl, h0, hst⟩ := hst
  obtain ⟨w1, r1, rfl, h1, hst⟩ := hst
  cases h0; cases h1
  exact va_mmin hx hb (hml.trans hl.choose_spec.1.1.symm) hown (hts _ G.1) (hts _ G.2.1) (hts _ G.2.2.1) (hts _ G.2.2.2) (by omega) (by rw [hst.cats]; omega) (by omega) (by omega) d (k9 p l e R s m args below meth c H locs cells slots kf nf D A al0 al ws ls _ F hk hn hkR hnR hle hP hD hS hw hl ⟨_, _, rfl, rfl, hst⟩)
def am_absW (own : String) (idx : Nat) : Prop := Cond.methodLink own idx Lib.Math.abs.name ∈ am_W ∧ Cond.static Lib.Math.abs.name ∈ am_W ∧ Cond.initialized "java/lang/Math" ∈ am_W ∧ Cond.code Lib.Math.abs.name Lib.Math.abs.code 1 (some .int) ∈ am_W
theorem sw_abs {idx : Nat} {x y9 : Int32} (G : am_absW y.cls idx) (hlv9 : 1 ≤ lv) (hst9 : (st.map fun v => v.category).sum ≤ 8) (d : decode cc pc = .ok (.invokestatic idx, 3))
    (k9 : SW y cc nL ret xt lv sc (pc + 3) (lo) (.int (if 0 ≤ x then x else 0 - x) :: st) (N) (aw) (k) (n) o N' aw') : SW y cc nL ret xt lv sc (pc) (lo) (.int x :: st) (N) (aw) (k) (n) o N' aw' := by
  intro p l e R s m args below meth c H locs cells slots kf nf D A al0 al ws ls st' F hk hn hkR hnR hle hP hD hS hw hl hst
  obtain ⟨hx, hb, hr, hml, hown, hts, hlocks, hin, hfl, hA, hK, hE, hSc, hlv, hloc, hxt⟩ := id F
  obtain ⟨w0, r0, rfl, h0, hst⟩ := hst
  cases h0
  exact va_mabs hx hb (hml.trans hl.choose_spec.1.1.symm) hown (hts _ G.1) (hts _ G.2.1) (hts _ G.2.2.1) (hts _ G.2.2.2) (by omega) (by rw [hst.cats]; omega) (by omega) (by omega) d (k9 p l e R s m args below meth c H locs cells slots kf nf D A al0 al ws ls _ F hk hn hkR hnR hle hP hD hS hw hl ⟨_, _, rfl, rfl, hst⟩)
theorem sw_new {idx ci NF k2 n2 : Nat} (fs : List Value) (G : am_Nw y.cls idx ci fs NF) (hfs : ∀ al, am_vs al fs fs) (hN9 : N < 999) (hk9 : k2 + 1 ≤ k) (hn9 : n2 + NF ≤ n) (d : decode cc pc = .ok (.new idx, 3))
    (k9 : SW y cc nL ret xt lv sc (pc + 3) (lo) (.ref N :: st) (N + 1) (am_up aw N (am_O ci fs)) (k2) (n2) o N' aw') : SW y cc nL ret xt lv sc (pc) (lo) (st) (N) (aw) (k) (n) o N' aw' := by
  intro p l e R s m args below meth c H locs cells slots kf nf D A al0 al ws ls st' F hk hn hkR hnR hle hP hD hS hw hl hst
  obtain ⟨hx, hb, hr, hml, hown, hts, hlocks, hin, hfl, hA, hK, hE, hSc, hlv, hloc, hxt⟩ := id F
  obtain ⟨C, T, ty0, ⟨c1, c2, c3, c4⟩, c5, c6, c7, c8⟩ := G
  exact va_new hx hb hts c2 ty0 c3 hown (hts _ c5) (hts _ c6) (hts _ c7) hK hP hD hS hA c1 c8 (by omega) (by omega) d (fun q9 H1 hP1 hD1 hS1 => k9 p l e R s m args below meth c H1 locs (cells + 1) (slots + NF) kf nf D A al0 (am_alP al N q9) _ ls _ F (by omega) (by omega) hkR hnR (hle.tr (am_alP.le hw hN9 q9)) hP1 hD1 hS1 (hw.push hN9 q9 (x := am_O ci fs) ⟨_, rfl, hfs _⟩) (hl.mono (am_alP.le hw hN9 q9)) ⟨_, _, rfl, ⟨q9, by unfold am_alP; rw [if_pos rfl], rfl⟩, hst.mono (am_alP.le hw hN9 q9)⟩)
theorem sw_newI {at9 : ArrayType} {ty : FieldType} {nn k2 n2 : Nat} {i : Int32} (G : Cond.arrayClass (newarray.typeOf at9) ∈ am_W) (hty : newarray.typeOf at9 = ty) (ha : ∀ cA : ClassId, vp_cell cA (nn, .inl (fun _ => 0)) = arrV cA nn (fun _ => defaultValue ty)) (hi : i = nI nn) (hnn : nn < 2 ^ 31) (hby : nn * componentBytes ty ≤ 536870912) (hN9 : N < 999) (hk9 : k2 + 1 ≤ k) (hn9 : n2 + nn ≤ n) (d : decode cc pc = .ok (.newarray at9, 2))
    (k9 : SW y cc nL ret xt lv sc (pc + 2) (lo) (.ref N :: st) (N + 1) (am_up aw N (am_I ty nn (fun _ => 0))) (k2) (n2) o N' aw') : SW y cc nL ret xt lv sc (pc) (lo) (.int i :: st) (N) (aw) (k) (n) o N' aw' := by
  intro p l e R s m args below meth c H locs cells slots kf nf D A al0 al ws ls st' F hk hn hkR hnR hle hP hD hS hw hl hst
  obtain ⟨hx, hb, hr, hml, hown, hts, hlocks, hin, hfl, hA, hK, hE, hSc, hlv, hloc, hxt⟩ := id F
  obtain ⟨w1, r1, rfl, g9, hst⟩ := hst
  cases g9
  subst hi
  exact va_newa (a0 := (nn, .inl (fun _ => 0))) hx hb (hts _ G) hty hK hP hD hS hA ha (nI_pos hnn) (nI_clamp hnn) hby (by omega) (by omega) d (fun q9 cA H1 hK1 hP1 hD1 hS1 => k9 p l e R s m args below meth c H1 locs (cells + 1) (slots + nn) kf nf D A al0 (am_alP al N q9) _ ls _ F (by omega) (by omega) hkR hnR (hle.tr (am_alP.le hw hN9 q9)) hP1 hD1 hS1 (hw.push hN9 q9 (x := am_I ty nn (fun _ => 0)) ⟨cA, rfl, hK1.2 0 _ rfl⟩) (hl.mono (am_alP.le hw hN9 q9)) ⟨_, _, rfl, ⟨q9, by unfold am_alP; rw [if_pos rfl], rfl⟩, hst.mono (am_alP.le hw hN9 q9)⟩)
theorem sw_newJ {nn k2 n2 : Nat} {i : Int32} (G : Cond.arrayClass (newarray.typeOf .long) ∈ am_W) (hi : i = nI nn) (hnn : nn < 2 ^ 31) (hby : nn * componentBytes .long ≤ 536870912) (hN9 : N < 999) (hk9 : k2 + 1 ≤ k) (hn9 : n2 + nn ≤ n) (d : decode cc pc = .ok (.newarray .long, 2))
    (k9 : SW y cc nL ret xt lv sc (pc + 2) (lo) (.ref N :: st) (N + 1) (am_up aw N (am_J nn (fun _ => 0))) (k2) (n2) o N' aw') : SW y cc nL ret xt lv sc (pc) (lo) (.int i :: st) (N) (aw) (k) (n) o N' aw' := by
  intro p l e R s m args below meth c H locs cells slots kf nf D A al0 al ws ls st' F hk hn hkR hnR hle hP hD hS hw hl hst
  obtain ⟨hx, hb, hr, hml, hown, hts, hlocks, hin, hfl, hA, hK, hE, hSc, hlv, hloc, hxt⟩ := id F
  obtain ⟨w1, r1, rfl, g9, hst⟩ := hst
  cases g9
  subst hi
  exact va_newa (atype := .long) (a0 := (nn, .inr (.inl (fun _ => 0)))) hx hb (hts _ G) rfl hK hP hD hS hA (fun _ => rfl) (nI_pos hnn) (nI_clamp hnn) hby (by omega) (by omega) d (fun q9 cA H1 hK1 hP1 hD1 hS1 => k9 p l e R s m args below meth c H1 locs (cells + 1) (slots + nn) kf nf D A al0 (am_alP al N q9) _ ls _ F (by omega) (by omega) hkR hnR (hle.tr (am_alP.le hw hN9 q9)) hP1 hD1 hS1 (hw.push hN9 q9 (x := am_J nn (fun _ => 0)) ⟨cA, rfl, hK1.2 0 _ rfl⟩) (hl.mono (am_alP.le hw hN9 q9)) ⟨_, _, rfl, ⟨q9, by unfold am_alP; rw [if_pos rfl], rfl⟩, hst.mono (am_alP.le hw hN9 q9)⟩)
theorem sw_newR {idx nn k2 n2 : Nat} {i : Int32} (G : Cond.classLink y.cls idx RX2 ∈ am_W) (hi : i = nI nn) (hnn : nn < 2 ^ 31) (hby : nn * 4 ≤ 536870912) (hN9 : N < 999) (hk9 : k2 + 1 ≤ k) (hn9 : n2 + nn ≤ n) (d : decode cc pc = .ok (.anewarray idx, 3))
    (k9 : SW y cc nL ret xt lv sc (pc + 3) (lo) (.ref N :: st) (N + 1) (am_up aw N (am_R RX2 nn (fun _ => none))) (k2) (n2) o N' aw') : SW y cc nL ret xt lv sc (pc) (lo) (.int i :: st) (N) (aw) (k) (n) o N' aw' := by
  intro p l e R s m args below meth c H locs cells slots kf nf D A al0 al ws ls st' F hk hn hkR hnR hle hP hD hS hw hl hst
  obtain ⟨hx, hb, hr, hml, hown, hts, hlocks, hin, hfl, hA, hK, hE, hSc, hlv, hloc, hxt⟩ := id F
  obtain ⟨w1, r1, rfl, g9, hst⟩ := hst
  cases g9
  subst hi
  exact va_newq hx hb hown (hts _ G) hE.2.2.2.2.2.1 hK hP hD hS hA (nI_pos hnn) (nI_clamp hnn) hby (by omega) (by omega) d (fun q9 cA H1 hK1 hP1 hD1 hS1 => k9 p l e R s m args below meth c H1 locs (cells + 1) (slots + nn) kf nf D A al0 (am_alP al N q9) _ ls _ F (by omega) (by omega) hkR hnR (hle.tr (am_alP.le hw hN9 q9)) hP1 hD1 hS1 (hw.push hN9 q9 (x := am_R RX2 nn (fun _ => none)) ⟨cA, _, rfl, hK1.2 0 _ rfl, fun i9 _ => ⟨fun _ => rfl, fun k9 h9 => by cases h9⟩⟩) (hl.mono (am_alP.le hw hN9 q9)) ⟨_, _, rfl, ⟨q9, by unfold am_alP; rw [if_pos rfl], rfl⟩, hst.mono (am_alP.le hw hN9 q9)⟩)
def am_oiW (own : String) (idx : Nat) : Prop := Cond.methodLink own idx Lib.objectInit ∈ am_W ∧ Cond.instanceMethod Lib.objectInit ∈ am_W ∧ Cond.code Lib.objectInit ⟨#[0xb1]⟩ 1 none ∈ am_W
theorem sw_oinit {idx q : Nat} (G : am_oiW y.cls idx) (hlv9 : 1 ≤ lv) (hst9 : (st.map fun v => v.category).sum ≤ 8) (d : decode cc pc = .ok (.invokespecial idx, 3))
    (k9 : SW y cc nL ret xt lv sc (pc + 3) (lo) (st) (N) (aw) (k) (n) o N' aw') : SW y cc nL ret xt lv sc (pc) (lo) (.ref q :: st) (N) (aw) (k) (n) o N' aw' := by
  intro p l e R s m args below meth c H locs cells slots kf nf D A al0 al ws ls st' F hk hn hkR hnR hle hP hD hS hw hl hst
  obtain ⟨hx, hb, hr, hml, hown, hts, hlocks, hin, hfl, hA, hK, hE, hSc, hlv, hloc, hxt⟩ := id F
  obtain ⟨w0, r0, rfl, ⟨a, g1, rfl⟩, hst⟩ := hst
  have h8 := lv_room (m := m) (pc := pc) (ls := ls) (rest := .ref a :: r0) (st := r0) (by rw [hst.cats]; exact hst9)
  exact W.objInit hx hb hown (hts _ G.1) (hts _ G.2.1) (hts _ G.2.2) (g := F0 m pc ls (.ref a :: r0)) rfl (hl.choose_spec.1.1.trans hml.symm) rfl d (by omega) (by omega) (k9 p l e R s m args below meth c H locs cells slots kf nf D A al0 al ws ls _ F hk hn hkR hnR hle hP hD hS hw hl hst)
theorem sw_slen {L : Nat} {xs : Nat → Int32} (hs9 : sc = some (L, xs)) (d : decode cc pc = .ok (.arraylength, 1))
    (k9 : SW y cc nL ret xt lv sc (pc + 1) (lo) (.int (nI L) :: st) (N) (aw) (k) (n) o N' aw') : SW y cc nL ret xt lv sc (pc) (lo) (.ref 1100 :: st) (N) (aw) (k) (n) o N' aw' := by
  intro p l e R s m args below meth c H locs cells slots kf nf D A al0 al ws ls st' F hk hn hkR hnR hle hP hD hS hw hl hst
  obtain ⟨hx, hb, hr, hml, hown, hts, hlocks, hin, hfl, hA, hK, hE, hSc, hlv, hloc, hxt⟩ := id F
  subst hs9
  obtain ⟨w0, r0, rfl, ⟨a, g1, rfl⟩, hst⟩ := hst
  obtain ⟨b, e1, e2, e3, e4⟩ := hSc
  cases Option.some.inj (g1.symm.trans (hle _ _ e1))
  exact va_slen hx hb e2 e3 e4 hS d (k9 p l e R s m args below meth c H locs cells slots kf nf D A al0 al ws ls _ F hk hn hkR hnR hle hP hD hS hw hl ⟨_, _, rfl, rfl, hst⟩)
theorem sw_sld {L : Nat} {xs : Nat → Int32} {i : Int32} (hs9 : sc = some (L, xs)) (j : Nat) (hi : i = nI j) (hj : j < L) (hL : L < 2 ^ 31) (d : decode cc pc = .ok (.iaload, 1))
    (k9 : SW y cc nL ret xt lv sc (pc + 1) (lo) (.int (xs j) :: st) (N) (aw) (k) (n) o N' aw') : SW y cc nL ret xt lv sc (pc) (lo) (.int i :: .ref 1100 :: st) (N) (aw) (k) (n) o N' aw' := by
  intro p l e R s m args below meth c H locs cells slots kf nf D A al0 al ws ls st' F hk hn hkR hnR hle hP hD hS hw hl hst
  obtain ⟨hx, hb, hr, hml, hown, hts, hlocks, hin, hfl, hA, hK, hE, hSc, hlv, hloc, hxt⟩ := id F
  subst hs9
  obtain ⟨w1, r1, rfl, g9, hst⟩ := hst
  cases g9
  obtain ⟨w0, r0, rfl, ⟨a, g1, rfl⟩, hst⟩ := hst
  obtain ⟨b, e1, e2, e3, e4⟩ := hSc
  cases Option.some.inj (g1.symm.trans (hle _ _ e1))
  subst hi
  refine va_sld hx hb e2 e3 e4 hS (vp_in_nI hj hL) d ?_
  rw [nI_clamp (Nat.lt_trans hj hL)]
  exact k9 p l e R s m args below meth c H locs cells slots kf nf D A al0 al ws ls _ F hk hn hkR hnR hle hP hD hS hw hl ⟨_, _, rfl, rfl, hst⟩
end AMC
