/-! THE WORLD behind the constructors: 65 numbered cells; what they hold is read off rows of numbers d, references r, longs J (own work, written by wip/tools/mk_w0.py) -/
section WZ
def kt : List (Nat × Nat) := [(0, 0), (1, 0), (2, 32), (2, 32), (2, 4), (2, 8), (2, 32), (3, 0), (4, 6), (1, 0), (2, 32), (2, 32), (2, 4), (2, 8), (2, 32), (1, 0), (2, 32), (2, 32), (2, 4), (2, 8), (2, 32), (1, 0), (2, 32), (2, 32), (2, 4), (2, 8), (2, 32), (1, 0), (2, 32), (2, 32), (2, 4), (2, 8), (2, 32), (1, 0), (2, 32), (2, 32), (2, 4), (2, 8), (2, 32), (1, 0), (2, 32), (2, 32), (2, 4), (2, 8), (2, 32), (5, 0), (2, 100), (2, 4), (6, 0), (7, 60), (4, 2), (8, 2), (2, 8), (1, 0), (2, 32), (2, 32), (2, 4), (2, 8), (2, 32), (1, 0), (2, 32), (2, 32), (2, 4), (2, 8), (2, 32)]
theorem kt_len : kt.length = 65 := rfl
theorem kt_lt {c : Nat} {x : Nat × Nat} (h : kt[c]? = some x) : c < 65 := (List.getElem?_eq_some_iff.mp h).1
def kel (c : Nat) (f : Nat → Int32) (g : Nat → Option Nat) (J : Nat → Int64) : am_E := match kt[c]? with
  | some (0, _) => am_O 4 [.ref 1, .ref 7, .ref 45, .ref 48, .ref 50, .ref 51, .ref 52]
  | some (1, _) => am_O 1 [.ref (c + 1), .ref (c + 2), .ref (c + 3), .ref (c + 4), .ref (c + 5), .int (f 5), .int (f 6), .int (f 7), .int (f 8), .int (f 9), .int (f 10), .int (f 11)]
  | some (2, n) => am_I .int n f
  | some (3, _) => am_O 0 [.ref 8, .int (f 1)]
  | some (4, n) => am_R RX2 n g
  | some (5, _) => am_O 3 [.ref 46, .ref 47]
  | some (6, _) => am_O 2 [.ref 49, .int (f 1)]
  | some (7, n) => am_I .char n f
  | some (8, n) => am_I .boolean n f
  | some (9, _) => am_O 5 [.ref 66, .ref 67, .int (f 2), .ref 68, .ref 69, .ref 70, .int (f 6), .int (f 7), .ref 71, .ref 72, .int (f 10), .int (f 11), .ref 73, .int (f 13), .long (J 14)]
  | some (10, n) => am_J n J
  | _ => am_I .int 0 f
def W0 (d : Nat → Nat → Int32) (r : Nat → Nat → Option Nat) (J : Nat → Nat → Int64) : Nat → am_E := fun c => kel c (d c) (r c) (J c)
def dup {α : Type} (d : Nat → α) (c : Nat) (f : α) : Nat → α := fun k => bif Nat.beq k c then f else d k
theorem dup_eq {α : Type} (d : Nat → α) (c : Nat) (f : α) : dup d c f c = f := by
  unfold dup
  rw [show Nat.beq c c = true from Nat.beq_refl c]
  rfl
theorem dup_ne {α : Type} (d : Nat → α) (f : α) {j k : Nat} (h : j ≠ k) : dup d k f j = d j := by
  unfold dup
  cases e : Nat.beq j k with
  | false => rfl
  | true => exact absurd (Nat.eq_of_beq_eq_true e) h
theorem W0_up {d : Nat → Nat → Int32} {r : Nat → Nat → Option Nat} {J : Nat → Nat → Int64} {c : Nat} {x : am_E} {f : Nat → Int32} (h : x = kel c f (r c) (J c)) : am_up (W0 d r J) c x = W0 (dup d c f) r J := by
  funext k
  by_cases e : k = c
  · subst e
    rw [am_up_eq, h]
    show _ = kel k (dup d k f k) (r k) (J k)
    rw [dup_eq]
  · rw [am_up_ne _ _ e]
    show kel k (d k) (r k) (J k) = kel k (dup d c f k) (r k) (J k)
    rw [dup_ne _ _ e]
theorem W0_upR {d : Nat → Nat → Int32} {r : Nat → Nat → Option Nat} {J : Nat → Nat → Int64} {c : Nat} {x : am_E} {g : Nat → Option Nat} (h : x = kel c (d c) g (J c)) : am_up (W0 d r J) c x = W0 d (dup r c g) J := by
  funext k
  by_cases e : k = c
  · subst e
    rw [am_up_eq, h]
    show _ = kel k (d k) (dup r k g k) (J k)
    rw [dup_eq]
  · rw [am_up_ne _ _ e]
    show kel k (d k) (r k) (J k) = kel k (d k) (dup r c g k) (J k)
    rw [dup_ne _ _ e]
theorem W0_upJ {d : Nat → Nat → Int32} {r : Nat → Nat → Option Nat} {J : Nat → Nat → Int64} {c : Nat} {x : am_E} {g : Nat → Int64} (h : x = kel c (d c) (r c) g) : am_up (W0 d r J) c x = W0 d r (dup J c g) := by
  funext k
  by_cases e : k = c
  · subst e
    rw [am_up_eq, h]
    show _ = kel k (d k) (r k) (dup J k g k)
    rw [dup_eq]
  · rw [am_up_ne _ _ e]
    show kel k (d k) (r k) (J k) = kel k (d k) (r k) (dup J c g k)
    rw [dup_ne _ _ e]
/-- one number of one cell -/
def d2 {α : Type} (d : Nat → Nat → α) (c j : Nat) (x : α) : Nat → Nat → α := fun k i => bif (Nat.beq k c && Nat.beq i j) then x else d k i
theorem d2_eq {α : Type} (d : Nat → Nat → α) (c j : Nat) (x : α) : d2 d c j x c j = x := by
  unfold d2
  rw [show Nat.beq c c = true from Nat.beq_refl c, show Nat.beq j j = true from Nat.beq_refl j]
  rfl
theorem d2_ne {α : Type} (d : Nat → Nat → α) (x : α) {c j k i : Nat} (h : k ≠ c ∨ i ≠ j) : d2 d c j x k i = d k i := by
  unfold d2
  cases e : (Nat.beq k c && Nat.beq i j) with
  | false => rfl
  | true =>
    rw [Bool.and_eq_true] at e
    rcases h with h | h
    · exact absurd (Nat.eq_of_beq_eq_true e.1) h
    · exact absurd (Nat.eq_of_beq_eq_true e.2) h
theorem d2_row {α : Type} (d : Nat → Nat → α) (c j : Nat) (x : α) (f : Nat → α) (h : ∀ i, f i = if i = j then x else d c i) : dup d c f = d2 d c j x := by
  funext k
  by_cases e : k = c
  · subst e
    rw [dup_eq]
    funext i
    rw [h i]
    by_cases e2 : i = j
    · subst e2
      rw [if_pos rfl, d2_eq]
    · rw [if_neg e2, d2_ne _ _ (Or.inr e2)]
  · rw [dup_ne _ _ e]
    funext i
    rw [d2_ne _ _ (Or.inl e)]
theorem d2_upd (d : Nat → Nat → Int32) (c j : Nat) (x : Int32) : dup d c (upd (d c) j x) = d2 d c j x := d2_row d c j x _ (fun _ => rfl)
theorem d2_updL (d : Nat → Nat → Int64) (c j : Nat) (x : Int64) : dup d c (vp_updL (d c) j x) = d2 d c j x := d2_row d c j x _ (fun _ => rfl)
theorem d2_vaup {α : Type} (d : Nat → Nat → α) (c j : Nat) (x : α) : dup d c (va_up (d c) j x) = d2 d c j x := d2_row d c j x _ (fun _ => rfl)
/-- the kinds of cells -/
def kR (c ci j q : Nat) : Prop := ∀ f g J, ∃ fs, kel c f g J = am_O ci fs ∧ fs[j]? = some (.ref q)
def kF (c ci j : Nat) : Prop := ∀ f g J, ∃ fs, kel c f g J = am_O ci fs ∧ fs[j]? = some (.int (f j)) ∧ j < fs.length ∧ ∀ x, am_O ci (fs.set j (.int x)) = kel c (upd f j x) g J
def kJ (c ci j : Nat) : Prop := ∀ f g J, ∃ fs, kel c f g J = am_O ci fs ∧ fs[j]? = some (.long (J j)) ∧ j < fs.length ∧ ∀ x, am_O ci (fs.set j (.long x)) = kel c f g (vp_updL J j x)
def kO (c ci : Nat) : Prop := c < 65 ∧ ∀ f g J, ∃ fs, kel c f g J = am_O ci fs
def isB (b : Nat) : Prop := kt[b]? = some (1, 0) ∧ kt[b + 1]? = some (2, 32) ∧ kt[b + 2]? = some (2, 32) ∧ kt[b + 3]? = some (2, 4) ∧ kt[b + 4]? = some (2, 8) ∧ kt[b + 5]? = some (2, 32)
theorem kel_B {b : Nat} (h : isB b) (f : Nat → Int32) (g : Nat → Option Nat) (J : Nat → Int64) : kel b f g J = am_O 1 [.ref (b + 1), .ref (b + 2), .ref (b + 3), .ref (b + 4), .ref (b + 5), .int (f 5), .int (f 6), .int (f 7), .int (f 8), .int (f 9), .int (f 10), .int (f 11)] := by
  unfold kel
  rw [h.1]
  rfl
theorem kO_B {b : Nat} (h : isB b) : kO b 1 := ⟨kt_lt h.1, fun f g J => ⟨_, kel_B h f g J⟩⟩
theorem kR_B {b : Nat} (h : isB b) {j : Nat} (hj : j < 5) : kR b 1 j (b + 1 + j) := by
  intro f g J
  refine ⟨_, kel_B h f g J, ?_⟩
  match j, hj with
  | 0, _ => rfl
  | 1, _ => rfl
  | 2, _ => rfl
  | 3, _ => rfl
  | 4, _ => rfl
theorem kF_B {b : Nat} (h : isB b) {j : Nat} (h5 : 5 ≤ j) (hj : j < 12) : kF b 1 j := by
  intro f g J
  refine ⟨_, kel_B h f g J, ?_⟩
  match j, h5, hj with
  | 5, _, _ => exact ⟨rfl, Nat.le_of_ble_eq_true rfl, fun x => (kel_B h (upd f 5 x) g J).symm⟩
  | 6, _, _ => exact ⟨rfl, Nat.le_of_ble_eq_true rfl, fun x => (kel_B h (upd f 6 x) g J).symm⟩
  | 7, _, _ => exact ⟨rfl, Nat.le_of_ble_eq_true rfl, fun x => (kel_B h (upd f 7 x) g J).symm⟩
  | 8, _, _ => exact ⟨rfl, Nat.le_of_ble_eq_true rfl, fun x => (kel_B h (upd f 8 x) g J).symm⟩
  | 9, _, _ => exact ⟨rfl, Nat.le_of_ble_eq_true rfl, fun x => (kel_B h (upd f 9 x) g J).symm⟩
  | 10, _, _ => exact ⟨rfl, Nat.le_of_ble_eq_true rfl, fun x => (kel_B h (upd f 10 x) g J).symm⟩
  | 11, _, _ => exact ⟨rfl, Nat.le_of_ble_eq_true rfl, fun x => (kel_B h (upd f 11 x) g J).symm⟩
theorem kI_of {c n : Nat} (h : kt[c]? = some (2, n)) (f : Nat → Int32) (g : Nat → Option Nat) (J : Nat → Int64) : kel c f g J = am_I .int n f := by
  unfold kel
  rw [h]
  rfl
theorem kC_of {c n : Nat} (h : kt[c]? = some (7, n)) (f : Nat → Int32) (g : Nat → Option Nat) (J : Nat → Int64) : kel c f g J = am_I .char n f := by
  unfold kel
  rw [h]
  rfl
theorem kZ_of {c n : Nat} (h : kt[c]? = some (8, n)) (f : Nat → Int32) (g : Nat → Option Nat) (J : Nat → Int64) : kel c f g J = am_I .boolean n f := by
  unfold kel
  rw [h]
  rfl
theorem kA_of {c n : Nat} (h : kt[c]? = some (4, n)) (f : Nat → Int32) (g : Nat → Option Nat) (J : Nat → Int64) : kel c f g J = am_R RX2 n g := by
  unfold kel
  rw [h]
  rfl
theorem kL_of {c n : Nat} (h : kt[c]? = some (10, n)) (f : Nat → Int32) (g : Nat → Option Nat) (J : Nat → Int64) : kel c f g J = am_J n J := by
  unfold kel
  rw [h]
  rfl
theorem kt_all : kt.all (fun x => decide (x.2 < 1000)) = true := by decide +kernel
theorem kt_small {c a n : Nat} (h : kt[c]? = some (a, n)) : n < 2 ^ 31 := by
  have h1 := List.all_eq_true.mp kt_all _ (List.mem_of_getElem? h)
  have h2 := of_decide_eq_true h1
  exact Nat.lt_trans h2 (by decide)
variable {y : MethodName} {cc : ByteArray} {nL : Nat} {ret : Option FieldType} {xt : List (Nat × Nat × Nat × Nat)} {lv : Nat} {sc : Option (Nat × (Nat → Int32))} {pc : Nat} {lo : List (Option Value)} {st : List Value} {k n : Nat} {o : Option Value ⊕ String} {N' : Nat} {aw' : Nat → am_E} {d : Nat → Nat → Int32} {r : Nat → Nat → Option Nat} {J : Nat → Nat → Int64}
theorem sx_iald {c nn : Nat} {i : Int32} (j : Nat) (hk : kt[c]? = some (2, nn)) (hi : i = nI j) (hj : j < nn) (dd : decode cc pc = .ok (.iaload, 1))
    (k9 : SW y cc nL ret xt lv sc (pc + 1) (lo) (.int (d c j) :: st) 65 (W0 (d) (r) (J)) k n o N' aw') : SW y cc nL ret xt lv sc (pc) (lo) (.int i :: .ref c :: st) 65 (W0 (d) (r) (J)) k n o N' aw' :=
  sw_iald j (kt_lt hk) (kI_of hk _ _ _) hi hj (kt_small hk) dd k9
theorem sx_iast {c nn : Nat} {i x : Int32} (j : Nat) (hk : kt[c]? = some (2, nn)) (hi : i = nI j) (hj : j < nn) (dd : decode cc pc = .ok (.iastore, 1))
    (k9 : SW y cc nL ret xt lv sc (pc + 1) (lo) (st) 65 (W0 (d2 d c j x) (r) (J)) k n o N' aw') : SW y cc nL ret xt lv sc (pc) (lo) (.int x :: .int i :: .ref c :: st) 65 (W0 (d) (r) (J)) k n o N' aw' := by
  refine sw_iast j (kt_lt hk) (kI_of hk _ _ _) hi hj (kt_small hk) dd ?_
  rw [W0_up (f := upd (d c) j x) (kI_of hk _ _ _).symm, d2_upd]
  exact k9
theorem sx_cald {c nn : Nat} {i : Int32} (j : Nat) (hk : kt[c]? = some (7, nn)) (hi : i = nI j) (hj : j < nn) (dd : decode cc pc = .ok (.caload, 1))
    (k9 : SW y cc nL ret xt lv sc (pc + 1) (lo) (.int (d c j) :: st) 65 (W0 (d) (r) (J)) k n o N' aw') : SW y cc nL ret xt lv sc (pc) (lo) (.int i :: .ref c :: st) 65 (W0 (d) (r) (J)) k n o N' aw' :=
  sw_cald j (kt_lt hk) (kC_of hk _ _ _) hi hj (kt_small hk) dd k9
theorem sx_cast {c nn : Nat} {i x : Int32} (j : Nat) (hk : kt[c]? = some (7, nn)) (hi : i = nI j) (hj : j < nn) (hnar : vp_nar .char x = x) (dd : decode cc pc = .ok (.castore, 1))
    (k9 : SW y cc nL ret xt lv sc (pc + 1) (lo) (st) 65 (W0 (d2 d c j x) (r) (J)) k n o N' aw') : SW y cc nL ret xt lv sc (pc) (lo) (.int x :: .int i :: .ref c :: st) 65 (W0 (d) (r) (J)) k n o N' aw' := by
  refine sw_cast j (kt_lt hk) (kC_of hk _ _ _) hi hj (kt_small hk) hnar dd ?_
  rw [W0_up (f := upd (d c) j x) (kC_of hk _ _ _).symm, d2_upd]
  exact k9
theorem sx_zald {c nn : Nat} {i : Int32} (j : Nat) (hk : kt[c]? = some (8, nn)) (hi : i = nI j) (hj : j < nn) (dd : decode cc pc = .ok (.baload, 1))
    (k9 : SW y cc nL ret xt lv sc (pc + 1) (lo) (.int (d c j) :: st) 65 (W0 (d) (r) (J)) k n o N' aw') : SW y cc nL ret xt lv sc (pc) (lo) (.int i :: .ref c :: st) 65 (W0 (d) (r) (J)) k n o N' aw' :=
  sw_zald j (kt_lt hk) (kZ_of hk _ _ _) hi hj (kt_small hk) dd k9
theorem sx_zast {c nn : Nat} {i x : Int32} (j : Nat) (hk : kt[c]? = some (8, nn)) (hi : i = nI j) (hj : j < nn) (hnar : vp_nar .boolean x = x) (dd : decode cc pc = .ok (.bastore, 1))
    (k9 : SW y cc nL ret xt lv sc (pc + 1) (lo) (st) 65 (W0 (d2 d c j x) (r) (J)) k n o N' aw') : SW y cc nL ret xt lv sc (pc) (lo) (.int x :: .int i :: .ref c :: st) 65 (W0 (d) (r) (J)) k n o N' aw' := by
  refine sw_zast j (kt_lt hk) (kZ_of hk _ _ _) hi hj (kt_small hk) hnar dd ?_
  rw [W0_up (f := upd (d c) j x) (kZ_of hk _ _ _).symm, d2_upd]
  exact k9
theorem sx_lald {c nn : Nat} {i : Int32} (j : Nat) (hk : kt[c]? = some (10, nn)) (hi : i = nI j) (hj : j < nn) (dd : decode cc pc = .ok (.laload, 1))
    (k9 : SW y cc nL ret xt lv sc (pc + 1) (lo) (.long (J c j) :: st) 65 (W0 (d) (r) (J)) k n o N' aw') : SW y cc nL ret xt lv sc (pc) (lo) (.int i :: .ref c :: st) 65 (W0 (d) (r) (J)) k n o N' aw' :=
  sw_lald j (kt_lt hk) (kL_of hk _ _ _) hi hj (kt_small hk) dd k9
theorem sx_last {c nn : Nat} {i : Int32} {x : Int64} (j : Nat) (hk : kt[c]? = some (10, nn)) (hi : i = nI j) (hj : j < nn) (dd : decode cc pc = .ok (.lastore, 1))
    (k9 : SW y cc nL ret xt lv sc (pc + 1) (lo) (st) 65 (W0 (d) (r) (d2 J c j x)) k n o N' aw') : SW y cc nL ret xt lv sc (pc) (lo) (.long x :: .int i :: .ref c :: st) 65 (W0 (d) (r) (J)) k n o N' aw' := by
  refine sw_last j (kt_lt hk) (kL_of hk _ _ _) hi hj (kt_small hk) dd ?_
  rw [W0_upJ (g := vp_updL (J c) j x) (kL_of hk _ _ _).symm, d2_updL]
  exact k9
theorem sx_aald {c nn q : Nat} {i : Int32} (j : Nat) (hk : kt[c]? = some (4, nn)) (hi : i = nI j) (hj : j < nn) (hf : r c j = some q) (dd : decode cc pc = .ok (.aaload, 1))
    (k9 : SW y cc nL ret xt lv sc (pc + 1) (lo) (.ref q :: st) 65 (W0 (d) (r) (J)) k n o N' aw') : SW y cc nL ret xt lv sc (pc) (lo) (.int i :: .ref c :: st) 65 (W0 (d) (r) (J)) k n o N' aw' :=
  sw_aald j (kt_lt hk) (kA_of hk _ _ _) hi hj (kt_small hk) hf dd k9
theorem sx_aast {c nn q : Nat} {i : Int32} (j : Nat) (hk : kt[c]? = some (4, nn)) (hq : isB q) (hi : i = nI j) (hj : j < nn) (dd : decode cc pc = .ok (.aastore, 1))
    (k9 : SW y cc nL ret xt lv sc (pc + 1) (lo) (st) 65 (W0 (d) (d2 r c j (some q)) (J)) k n o N' aw') : SW y cc nL ret xt lv sc (pc) (lo) (.ref q :: .int i :: .ref c :: st) 65 (W0 (d) (r) (J)) k n o N' aw' := by
  refine sw_aast (ci := 1) (C := RX2) j (kt_lt hk) (kA_of hk _ _ _) (kt_lt hq.1) (kel_B hq _ _ _) rfl hi hj (kt_small hk) dd ?_
  rw [W0_upR (g := va_up (r c) j (some q)) (kA_of hk _ _ _).symm, d2_vaup]
  exact k9
theorem sx_getR {c ci j idx q : Nat} (G : am_F y.cls idx ci j) (hc : c < 65) (hk : kR c ci j q) (dd : decode cc pc = .ok (.getfield idx, 3))
    (k9 : SW y cc nL ret xt lv sc (pc + 3) (lo) (.ref q :: st) 65 (W0 (d) (r) (J)) k n o N' aw') : SW y cc nL ret xt lv sc (pc) (lo) (.ref c :: st) 65 (W0 (d) (r) (J)) k n o N' aw' := by
  obtain ⟨fs, h1, h2⟩ := hk (d c) (r c) (J c)
  exact sw_get G hc h1 h2 dd k9
theorem sx_getI {c ci j idx : Nat} (G : am_F y.cls idx ci j) (hc : c < 65) (hk : kF c ci j) (dd : decode cc pc = .ok (.getfield idx, 3))
    (k9 : SW y cc nL ret xt lv sc (pc + 3) (lo) (.int (d c j) :: st) 65 (W0 (d) (r) (J)) k n o N' aw') : SW y cc nL ret xt lv sc (pc) (lo) (.ref c :: st) 65 (W0 (d) (r) (J)) k n o N' aw' := by
  obtain ⟨fs, h1, h2, -⟩ := hk (d c) (r c) (J c)
  exact sw_get G hc h1 h2 dd k9
theorem sx_getJ {c ci j idx : Nat} (G : am_F y.cls idx ci j) (hc : c < 65) (hk : kJ c ci j) (dd : decode cc pc = .ok (.getfield idx, 3))
    (k9 : SW y cc nL ret xt lv sc (pc + 3) (lo) (.long (J c j) :: st) 65 (W0 (d) (r) (J)) k n o N' aw') : SW y cc nL ret xt lv sc (pc) (lo) (.ref c :: st) 65 (W0 (d) (r) (J)) k n o N' aw' := by
  obtain ⟨fs, h1, h2, -⟩ := hk (d c) (r c) (J c)
  exact sw_get G hc h1 h2 dd k9
theorem sx_putI {c ci j idx : Nat} {x : Int32} (G : am_FP y.cls idx ci j .int false) (hc : c < 65) (hk : kF c ci j) (dd : decode cc pc = .ok (.putfield idx, 3))
    (k9 : SW y cc nL ret xt lv sc (pc + 3) (lo) (st) 65 (W0 (d2 d c j x) (r) (J)) k n o N' aw') : SW y cc nL ret xt lv sc (pc) (lo) (.int x :: .ref c :: st) 65 (W0 (d) (r) (J)) k n o N' aw' := by
  obtain ⟨fs, h1, h2, h3, h4⟩ := hk (d c) (r c) (J c)
  refine sw_putI G hc h1 h3 dd ?_
  rw [W0_up (f := upd (d c) j x) (h4 x), d2_upd]
  exact k9
theorem sx_putJ {c ci j idx : Nat} {x : Int64} (G : am_FP y.cls idx ci j .long false) (hc : c < 65) (hk : kJ c ci j) (dd : decode cc pc = .ok (.putfield idx, 3))
    (k9 : SW y cc nL ret xt lv sc (pc + 3) (lo) (st) 65 (W0 (d) (r) (d2 J c j x)) k n o N' aw') : SW y cc nL ret xt lv sc (pc) (lo) (.long x :: .ref c :: st) 65 (W0 (d) (r) (J)) k n o N' aw' := by
  obtain ⟨fs, h1, h2, h3, h4⟩ := hk (d c) (r c) (J c)
  refine sw_putJ G hc h1 h3 dd ?_
  rw [W0_upJ (g := vp_updL (J c) j x) (h4 x), d2_updL]
  exact k9
theorem sx_alen {c nn : Nat} (hk : kt[c]? = some (2, nn)) (dd : decode cc pc = .ok (.arraylength, 1))
    (k9 : SW y cc nL ret xt lv sc (pc + 1) (lo) (.int (nI nn) :: st) 65 (W0 (d) (r) (J)) k n o N' aw') : SW y cc nL ret xt lv sc (pc) (lo) (.ref c :: st) 65 (W0 (d) (r) (J)) k n o N' aw' :=
  sw_alen (kt_lt hk) (kI_of hk _ _ _) dd k9
theorem sx_copy {idx q0 q1 n0 n1 : Nat} {sp dp c9 : Int32} (G : am_cpW y.cls idx) (a0 b0 c0 : Nat) (hk0 : kt[q0]? = some (2, n0)) (hk1 : kt[q1]? = some (2, n1)) (h1 : sp = nI a0) (h2 : dp = nI b0) (h3 : c9 = nI c0) (h4 : a0 + c0 ≤ n0) (h5 : b0 + c0 ≤ n1) (hlv9 : 1 ≤ lv) (dd : decode cc pc = .ok (.invokestatic idx, 3))
    (k9 : SW y cc nL ret xt lv sc (pc + 3) (lo) ([]) 65 (W0 (dup d q1 (va_cpy (d q0) (d q1) a0 b0 c0)) (r) (J)) k n o N' aw') : SW y cc nL ret xt lv sc (pc) (lo) ([.int c9, .int dp, .ref q1, .int sp, .ref q0]) 65 (W0 (d) (r) (J)) k n o N' aw' := by
  refine sw_copy G a0 b0 c0 (kt_lt hk0) (kI_of hk0 _ _ _) (kt_lt hk1) (kI_of hk1 _ _ _) h1 h2 h3 h4 h5 (kt_small hk0) (kt_small hk1) hlv9 rfl dd ?_
  rw [W0_up (f := va_cpy (d q0) (d q1) a0 b0 c0) (kI_of hk1 _ _ _).symm]
  exact k9
/-- contracts over this world: a return, a throw -/
def OP (w0 : Cond) (y : MethodName) (lv : Nat) (as : List Value) (d : Nat → Nat → Int32) (r : Nat → Nat → Option Nat) (J : Nat → Nat → Int64) (v : Option Value) (d1 : Nat → Nat → Int32) (r1 : Nat → Nat → Option Nat) (J1 : Nat → Nat → Int64) : Prop := am_AM w0 y lv as 65 (W0 d r J) v 65 (W0 d1 r1 J1) 0 0
def OT (w0 : Cond) (y : MethodName) (lv : Nat) (as : List Value) (d : Nat → Nat → Int32) (r : Nat → Nat → Option Nat) (J : Nat → Nat → Int64) (E : String) : Prop := am_AT w0 y lv as 65 (W0 d r J) E 65 (W0 d r J) 1 6
variable {idx q ci na nL2 lv2 : Nat} {y2 : MethodName} {cc2 : ByteArray} {ret2 : Option FieldType} {As st0 : List Value} {x : Value} {E : String} {d1 : Nat → Nat → Int32} {r1 : Nat → Nat → Option Nat} {J1 : Nat → Nat → Int64}
theorem px_Vx (G : am_LV y.cls idx ci (.code y2 cc2 nL2 ret2) y2 na) (hAC : OP (.code y2 cc2 nL2 ret2) y2 lv2 (.ref q :: As) d r J (some x) d1 r1 J1) (hs : st0 = As.reverse ++ .ref q :: st) (hlen : As.length = na) (hlv2 : lv2 < lv) (hnL2 : nL2 ≤ 11) (hq : kO q ci) (hst9 : (st.map fun v => v.category).sum ≤ 8) (dd : decode cc pc = .ok (.invokevirtual idx, 3))
    (k9 : SW y cc nL ret xt lv sc (pc + 3) (lo) (x :: st) 65 (W0 (d1) (r1) (J1)) k n o N' aw') : SW y cc nL ret xt lv sc (pc) (lo) (st0) 65 (W0 (d) (r) (J)) k n o N' aw' := by
  obtain ⟨fs, hf⟩ := hq.2 (d q) (r q) (J q)
  exact sw_callVx (k2 := k) (n2 := n) G hAC hs hlen hlv2 hnL2 hq.1 hf hst9 (by omega) (by omega) dd k9
theorem px_Vv (G : am_LV y.cls idx ci (.code y2 cc2 nL2 ret2) y2 na) (hAC : OP (.code y2 cc2 nL2 ret2) y2 lv2 (.ref q :: As) d r J none d1 r1 J1) (hs : st0 = As.reverse ++ .ref q :: st) (hlen : As.length = na) (hlv2 : lv2 < lv) (hnL2 : nL2 ≤ 11) (hq : kO q ci) (hst9 : (st.map fun v => v.category).sum ≤ 8) (dd : decode cc pc = .ok (.invokevirtual idx, 3))
    (k9 : SW y cc nL ret xt lv sc (pc + 3) (lo) (st) 65 (W0 (d1) (r1) (J1)) k n o N' aw') : SW y cc nL ret xt lv sc (pc) (lo) (st0) 65 (W0 (d) (r) (J)) k n o N' aw' := by
  obtain ⟨fs, hf⟩ := hq.2 (d q) (r q) (J q)
  exact sw_callVv (k2 := k) (n2 := n) G hAC hs hlen hlv2 hnL2 hq.1 hf hst9 (by omega) (by omega) dd k9
theorem px_Sx (G : am_LS y.cls idx (.code y2 cc2 nL2 ret2) y2 na) (hAC : OP (.code y2 cc2 nL2 ret2) y2 lv2 As d r J (some x) d1 r1 J1) (hs : st0 = As.reverse ++ st) (hlen : As.length = na) (hlv2 : lv2 < lv) (hnL2 : nL2 ≤ 11) (hst9 : (st.map fun v => v.category).sum ≤ 8) (dd : decode cc pc = .ok (.invokestatic idx, 3))
    (k9 : SW y cc nL ret xt lv sc (pc + 3) (lo) (x :: st) 65 (W0 (d1) (r1) (J1)) k n o N' aw') : SW y cc nL ret xt lv sc (pc) (lo) (st0) 65 (W0 (d) (r) (J)) k n o N' aw' := by
  skip
  exact sw_callSx (k2 := k) (n2 := n) G hAC hs hlen hlv2 hnL2 hst9 (by omega) (by omega) dd k9
theorem px_Sv (G : am_LS y.cls idx (.code y2 cc2 nL2 ret2) y2 na) (hAC : OP (.code y2 cc2 nL2 ret2) y2 lv2 As d r J none d1 r1 J1) (hs : st0 = As.reverse ++ st) (hlen : As.length = na) (hlv2 : lv2 < lv) (hnL2 : nL2 ≤ 11) (hst9 : (st.map fun v => v.category).sum ≤ 8) (dd : decode cc pc = .ok (.invokestatic idx, 3))
    (k9 : SW y cc nL ret xt lv sc (pc + 3) (lo) (st) 65 (W0 (d1) (r1) (J1)) k n o N' aw') : SW y cc nL ret xt lv sc (pc) (lo) (st0) 65 (W0 (d) (r) (J)) k n o N' aw' := by
  skip
  exact sw_callSv (k2 := k) (n2 := n) G hAC hs hlen hlv2 hnL2 hst9 (by omega) (by omega) dd k9
theorem px_VT (G : am_LV y.cls idx ci (.code y2 cc2 nL2 ret2) y2 na) (hAC : OT (.code y2 cc2 nL2 ret2) y2 lv2 (.ref q :: As) d r J E) (hs : st0 = As.reverse ++ .ref q :: st) (hlen : As.length = na) (hlv2 : lv2 < lv) (hnL2 : nL2 ≤ 11) (hq : kO q ci) (hst9 : (st.map fun v => v.category).sum ≤ 8) (dd : decode cc pc = .ok (.invokevirtual idx, 3)) :
    SW y cc nL ret [] lv sc pc lo st0 65 (W0 d r J) 1 6 (.inr E) 65 (W0 d r J) := by
  obtain ⟨fs, hf⟩ := hq.2 (d q) (r q) (J q)
  exact sw_callVT (k2 := 0) (n2 := 0) G hAC hs hlen hlv2 hnL2 hq.1 hf hst9 (by omega) (by omega) dd rfl
theorem px_ST (G : am_LS y.cls idx (.code y2 cc2 nL2 ret2) y2 na) (hAC : OT (.code y2 cc2 nL2 ret2) y2 lv2 As d r J E) (hs : st0 = As.reverse ++ st) (hlen : As.length = na) (hlv2 : lv2 < lv) (hnL2 : nL2 ≤ 11) (hst9 : (st.map fun v => v.category).sum ≤ 8) (dd : decode cc pc = .ok (.invokestatic idx, 3)) :
    SW y cc nL ret [] lv sc pc lo st0 65 (W0 d r J) 1 6 (.inr E) 65 (W0 d r J) := by
  skip
  exact sw_callST (k2 := 0) (n2 := 0) G hAC hs hlen hlv2 hnL2 hst9 (by omega) (by omega) dd rfl
theorem op_of {v : Option Value} {as : List Value} (hy : plainName y.cls = true) (hlen : (as.map fun v => v.category).sum ≤ nL) (h : SW y cc nL ret [] lv none 0 (am_pad nL (am_lo as)) [] 65 (W0 d r J) 0 0 (.inl v) 65 (W0 d1 r1 J1)) : OP (.code y cc nL ret) y lv as d r J v d1 r1 J1 := am_of hy hlen h
theorem ot_of {as : List Value} (hy : plainName y.cls = true) (hlen : (as.map fun v => v.category).sum ≤ nL) (h : SW y cc nL ret [] lv none 0 (am_pad nL (am_lo as)) [] 65 (W0 d r J) 1 6 (.inr E) 65 (W0 d r J)) : OT (.code y cc nL ret) y lv as d r J E := am_ofT hy hlen h
/-- the same walk, said of equal worlds -/
theorem sw_weq {N : Nat} {aw aw2 : Nat → am_E} (h : aw = aw2) (k9 : SW y cc nL ret xt lv sc pc lo st N aw2 k n o N' aw') : SW y cc nL ret xt lv sc pc lo st N aw k n o N' aw' := by
  subst h
  exact k9
theorem sw_ins {N : Nat} {aw : Nat → am_E} {pc2 : Nat} {st2 : List Value} (h : pc = pc2) (h2 : st = st2) (k9 : SW y cc nL ret xt lv sc pc2 lo st2 N aw k n o N' aw') : SW y cc nL ret xt lv sc pc lo st N aw k n o N' aw' := by
  subst h; subst h2
  exact k9
/-- a loop that counts up to M -/
theorem am_loop {P : Nat → Prop} (M : Nat) (hx : P M) (hs : ∀ i, i < M → P (i + 1) → P i) : ∀ i, i ≤ M → P i := by
  intro i hi
  have h : ∀ t i, i + t = M → P i := by
    intro t
    induction t with
    | zero => intro i h; rw [show i = M by omega]; exact hx
    | succ t ih => intro i h; exact hs i (by omega) (ih (i + 1) (by omega))
  exact h (M - i) i (by omega)
/-- a loop that counts down to 0 -/
theorem am_down {P : Nat → Prop} (h0 : P 0) (hs : ∀ i, P i → P (i + 1)) : ∀ i, P i := by
  intro i
  induction i with
  | zero => exact h0
  | succ i ih => exact hs i ih
end WZ
