/-! THE ABSTRACT MACHINE, part 1: values, cells and worlds with numbered cells in place of addresses (own work) -/
section AMA
/-- the address of a numbered cell -/
abbrev am_A : Type := Nat → Option Nat
def am_le (a b : am_A) : Prop := ∀ (k x : Nat), a k = some x → b k = some x
theorem am_le.rf (a : am_A) : am_le a a := fun _ _ h => h
theorem am_le.tr {a b c : am_A} (h : am_le a b) (g : am_le b c) : am_le a c := fun k x e => g k x (h k x e)
/-- cells: ints (chars, booleans), longs, references, objects -/
abbrev am_E : Type := (FieldType × Nat × (Nat → Int32)) ⊕ ((Nat × (Nat → Int64)) ⊕ ((String × Nat × (Nat → Option Nat)) ⊕ (Nat × List Value)))
abbrev am_I (ty : FieldType) (n : Nat) (f : Nat → Int32) : am_E := .inl (ty, n, f)
abbrev am_J (n : Nat) (f : Nat → Int64) : am_E := .inr (.inl (n, f))
abbrev am_R (C : String) (n : Nat) (f : Nat → Option Nat) : am_E := .inr (.inr (.inl (C, n, f)))
abbrev am_O (ci : Nat) (fs : List Value) : am_E := .inr (.inr (.inr (ci, fs)))
def am_v (al : am_A) (v v' : Value) : Prop := match v with
  | .int x => v' = .int x
  | .long x => v' = .long x
  | .float x => v' = .float x
  | .double x => v' = .double x
  | .null => v' = .null
  | .ref k => ∃ a, al k = some a ∧ v' = .ref a
  | .retAddr x => v' = .retAddr x
theorem am_v.mono {al al' : am_A} (h : am_le al al') {v v' : Value} (hv : am_v al v v') : am_v al' v v' := by
  cases v <;> first | exact hv | (obtain ⟨a, h1, h2⟩ := hv; exact ⟨a, h _ _ h1, h2⟩)
theorem am_v.cat {al : am_A} {v v' : Value} (hv : am_v al v v') : v'.category = v.category := by
  cases v <;> first | (cases hv; rfl) | (obtain ⟨a, h1, rfl⟩ := hv; rfl)
def am_vs (al : am_A) : List Value → List Value → Prop
  | [], l => l = []
  | v :: r, l => ∃ v' r', l = v' :: r' ∧ am_v al v v' ∧ am_vs al r r'
theorem am_vs.mono {al al' : am_A} (h : am_le al al') : ∀ {l l' : List Value}, am_vs al l l' → am_vs al' l l'
  | [], _, g => g
  | _ :: _, _, ⟨v', r', e, g1, g2⟩ => ⟨v', r', e, g1.mono h, am_vs.mono h g2⟩
theorem am_vs.len {al : am_A} : ∀ {l l' : List Value}, am_vs al l l' → l'.length = l.length
  | [], _, g => by cases g; rfl
  | _ :: _, _, ⟨v', r', e, g1, g2⟩ => by subst e; simp [am_vs.len g2]
theorem am_vs.cats {al : am_A} : ∀ {l l' : List Value}, am_vs al l l' → (l'.map fun v => v.category).sum = (l.map fun v => v.category).sum
  | [], _, g => by cases g; rfl
  | _ :: _, _, ⟨v', r', e, g1, g2⟩ => by subst e; simp [am_vs.cats g2, g1.cat]
theorem am_vs.app {al : am_A} : ∀ {a b l : List Value}, am_vs al (a ++ b) l → ∃ a' b', l = a' ++ b' ∧ am_vs al a a' ∧ am_vs al b b'
  | [], _, l, h => ⟨[], l, rfl, rfl, h⟩
  | _ :: _, _, _, ⟨v', r', e, g1, g2⟩ => by
    obtain ⟨a', b', e2, h1, h2⟩ := am_vs.app g2
    exact ⟨v' :: a', b', by rw [e, e2]; rfl, ⟨v', a', rfl, g1, h1⟩, h2⟩
theorem am_vs.app2 {al : am_A} : ∀ {a b a' b' : List Value}, am_vs al a a' → am_vs al b b' → am_vs al (a ++ b) (a' ++ b')
  | [], _, _, _, h, g => by cases h; exact g
  | _ :: _, _, _, _, ⟨v', r', e, g1, g2⟩, g => by subst e; exact ⟨v', r' ++ _, rfl, g1, am_vs.app2 g2 g⟩
theorem am_vs.rev {al : am_A} : ∀ {a a' : List Value}, am_vs al a a' → am_vs al a.reverse a'.reverse
  | [], _, h => by cases h; rfl
  | v :: r, _, ⟨v', r', e, g1, g2⟩ => by
    subst e
    rw [List.reverse_cons, List.reverse_cons]
    exact am_vs.app2 (am_vs.rev g2) ⟨v', [], rfl, g1, rfl⟩
theorem am_vs.get {al : am_A} : ∀ {a a' : List Value} {k : Nat} {v : Value}, am_vs al a a' → a[k]? = some v → ∃ v', a'[k]? = some v' ∧ am_v al v v'
  | [], _, k, v, h, e => by simp at e
  | w :: r, _, 0, v, ⟨v', r', e1, g1, g2⟩, e => by
    subst e1
    rw [List.getElem?_cons_zero] at e ⊢
    cases e
    exact ⟨v', rfl, g1⟩
  | w :: r, _, k + 1, v, ⟨v', r', e1, g1, g2⟩, e => by
    subst e1
    rw [List.getElem?_cons_succ] at e ⊢
    exact am_vs.get g2 e
theorem am_vs.set {al : am_A} : ∀ {a a' : List Value} {k : Nat} {v v' : Value}, am_vs al a a' → am_v al v v' → am_vs al (a.set k v) (a'.set k v')
  | [], _, k, v, v', h, e => by cases h; exact rfl
  | w :: r, _, 0, v, v', ⟨x, r', e1, g1, g2⟩, e => by subst e1; exact ⟨v', r', rfl, e, g2⟩
  | w :: r, _, k + 1, v, v', ⟨x, r', e1, g1, g2⟩, e => by subst e1; exact ⟨x, r'.set k v', rfl, g1, am_vs.set g2 e⟩
/-- references in an array -/
def am_q (al : am_A) (n : Nat) (f f' : Nat → Option Nat) : Prop := ∀ i, i < n → (f i = none → f' i = none) ∧ ∀ k, f i = some k → ∃ a, al k = some a ∧ f' i = some a
def am_KA (s : State) (cA : ClassId) (ty : FieldType) : Prop := ArrOfT s cA ty ∧ va_RA s cA ty
def am_e (s : State) (al : am_A) (x : am_E) (y : va_E) : Prop := match x with
  | .inl (ty, n, f) => ∃ cA, y = .inl (cA, n, .inl f) ∧ am_KA s cA ty
  | .inr (.inl (n, f)) => ∃ cA, y = .inl (cA, n, .inr (.inl f)) ∧ am_KA s cA .long
  | .inr (.inr (.inl (C, n, f))) => ∃ cA f', y = .inl (cA, n, .inr (.inr (.inr (.inr f')))) ∧ am_KA s cA (.object C) ∧ am_q al n f f'
  | .inr (.inr (.inr (ci, fs))) => ∃ fs', y = .inr (ci, fs') ∧ am_vs al fs fs'
theorem am_KA.moved {u U : State} (hvm : u.vm.Alike U.vm) {cA : ClassId} {ty : FieldType} (h : am_KA u cA ty) : am_KA U cA ty := ⟨arrOfT_moved hvm h.1, h.2.moved hvm⟩
theorem am_q.mono {al al' : am_A} (h : am_le al al') {n : Nat} {f f' : Nat → Option Nat} (g : am_q al n f f') : am_q al' n f f' :=
  fun i hi => ⟨(g i hi).1, fun k hk => by obtain ⟨a, h1, h2⟩ := (g i hi).2 k hk; exact ⟨a, h _ _ h1, h2⟩⟩
theorem am_e.mono {s : State} {al al' : am_A} (h : am_le al al') {x : am_E} {y : va_E} (g : am_e s al x y) : am_e s al' x y := by
  rcases x with ⟨ty, n, f⟩ | ⟨n, f⟩ | ⟨C, n, f⟩ | ⟨ci, fs⟩
  · exact g
  · exact g
  · obtain ⟨cA, f', h1, h2, h3⟩ := g
    exact ⟨cA, f', h1, h2, h3.mono h⟩
  · obtain ⟨fs', h1, h2⟩ := g
    exact ⟨fs', h1, h2.mono h⟩
theorem am_e.moved {u U : State} (hvm : u.vm.Alike U.vm) {al : am_A} {x : am_E} {y : va_E} (g : am_e u al x y) : am_e U al x y := by
  rcases x with ⟨ty, n, f⟩ | ⟨n, f⟩ | ⟨C, n, f⟩ | ⟨ci, fs⟩
  · obtain ⟨cA, h1, h2⟩ := g
    exact ⟨cA, h1, h2.moved hvm⟩
  · obtain ⟨cA, h1, h2⟩ := g
    exact ⟨cA, h1, h2.moved hvm⟩
  · obtain ⟨cA, f', h1, h2, h3⟩ := g
    exact ⟨cA, f', h1, h2.moved hvm, h3⟩
  · exact g
/-- a world of N numbered cells, and the kit's list of cells that it stands for -/
def am_w (s : State) (al : am_A) (N : Nat) (aw : Nat → am_E) (ws : va_W) : Prop := ws.length = N ∧ (∀ j, N ≤ j → j < 999 → al j = none) ∧ ∀ k, k < N → ∃ a y, ws[k]? = some (a, y) ∧ al k = some a ∧ am_e s al (aw k) y
theorem am_w.moved {u U : State} (hvm : u.vm.Alike U.vm) {al : am_A} {N : Nat} {aw : Nat → am_E} {ws : va_W} (h : am_w u al N aw ws) : am_w U al N aw ws :=
  ⟨h.1, h.2.1, fun k hk => by obtain ⟨a, y, h1, h2, h3⟩ := h.2.2 k hk; exact ⟨a, y, h1, h2, h3.moved hvm⟩⟩
def am_up (aw : Nat → am_E) (k : Nat) (x : am_E) : Nat → am_E := fun j => bif Nat.beq j k then x else aw j
theorem am_up_eq (aw : Nat → am_E) (k : Nat) (x : am_E) : am_up aw k x k = x := by
  unfold am_up
  rw [show Nat.beq k k = true from Nat.beq_refl k]
  rfl
theorem am_up_ne (aw : Nat → am_E) (x : am_E) {j k : Nat} (h : j ≠ k) : am_up aw k x j = aw j := by
  unfold am_up
  cases e : Nat.beq j k with
  | false => rfl
  | true => exact absurd (Nat.eq_of_beq_eq_true e) h
theorem am_w.set {s : State} {al : am_A} {N : Nat} {aw : Nat → am_E} {ws : va_W} (h : am_w s al N aw ws) {k a : Nat} (hk : k < N) (ha : al k = some a) {x : am_E} {y : va_E} (hx : am_e s al x y) : am_w s al N (am_up aw k x) (ws.set k (a, y)) := by
  refine ⟨by rw [List.length_set]; exact h.1, h.2.1, fun j hj => ?_⟩
  by_cases e : j = k
  · subst e
    exact ⟨a, y, by rw [List.getElem?_set_self (by rw [h.1]; exact hk)], ha, by rw [am_up_eq]; exact hx⟩
  · obtain ⟨b, z, h1, h2, h3⟩ := h.2.2 j hj
    exact ⟨b, z, by rw [List.getElem?_set_ne (Ne.symm e)]; exact h1, h2, by rw [am_up_ne _ _ e]; exact h3⟩
def am_alP (al : am_A) (N a : Nat) : am_A := fun j => if j = N then some a else al j
theorem am_alP.le {s : State} {al : am_A} {N : Nat} {aw : Nat → am_E} {ws : va_W} (h : am_w s al N aw ws) (hN : N < 999) (a : Nat) : am_le al (am_alP al N a) := by
  intro k x e
  unfold am_alP
  by_cases hk : k = N
  · subst hk
    rw [h.2.1 k (Nat.le_refl _) hN] at e
    cases e
  · rw [if_neg hk]; exact e
theorem am_w.push {s : State} {al : am_A} {N : Nat} {aw : Nat → am_E} {ws : va_W} (h : am_w s al N aw ws) (hN : N < 999) (a : Nat) {x : am_E} {y : va_E} (hx : am_e s (am_alP al N a) x y) : am_w s (am_alP al N a) (N + 1) (am_up aw N x) (ws ++ [(a, y)]) := by
  have hle := am_alP.le h hN a
  refine ⟨by rw [List.length_append, h.1]; rfl, fun j h1 h2 => ?_, fun j hj => ?_⟩
  · unfold am_alP
    rw [if_neg (by omega)]
    exact h.2.1 j (by omega) h2
  · by_cases e : j = N
    · subst e
      exact ⟨a, y, by rw [List.getElem?_append_right (by rw [h.1]; exact Nat.le_refl _), h.1, Nat.sub_self]; rfl, by unfold am_alP; rw [if_pos rfl], by rw [am_up_eq]; exact hx⟩
    · obtain ⟨b, z, h1, h2, h3⟩ := h.2.2 j (by omega)
      exact ⟨b, z, by rw [List.getElem?_append_left (by rw [h.1]; omega)]; exact h1, hle _ _ h2, by rw [am_up_ne _ _ e]; exact h3.mono hle⟩
/-- locals: by their places, none where nothing is known -/
def am_nth : List (Option Value) → Nat → Option Value
  | [], _ => none
  | x :: _, 0 => x
  | _ :: r, k + 1 => am_nth r k
def am_st : List (Option Value) → Nat → Option Value → List (Option Value)
  | [], _, _ => []
  | _ :: r, 0, v => v :: r
  | x :: r, k + 1, v => x :: am_st r k v
theorem am_nth_st_ne : ∀ {lo : List (Option Value)} {i j : Nat} {v : Option Value}, j ≠ i → am_nth (am_st lo i v) j = am_nth lo j
  | [], _, _, _, _ => rfl
  | _ :: _, 0, 0, _, h => absurd rfl h
  | _ :: _, 0, _ + 1, _, _ => rfl
  | _ :: _, _ + 1, 0, _, _ => rfl
  | _ :: r, i + 1, j + 1, v, h => am_nth_st_ne (lo := r) (i := i) (j := j) (v := v) (fun e => h (by rw [e]))
theorem am_nth_st_eq : ∀ {lo : List (Option Value)} {i : Nat} {v : Option Value} {w : Value}, am_nth (am_st lo i v) i = some w → v = some w
  | [], _, _, _, h => by cases h
  | _ :: _, 0, _, _, h => h
  | _ :: r, i + 1, v, w, h => am_nth_st_eq (lo := r) (i := i) (v := v) (w := w) h
def am_two : Option Value → Bool
  | some (.long _) => true
  | some (.double _) => true
  | _ => false
theorem am_two_cat {v : Value} (h : v.category = 2) : am_two (some v) = true := by cases v <;> first | rfl | (simp [Value.category] at h)
/-- no long or double ends at the place -/
def am_c1 (lo : List (Option Value)) (i : Nat) : Bool := match i with
  | 0 => true
  | k + 1 => !am_two (am_nth lo k)
def am_L (al : am_A) (ls : Array Slot) (nL : Nat) (lo : List (Option Value)) : Prop := ∃ lv, lv_has ls nL lv ∧ ∀ i v, am_nth lo i = some v → ∃ v', am_v al v v' ∧ (i, v') ∈ lv
theorem am_L.get {al : am_A} {ls : Array Slot} {nL : Nat} {lo : List (Option Value)} (h : am_L al ls nL lo) {i : Nat} {v : Value} (hi : am_nth lo i = some v) : ∃ v', am_v al v v' ∧ ls[i]? = some (.val v') := by
  obtain ⟨lv, h1, h2⟩ := h
  obtain ⟨v', h3, h4⟩ := h2 i v hi
  exact ⟨v', h3, h1.2.2 _ h4⟩
theorem am_L.mono {al al' : am_A} (hle : am_le al al') {ls : Array Slot} {nL : Nat} {lo : List (Option Value)} (h : am_L al ls nL lo) : am_L al' ls nL lo := by
  obtain ⟨lv, h1, h2⟩ := h
  exact ⟨lv, h1, fun i v hi => by obtain ⟨v', h3, h4⟩ := h2 i v hi; exact ⟨v', h3.mono hle, h4⟩⟩
/-- fewer known -/
def am_sub : List (Option Value) → List (Option Value) → Prop
  | [], _ => True
  | none :: r, l => am_sub r l.tail
  | some v :: r, l => am_nth l 0 = some v ∧ am_sub r l.tail
theorem am_nth_tail : ∀ (l : List (Option Value)) (k : Nat), am_nth l.tail k = am_nth l (k + 1)
  | [], _ => rfl
  | _ :: _, _ => rfl
theorem am_sub.get : ∀ {a b : List (Option Value)}, am_sub a b → ∀ (i : Nat) (v : Value), am_nth a i = some v → am_nth b i = some v
  | [], _, _, _, _, h => by cases h
  | none :: r, b, g, 0, v, h => by cases h
  | none :: r, b, g, k + 1, v, h => by rw [← am_nth_tail]; exact am_sub.get (a := r) g k v h
  | some w :: r, b, g, 0, v, h => by cases h; exact g.1
  | some w :: r, b, g, k + 1, v, h => by rw [← am_nth_tail]; exact am_sub.get (a := r) g.2 k v h
theorem am_L.sub {al : am_A} {ls : Array Slot} {nL : Nat} {lo lo2 : List (Option Value)} (h : am_L al ls nL lo) (g : am_sub lo2 lo) : am_L al ls nL lo2 := by
  obtain ⟨lv, h1, h2⟩ := h
  exact ⟨lv, h1, fun i v hi => h2 i v (g.get i v hi)⟩
theorem am_L.st1 {al : am_A} {ls' : Array Slot} {nL : Nat} {lo : List (Option Value)} {lv : List (Nat × Value)} {i : Nat} {v v' : Value} (h2 : ∀ i v, am_nth lo i = some v → ∃ v', am_v al v v' ∧ (i, v') ∈ lv) (hv : am_v al v v')
    (hc : am_c1 lo i = true) (h : lv_has ls' nL ((i, v') :: lv.filter (fun q => !(q.1 == i) && !(q.1 + 1 == i && q.2.category == 2)))) : am_L al ls' nL (am_st lo i (some v)) := by
  refine ⟨_, h, fun j w hj => ?_⟩
  by_cases e : j = i
  · subst e
    cases am_nth_st_eq hj
    exact ⟨v', hv, List.mem_cons_self⟩
  · rw [am_nth_st_ne e] at hj
    obtain ⟨w', g1, g2⟩ := h2 j w hj
    refine ⟨w', g1, List.mem_cons_of_mem _ (List.mem_filter.mpr ⟨g2, ?_⟩)⟩
    simp only [Bool.and_eq_true, Bool.not_eq_true', beq_eq_false_iff_ne, ne_eq, Bool.and_eq_false_iff]
    refine ⟨e, ?_⟩
    by_cases e2 : j + 1 = i
    · right
      intro hcat
      subst e2
      have h9 : am_two (some w) = true := am_two_cat (by rw [← g1.cat]; exact hcat)
      unfold am_c1 at hc
      simp only at hc
      rw [hj, h9] at hc
      cases hc
    · exact Or.inl e2
theorem am_L.st2 {al : am_A} {ls' : Array Slot} {nL : Nat} {lo : List (Option Value)} {lv : List (Nat × Value)} {i : Nat} {v v' : Value} (h2 : ∀ i v, am_nth lo i = some v → ∃ v', am_v al v v' ∧ (i, v') ∈ lv) (hv : am_v al v v')
    (hc : am_c1 lo i = true) (h : lv_has ls' nL ((i, v') :: lv.filter (fun q => !(q.1 == i) && (!(q.1 == i + 1) && !(q.1 + 1 == i && q.2.category == 2))))) : am_L al ls' nL (am_st (am_st lo i (some v)) (i + 1) none) := by
  refine ⟨_, h, fun j w hj => ?_⟩
  by_cases e1 : j = i + 1
  · subst e1
    cases am_nth_st_eq hj
  · rw [am_nth_st_ne e1] at hj
    by_cases e : j = i
    · subst e
      cases am_nth_st_eq hj
      exact ⟨v', hv, List.mem_cons_self⟩
    · rw [am_nth_st_ne e] at hj
      obtain ⟨w', g1, g2⟩ := h2 j w hj
      refine ⟨w', g1, List.mem_cons_of_mem _ (List.mem_filter.mpr ⟨g2, ?_⟩)⟩
      simp only [Bool.and_eq_true, Bool.not_eq_true', beq_eq_false_iff_ne, ne_eq, Bool.and_eq_false_iff]
      refine ⟨e, e1, ?_⟩
      by_cases e2 : j + 1 = i
      · right
        intro hcat
        subst e2
        have h9 : am_two (some w) = true := am_two_cat (by rw [← g1.cat]; exact hcat)
        unfold am_c1 at hc
        simp only at hc
        rw [hj, h9] at hc
        cases hc
      · exact Or.inl e2
/-- a method's locals at its entry -/
def am_lo : List Value → List (Option Value)
  | [] => []
  | v :: r => bif am_two (some v) then some v :: none :: am_lo r else some v :: am_lo r
theorem am_lo_args {al : am_A} : ∀ {vs vs' : List Value} (i0 : Nat), am_vs al vs vs' → ∀ i v, am_nth (am_lo vs) i = some v → ∃ v', am_v al v v' ∧ (i0 + i, v') ∈ lv_args i0 vs'
  | [], _, i0, h, i, v, e => by cases e
  | w :: r, _, i0, ⟨w', r', e1, g1, g2⟩, i, v, e => by
    subst e1
    unfold lv_args
    cases ht : am_two (some w) with
    | false =>
      have hcat : ¬ w'.category = 2 := fun q => by rw [g1.cat] at q; rw [am_two_cat q] at ht; cases ht
      unfold am_lo at e
      rw [ht] at e
      rw [if_neg hcat]
      cases i with
      | zero => cases e; exact ⟨w', g1, List.mem_cons_self⟩
      | succ k =>
        obtain ⟨v', h1, h2⟩ := am_lo_args (i0 + 1) g2 k v e
        exact ⟨v', h1, List.mem_cons_of_mem _ (by rw [show i0 + (k + 1) = i0 + 1 + k by omega]; exact h2)⟩
    | true =>
      have hcat : w'.category = 2 := by rw [g1.cat]; cases w <;> first | rfl | (cases ht)
      unfold am_lo at e
      rw [ht] at e
      rw [if_pos hcat]
      match i, e with
      | 0, e => cases e; exact ⟨w', g1, List.mem_cons_self⟩
      | 1, e => cases e
      | k + 2, e =>
        obtain ⟨v', h1, h2⟩ := am_lo_args (i0 + 2) g2 k v e
        exact ⟨v', h1, List.mem_cons_of_mem _ (by rw [show i0 + (k + 2) = i0 + 2 + k by omega]; exact h2)⟩
end AMA
