/-! BOTH WAYS OF PAYING FIND THE SAME (own work, written by wip/tools) -/
/-- a way to pay s -/
def way (V : Nat → Int32) (a s : Nat) (b : Nat × Nat × Nat × Nat) : Prop := b.1 ≤ cp V a 0 ∧ b.2.1 ≤ cp V a 1 ∧ b.2.2.1 ≤ cp V a 2 ∧ b.2.2.2 ≤ cp V a 3 ∧ b.1 * wt V 0 + b.2.1 * wt V 1 + b.2.2.1 * wt V 2 + b.2.2.2 * wt V 3 = s
def tot (b : Nat × Nat × Nat × Nat) : Nat := b.2.2.2 + b.2.2.1 + b.2.1 + b.1
def opt (V : Nat → Int32) (a s : Nat) (R : Nat → Nat → Nat → Prop) (b : bst) : Prop :=
  (∀ w, b = some w → way V a s w) ∧ ∀ w, way V a s w → R w.2.2.2 w.2.2.1 w.2.1 → ∃ x, b = some x ∧ tot x ≤ tot w
theorem opt_mono {V : Nat → Int32} {a s : Nat} {R R' : Nat → Nat → Nat → Prop} {b : bst} (h : opt V a s R b) (g : ∀ t e f, R' t e f → R t e f) : opt V a s R' b := ⟨h.1, fun w h1 h2 => h.2 w h1 (g _ _ _ h2)⟩
theorem way_z {V : Nat → Int32} {a s : Nat} (hw : 1 ≤ wt V 0) {z f e t : Nat} (h : way V a s (z, f, e, t)) : t * wt V 3 + e * wt V 2 + f * wt V 1 ≤ s ∧ (s - (t * wt V 3 + e * wt V 2 + f * wt V 1)) % wt V 0 = 0 ∧ (s - (t * wt V 3 + e * wt V 2 + f * wt V 1)) / wt V 0 = z := by
  obtain ⟨h1, h2, h3, h4, h5⟩ := h
  have h5 : z * wt V 0 + f * wt V 1 + e * wt V 2 + t * wt V 3 = s := h5
  have e1 : s - (t * wt V 3 + e * wt V 2 + f * wt V 1) = z * wt V 0 := by omega
  refine ⟨by omega, ?_, ?_⟩
  · rw [e1]
    exact Nat.mul_mod_left z (wt V 0)
  · rw [e1]
    exact Nat.mul_div_cancel z (by omega)
theorem bt_opt {V : Nat → Int32} {a s t e f : Nat} {q : bst × (Nat → Nat → Int32)} {R : Nat → Nat → Nat → Prop} (hw : 1 ≤ wt V 0) (ht : t ≤ cp V a 3) (he : e ≤ cp V a 2) (hf : f ≤ cp V a 1) (h : opt V a s R q.1) : opt V a s (fun t' e' f' => R t' e' f' ∨ (t' = t ∧ e' = e ∧ f' = f)) (bt V a s t e f q).1 := by
  by_cases c : t * wt V 3 + e * wt V 2 + f * wt V 1 ≤ s ∧ (s - (t * wt V 3 + e * wt V 2 + f * wt V 1)) % wt V 0 = 0 ∧ (s - (t * wt V 3 + e * wt V 2 + f * wt V 1)) / wt V 0 ≤ cp V a 0 ∧ btr q.1 (t + e + f + (s - (t * wt V 3 + e * wt V 2 + f * wt V 1)) / wt V 0)
  · rw [bt_yes c.1 c.2.1 c.2.2.1 c.2.2.2]
    obtain ⟨c1, c2, c3, c4⟩ := c
    have hd := Nat.div_add_mod (s - (t * wt V 3 + e * wt V 2 + f * wt V 1)) (wt V 0)
    rw [c2] at hd
    refine ⟨fun w h9 => ?_, fun w h1 h2 => ⟨_, rfl, ?_⟩⟩
    · cases h9
      refine ⟨c3, hf, he, ht, ?_⟩
      show (s - (t * wt V 3 + e * wt V 2 + f * wt V 1)) / wt V 0 * wt V 0 + f * wt V 1 + e * wt V 2 + t * wt V 3 = s
      rw [Nat.mul_comm ((s - (t * wt V 3 + e * wt V 2 + f * wt V 1)) / wt V 0)]
      omega
    · rcases h2 with h2 | ⟨e1, e2, e3⟩
      · obtain ⟨x, hx, hle⟩ := h.2 w h1 h2
        rw [hx] at c4
        obtain ⟨x0, x1, x2, x3⟩ := x
        have c4 : t + e + f + (s - (t * wt V 3 + e * wt V 2 + f * wt V 1)) / wt V 0 < x3 + x2 + x1 + x0 := c4
        have hle : x3 + x2 + x1 + x0 ≤ tot w := hle
        show t + e + f + (s - (t * wt V 3 + e * wt V 2 + f * wt V 1)) / wt V 0 ≤ tot w
        omega
      · obtain ⟨z', f', e', t'⟩ := w
        have e1 : t' = t := e1
        have e2 : e' = e := e2
        have e3 : f' = f := e3
        rw [e1, e2, e3] at h1
        have := (way_z hw h1).2.2
        show t + e + f + (s - (t * wt V 3 + e * wt V 2 + f * wt V 1)) / wt V 0 ≤ t' + e' + f' + z'
        omega
  · rw [bt_no c]
    refine ⟨h.1, fun w h1 h2 => ?_⟩
    rcases h2 with h2 | ⟨e1, e2, e3⟩
    · exact h.2 w h1 h2
    · obtain ⟨z', f', e', t'⟩ := w
      have e1 : t' = t := e1
      have e2 : e' = e := e2
      have e3 : f' = f := e3
      rw [e1, e2, e3] at h1
      have hz := way_z hw h1
      cases hq : q.1 with
      | none =>
        refine absurd ⟨hz.1, hz.2.1, ?_, ?_⟩ c
        · rw [hz.2.2]; exact h1.1
        · rw [hq]; trivial
      | some x =>
        refine ⟨x, rfl, ?_⟩
        apply Classical.byContradiction
        intro hn
        refine c ⟨hz.1, hz.2.1, ?_, ?_⟩
        · rw [hz.2.2]; exact h1.1
        · rw [hq, hz.2.2]
          obtain ⟨x0, x1, x2, x3⟩ := x
          have hn : ¬ x3 + x2 + x1 + x0 ≤ t' + e' + f' + z' := hn
          show t + e + f + z' < x3 + x2 + x1 + x0
          omega
theorem l1_opt {V : Nat → Int32} {a s t e : Nat} (hw : 1 ≤ wt V 0) (ht : t ≤ cp V a 3) (he : e ≤ cp V a 2) : ∀ (k : Nat) (q : bst × (Nat → Nat → Int32)) (R : Nat → Nat → Nat → Prop), k ≤ cp V a 1 + 1 → opt V a s R q.1 → opt V a s (fun t' e' f' => R t' e' f' ∨ (t' = t ∧ e' = e ∧ f' < k)) (l1 V a s t e k q).1
  | 0, q, R, _, h => opt_mono h (fun _ _ _ h9 => h9.elim id (fun h8 => absurd h8.2.2 (by omega)))
  | k + 1, q, R, hk, h => opt_mono (l1_opt hw ht he k _ _ (by omega) (bt_opt hw ht he (by omega) h)) (fun t' e' f' h9 => by
    rcases h9 with h9 | ⟨h1, h2, h3⟩
    · exact Or.inl (Or.inl h9)
    · by_cases c : f' = k
      · exact Or.inl (Or.inr ⟨h1, h2, c⟩)
      · exact Or.inr ⟨h1, h2, by omega⟩)
theorem l2_opt {V : Nat → Int32} {a s t : Nat} (hw : 1 ≤ wt V 0) (ht : t ≤ cp V a 3) : ∀ (k : Nat) (q : bst × (Nat → Nat → Int32)) (R : Nat → Nat → Nat → Prop), k ≤ cp V a 2 + 1 → opt V a s R q.1 → opt V a s (fun t' e' f' => R t' e' f' ∨ (t' = t ∧ e' < k ∧ f' ≤ cp V a 1)) (l2 V a s t k q).1
  | 0, q, R, _, h => opt_mono h (fun _ _ _ h9 => h9.elim id (fun h8 => absurd h8.2.1 (by omega)))
  | k + 1, q, R, hk, h => opt_mono (l2_opt hw ht k _ _ (by omega) (l1_opt hw ht (by omega) _ _ _ (Nat.le_refl _) h)) (fun t' e' f' h9 => by
    rcases h9 with h9 | ⟨h1, h2, h3⟩
    · exact Or.inl (Or.inl h9)
    · by_cases c : e' = k
      · exact Or.inl (Or.inr ⟨h1, c, by omega⟩)
      · exact Or.inr ⟨h1, by omega, h3⟩)
theorem l3_opt {V : Nat → Int32} {a s : Nat} (hw : 1 ≤ wt V 0) : ∀ (k : Nat) (q : bst × (Nat → Nat → Int32)) (R : Nat → Nat → Nat → Prop), k ≤ cp V a 3 + 1 → opt V a s R q.1 → opt V a s (fun t' e' f' => R t' e' f' ∨ (t' < k ∧ e' ≤ cp V a 2 ∧ f' ≤ cp V a 1)) (l3 V a s k q).1
  | 0, q, R, _, h => opt_mono h (fun _ _ _ h9 => h9.elim id (fun h8 => absurd h8.1 (by omega)))
  | k + 1, q, R, hk, h => opt_mono (l3_opt hw k _ _ (by omega) (l2_opt hw (by omega) _ _ _ (Nat.le_refl _) h)) (fun t' e' f' h9 => by
    rcases h9 with h9 | ⟨h1, h2, h3⟩
    · exact Or.inl (Or.inl h9)
    · by_cases c : t' = k
      · exact Or.inl (Or.inr ⟨c, by omega, h3⟩)
      · exact Or.inr ⟨by omega, h2, h3⟩)
theorem wy_opt {V : Nat → Int32} {a s : Nat} (hw : 1 ≤ wt V 0) : (∀ w, wy V a s = some w → way V a s w) ∧ ∀ w, way V a s w → ∃ x, wy V a s = some x ∧ tot x ≤ tot w := by
  have h := l3_opt (V := V) (a := a) (s := s) hw (cp V a 3 + 1) (none, fun _ _ => 0) (fun _ _ _ => False) (Nat.le_refl _) ⟨fun w h9 => (nomatch h9), fun w _ h9 => False.elim h9⟩
  refine ⟨h.1, fun w hw9 => h.2 w hw9 (Or.inr ?_)⟩
  obtain ⟨h1, h2, h3, h4, h5⟩ := hw9
  exact ⟨by omega, h3, h2⟩
/-- a place of the row: the least number of caps, or none -/
def dpA (x : Int32) (Q : Nat → Prop) : Prop := (∃ k, k ≤ 1000 ∧ x = nI k ∧ Q k ∧ ∀ k', Q k' → k ≤ k') ∨ (x = nI 1000000 ∧ ∀ k, ¬ Q k)
theorem dpA_mn {x y : Int32} {P Q : Nat → Prop} {m : Nat} (hm : m ≤ 100) (hb : ∀ k, Q k → k + m ≤ 1000) (hx : dpA x P) (hy : dpA y Q) : dpA (mn x (y + nI m)) (fun k => P k ∨ (m ≤ k ∧ Q (k - m))) := by
  unfold mn
  rcases hx with ⟨k, k1, k2, k3, k4⟩ | ⟨k2, k3⟩
  · rcases hy with ⟨j, j1, j2, j3, j4⟩ | ⟨j2, j3⟩
    · have hj := hb j j3
      rw [k2, j2, nI_add]
      by_cases c : j + m < k
      · rw [if_pos ((nI_ltI (by omega) (by omega)).mpr c)]
        refine Or.inl ⟨j + m, hj, rfl, Or.inr ⟨by omega, by rw [Nat.add_sub_cancel]; exact j3⟩, fun k' h9 => ?_⟩
        rcases h9 with h9 | ⟨h8, h9⟩
        · have := k4 k' h9
          omega
        · have := j4 _ h9
          omega
      · rw [if_neg (fun h9 => c ((nI_ltI (by omega) (by omega)).mp h9))]
        refine Or.inl ⟨k, k1, rfl, Or.inl k3, fun k' h9 => ?_⟩
        rcases h9 with h9 | ⟨h8, h9⟩
        · exact k4 k' h9
        · have := j4 _ h9
          omega
    · rw [k2, j2, nI_add, if_neg (fun h9 => absurd ((nI_ltI (by omega) (by omega)).mp h9) (by omega))]
      refine Or.inl ⟨k, k1, rfl, Or.inl k3, fun k' h9 => ?_⟩
      rcases h9 with h9 | ⟨h8, h9⟩
      · exact k4 k' h9
      · exact absurd h9 (j3 _)
  · rcases hy with ⟨j, j1, j2, j3, j4⟩ | ⟨j2, j3⟩
    · have hj := hb j j3
      rw [k2, j2, nI_add, if_pos ((nI_ltI (by omega) (by omega)).mpr (by omega))]
      refine Or.inl ⟨j + m, hj, rfl, Or.inr ⟨by omega, by rw [Nat.add_sub_cancel]; exact j3⟩, fun k' h9 => ?_⟩
      rcases h9 with h9 | ⟨h8, h9⟩
      · exact absurd h9 (k3 _)
      · have := j4 _ h9
        omega
    · rw [k2, j2, nI_add, if_neg (fun h9 => absurd ((nI_ltI (by omega) (by omega)).mp h9) (by omega))]
      refine Or.inr ⟨rfl, fun k' h9 => ?_⟩
      rcases h9 with h9 | ⟨h8, h9⟩
      · exact k3 _ h9
      · exact j3 _ h9
theorem dpA_iff {x : Int32} {P Q : Nat → Prop} (h : dpA x P) (e : ∀ k, P k ↔ Q k) : dpA x Q := by
  rcases h with ⟨k, k1, k2, k3, k4⟩ | ⟨k2, k3⟩
  · exact Or.inl ⟨k, k1, k2, (e k).mp k3, fun k' h9 => k4 k' ((e k').mpr h9)⟩
  · exact Or.inr ⟨k2, fun k h9 => k3 k ((e k).mpr h9)⟩
theorem acI_off {w g : Nat} : ∀ (n k : Nat) (f : Nat → Int32) (j : Nat), j ≠ g → acI w g n k f j = f j
  | 0, _, _, _, _ => rfl
  | n + 1, k, f, j, h => (acI_off n (k + 1) _ j h).trans (upd_ne _ _ h)
/-- sums with one more colour: up to c caps that are worth w -/
def mor (R : Nat → Nat → Prop) (c w : Nat) (g k : Nat) : Prop := ∃ m, m ≤ c ∧ m * w ≤ g ∧ m ≤ k ∧ R (g - m * w) (k - m)
def morL (R : Nat → Nat → Prop) (L w : Nat) (g k : Nat) : Prop := ∃ m, m < L ∧ m * w ≤ g ∧ m ≤ k ∧ R (g - m * w) (k - m)
theorem acI_dp {R : Nat → Nat → Prop} {w g : Nat} (hw : 1 ≤ w) (hb : ∀ g k, R g k → k ≤ 500) : ∀ (n k : Nat) (f : Nat → Int32), 1 ≤ k → k + n ≤ 101 → (k + n - 1) * w ≤ g → dpA (f g) (morL R k w g) → (∀ j, j < g → dpA (f j) (R j)) → dpA (acI w g n k f g) (morL R (k + n) w g)
  | 0, _, _, _, _, _, h, _ => h
  | n + 1, k, f, h1, h2, h3, h4, h5 => by
    show dpA (acI w g n (k + 1) (upd f g (mn (f g) (f (g - k * w) + nI k))) g) _
    rw [show k + (n + 1) = k + 1 + n by omega] at h3 ⊢
    have hkw : k * w ≤ (k + 1 + n - 1) * w := Nat.mul_le_mul_right w (by omega)
    have hk1 : 1 * w ≤ k * w := Nat.mul_le_mul_right w h1
    refine acI_dp hw hb n (k + 1) _ (by omega) (by omega) h3 ?_ (fun j hj => ?_)
    · rw [upd_eq]
      refine dpA_iff (dpA_mn (by omega) (fun k' h9 => by have := hb _ _ h9; omega) h4 (h5 (g - k * w) (by omega))) (fun κ => ?_)
      constructor
      · intro h9
        rcases h9 with ⟨m, m1, m2, m3, m4⟩ | ⟨m1, m2⟩
        · exact ⟨m, by omega, m2, m3, m4⟩
        · exact ⟨k, by omega, by omega, m1, m2⟩
      · rintro ⟨m, m1, m2, m3, m4⟩
        by_cases c : m = k
        · subst c
          exact Or.inr ⟨m3, m4⟩
        · exact Or.inl ⟨m, by omega, m2, m3, m4⟩
    · rw [upd_ne _ _ (by omega)]
      exact h5 j hj
theorem acO_dp {R : Nat → Nat → Prop} {c w : Nat} (hw : 1 ≤ w) (hc : c ≤ 20) (hb : ∀ g k, R g k → k ≤ 500) : ∀ (g : Nat) (f : Nat → Int32), (∀ j, j ≤ g → dpA (f j) (R j)) → (∀ j, j ≤ g → dpA (acO c w g f j) (mor R c w j)) ∧ ∀ j, g < j → acO c w g f j = f j
  | 0, f, h => ⟨fun j hj => by
      have e : j = 0 := by omega
      subst e
      refine dpA_iff (h 0 (Nat.le_refl _)) (fun k => ?_)
      constructor
      · intro h9
        exact ⟨0, by omega, by omega, by omega, by simpa using h9⟩
      · rintro ⟨m, m1, m2, m3, m4⟩
        have : m * 1 ≤ m * w := Nat.mul_le_mul_left m hw
        have e : m = 0 := by omega
        subst e
        simpa using m4, fun _ _ => rfl⟩
  | g + 1, f, h => by
    have hM : (1 + min c ((g + 1) / w) - 1) * w ≤ g + 1 := by
      rw [Nat.add_sub_cancel_left]
      exact Nat.le_trans (Nat.mul_le_mul_right w (Nat.min_le_right _ _)) (Nat.div_mul_le_self _ _)
    have h1 := acI_dp (R := R) (w := w) (g := g + 1) hw hb (min c ((g + 1) / w)) 1 f (Nat.le_refl _) (by omega) hM (dpA_iff (h (g + 1) (Nat.le_refl _)) (fun k => by
      constructor
      · intro h9
        exact ⟨0, by omega, by omega, by omega, by simpa using h9⟩
      · rintro ⟨m, m1, m2, m3, m4⟩
        have e : m = 0 := by omega
        subst e
        simpa using m4)) (fun j hj => h j (by omega))
    have ih := acO_dp hw hc hb g (acI w (g + 1) (min c ((g + 1) / w)) 1 f) (fun j hj => by
      rw [acI_off _ _ _ _ (by omega)]
      exact h j (by omega))
    refine ⟨fun j hj => ?_, fun j hj => ?_⟩
    · show dpA (acO c w g (acI w (g + 1) (min c ((g + 1) / w)) 1 f) j) _
      by_cases e : j = g + 1
      · subst e
        rw [ih.2 (g + 1) (by omega)]
        refine dpA_iff h1 (fun k => ?_)
        constructor
        · rintro ⟨m, m1, m2, m3, m4⟩
          exact ⟨m, by omega, m2, m3, m4⟩
        · rintro ⟨m, m1, m2, m3, m4⟩
          have : m ≤ (g + 1) / w := (Nat.le_div_iff_mul_le (by omega)).mpr m2
          exact ⟨m, by omega, m2, m3, m4⟩
      · exact ih.1 j (by omega)
    · show acO c w g (acI w (g + 1) (min c ((g + 1) / w)) 1 f) j = f j
      rw [ih.2 j (by omega), acI_off _ _ _ _ (by omega)]
theorem flG_at (f : Nat → Int32) : ∀ (s j : Nat), j ≤ s → flG f s j = if j = 0 then f 0 else 1000000
  | 0, j, h => by
    have e : j = 0 := by omega
    subst e
    rfl
  | s + 1, j, h => by
    show upd (flG f s) (s + 1) 1000000 j = _
    by_cases e : j = s + 1
    · subst e
      rw [upd_eq, if_neg (by omega)]
    · rw [upd_ne _ _ e]
      exact flG_at f s j (by omega)
def r0 (g k : Nat) : Prop := g = 0 ∧ k = 0
theorem mor_b {R : Nat → Nat → Prop} {c w B : Nat} (hc : c ≤ 20) (h : ∀ g k, R g k → k ≤ B) : ∀ g k, mor R c w g k → k ≤ B + 20 := by
  rintro g k ⟨m, m1, m2, m3, m4⟩
  have := h _ _ m4
  omega
theorem dp_flG (f : Nat → Int32) (s : Nat) : ∀ j, j ≤ s → dpA (flG (upd f 0 (nI 0)) s j) (r0 j) := by
  intro j hj
  rw [flG_at _ s j hj]
  by_cases e : j = 0
  · rw [if_pos e, upd_eq]
    exact Or.inl ⟨0, by omega, rfl, ⟨e, rfl⟩, fun _ _ => Nat.zero_le _⟩
  · rw [if_neg e]
    exact Or.inr ⟨by decide, fun k h9 => e h9.1⟩
theorem lbF_dp {V : Nat → Int32} {a s : Nat} (okc : okCaps V) (okw : okWorth V) (ha : a < 8) (f : Nat → Int32) : dpA (lbF V a s f s) (mor (mor (mor (mor r0 (cp V a 0) (wt V 0)) (cp V a 1) (wt V 1)) (cp V a 2) (wt V 2)) (cp V a 3) (wt V 3) s) := by
  have c0 := cp_le okc ha (c := 0) (by decide)
  have c1 := cp_le okc ha (c := 1) (by decide)
  have c2 := cp_le okc ha (c := 2) (by decide)
  have c3 := cp_le okc ha (c := 3) (by decide)
  have b0 : ∀ g k, r0 g k → k ≤ 0 := fun g k h => by have := h.2; omega
  have b1 := mor_b (w := wt V 0) c0 b0
  have b2 := mor_b (w := wt V 1) c1 b1
  have b3 := mor_b (w := wt V 2) c2 b2
  have h0 := dp_flG f s
  have h1 := (acO_dp (c := cp V a 0) (w := wt V 0) (okw 0 (by decide)).2.1 c0 (fun g k h => by have := b0 g k h; omega) s _ h0).1
  have h2 := (acO_dp (c := cp V a 1) (w := wt V 1) (okw 1 (by decide)).2.1 c1 (fun g k h => by have := b1 g k h; omega) s _ h1).1
  have h3 := (acO_dp (c := cp V a 2) (w := wt V 2) (okw 2 (by decide)).2.1 c2 (fun g k h => by have := b2 g k h; omega) s _ h2).1
  have h4 := (acO_dp (c := cp V a 3) (w := wt V 3) (okw 3 (by decide)).2.1 c3 (fun g k h => by have := b3 g k h; omega) s _ h3).1
  exact h4 s (Nat.le_refl _)
theorem mor_way {V : Nat → Int32} {a s k : Nat} : mor (mor (mor (mor r0 (cp V a 0) (wt V 0)) (cp V a 1) (wt V 1)) (cp V a 2) (wt V 2)) (cp V a 3) (wt V 3) s k ↔ ∃ w, way V a s w ∧ tot w = k := by
  constructor
  · rintro ⟨t, t1, t2, t3, e, e1, e2, e3, f, f1, f2, f3, z, z1, z2, z3, z4, z5⟩
    refine ⟨(z, f, e, t), ⟨z1, f1, e1, t1, ?_⟩, ?_⟩
    · show z * wt V 0 + f * wt V 1 + e * wt V 2 + t * wt V 3 = s
      omega
    · show t + e + f + z = k
      omega
  · rintro ⟨⟨z, f, e, t⟩, ⟨h1, h2, h3, h4, h5⟩, h6⟩
    have h5 : z * wt V 0 + f * wt V 1 + e * wt V 2 + t * wt V 3 = s := h5
    have h6 : t + e + f + z = k := h6
    exact ⟨t, h4, by omega, by omega, e, h3, by omega, by omega, f, h2, by omega, by omega, z, h1, by omega, by omega, by omega, by omega⟩
/-- both ways of paying find the same -/
theorem lbv_wy {V : Nat → Int32} {a s : Nat} (okc : okCaps V) (okw : okWorth V) (ha : a < 8) (f : Nat → Int32) : lbv V a s f = enc (wy V a s) := by
  have h := lbF_dp (s := s) okc okw ha f
  have g := wy_opt (V := V) (a := a) (s := s) (okw 0 (by decide)).2.1
  unfold lbv
  rcases h with ⟨k, k1, k2, k3, k4⟩ | ⟨k2, k3⟩
  · rw [k2, if_pos (by rw [show (1000000 : Int32) = nI 1000000 by decide]; exact nI_lt (by omega) (by decide))]
    obtain ⟨w, w1, w2⟩ := mor_way.mp k3
    obtain ⟨x, x1, x2⟩ := g.2 w w1
    have h9 := k4 _ (mor_way.mpr ⟨x, g.1 x x1, rfl⟩)
    rw [x1]
    obtain ⟨z, f, e, t⟩ := x
    have x2 : t + e + f + z ≤ tot w := x2
    have h9 : k ≤ t + e + f + z := h9
    show nI k = nI (t + e + f + z)
    congr 1
    omega
  · rw [k2, if_neg (by decide)]
    cases e : wy V a s with
    | none => rfl
    | some x => exact absurd (mor_way.mpr ⟨x, g.1 x e, rfl⟩) (k3 _)
theorem enc_none {b : bst} (hs : small b) : enc b = -1 ↔ b = none := by
  constructor
  · intro h
    cases b with
    | none => rfl
    | some w =>
      obtain ⟨z, f, e, t⟩ := w
      have hs : t + e + f + z < 2 ^ 20 := hs
      exact absurd h (nI_ne_m1 (by omega))
  · intro h
    rw [h]
    rfl
theorem small_wy {V : Nat → Int32} (h : okCaps V) {a s : Nat} (ha : a < 8) : small (wy V a s) := by
  cases e : wy V a s with
  | none => trivial
  | some w =>
    obtain ⟨z, f, e2, t⟩ := w
    have := wy_small h ha e
    show t + e2 + f + z < 2 ^ 20
    omega
